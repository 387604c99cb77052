section
def RJ7 : String := "java/util/Arrays"
def RJxb5711 : String := "java/lang/IllegalStateException"
def TJxb5711 : u_T := fun k => match k with
  | _ => ("", "", "", false)
def RL : String := "CodeFoundryLaw"
def RX0 : String := "CodeFoundry$Bytes"
def TX0 : u_T := fun k => match k with
  | 0 => ("CodeFoundry$Bytes", "data", "[B", false)
  | _ => ("CodeFoundry$Bytes", "count", "I", false)
def tyX0 : Nat → FieldType := fun k => match k with
  | 0 => .array .byte
  | _ => .int
theorem nmX0 : ∀ a, a < 2 → ∀ b, b < 2 → a ≠ b → (TX0 a).2.1 ≠ (TX0 b).2.1 := by decide +kernel
theorem tyX0_ok : ∀ k, k < 2 → parseFieldDescriptor (TX0 k).2.2.1 = some (tyX0 k) := by decide +kernel
def RX1 : String := "CodeFoundry$Checker"
def TX1 : u_T := fun k => match k with
  | 0 => ("CodeFoundry$Checker", "heights", "LCodeFoundry$Heights;", true)
  | 1 => ("CodeFoundry$Checker", "before", "[B", false)
  | 2 => ("CodeFoundry$Checker", "come", "[Z", false)
  | 3 => ("CodeFoundry$Checker", "waiting", "[Z", false)
  | 4 => ("CodeFoundry$Checker", "now", "[B", true)
  | 5 => ("CodeFoundry$Checker", "top", "I", false)
  | 6 => ("CodeFoundry$Checker", "bad", "Z", false)
  | 7 => ("CodeFoundry$Checker", "changed", "Z", false)
  | 8 => ("CodeFoundry$Checker", "unit", "LCodeFoundry$Unit;", false)
  | _ => ("CodeFoundry$Checker", "row", "LCodeFoundry$Row;", false)
def tyX1 : Nat → FieldType := fun k => match k with
  | 0 => .object "CodeFoundry$Heights"
  | 1 => .array .byte
  | 2 => .array .boolean
  | 3 => .array .boolean
  | 4 => .array .byte
  | 5 => .int
  | 6 => .boolean
  | 7 => .boolean
  | 8 => .object "CodeFoundry$Unit"
  | _ => .object "CodeFoundry$Row"
theorem nmX1 : ∀ a, a < 10 → ∀ b, b < 10 → a ≠ b → (TX1 a).2.1 ≠ (TX1 b).2.1 := by decide +kernel
theorem tyX1_ok : ∀ k, k < 10 → parseFieldDescriptor (TX1 k).2.2.1 = some (tyX1 k) := by decide +kernel
def RX11 : String := "CodeFoundry$Writer"
def TX11 : u_T := fun k => match k with
  | 0 => ("CodeFoundry$Writer", "pool", "LCodeFoundry$Bytes;", true)
  | 1 => ("CodeFoundry$Writer", "rest", "LCodeFoundry$Bytes;", true)
  | 2 => ("CodeFoundry$Writer", "wanted", "LCodeFoundry$Bytes;", true)
  | 3 => ("CodeFoundry$Writer", "entryAt", "[I", true)
  | 4 => ("CodeFoundry$Writer", "entryEnd", "[I", true)
  | 5 => ("CodeFoundry$Writer", "poolCount", "I", false)
  | 6 => ("CodeFoundry$Writer", "tooMany", "Z", false)
  | 7 => ("CodeFoundry$Writer", "unit", "LCodeFoundry$Unit;", false)
  | 8 => ("CodeFoundry$Writer", "codeName", "I", false)
  | 9 => ("CodeFoundry$Writer", "ownClass", "I", false)
  | 10 => ("CodeFoundry$Writer", "fieldName", "[I", true)
  | 11 => ("CodeFoundry$Writer", "fieldType", "[I", true)
  | 12 => ("CodeFoundry$Writer", "fieldEntry", "[I", true)
  | 13 => ("CodeFoundry$Writer", "methodEntry", "[I", true)
  | 14 => ("CodeFoundry$Writer", "heights", "LCodeFoundry$Heights;", true)
  | 15 => ("CodeFoundry$Writer", "row", "LCodeFoundry$Row;", false)
  | 16 => ("CodeFoundry$Writer", "needs", "[I", false)
  | _ => ("CodeFoundry$Writer", "offsets", "[I", false)
def tyX11 : Nat → FieldType := fun k => match k with
  | 0 => .object "CodeFoundry$Bytes"
  | 1 => .object "CodeFoundry$Bytes"
  | 2 => .object "CodeFoundry$Bytes"
  | 3 => .array .int
  | 4 => .array .int
  | 5 => .int
  | 6 => .boolean
  | 7 => .object "CodeFoundry$Unit"
  | 8 => .int
  | 9 => .int
  | 10 => .array .int
  | 11 => .array .int
  | 12 => .array .int
  | 13 => .array .int
  | 14 => .object "CodeFoundry$Heights"
  | 15 => .object "CodeFoundry$Row"
  | 16 => .array .int
  | _ => .array .int
theorem nmX11 : ∀ a, a < 18 → ∀ b, b < 18 → a ≠ b → (TX11 a).2.1 ≠ (TX11 b).2.1 := by decide +kernel
theorem tyX11_ok : ∀ k, k < 18 → parseFieldDescriptor (TX11 k).2.2.1 = some (tyX11 k) := by decide +kernel
def RX12 : String := "CodeFoundry"
def TX12 : u_T := fun k => match k with
  | 0 => ("CodeFoundry", "tray", "LCodeFoundry$Bytes;", true)
  | 1 => ("CodeFoundry", "written", "LCodeFoundry$Bytes;", true)
  | 2 => ("CodeFoundry", "draft", "LCodeFoundry$Bytes;", true)
  | 3 => ("CodeFoundry", "units", "[LCodeFoundry$Unit;", true)
  | 4 => ("CodeFoundry", "reader", "LCodeFoundry$CodeReader;", true)
  | 5 => ("CodeFoundry", "checker", "LCodeFoundry$Checker;", true)
  | 6 => ("CodeFoundry", "writer", "LCodeFoundry$Writer;", true)
  | 7 => ("CodeFoundry", "machine", "LCodeFoundry$Machine;", true)
  | 8 => ("CodeFoundry", "graph", "LCodeFoundry$Graph;", true)
  | 9 => ("CodeFoundry", "smith", "LCodeFoundry$Smith;", true)
  | 10 => ("CodeFoundry", "fed", "I", false)
  | 11 => ("CodeFoundry", "unitCount", "I", false)
  | 12 => ("CodeFoundry", "begun", "I", false)
  | 13 => ("CodeFoundry", "brokenRule", "I", false)
  | 14 => ("CodeFoundry", "brokenPlace", "I", false)
  | 15 => ("CodeFoundry", "faultMethod", "I", false)
  | 16 => ("CodeFoundry", "faultAt", "I", false)
  | _ => ("CodeFoundry", "writtenFile", "I", false)
def tyX12 : Nat → FieldType := fun k => match k with
  | 0 => .object "CodeFoundry$Bytes"
  | 1 => .object "CodeFoundry$Bytes"
  | 2 => .object "CodeFoundry$Bytes"
  | 3 => .array (.object "CodeFoundry$Unit")
  | 4 => .object "CodeFoundry$CodeReader"
  | 5 => .object "CodeFoundry$Checker"
  | 6 => .object "CodeFoundry$Writer"
  | 7 => .object "CodeFoundry$Machine"
  | 8 => .object "CodeFoundry$Graph"
  | 9 => .object "CodeFoundry$Smith"
  | 10 => .int
  | 11 => .int
  | 12 => .int
  | 13 => .int
  | 14 => .int
  | 15 => .int
  | 16 => .int
  | _ => .int
theorem nmX12 : ∀ a, a < 18 → ∀ b, b < 18 → a ≠ b → (TX12 a).2.1 ≠ (TX12 b).2.1 := by decide +kernel
theorem tyX12_ok : ∀ k, k < 18 → parseFieldDescriptor (TX12 k).2.2.1 = some (tyX12 k) := by decide +kernel
def RX13 : String := "CodeFoundryModel$File"
def TX13 : u_T := fun k => match k with
  | 0 => ("CodeFoundryModel$File", "own", "Ljava/lang/String;", false)
  | 1 => ("CodeFoundryModel$File", "above", "Ljava/lang/String;", false)
  | 2 => ("CodeFoundryModel$File", "pool", "I", false)
  | 3 => ("CodeFoundryModel$File", "fields", "I", false)
  | 4 => ("CodeFoundryModel$File", "methods", "I", false)
  | 5 => ("CodeFoundryModel$File", "fieldNames", "[Ljava/lang/String;", true)
  | 6 => ("CodeFoundryModel$File", "fieldTypes", "[Ljava/lang/String;", true)
  | 7 => ("CodeFoundryModel$File", "fieldLetters", "[Ljava/lang/String;", true)
  | 8 => ("CodeFoundryModel$File", "methodNames", "[Ljava/lang/String;", true)
  | 9 => ("CodeFoundryModel$File", "methodTypes", "[Ljava/lang/String;", true)
  | 10 => ("CodeFoundryModel$File", "takes", "[Ljava/lang/String;", true)
  | 11 => ("CodeFoundryModel$File", "gives", "[Ljava/lang/String;", true)
  | 12 => ("CodeFoundryModel$File", "mostStack", "[I", true)
  | 13 => ("CodeFoundryModel$File", "mostLocals", "[I", true)
  | 14 => ("CodeFoundryModel$File", "firsts", "[I", true)
  | 15 => ("CodeFoundryModel$File", "lengths", "[I", true)
  | 16 => ("CodeFoundryModel$File", "catchFirsts", "[I", true)
  | 17 => ("CodeFoundryModel$File", "catchCounts", "[I", true)
  | 18 => ("CodeFoundryModel$File", "rows", "[I", false)
  | 19 => ("CodeFoundryModel$File", "tables", "[I", false)
  | 20 => ("CodeFoundryModel$File", "catches", "[I", false)
  | 21 => ("CodeFoundryModel$File", "checked", "I", false)
  | _ => ("CodeFoundryModel$File", "states", "[I", false)
def tyX13 : Nat → FieldType := fun k => match k with
  | 0 => .object "java/lang/String"
  | 1 => .object "java/lang/String"
  | 2 => .int
  | 3 => .int
  | 4 => .int
  | 5 => .array (.object "java/lang/String")
  | 6 => .array (.object "java/lang/String")
  | 7 => .array (.object "java/lang/String")
  | 8 => .array (.object "java/lang/String")
  | 9 => .array (.object "java/lang/String")
  | 10 => .array (.object "java/lang/String")
  | 11 => .array (.object "java/lang/String")
  | 12 => .array .int
  | 13 => .array .int
  | 14 => .array .int
  | 15 => .array .int
  | 16 => .array .int
  | 17 => .array .int
  | 18 => .array .int
  | 19 => .array .int
  | 20 => .array .int
  | 21 => .int
  | _ => .array .int
theorem nmX13 : ∀ a, a < 23 → ∀ b, b < 23 → a ≠ b → (TX13 a).2.1 ≠ (TX13 b).2.1 := by decide +kernel
theorem tyX13_ok : ∀ k, k < 23 → parseFieldDescriptor (TX13 k).2.2.1 = some (tyX13 k) := by decide +kernel
def RX14 : String := "CodeFoundryModel"
def TX14 : u_T := fun k => match k with
  | 0 => ("CodeFoundryModel", "files", "[LCodeFoundryModel$File;", true)
  | 1 => ("CodeFoundryModel", "fileCount", "I", false)
  | 2 => ("CodeFoundryModel", "made", "I", false)
  | 3 => ("CodeFoundryModel", "tray", "[B", true)
  | 4 => ("CodeFoundryModel", "trayed", "I", false)
  | 5 => ("CodeFoundryModel", "fed", "I", false)
  | 6 => ("CodeFoundryModel", "stop", "Ljava/lang/IllegalStateException;", true)
  | 7 => ("CodeFoundryModel", "brokenRule", "I", false)
  | 8 => ("CodeFoundryModel", "brokenPlace", "I", false)
  | 9 => ("CodeFoundryModel", "toldRule", "I", false)
  | 10 => ("CodeFoundryModel", "toldPlace", "I", false)
  | 11 => ("CodeFoundryModel", "src", "[B", false)
  | 12 => ("CodeFoundryModel", "srcSize", "I", false)
  | 13 => ("CodeFoundryModel", "next", "I", false)
  | 14 => ("CodeFoundryModel", "poolCount", "I", false)
  | 15 => ("CodeFoundryModel", "tags", "[I", true)
  | 16 => ("CodeFoundryModel", "tagPlaces", "[I", true)
  | 17 => ("CodeFoundryModel", "firstOf", "[I", true)
  | 18 => ("CodeFoundryModel", "secondOf", "[I", true)
  | 19 => ("CodeFoundryModel", "worthOf", "[J", true)
  | 20 => ("CodeFoundryModel", "classAt", "I", false)
  | 21 => ("CodeFoundryModel", "memberCount", "I", false)
  | 22 => ("CodeFoundryModel", "fieldCount", "I", false)
  | 23 => ("CodeFoundryModel", "methodsAt", "I", false)
  | 24 => ("CodeFoundryModel", "memberAt", "[I", true)
  | 25 => ("CodeFoundryModel", "attributes", "I", false)
  | 26 => ("CodeFoundryModel", "attributeAt", "[I", true)
  | 27 => ("CodeFoundryModel", "attributeOwner", "[I", true)
  | 28 => ("CodeFoundryModel", "behind", "I", false)
  | 29 => ("CodeFoundryModel", "stackOf", "[I", true)
  | 30 => ("CodeFoundryModel", "localsOf", "[I", true)
  | 31 => ("CodeFoundryModel", "codeAts", "[I", true)
  | 32 => ("CodeFoundryModel", "codeSizes", "[I", true)
  | 33 => ("CodeFoundryModel", "catchAts", "[I", true)
  | 34 => ("CodeFoundryModel", "catchesOf", "[I", true)
  | 35 => ("CodeFoundryModel", "codeEnd", "I", false)
  | 36 => ("CodeFoundryModel", "codeAt", "I", false)
  | 37 => ("CodeFoundryModel", "codeSize", "I", false)
  | 38 => ("CodeFoundryModel", "numberAt", "[I", true)
  | 39 => ("CodeFoundryModel", "instructions", "I", false)
  | 40 => ("CodeFoundryModel", "newRows", "[I", true)
  | 41 => ("CodeFoundryModel", "newCount", "I", false)
  | 42 => ("CodeFoundryModel", "newTables", "[I", true)
  | 43 => ("CodeFoundryModel", "newTableSize", "I", false)
  | 44 => ("CodeFoundryModel", "newCatches", "[I", true)
  | 45 => ("CodeFoundryModel", "newCatchCount", "I", false)
  | 46 => ("CodeFoundryModel", "mostLocals", "I", false)
  | 47 => ("CodeFoundryModel", "own", "LCodeFoundryModel$File;", false)
  | 48 => ("CodeFoundryModel", "rows", "[I", false)
  | 49 => ("CodeFoundryModel", "tables", "[I", false)
  | 50 => ("CodeFoundryModel", "catches", "[I", false)
  | 51 => ("CodeFoundryModel", "rowFirst", "I", false)
  | 52 => ("CodeFoundryModel", "count", "I", false)
  | 53 => ("CodeFoundryModel", "catchFirst", "I", false)
  | 54 => ("CodeFoundryModel", "catchCount", "I", false)
  | 55 => ("CodeFoundryModel", "heights", "[I", true)
  | 56 => ("CodeFoundryModel", "heightMost", "I", false)
  | 57 => ("CodeFoundryModel", "isMoving", "Z", false)
  | 58 => ("CodeFoundryModel", "types", "[B", true)
  | 59 => ("CodeFoundryModel", "isCome", "[Z", true)
  | 60 => ("CodeFoundryModel", "locals", "[B", true)
  | 61 => ("CodeFoundryModel", "pile", "[B", true)
  | 62 => ("CodeFoundryModel", "top", "I", false)
  | 63 => ("CodeFoundryModel", "fits", "Z", false)
  | 64 => ("CodeFoundryModel", "faultMethod", "I", false)
  | 65 => ("CodeFoundryModel", "faultAt", "I", false)
  | 66 => ("CodeFoundryModel", "newStates", "[I", true)
  | 67 => ("CodeFoundryModel", "tagOf", "[I", true)
  | 68 => ("CodeFoundryModel", "numberOf", "[I", true)
  | 69 => ("CodeFoundryModel", "oneOf", "[I", true)
  | 70 => ("CodeFoundryModel", "otherOf", "[I", true)
  | 71 => ("CodeFoundryModel", "valueOf", "[J", true)
  | 72 => ("CodeFoundryModel", "textOf", "[Ljava/lang/String;", true)
  | 73 => ("CodeFoundryModel", "needed", "I", false)
  | 74 => ("CodeFoundryModel", "nextNumber", "I", false)
  | 75 => ("CodeFoundryModel", "writing", "[B", false)
  | 76 => ("CodeFoundryModel", "told", "[B", false)
  | 77 => ("CodeFoundryModel", "outSize", "I", false)
  | 78 => ("CodeFoundryModel", "toldSize", "I", false)
  | 79 => ("CodeFoundryModel", "offsets", "[I", true)
  | 80 => ("CodeFoundryModel", "stage", "LCodeFoundryModel$File;", false)
  | 81 => ("CodeFoundryModel", "fieldValues", "[J", true)
  | 82 => ("CodeFoundryModel", "elements", "[I", true)
  | 83 => ("CodeFoundryModel", "arrayFirsts", "[I", true)
  | 84 => ("CodeFoundryModel", "arrayLengths", "[I", true)
  | 85 => ("CodeFoundryModel", "arrays", "I", false)
  | 86 => ("CodeFoundryModel", "elementsMade", "I", false)
  | 87 => ("CodeFoundryModel", "arguments", "[J", true)
  | 88 => ("CodeFoundryModel", "argumentCount", "I", false)
  | 89 => ("CodeFoundryModel", "running", "[I", true)
  | 90 => ("CodeFoundryModel", "places", "[I", true)
  | 91 => ("CodeFoundryModel", "tops", "[I", true)
  | 92 => ("CodeFoundryModel", "slots", "[J", true)
  | 93 => ("CodeFoundryModel", "piles", "[J", true)
  | 94 => ("CodeFoundryModel", "slotTags", "[B", true)
  | 95 => ("CodeFoundryModel", "pileTags", "[B", true)
  | 96 => ("CodeFoundryModel", "strayCount", "I", false)
  | 97 => ("CodeFoundryModel", "frames", "I", false)
  | 98 => ("CodeFoundryModel", "outcome", "I", false)
  | 99 => ("CodeFoundryModel", "errorThrown", "I", false)
  | 100 => ("CodeFoundryModel", "stepsDone", "I", false)
  | 101 => ("CodeFoundryModel", "given", "J", false)
  | 102 => ("CodeFoundryModel", "lastError", "I", false)
  | 103 => ("CodeFoundryModel", "blockStart", "[I", true)
  | 104 => ("CodeFoundryModel", "blockOf", "[I", true)
  | 105 => ("CodeFoundryModel", "blockCount", "I", false)
  | 106 => ("CodeFoundryModel", "graphFile", "I", false)
  | 107 => ("CodeFoundryModel", "graphMethod", "I", false)
  | 108 => ("CodeFoundryModel", "edgeFirst", "[I", true)
  | 109 => ("CodeFoundryModel", "edgeTo", "[I", true)
  | 110 => ("CodeFoundryModel", "edgeCount", "I", false)
  | 111 => ("CodeFoundryModel", "isReached", "[Z", true)
  | 112 => ("CodeFoundryModel", "above", "[I", true)
  | 113 => ("CodeFoundryModel", "nearest", "[I", true)
  | 114 => ("CodeFoundryModel", "isHead", "[Z", true)
  | 115 => ("CodeFoundryModel", "depths", "[I", true)
  | 116 => ("CodeFoundryModel", "isMarked", "[Z", true)
  | 117 => ("CodeFoundryModel", "ranks", "[I", true)
  | 118 => ("CodeFoundryModel", "draft", "LCodeFoundryModel$File;", true)
  | 119 => ("CodeFoundryModel", "draftRows", "[I", true)
  | 120 => ("CodeFoundryModel", "draftTables", "[I", true)
  | 121 => ("CodeFoundryModel", "draftCatches", "[I", true)
  | 122 => ("CodeFoundryModel", "draftCount", "I", false)
  | 123 => ("CodeFoundryModel", "draftCatchCount", "I", false)
  | 124 => ("CodeFoundryModel", "didRule", "[I", true)
  | 125 => ("CodeFoundryModel", "ops", "[I", true)
  | 126 => ("CodeFoundryModel", "ones", "[I", true)
  | 127 => ("CodeFoundryModel", "others", "[I", true)
  | 128 => ("CodeFoundryModel", "gone", "[Z", true)
  | 129 => ("CodeFoundryModel", "size", "I", false)
  | 130 => ("CodeFoundryModel", "froms", "[I", true)
  | 131 => ("CodeFoundryModel", "tos", "[I", true)
  | 132 => ("CodeFoundryModel", "bys", "[I", true)
  | 133 => ("CodeFoundryModel", "errors", "[I", true)
  | 134 => ("CodeFoundryModel", "isOut", "[Z", true)
  | 135 => ("CodeFoundryModel", "caughtCount", "I", false)
  | 136 => ("CodeFoundryModel", "aimed", "[Z", true)
  | 137 => ("CodeFoundryModel", "isMet", "[Z", true)
  | 138 => ("CodeFoundryModel", "seenBy", "[I", true)
  | 139 => ("CodeFoundryModel", "seen", "I", false)
  | 140 => ("CodeFoundryModel", "liveBefore", "[I", true)
  | 141 => ("CodeFoundryModel", "newPlaces", "[I", true)
  | _ => ("CodeFoundryModel", "rowOf", "[I", true)
def tyX14 : Nat → FieldType := fun k => match k with
  | 0 => .array (.object "CodeFoundryModel$File")
  | 1 => .int
  | 2 => .int
  | 3 => .array .byte
  | 4 => .int
  | 5 => .int
  | 6 => .object "java/lang/IllegalStateException"
  | 7 => .int
  | 8 => .int
  | 9 => .int
  | 10 => .int
  | 11 => .array .byte
  | 12 => .int
  | 13 => .int
  | 14 => .int
  | 15 => .array .int
  | 16 => .array .int
  | 17 => .array .int
  | 18 => .array .int
  | 19 => .array .long
  | 20 => .int
  | 21 => .int
  | 22 => .int
  | 23 => .int
  | 24 => .array .int
  | 25 => .int
  | 26 => .array .int
  | 27 => .array .int
  | 28 => .int
  | 29 => .array .int
  | 30 => .array .int
  | 31 => .array .int
  | 32 => .array .int
  | 33 => .array .int
  | 34 => .array .int
  | 35 => .int
  | 36 => .int
  | 37 => .int
  | 38 => .array .int
  | 39 => .int
  | 40 => .array .int
  | 41 => .int
  | 42 => .array .int
  | 43 => .int
  | 44 => .array .int
  | 45 => .int
  | 46 => .int
  | 47 => .object "CodeFoundryModel$File"
  | 48 => .array .int
  | 49 => .array .int
  | 50 => .array .int
  | 51 => .int
  | 52 => .int
  | 53 => .int
  | 54 => .int
  | 55 => .array .int
  | 56 => .int
  | 57 => .boolean
  | 58 => .array .byte
  | 59 => .array .boolean
  | 60 => .array .byte
  | 61 => .array .byte
  | 62 => .int
  | 63 => .boolean
  | 64 => .int
  | 65 => .int
  | 66 => .array .int
  | 67 => .array .int
  | 68 => .array .int
  | 69 => .array .int
  | 70 => .array .int
  | 71 => .array .long
  | 72 => .array (.object "java/lang/String")
  | 73 => .int
  | 74 => .int
  | 75 => .array .byte
  | 76 => .array .byte
  | 77 => .int
  | 78 => .int
  | 79 => .array .int
  | 80 => .object "CodeFoundryModel$File"
  | 81 => .array .long
  | 82 => .array .int
  | 83 => .array .int
  | 84 => .array .int
  | 85 => .int
  | 86 => .int
  | 87 => .array .long
  | 88 => .int
  | 89 => .array .int
  | 90 => .array .int
  | 91 => .array .int
  | 92 => .array .long
  | 93 => .array .long
  | 94 => .array .byte
  | 95 => .array .byte
  | 96 => .int
  | 97 => .int
  | 98 => .int
  | 99 => .int
  | 100 => .int
  | 101 => .long
  | 102 => .int
  | 103 => .array .int
  | 104 => .array .int
  | 105 => .int
  | 106 => .int
  | 107 => .int
  | 108 => .array .int
  | 109 => .array .int
  | 110 => .int
  | 111 => .array .boolean
  | 112 => .array .int
  | 113 => .array .int
  | 114 => .array .boolean
  | 115 => .array .int
  | 116 => .array .boolean
  | 117 => .array .int
  | 118 => .object "CodeFoundryModel$File"
  | 119 => .array .int
  | 120 => .array .int
  | 121 => .array .int
  | 122 => .int
  | 123 => .int
  | 124 => .array .int
  | 125 => .array .int
  | 126 => .array .int
  | 127 => .array .int
  | 128 => .array .boolean
  | 129 => .int
  | 130 => .array .int
  | 131 => .array .int
  | 132 => .array .int
  | 133 => .array .int
  | 134 => .array .boolean
  | 135 => .int
  | 136 => .array .boolean
  | 137 => .array .boolean
  | 138 => .array .int
  | 139 => .int
  | 140 => .array .int
  | 141 => .array .int
  | _ => .array .int
theorem nmX14 : ∀ a, a < 143 → ∀ b, b < 143 → a ≠ b → (TX14 a).2.1 ≠ (TX14 b).2.1 := by decide +kernel
theorem tyX14_ok : ∀ k, k < 143 → parseFieldDescriptor (TX14 k).2.2.1 = some (tyX14 k) := by decide +kernel
def RX2 : String := "CodeFoundry$CodeReader"
def TX2 : u_T := fun k => match k with
  | 0 => ("CodeFoundry$CodeReader", "file", "LCodeFoundry$Reader;", true)
  | 1 => ("CodeFoundry$CodeReader", "code", "I", false)
  | 2 => ("CodeFoundry$CodeReader", "size", "I", false)
  | 3 => ("CodeFoundry$CodeReader", "maxStack", "I", false)
  | 4 => ("CodeFoundry$CodeReader", "maxLocals", "I", false)
  | 5 => ("CodeFoundry$CodeReader", "catchesAt", "I", false)
  | 6 => ("CodeFoundry$CodeReader", "catchCount", "I", false)
  | 7 => ("CodeFoundry$CodeReader", "numberAt", "[I", true)
  | 8 => ("CodeFoundry$CodeReader", "instructions", "I", false)
  | 9 => ("CodeFoundry$CodeReader", "op", "I", false)
  | 10 => ("CodeFoundry$CodeReader", "arg", "J", false)
  | _ => ("CodeFoundry$CodeReader", "offset", "I", false)
def tyX2 : Nat → FieldType := fun k => match k with
  | 0 => .object "CodeFoundry$Reader"
  | 1 => .int
  | 2 => .int
  | 3 => .int
  | 4 => .int
  | 5 => .int
  | 6 => .int
  | 7 => .array .int
  | 8 => .int
  | 9 => .int
  | 10 => .long
  | _ => .int
theorem nmX2 : ∀ a, a < 12 → ∀ b, b < 12 → a ≠ b → (TX2 a).2.1 ≠ (TX2 b).2.1 := by decide +kernel
theorem tyX2_ok : ∀ k, k < 12 → parseFieldDescriptor (TX2 k).2.2.1 = some (tyX2 k) := by decide +kernel
def RX3 : String := "CodeFoundry$Graph"
def TX3 : u_T := fun k => match k with
  | 0 => ("CodeFoundry$Graph", "row", "LCodeFoundry$Row;", false)
  | 1 => ("CodeFoundry$Graph", "count", "I", false)
  | 2 => ("CodeFoundry$Graph", "start", "[I", false)
  | 3 => ("CodeFoundry$Graph", "blockOf", "[I", false)
  | 4 => ("CodeFoundry$Graph", "edgeAt", "[I", false)
  | 5 => ("CodeFoundry$Graph", "edges", "[I", false)
  | 6 => ("CodeFoundry$Graph", "backAt", "[I", false)
  | 7 => ("CodeFoundry$Graph", "backs", "[I", false)
  | 8 => ("CodeFoundry$Graph", "reached", "[Z", false)
  | 9 => ("CodeFoundry$Graph", "dominators", "[J", false)
  | 10 => ("CodeFoundry$Graph", "words", "I", false)
  | 11 => ("CodeFoundry$Graph", "dominator", "[I", false)
  | 12 => ("CodeFoundry$Graph", "latches", "[I", false)
  | 13 => ("CodeFoundry$Graph", "depth", "[I", false)
  | 14 => ("CodeFoundry$Graph", "seen", "[I", false)
  | _ => ("CodeFoundry$Graph", "waiting", "[I", false)
def tyX3 : Nat → FieldType := fun k => match k with
  | 0 => .object "CodeFoundry$Row"
  | 1 => .int
  | 2 => .array .int
  | 3 => .array .int
  | 4 => .array .int
  | 5 => .array .int
  | 6 => .array .int
  | 7 => .array .int
  | 8 => .array .boolean
  | 9 => .array .long
  | 10 => .int
  | 11 => .array .int
  | 12 => .array .int
  | 13 => .array .int
  | 14 => .array .int
  | _ => .array .int
theorem nmX3 : ∀ a, a < 16 → ∀ b, b < 16 → a ≠ b → (TX3 a).2.1 ≠ (TX3 b).2.1 := by decide +kernel
theorem tyX3_ok : ∀ k, k < 16 → parseFieldDescriptor (TX3 k).2.2.1 = some (tyX3 k) := by decide +kernel
def RX4 : String := "CodeFoundry$Heights"
def TX4 : u_T := fun k => match k with
  | 0 => ("CodeFoundry$Heights", "come", "[I", false)
  | 1 => ("CodeFoundry$Heights", "waiting", "[I", false)
  | 2 => ("CodeFoundry$Heights", "wrong", "[Z", false)
  | 3 => ("CodeFoundry$Heights", "unit", "LCodeFoundry$Unit;", false)
  | 4 => ("CodeFoundry$Heights", "row", "LCodeFoundry$Row;", false)
  | 5 => ("CodeFoundry$Heights", "limit", "I", false)
  | 6 => ("CodeFoundry$Heights", "changed", "Z", false)
  | _ => ("CodeFoundry$Heights", "most", "I", false)
def tyX4 : Nat → FieldType := fun k => match k with
  | 0 => .array .int
  | 1 => .array .int
  | 2 => .array .boolean
  | 3 => .object "CodeFoundry$Unit"
  | 4 => .object "CodeFoundry$Row"
  | 5 => .int
  | 6 => .boolean
  | _ => .int
theorem nmX4 : ∀ a, a < 8 → ∀ b, b < 8 → a ≠ b → (TX4 a).2.1 ≠ (TX4 b).2.1 := by decide +kernel
theorem tyX4_ok : ∀ k, k < 8 → parseFieldDescriptor (TX4 k).2.2.1 = some (tyX4 k) := by decide +kernel
def RX5 : String := "CodeFoundry$Machine"
def TX5 : u_T := fun k => match k with
  | 0 => ("CodeFoundry$Machine", "unit", "LCodeFoundry$Unit;", false)
  | 1 => ("CodeFoundry$Machine", "fields", "[J", true)
  | 2 => ("CodeFoundry$Machine", "heap", "[I", false)
  | 3 => ("CodeFoundry$Machine", "heapUsed", "I", false)
  | 4 => ("CodeFoundry$Machine", "arrayAt", "[I", false)
  | 5 => ("CodeFoundry$Machine", "arrays", "I", false)
  | 6 => ("CodeFoundry$Machine", "arguments", "[J", true)
  | 7 => ("CodeFoundry$Machine", "argumentCount", "I", false)
  | 8 => ("CodeFoundry$Machine", "locals", "[J", false)
  | 9 => ("CodeFoundry$Machine", "stack", "[J", false)
  | 10 => ("CodeFoundry$Machine", "frames", "[I", true)
  | 11 => ("CodeFoundry$Machine", "depth", "I", false)
  | 12 => ("CodeFoundry$Machine", "row", "LCodeFoundry$Row;", false)
  | 13 => ("CodeFoundry$Machine", "pc", "I", false)
  | 14 => ("CodeFoundry$Machine", "top", "I", false)
  | 15 => ("CodeFoundry$Machine", "outcome", "I", false)
  | 16 => ("CodeFoundry$Machine", "lastResult", "J", false)
  | 17 => ("CodeFoundry$Machine", "lastError", "I", false)
  | 18 => ("CodeFoundry$Machine", "lastSteps", "I", false)
  | _ => ("CodeFoundry$Machine", "strays", "I", false)
def tyX5 : Nat → FieldType := fun k => match k with
  | 0 => .object "CodeFoundry$Unit"
  | 1 => .array .long
  | 2 => .array .int
  | 3 => .int
  | 4 => .array .int
  | 5 => .int
  | 6 => .array .long
  | 7 => .int
  | 8 => .array .long
  | 9 => .array .long
  | 10 => .array .int
  | 11 => .int
  | 12 => .object "CodeFoundry$Row"
  | 13 => .int
  | 14 => .int
  | 15 => .int
  | 16 => .long
  | 17 => .int
  | 18 => .int
  | _ => .int
theorem nmX5 : ∀ a, a < 20 → ∀ b, b < 20 → a ≠ b → (TX5 a).2.1 ≠ (TX5 b).2.1 := by decide +kernel
theorem tyX5_ok : ∀ k, k < 20 → parseFieldDescriptor (TX5 k).2.2.1 = some (tyX5 k) := by decide +kernel
def RX7 : String := "CodeFoundry$Reader"
def TX7 : u_T := fun k => match k with
  | 0 => ("CodeFoundry$Reader", "data", "[B", false)
  | 1 => ("CodeFoundry$Reader", "end", "I", false)
  | 2 => ("CodeFoundry$Reader", "brokenRule", "I", false)
  | 3 => ("CodeFoundry$Reader", "brokenPlace", "I", false)
  | 4 => ("CodeFoundry$Reader", "entry", "[I", true)
  | 5 => ("CodeFoundry$Reader", "poolCount", "I", false)
  | 6 => ("CodeFoundry$Reader", "headAt", "I", false)
  | 7 => ("CodeFoundry$Reader", "fieldCount", "I", false)
  | 8 => ("CodeFoundry$Reader", "methodCount", "I", false)
  | 9 => ("CodeFoundry$Reader", "memberAt", "[I", true)
  | 10 => ("CodeFoundry$Reader", "codeAt", "[I", true)
  | 11 => ("CodeFoundry$Reader", "codeEnd", "[I", true)
  | 12 => ("CodeFoundry$Reader", "takes", "I", false)
  | 13 => ("CodeFoundry$Reader", "places", "I", false)
  | 14 => ("CodeFoundry$Reader", "gives", "I", false)
  | 15 => ("CodeFoundry$Reader", "p", "I", false)
  | _ => ("CodeFoundry$Reader", "attributesAt", "I", false)
def tyX7 : Nat → FieldType := fun k => match k with
  | 0 => .array .byte
  | 1 => .int
  | 2 => .int
  | 3 => .int
  | 4 => .array .int
  | 5 => .int
  | 6 => .int
  | 7 => .int
  | 8 => .int
  | 9 => .array .int
  | 10 => .array .int
  | 11 => .array .int
  | 12 => .int
  | 13 => .int
  | 14 => .int
  | 15 => .int
  | _ => .int
theorem nmX7 : ∀ a, a < 17 → ∀ b, b < 17 → a ≠ b → (TX7 a).2.1 ≠ (TX7 b).2.1 := by decide +kernel
theorem tyX7_ok : ∀ k, k < 17 → parseFieldDescriptor (TX7 k).2.2.1 = some (tyX7 k) := by decide +kernel
def RX8 : String := "CodeFoundry$Row"
def TX8 : u_T := fun k => match k with
  | 0 => ("CodeFoundry$Row", "op", "[I", false)
  | 1 => ("CodeFoundry$Row", "arg", "[J", false)
  | 2 => ("CodeFoundry$Row", "count", "I", false)
  | 3 => ("CodeFoundry$Row", "table", "[I", false)
  | 4 => ("CodeFoundry$Row", "tableCount", "I", false)
  | 5 => ("CodeFoundry$Row", "catchFrom", "[I", false)
  | 6 => ("CodeFoundry$Row", "catchTo", "[I", false)
  | 7 => ("CodeFoundry$Row", "catchAt", "[I", false)
  | 8 => ("CodeFoundry$Row", "catchKind", "[I", false)
  | 9 => ("CodeFoundry$Row", "catchCount", "I", false)
  | 10 => ("CodeFoundry$Row", "maxStack", "I", false)
  | 11 => ("CodeFoundry$Row", "number", "I", false)
  | 12 => ("CodeFoundry$Row", "heights", "[B", false)
  | 13 => ("CodeFoundry$Row", "lowLocals", "[J", false)
  | _ => ("CodeFoundry$Row", "highLocals", "[J", false)
def tyX8 : Nat → FieldType := fun k => match k with
  | 0 => .array .int
  | 1 => .array .long
  | 2 => .int
  | 3 => .array .int
  | 4 => .int
  | 5 => .array .int
  | 6 => .array .int
  | 7 => .array .int
  | 8 => .array .int
  | 9 => .int
  | 10 => .int
  | 11 => .int
  | 12 => .array .byte
  | 13 => .array .long
  | _ => .array .long
theorem nmX8 : ∀ a, a < 15 → ∀ b, b < 15 → a ≠ b → (TX8 a).2.1 ≠ (TX8 b).2.1 := by decide +kernel
theorem tyX8_ok : ∀ k, k < 15 → parseFieldDescriptor (TX8 k).2.2.1 = some (tyX8 k) := by decide +kernel
def RX9 : String := "CodeFoundry$Smith"
def TX9 : u_T := fun k => match k with
  | 0 => ("CodeFoundry$Smith", "row", "LCodeFoundry$Row;", false)
  | 1 => ("CodeFoundry$Smith", "applied", "[I", true)
  | 2 => ("CodeFoundry$Smith", "marked", "[Z", false)
  | 3 => ("CodeFoundry$Smith", "reached", "[Z", false)
  | 4 => ("CodeFoundry$Smith", "live", "[I", false)
  | _ => ("CodeFoundry$Smith", "newPlace", "[I", false)
def tyX9 : Nat → FieldType := fun k => match k with
  | 0 => .object "CodeFoundry$Row"
  | 1 => .array .int
  | 2 => .array .boolean
  | 3 => .array .boolean
  | 4 => .array .int
  | _ => .array .int
theorem nmX9 : ∀ a, a < 6 → ∀ b, b < 6 → a ≠ b → (TX9 a).2.1 ≠ (TX9 b).2.1 := by decide +kernel
theorem tyX9_ok : ∀ k, k < 6 → parseFieldDescriptor (TX9 k).2.2.1 = some (tyX9 k) := by decide +kernel
def yJ7_fill_53178 : MethodName := ⟨RJ7, "fill", "([II)V"⟩
abbrev cJ7_fill_53178 : ByteArray := prog_31_method_103_code
def yL_law : MethodName := ⟨RL, "law", "([I)Z"⟩
abbrev cL_law : ByteArray := code
def yX0_init : MethodName := ⟨RX0, "<init>", "()V"⟩
abbrev cX0_init : ByteArray := prog_2_method_1_code
def yX0_put : MethodName := ⟨RX0, "put", "(I)V"⟩
abbrev cX0_put : ByteArray := prog_2_method_2_code
def yX0_put2 : MethodName := ⟨RX0, "put2", "(I)V"⟩
abbrev cX0_put2 : ByteArray := prog_2_method_3_code
def yX0_put4 : MethodName := ⟨RX0, "put4", "(I)V"⟩
abbrev cX0_put4 : ByteArray := prog_2_method_4_code
def yX11_init : MethodName := ⟨RX11, "<init>", "()V"⟩
abbrev cX11_init : ByteArray := prog_13_method_1_code
def yX12_applied : MethodName := ⟨RX12, "applied", "(I)I"⟩
abbrev cX12_applied : ByteArray := prog_1_method_29_code
def yX12_argument : MethodName := ⟨RX12, "argument", "(J)I"⟩
abbrev cX12_argument : ByteArray := prog_1_method_17_code
def yX12_arrayLength : MethodName := ⟨RX12, "arrayLength", "(I)I"⟩
abbrev cX12_arrayLength : ByteArray := prog_1_method_24_code
def yX12_at : MethodName := ⟨RX12, "at", "()I"⟩
abbrev cX12_at : ByteArray := prog_1_method_11_code
def yX12_block : MethodName := ⟨RX12, "block", "(IIII)I"⟩
abbrev cX12_block : ByteArray := prog_1_method_26_code
def yX12_blocks : MethodName := ⟨RX12, "blocks", "(II)I"⟩
abbrev cX12_blocks : ByteArray := prog_1_method_25_code
def yX12_byteAt : MethodName := ⟨RX12, "byteAt", "(I)I"⟩
abbrev cX12_byteAt : ByteArray := prog_1_method_15_code
def yX12_count : MethodName := ⟨RX12, "count", "(I)I"⟩
abbrev cX12_count : ByteArray := prog_1_method_30_code
def yX12_edge : MethodName := ⟨RX12, "edge", "(IIII)Z"⟩
abbrev cX12_edge : ByteArray := prog_1_method_27_code
def yX12_element : MethodName := ⟨RX12, "element", "(II)I"⟩
abbrev cX12_element : ByteArray := prog_1_method_23_code
def yX12_end : MethodName := ⟨RX12, "end", "(I)Z"⟩
abbrev cX12_end : ByteArray := prog_1_method_3_code
def yX12_error : MethodName := ⟨RX12, "error", "()I"⟩
abbrev cX12_error : ByteArray := prog_1_method_20_code
def yX12_feed : MethodName := ⟨RX12, "feed", "(IIIII)I"⟩
abbrev cX12_feed : ByteArray := prog_1_method_2_code
def yX12_field : MethodName := ⟨RX12, "field", "(I)J"⟩
abbrev cX12_field : ByteArray := prog_1_method_22_code
def yX12_file : MethodName := ⟨RX12, "file", "()I"⟩
abbrev cX12_file : ByteArray := prog_1_method_4_code
def yX12_height : MethodName := ⟨RX12, "height", "(III)I"⟩
abbrev cX12_height : ByteArray := prog_1_method_12_code
def yX12_improve : MethodName := ⟨RX12, "improve", "(II)I"⟩
abbrev cX12_improve : ByteArray := prog_1_method_28_code
def yX12_init : MethodName := ⟨RX12, "<init>", "()V"⟩
abbrev cX12_init : ByteArray := prog_1_method_1_code
def yX12_keep : MethodName := ⟨RX12, "keep", "(LCodeFoundry$Unit;I)I"⟩
abbrev cX12_keep : ByteArray := prog_1_method_35_code
def yX12_length : MethodName := ⟨RX12, "length", "(II)I"⟩
abbrev cX12_length : ByteArray := prog_1_method_8_code
def yX12_local : MethodName := ⟨RX12, "local", "(IIII)I"⟩
abbrev cX12_local : ByteArray := prog_1_method_13_code
def yX12_method : MethodName := ⟨RX12, "method", "()I"⟩
abbrev cX12_method : ByteArray := prog_1_method_10_code
def yX12_place : MethodName := ⟨RX12, "place", "()I"⟩
abbrev cX12_place : ByteArray := prog_1_method_6_code
def yX12_result : MethodName := ⟨RX12, "result", "()J"⟩
abbrev cX12_result : ByteArray := prog_1_method_19_code
def yX12_rowAt : MethodName := ⟨RX12, "rowAt", "(II)LCodeFoundry$Row;"⟩
abbrev cX12_rowAt : ByteArray := prog_1_method_34_code
def yX12_rule : MethodName := ⟨RX12, "rule", "()I"⟩
abbrev cX12_rule : ByteArray := prog_1_method_5_code
def yX12_run : MethodName := ⟨RX12, "run", "(II)I"⟩
abbrev cX12_run : ByteArray := prog_1_method_18_code
def yX12_size : MethodName := ⟨RX12, "size", "(II)I"⟩
abbrev cX12_size : ByteArray := prog_1_method_7_code
def yX12_soundUnitAt : MethodName := ⟨RX12, "soundUnitAt", "(I)LCodeFoundry$Unit;"⟩
abbrev cX12_soundUnitAt : ByteArray := prog_1_method_33_code
def yX12_stage : MethodName := ⟨RX12, "stage", "(I)Z"⟩
abbrev cX12_stage : ByteArray := prog_1_method_16_code
def yX12_steps : MethodName := ⟨RX12, "steps", "()I"⟩
abbrev cX12_steps : ByteArray := prog_1_method_21_code
def yX12_strays : MethodName := ⟨RX12, "strays", "()I"⟩
abbrev cX12_strays : ByteArray := prog_1_method_31_code
def yX12_unitAt : MethodName := ⟨RX12, "unitAt", "(I)LCodeFoundry$Unit;"⟩
abbrev cX12_unitAt : ByteArray := prog_1_method_32_code
def yX12_verify : MethodName := ⟨RX12, "verify", "(I)I"⟩
abbrev cX12_verify : ByteArray := prog_1_method_9_code
def yX12_write : MethodName := ⟨RX12, "write", "(I)I"⟩
abbrev cX12_write : ByteArray := prog_1_method_14_code
def yX13_init : MethodName := ⟨RX13, "<init>", "()V"⟩
abbrev cX13_init : ByteArray := prog_16_method_1_code
def yX14_applied : MethodName := ⟨RX14, "applied", "(I)I"⟩
abbrev cX14_applied : ByteArray := prog_15_method_240_code
def yX14_argument : MethodName := ⟨RX14, "argument", "(J)I"⟩
abbrev cX14_argument : ByteArray := prog_15_method_143_code
def yX14_arrayLength : MethodName := ⟨RX14, "arrayLength", "(I)I"⟩
abbrev cX14_arrayLength : ByteArray := prog_15_method_179_code
def yX14_at : MethodName := ⟨RX14, "at", "()I"⟩
abbrev cX14_at : ByteArray := prog_15_method_115_code
def yX14_block : MethodName := ⟨RX14, "block", "(IIII)I"⟩
abbrev cX14_block : ByteArray := prog_15_method_193_code
def yX14_blocks : MethodName := ⟨RX14, "blocks", "(II)I"⟩
abbrev cX14_blocks : ByteArray := prog_15_method_192_code
def yX14_broken : MethodName := ⟨RX14, "broken", "(II)Ljava/lang/IllegalStateException;"⟩
abbrev cX14_broken : ByteArray := prog_15_method_6_code
def yX14_byteAt : MethodName := ⟨RX14, "byteAt", "(I)I"⟩
abbrev cX14_byteAt : ByteArray := prog_15_method_141_code
def yX14_count : MethodName := ⟨RX14, "count", "(I)I"⟩
abbrev cX14_count : ByteArray := prog_15_method_242_code
def yX14_edge : MethodName := ⟨RX14, "edge", "(IIII)Z"⟩
abbrev cX14_edge : ByteArray := prog_15_method_194_code
def yX14_element : MethodName := ⟨RX14, "element", "(II)I"⟩
abbrev cX14_element : ByteArray := prog_15_method_178_code
def yX14_end : MethodName := ⟨RX14, "end", "(I)Z"⟩
abbrev cX14_end : ByteArray := prog_15_method_5_code
def yX14_error : MethodName := ⟨RX14, "error", "()I"⟩
abbrev cX14_error : ByteArray := prog_15_method_175_code
def yX14_feed : MethodName := ⟨RX14, "feed", "(IIIII)I"⟩
abbrev cX14_feed : ByteArray := prog_15_method_3_code
def yX14_field : MethodName := ⟨RX14, "field", "(I)J"⟩
abbrev cX14_field : ByteArray := prog_15_method_177_code
def yX14_file : MethodName := ⟨RX14, "file", "()I"⟩
abbrev cX14_file : ByteArray := prog_15_method_67_code
def yX14_fileAt : MethodName := ⟨RX14, "fileAt", "(I)LCodeFoundryModel$File;"⟩
abbrev cX14_fileAt : ByteArray := prog_15_method_68_code
def yX14_height : MethodName := ⟨RX14, "height", "(III)I"⟩
abbrev cX14_height : ByteArray := prog_15_method_118_code
def yX14_improve : MethodName := ⟨RX14, "improve", "(II)I"⟩
abbrev cX14_improve : ByteArray := prog_15_method_239_code
def yX14_init : MethodName := ⟨RX14, "<init>", "()V"⟩
abbrev cX14_init : ByteArray := prog_15_method_1_code
def yX14_isMethod : MethodName := ⟨RX14, "isMethod", "(II)Z"⟩
abbrev cX14_isMethod : ByteArray := prog_15_method_69_code
def yX14_isRight : MethodName := ⟨RX14, "isRight", "(I)Z"⟩
abbrev cX14_isRight : ByteArray := prog_15_method_116_code
def yX14_layout : MethodName := ⟨RX14, "layout", "()V"⟩
abbrev cX14_layout : ByteArray := prog_15_method_15_code
def yX14_length : MethodName := ⟨RX14, "length", "(II)I"⟩
abbrev cX14_length : ByteArray := prog_15_method_71_code
def yX14_local : MethodName := ⟨RX14, "local", "(IIII)I"⟩
abbrev cX14_local : ByteArray := prog_15_method_119_code
def yX14_method : MethodName := ⟨RX14, "method", "()I"⟩
abbrev cX14_method : ByteArray := prog_15_method_114_code
def yX14_must : MethodName := ⟨RX14, "must", "(ZII)V"⟩
abbrev cX14_must : ByteArray := prog_15_method_7_code
def yX14_place : MethodName := ⟨RX14, "place", "()I"⟩
abbrev cX14_place : ByteArray := prog_15_method_9_code
def yX14_readFile : MethodName := ⟨RX14, "readFile", "([BI)LCodeFoundryModel$File;"⟩
abbrev cX14_readFile : ByteArray := prog_15_method_64_code
def yX14_result : MethodName := ⟨RX14, "result", "()J"⟩
abbrev cX14_result : ByteArray := prog_15_method_174_code
def yX14_rule : MethodName := ⟨RX14, "rule", "()I"⟩
abbrev cX14_rule : ByteArray := prog_15_method_8_code
def yX14_run : MethodName := ⟨RX14, "run", "(II)I"⟩
abbrev cX14_run : ByteArray := prog_15_method_144_code
def yX14_size : MethodName := ⟨RX14, "size", "(II)I"⟩
abbrev cX14_size : ByteArray := prog_15_method_70_code
def yX14_stage : MethodName := ⟨RX14, "stage", "(I)Z"⟩
abbrev cX14_stage : ByteArray := prog_15_method_142_code
def yX14_stateAt : MethodName := ⟨RX14, "stateAt", "(III)I"⟩
abbrev cX14_stateAt : ByteArray := prog_15_method_117_code
def yX14_steps : MethodName := ⟨RX14, "steps", "()I"⟩
abbrev cX14_steps : ByteArray := prog_15_method_176_code
def yX14_strays : MethodName := ⟨RX14, "strays", "()I"⟩
abbrev cX14_strays : ByteArray := prog_15_method_180_code
def yX14_verify : MethodName := ⟨RX14, "verify", "(I)I"⟩
abbrev cX14_verify : ByteArray := prog_15_method_112_code
def yX14_word : MethodName := ⟨RX14, "word", "(I)V"⟩
abbrev cX14_word : ByteArray := prog_15_method_4_code
def yX14_write : MethodName := ⟨RX14, "write", "(I)I"⟩
abbrev cX14_write : ByteArray := prog_15_method_140_code
def yX1_init : MethodName := ⟨RX1, "<init>", "()V"⟩
abbrev cX1_init : ByteArray := prog_3_method_1_code
def yX2_init : MethodName := ⟨RX2, "<init>", "()V"⟩
abbrev cX2_init : ByteArray := prog_4_method_1_code
def yX2_unitOf : MethodName := ⟨RX2, "unitOf", "(LCodeFoundry$Bytes;)LCodeFoundry$Unit;"⟩
abbrev cX2_unitOf : ByteArray := prog_4_method_2_code
def yX3_init : MethodName := ⟨RX3, "<init>", "()V"⟩
abbrev cX3_init : ByteArray := prog_5_method_1_code
def yX4_init : MethodName := ⟨RX4, "<init>", "()V"⟩
abbrev cX4_init : ByteArray := prog_6_method_1_code
def yX5_addArgument : MethodName := ⟨RX5, "addArgument", "(J)I"⟩
abbrev cX5_addArgument : ByteArray := prog_7_method_3_code
def yX5_elementAt : MethodName := ⟨RX5, "elementAt", "(II)I"⟩
abbrev cX5_elementAt : ByteArray := prog_7_method_6_code
def yX5_fieldAt : MethodName := ⟨RX5, "fieldAt", "(I)J"⟩
abbrev cX5_fieldAt : ByteArray := prog_7_method_4_code
def yX5_init : MethodName := ⟨RX5, "<init>", "()V"⟩
abbrev cX5_init : ByteArray := prog_7_method_1_code
def yX5_isArray : MethodName := ⟨RX5, "isArray", "(J)Z"⟩
abbrev cX5_isArray : ByteArray := prog_7_method_7_code
def yX5_lengthOf : MethodName := ⟨RX5, "lengthOf", "(I)I"⟩
abbrev cX5_lengthOf : ByteArray := prog_7_method_5_code
def yX5_refusal : MethodName := ⟨RX5, "refusal", "(II)I"⟩
abbrev cX5_refusal : ByteArray := prog_7_method_10_code
def yX7_breaks : MethodName := ⟨RX7, "breaks", "(II)Z"⟩
abbrev cX7_breaks : ByteArray := prog_9_method_3_code
def yX7_init : MethodName := ⟨RX7, "<init>", "()V"⟩
abbrev cX7_init : ByteArray := prog_9_method_1_code
def yX7_isSound : MethodName := ⟨RX7, "isSound", "(LCodeFoundry$Bytes;)Z"⟩
abbrev cX7_isSound : ByteArray := prog_9_method_2_code
def yX7_magicHolds : MethodName := ⟨RX7, "magicHolds", "()Z"⟩
abbrev cX7_magicHolds : ByteArray := prog_9_method_9_code
def yX8_init : MethodName := ⟨RX8, "<init>", "(III)V"⟩
abbrev cX8_init : ByteArray := prog_10_method_1_code
def yX9_appliedAt : MethodName := ⟨RX9, "appliedAt", "(I)I"⟩
abbrev cX9_appliedAt : ByteArray := prog_11_method_3_code
def yX9_forgetApplied : MethodName := ⟨RX9, "forgetApplied", "()V"⟩
abbrev cX9_forgetApplied : ByteArray := prog_11_method_2_code
def yX9_init : MethodName := ⟨RX9, "<init>", "()V"⟩
abbrev cX9_init : ByteArray := prog_11_method_1_code
def cl0 : List vw_C := [(RX0, TX0, 2), (RX1, TX1, 10), (RX2, TX2, 12), (RX3, TX3, 16), (RX4, TX4, 8), (RX5, TX5, 20), (RX7, TX7, 17), (RX8, TX8, 15), (RX9, TX9, 6), (RX11, TX11, 18), (RX12, TX12, 18), (RX13, TX13, 23), (RX14, TX14, 143), (RJxb5711, TJxb5711, 0)]
end
section
theorem dJ7_fill_53178_0 : decode cJ7_fill_53178 0 = .ok (.iconst 0, 1) := by decide +kernel
theorem dJ7_fill_53178_1 : decode cJ7_fill_53178 1 = .ok (.istore_n 2, 1) := by decide +kernel
theorem dJ7_fill_53178_2 : decode cJ7_fill_53178 2 = .ok (.aload_n 0, 1) := by decide +kernel
theorem dJ7_fill_53178_3 : decode cJ7_fill_53178 3 = .ok (.arraylength, 1) := by decide +kernel
theorem dJ7_fill_53178_4 : decode cJ7_fill_53178 4 = .ok (.istore_n 3, 1) := by decide +kernel
theorem dJ7_fill_53178_5 : decode cJ7_fill_53178 5 = .ok (.iload_n 2, 1) := by decide +kernel
theorem dJ7_fill_53178_6 : decode cJ7_fill_53178 6 = .ok (.iload_n 3, 1) := by decide +kernel
theorem dJ7_fill_53178_7 : decode cJ7_fill_53178 7 = .ok (.if_icmp .ge 13, 3) := by decide +kernel
theorem dJ7_fill_53178_10 : decode cJ7_fill_53178 10 = .ok (.aload_n 0, 1) := by decide +kernel
theorem dJ7_fill_53178_11 : decode cJ7_fill_53178 11 = .ok (.iload_n 2, 1) := by decide +kernel
theorem dJ7_fill_53178_12 : decode cJ7_fill_53178 12 = .ok (.iload_n 1, 1) := by decide +kernel
theorem dJ7_fill_53178_13 : decode cJ7_fill_53178 13 = .ok (.iastore, 1) := by decide +kernel
theorem dJ7_fill_53178_14 : decode cJ7_fill_53178 14 = .ok (.iinc 2 1, 3) := by decide +kernel
theorem dJ7_fill_53178_17 : decode cJ7_fill_53178 17 = .ok (.goto (-12), 3) := by decide +kernel
theorem dJ7_fill_53178_20 : decode cJ7_fill_53178 20 = .ok (.return_, 1) := by decide +kernel
theorem dL_law_0 : decode cL_law 0 = .ok (.new 7, 3) := by decide +kernel
theorem dL_law_3 : decode cL_law 3 = .ok (.dup, 1) := by decide +kernel
theorem dL_law_4 : decode cL_law 4 = .ok (.invokespecial 9, 3) := by decide +kernel
theorem dL_law_7 : decode cL_law 7 = .ok (.astore_n 1, 1) := by decide +kernel
theorem dL_law_8 : decode cL_law 8 = .ok (.new 10, 3) := by decide +kernel
theorem dL_law_11 : decode cL_law 11 = .ok (.dup, 1) := by decide +kernel
theorem dL_law_12 : decode cL_law 12 = .ok (.invokespecial 12, 3) := by decide +kernel
theorem dL_law_15 : decode cL_law 15 = .ok (.astore_n 2, 1) := by decide +kernel
theorem dL_law_16 : decode cL_law 16 = .ok (.iconst 0, 1) := by decide +kernel
theorem dL_law_17 : decode cL_law 17 = .ok (.istore_n 3, 1) := by decide +kernel
theorem dL_law_18 : decode cL_law 18 = .ok (.iload_n 3, 1) := by decide +kernel
theorem dL_law_19 : decode cL_law 19 = .ok (.aload_n 0, 1) := by decide +kernel
theorem dL_law_20 : decode cL_law 20 = .ok (.arraylength, 1) := by decide +kernel
theorem dL_law_21 : decode cL_law 21 = .ok (.bipush 6, 2) := by decide +kernel
theorem dL_law_23 : decode cL_law 23 = .ok (.isub, 1) := by decide +kernel
theorem dL_law_24 : decode cL_law 24 = .ok (.if_icmp .gt 992, 3) := by decide +kernel
theorem dL_law_27 : decode cL_law 27 = .ok (.aload_n 0, 1) := by decide +kernel
theorem dL_law_28 : decode cL_law 28 = .ok (.iload_n 3, 1) := by decide +kernel
theorem dL_law_29 : decode cL_law 29 = .ok (.iaload, 1) := by decide +kernel
theorem dL_law_30 : decode cL_law 30 = .ok (.bipush 31, 2) := by decide +kernel
theorem dL_law_32 : decode cL_law 32 = .ok (.iand, 1) := by decide +kernel
theorem dL_law_33 : decode cL_law 33 = .ok (.tableswitch 977 0 29 #[135, 198, 221, 234, 247, 260, 293, 326, 349, 362, 375, 418, 471, 494, 517, 540, 593, 626, 640, 653, 666, 690, 723, 746, 779, 832, 885, 918, 941, 964], 135) := by decide +kernel
theorem dL_law_168 : decode cL_law 168 = .ok (.aload_n 1, 1) := by decide +kernel
theorem dL_law_169 : decode cL_law 169 = .ok (.aload_n 0, 1) := by decide +kernel
theorem dL_law_170 : decode cL_law 170 = .ok (.iload_n 3, 1) := by decide +kernel
theorem dL_law_171 : decode cL_law 171 = .ok (.iconst 1, 1) := by decide +kernel
theorem dL_law_172 : decode cL_law 172 = .ok (.iadd, 1) := by decide +kernel
theorem dL_law_173 : decode cL_law 173 = .ok (.iaload, 1) := by decide +kernel
theorem dL_law_174 : decode cL_law 174 = .ok (.aload_n 0, 1) := by decide +kernel
theorem dL_law_175 : decode cL_law 175 = .ok (.iload_n 3, 1) := by decide +kernel
theorem dL_law_176 : decode cL_law 176 = .ok (.iconst 2, 1) := by decide +kernel
theorem dL_law_177 : decode cL_law 177 = .ok (.iadd, 1) := by decide +kernel
theorem dL_law_178 : decode cL_law 178 = .ok (.iaload, 1) := by decide +kernel
theorem dL_law_179 : decode cL_law 179 = .ok (.aload_n 0, 1) := by decide +kernel
theorem dL_law_180 : decode cL_law 180 = .ok (.iload_n 3, 1) := by decide +kernel
theorem dL_law_181 : decode cL_law 181 = .ok (.iconst 3, 1) := by decide +kernel
theorem dL_law_182 : decode cL_law 182 = .ok (.iadd, 1) := by decide +kernel
theorem dL_law_183 : decode cL_law 183 = .ok (.iaload, 1) := by decide +kernel
theorem dL_law_184 : decode cL_law 184 = .ok (.aload_n 0, 1) := by decide +kernel
theorem dL_law_185 : decode cL_law 185 = .ok (.iload_n 3, 1) := by decide +kernel
theorem dL_law_186 : decode cL_law 186 = .ok (.iconst 4, 1) := by decide +kernel
theorem dL_law_187 : decode cL_law 187 = .ok (.iadd, 1) := by decide +kernel
theorem dL_law_188 : decode cL_law 188 = .ok (.iaload, 1) := by decide +kernel
theorem dL_law_189 : decode cL_law 189 = .ok (.aload_n 0, 1) := by decide +kernel
theorem dL_law_190 : decode cL_law 190 = .ok (.iload_n 3, 1) := by decide +kernel
theorem dL_law_191 : decode cL_law 191 = .ok (.iconst 5, 1) := by decide +kernel
theorem dL_law_192 : decode cL_law 192 = .ok (.iadd, 1) := by decide +kernel
theorem dL_law_193 : decode cL_law 193 = .ok (.iaload, 1) := by decide +kernel
theorem dL_law_194 : decode cL_law 194 = .ok (.invokevirtual 13, 3) := by decide +kernel
theorem dL_law_197 : decode cL_law 197 = .ok (.aload_n 2, 1) := by decide +kernel
theorem dL_law_198 : decode cL_law 198 = .ok (.aload_n 0, 1) := by decide +kernel
theorem dL_law_199 : decode cL_law 199 = .ok (.iload_n 3, 1) := by decide +kernel
theorem dL_law_200 : decode cL_law 200 = .ok (.iconst 1, 1) := by decide +kernel
theorem dL_law_201 : decode cL_law 201 = .ok (.iadd, 1) := by decide +kernel
theorem dL_law_202 : decode cL_law 202 = .ok (.iaload, 1) := by decide +kernel
theorem dL_law_203 : decode cL_law 203 = .ok (.aload_n 0, 1) := by decide +kernel
theorem dL_law_204 : decode cL_law 204 = .ok (.iload_n 3, 1) := by decide +kernel
theorem dL_law_205 : decode cL_law 205 = .ok (.iconst 2, 1) := by decide +kernel
theorem dL_law_206 : decode cL_law 206 = .ok (.iadd, 1) := by decide +kernel
theorem dL_law_207 : decode cL_law 207 = .ok (.iaload, 1) := by decide +kernel
theorem dL_law_208 : decode cL_law 208 = .ok (.aload_n 0, 1) := by decide +kernel
theorem dL_law_209 : decode cL_law 209 = .ok (.iload_n 3, 1) := by decide +kernel
theorem dL_law_210 : decode cL_law 210 = .ok (.iconst 3, 1) := by decide +kernel
theorem dL_law_211 : decode cL_law 211 = .ok (.iadd, 1) := by decide +kernel
theorem dL_law_212 : decode cL_law 212 = .ok (.iaload, 1) := by decide +kernel
theorem dL_law_213 : decode cL_law 213 = .ok (.aload_n 0, 1) := by decide +kernel
theorem dL_law_214 : decode cL_law 214 = .ok (.iload_n 3, 1) := by decide +kernel
theorem dL_law_215 : decode cL_law 215 = .ok (.iconst 4, 1) := by decide +kernel
theorem dL_law_216 : decode cL_law 216 = .ok (.iadd, 1) := by decide +kernel
theorem dL_law_217 : decode cL_law 217 = .ok (.iaload, 1) := by decide +kernel
theorem dL_law_218 : decode cL_law 218 = .ok (.aload_n 0, 1) := by decide +kernel
theorem dL_law_219 : decode cL_law 219 = .ok (.iload_n 3, 1) := by decide +kernel
theorem dL_law_220 : decode cL_law 220 = .ok (.iconst 5, 1) := by decide +kernel
theorem dL_law_221 : decode cL_law 221 = .ok (.iadd, 1) := by decide +kernel
theorem dL_law_222 : decode cL_law 222 = .ok (.iaload, 1) := by decide +kernel
theorem dL_law_223 : decode cL_law 223 = .ok (.invokevirtual 17, 3) := by decide +kernel
theorem dL_law_226 : decode cL_law 226 = .ok (.if_icmp .eq 784, 3) := by decide +kernel
theorem dL_law_231 : decode cL_law 231 = .ok (.aload_n 1, 1) := by decide +kernel
theorem dL_law_232 : decode cL_law 232 = .ok (.aload_n 0, 1) := by decide +kernel
theorem dL_law_233 : decode cL_law 233 = .ok (.iload_n 3, 1) := by decide +kernel
theorem dL_law_234 : decode cL_law 234 = .ok (.iconst 1, 1) := by decide +kernel
theorem dL_law_235 : decode cL_law 235 = .ok (.iadd, 1) := by decide +kernel
theorem dL_law_236 : decode cL_law 236 = .ok (.iaload, 1) := by decide +kernel
theorem dL_law_237 : decode cL_law 237 = .ok (.invokevirtual 18, 3) := by decide +kernel
theorem dL_law_240 : decode cL_law 240 = .ok (.aload_n 2, 1) := by decide +kernel
theorem dL_law_241 : decode cL_law 241 = .ok (.aload_n 0, 1) := by decide +kernel
theorem dL_law_242 : decode cL_law 242 = .ok (.iload_n 3, 1) := by decide +kernel
theorem dL_law_243 : decode cL_law 243 = .ok (.iconst 1, 1) := by decide +kernel
theorem dL_law_244 : decode cL_law 244 = .ok (.iadd, 1) := by decide +kernel
theorem dL_law_245 : decode cL_law 245 = .ok (.iaload, 1) := by decide +kernel
theorem dL_law_246 : decode cL_law 246 = .ok (.invokevirtual 22, 3) := by decide +kernel
theorem dL_law_249 : decode cL_law 249 = .ok (.if_icmp .eq 761, 3) := by decide +kernel
theorem dL_law_254 : decode cL_law 254 = .ok (.aload_n 1, 1) := by decide +kernel
theorem dL_law_255 : decode cL_law 255 = .ok (.invokevirtual 23, 3) := by decide +kernel
theorem dL_law_258 : decode cL_law 258 = .ok (.aload_n 2, 1) := by decide +kernel
theorem dL_law_259 : decode cL_law 259 = .ok (.invokevirtual 27, 3) := by decide +kernel
theorem dL_law_262 : decode cL_law 262 = .ok (.if_icmp .eq 748, 3) := by decide +kernel
theorem dL_law_267 : decode cL_law 267 = .ok (.aload_n 1, 1) := by decide +kernel
theorem dL_law_268 : decode cL_law 268 = .ok (.invokevirtual 28, 3) := by decide +kernel
theorem dL_law_271 : decode cL_law 271 = .ok (.aload_n 2, 1) := by decide +kernel
theorem dL_law_272 : decode cL_law 272 = .ok (.invokevirtual 31, 3) := by decide +kernel
theorem dL_law_275 : decode cL_law 275 = .ok (.if_icmp .eq 735, 3) := by decide +kernel
theorem dL_law_280 : decode cL_law 280 = .ok (.aload_n 1, 1) := by decide +kernel
theorem dL_law_281 : decode cL_law 281 = .ok (.invokevirtual 32, 3) := by decide +kernel
theorem dL_law_284 : decode cL_law 284 = .ok (.aload_n 2, 1) := by decide +kernel
theorem dL_law_285 : decode cL_law 285 = .ok (.invokevirtual 35, 3) := by decide +kernel
theorem dL_law_288 : decode cL_law 288 = .ok (.if_icmp .eq 722, 3) := by decide +kernel
theorem dL_law_293 : decode cL_law 293 = .ok (.aload_n 1, 1) := by decide +kernel
theorem dL_law_294 : decode cL_law 294 = .ok (.aload_n 0, 1) := by decide +kernel
theorem dL_law_295 : decode cL_law 295 = .ok (.iload_n 3, 1) := by decide +kernel
theorem dL_law_296 : decode cL_law 296 = .ok (.iconst 1, 1) := by decide +kernel
theorem dL_law_297 : decode cL_law 297 = .ok (.iadd, 1) := by decide +kernel
theorem dL_law_298 : decode cL_law 298 = .ok (.iaload, 1) := by decide +kernel
theorem dL_law_299 : decode cL_law 299 = .ok (.aload_n 0, 1) := by decide +kernel
theorem dL_law_300 : decode cL_law 300 = .ok (.iload_n 3, 1) := by decide +kernel
theorem dL_law_301 : decode cL_law 301 = .ok (.iconst 2, 1) := by decide +kernel
theorem dL_law_302 : decode cL_law 302 = .ok (.iadd, 1) := by decide +kernel
theorem dL_law_303 : decode cL_law 303 = .ok (.iaload, 1) := by decide +kernel
theorem dL_law_304 : decode cL_law 304 = .ok (.invokevirtual 36, 3) := by decide +kernel
theorem dL_law_307 : decode cL_law 307 = .ok (.aload_n 2, 1) := by decide +kernel
theorem dL_law_308 : decode cL_law 308 = .ok (.aload_n 0, 1) := by decide +kernel
theorem dL_law_309 : decode cL_law 309 = .ok (.iload_n 3, 1) := by decide +kernel
theorem dL_law_310 : decode cL_law 310 = .ok (.iconst 1, 1) := by decide +kernel
theorem dL_law_311 : decode cL_law 311 = .ok (.iadd, 1) := by decide +kernel
theorem dL_law_312 : decode cL_law 312 = .ok (.iaload, 1) := by decide +kernel
theorem dL_law_313 : decode cL_law 313 = .ok (.aload_n 0, 1) := by decide +kernel
theorem dL_law_314 : decode cL_law 314 = .ok (.iload_n 3, 1) := by decide +kernel
theorem dL_law_315 : decode cL_law 315 = .ok (.iconst 2, 1) := by decide +kernel
theorem dL_law_316 : decode cL_law 316 = .ok (.iadd, 1) := by decide +kernel
theorem dL_law_317 : decode cL_law 317 = .ok (.iaload, 1) := by decide +kernel
theorem dL_law_318 : decode cL_law 318 = .ok (.invokevirtual 40, 3) := by decide +kernel
theorem dL_law_321 : decode cL_law 321 = .ok (.if_icmp .eq 689, 3) := by decide +kernel
theorem dL_law_326 : decode cL_law 326 = .ok (.aload_n 1, 1) := by decide +kernel
theorem dL_law_327 : decode cL_law 327 = .ok (.aload_n 0, 1) := by decide +kernel
theorem dL_law_328 : decode cL_law 328 = .ok (.iload_n 3, 1) := by decide +kernel
end
section
theorem dL_law_329 : decode cL_law 329 = .ok (.iconst 1, 1) := by decide +kernel
theorem dL_law_330 : decode cL_law 330 = .ok (.iadd, 1) := by decide +kernel
theorem dL_law_331 : decode cL_law 331 = .ok (.iaload, 1) := by decide +kernel
theorem dL_law_332 : decode cL_law 332 = .ok (.aload_n 0, 1) := by decide +kernel
theorem dL_law_333 : decode cL_law 333 = .ok (.iload_n 3, 1) := by decide +kernel
theorem dL_law_334 : decode cL_law 334 = .ok (.iconst 2, 1) := by decide +kernel
theorem dL_law_335 : decode cL_law 335 = .ok (.iadd, 1) := by decide +kernel
theorem dL_law_336 : decode cL_law 336 = .ok (.iaload, 1) := by decide +kernel
theorem dL_law_337 : decode cL_law 337 = .ok (.invokevirtual 41, 3) := by decide +kernel
theorem dL_law_340 : decode cL_law 340 = .ok (.aload_n 2, 1) := by decide +kernel
theorem dL_law_341 : decode cL_law 341 = .ok (.aload_n 0, 1) := by decide +kernel
theorem dL_law_342 : decode cL_law 342 = .ok (.iload_n 3, 1) := by decide +kernel
theorem dL_law_343 : decode cL_law 343 = .ok (.iconst 1, 1) := by decide +kernel
theorem dL_law_344 : decode cL_law 344 = .ok (.iadd, 1) := by decide +kernel
theorem dL_law_345 : decode cL_law 345 = .ok (.iaload, 1) := by decide +kernel
theorem dL_law_346 : decode cL_law 346 = .ok (.aload_n 0, 1) := by decide +kernel
theorem dL_law_347 : decode cL_law 347 = .ok (.iload_n 3, 1) := by decide +kernel
theorem dL_law_348 : decode cL_law 348 = .ok (.iconst 2, 1) := by decide +kernel
theorem dL_law_349 : decode cL_law 349 = .ok (.iadd, 1) := by decide +kernel
theorem dL_law_350 : decode cL_law 350 = .ok (.iaload, 1) := by decide +kernel
theorem dL_law_351 : decode cL_law 351 = .ok (.invokevirtual 44, 3) := by decide +kernel
theorem dL_law_354 : decode cL_law 354 = .ok (.if_icmp .eq 656, 3) := by decide +kernel
theorem dL_law_359 : decode cL_law 359 = .ok (.aload_n 1, 1) := by decide +kernel
theorem dL_law_360 : decode cL_law 360 = .ok (.aload_n 0, 1) := by decide +kernel
theorem dL_law_361 : decode cL_law 361 = .ok (.iload_n 3, 1) := by decide +kernel
theorem dL_law_362 : decode cL_law 362 = .ok (.iconst 1, 1) := by decide +kernel
theorem dL_law_363 : decode cL_law 363 = .ok (.iadd, 1) := by decide +kernel
theorem dL_law_364 : decode cL_law 364 = .ok (.iaload, 1) := by decide +kernel
theorem dL_law_365 : decode cL_law 365 = .ok (.invokevirtual 45, 3) := by decide +kernel
theorem dL_law_368 : decode cL_law 368 = .ok (.aload_n 2, 1) := by decide +kernel
theorem dL_law_369 : decode cL_law 369 = .ok (.aload_n 0, 1) := by decide +kernel
theorem dL_law_370 : decode cL_law 370 = .ok (.iload_n 3, 1) := by decide +kernel
theorem dL_law_371 : decode cL_law 371 = .ok (.iconst 1, 1) := by decide +kernel
theorem dL_law_372 : decode cL_law 372 = .ok (.iadd, 1) := by decide +kernel
theorem dL_law_373 : decode cL_law 373 = .ok (.iaload, 1) := by decide +kernel
theorem dL_law_374 : decode cL_law 374 = .ok (.invokevirtual 49, 3) := by decide +kernel
theorem dL_law_377 : decode cL_law 377 = .ok (.if_icmp .eq 633, 3) := by decide +kernel
theorem dL_law_382 : decode cL_law 382 = .ok (.aload_n 1, 1) := by decide +kernel
theorem dL_law_383 : decode cL_law 383 = .ok (.invokevirtual 50, 3) := by decide +kernel
theorem dL_law_386 : decode cL_law 386 = .ok (.aload_n 2, 1) := by decide +kernel
theorem dL_law_387 : decode cL_law 387 = .ok (.invokevirtual 53, 3) := by decide +kernel
theorem dL_law_390 : decode cL_law 390 = .ok (.if_icmp .eq 620, 3) := by decide +kernel
theorem dL_law_395 : decode cL_law 395 = .ok (.aload_n 1, 1) := by decide +kernel
theorem dL_law_396 : decode cL_law 396 = .ok (.invokevirtual 54, 3) := by decide +kernel
theorem dL_law_399 : decode cL_law 399 = .ok (.aload_n 2, 1) := by decide +kernel
theorem dL_law_400 : decode cL_law 400 = .ok (.invokevirtual 57, 3) := by decide +kernel
theorem dL_law_403 : decode cL_law 403 = .ok (.if_icmp .eq 607, 3) := by decide +kernel
theorem dL_law_408 : decode cL_law 408 = .ok (.aload_n 1, 1) := by decide +kernel
theorem dL_law_409 : decode cL_law 409 = .ok (.aload_n 0, 1) := by decide +kernel
theorem dL_law_410 : decode cL_law 410 = .ok (.iload_n 3, 1) := by decide +kernel
theorem dL_law_411 : decode cL_law 411 = .ok (.iconst 1, 1) := by decide +kernel
theorem dL_law_412 : decode cL_law 412 = .ok (.iadd, 1) := by decide +kernel
theorem dL_law_413 : decode cL_law 413 = .ok (.iaload, 1) := by decide +kernel
theorem dL_law_414 : decode cL_law 414 = .ok (.aload_n 0, 1) := by decide +kernel
theorem dL_law_415 : decode cL_law 415 = .ok (.iload_n 3, 1) := by decide +kernel
theorem dL_law_416 : decode cL_law 416 = .ok (.iconst 2, 1) := by decide +kernel
theorem dL_law_417 : decode cL_law 417 = .ok (.iadd, 1) := by decide +kernel
theorem dL_law_418 : decode cL_law 418 = .ok (.iaload, 1) := by decide +kernel
theorem dL_law_419 : decode cL_law 419 = .ok (.aload_n 0, 1) := by decide +kernel
theorem dL_law_420 : decode cL_law 420 = .ok (.iload_n 3, 1) := by decide +kernel
theorem dL_law_421 : decode cL_law 421 = .ok (.iconst 3, 1) := by decide +kernel
theorem dL_law_422 : decode cL_law 422 = .ok (.iadd, 1) := by decide +kernel
theorem dL_law_423 : decode cL_law 423 = .ok (.iaload, 1) := by decide +kernel
theorem dL_law_424 : decode cL_law 424 = .ok (.invokevirtual 58, 3) := by decide +kernel
theorem dL_law_427 : decode cL_law 427 = .ok (.aload_n 2, 1) := by decide +kernel
theorem dL_law_428 : decode cL_law 428 = .ok (.aload_n 0, 1) := by decide +kernel
theorem dL_law_429 : decode cL_law 429 = .ok (.iload_n 3, 1) := by decide +kernel
theorem dL_law_430 : decode cL_law 430 = .ok (.iconst 1, 1) := by decide +kernel
theorem dL_law_431 : decode cL_law 431 = .ok (.iadd, 1) := by decide +kernel
theorem dL_law_432 : decode cL_law 432 = .ok (.iaload, 1) := by decide +kernel
theorem dL_law_433 : decode cL_law 433 = .ok (.aload_n 0, 1) := by decide +kernel
theorem dL_law_434 : decode cL_law 434 = .ok (.iload_n 3, 1) := by decide +kernel
theorem dL_law_435 : decode cL_law 435 = .ok (.iconst 2, 1) := by decide +kernel
theorem dL_law_436 : decode cL_law 436 = .ok (.iadd, 1) := by decide +kernel
theorem dL_law_437 : decode cL_law 437 = .ok (.iaload, 1) := by decide +kernel
theorem dL_law_438 : decode cL_law 438 = .ok (.aload_n 0, 1) := by decide +kernel
theorem dL_law_439 : decode cL_law 439 = .ok (.iload_n 3, 1) := by decide +kernel
theorem dL_law_440 : decode cL_law 440 = .ok (.iconst 3, 1) := by decide +kernel
theorem dL_law_441 : decode cL_law 441 = .ok (.iadd, 1) := by decide +kernel
theorem dL_law_442 : decode cL_law 442 = .ok (.iaload, 1) := by decide +kernel
theorem dL_law_443 : decode cL_law 443 = .ok (.invokevirtual 62, 3) := by decide +kernel
theorem dL_law_446 : decode cL_law 446 = .ok (.if_icmp .eq 564, 3) := by decide +kernel
theorem dL_law_451 : decode cL_law 451 = .ok (.aload_n 1, 1) := by decide +kernel
theorem dL_law_452 : decode cL_law 452 = .ok (.aload_n 0, 1) := by decide +kernel
theorem dL_law_453 : decode cL_law 453 = .ok (.iload_n 3, 1) := by decide +kernel
theorem dL_law_454 : decode cL_law 454 = .ok (.iconst 1, 1) := by decide +kernel
theorem dL_law_455 : decode cL_law 455 = .ok (.iadd, 1) := by decide +kernel
theorem dL_law_456 : decode cL_law 456 = .ok (.iaload, 1) := by decide +kernel
theorem dL_law_457 : decode cL_law 457 = .ok (.aload_n 0, 1) := by decide +kernel
theorem dL_law_458 : decode cL_law 458 = .ok (.iload_n 3, 1) := by decide +kernel
theorem dL_law_459 : decode cL_law 459 = .ok (.iconst 2, 1) := by decide +kernel
theorem dL_law_460 : decode cL_law 460 = .ok (.iadd, 1) := by decide +kernel
theorem dL_law_461 : decode cL_law 461 = .ok (.iaload, 1) := by decide +kernel
theorem dL_law_462 : decode cL_law 462 = .ok (.aload_n 0, 1) := by decide +kernel
theorem dL_law_463 : decode cL_law 463 = .ok (.iload_n 3, 1) := by decide +kernel
theorem dL_law_464 : decode cL_law 464 = .ok (.iconst 3, 1) := by decide +kernel
theorem dL_law_465 : decode cL_law 465 = .ok (.iadd, 1) := by decide +kernel
theorem dL_law_466 : decode cL_law 466 = .ok (.iaload, 1) := by decide +kernel
theorem dL_law_467 : decode cL_law 467 = .ok (.aload_n 0, 1) := by decide +kernel
theorem dL_law_468 : decode cL_law 468 = .ok (.iload_n 3, 1) := by decide +kernel
theorem dL_law_469 : decode cL_law 469 = .ok (.iconst 4, 1) := by decide +kernel
theorem dL_law_470 : decode cL_law 470 = .ok (.iadd, 1) := by decide +kernel
theorem dL_law_471 : decode cL_law 471 = .ok (.iaload, 1) := by decide +kernel
theorem dL_law_472 : decode cL_law 472 = .ok (.invokevirtual 63, 3) := by decide +kernel
theorem dL_law_475 : decode cL_law 475 = .ok (.aload_n 2, 1) := by decide +kernel
theorem dL_law_476 : decode cL_law 476 = .ok (.aload_n 0, 1) := by decide +kernel
theorem dL_law_477 : decode cL_law 477 = .ok (.iload_n 3, 1) := by decide +kernel
theorem dL_law_478 : decode cL_law 478 = .ok (.iconst 1, 1) := by decide +kernel
theorem dL_law_479 : decode cL_law 479 = .ok (.iadd, 1) := by decide +kernel
theorem dL_law_480 : decode cL_law 480 = .ok (.iaload, 1) := by decide +kernel
theorem dL_law_481 : decode cL_law 481 = .ok (.aload_n 0, 1) := by decide +kernel
theorem dL_law_482 : decode cL_law 482 = .ok (.iload_n 3, 1) := by decide +kernel
theorem dL_law_483 : decode cL_law 483 = .ok (.iconst 2, 1) := by decide +kernel
theorem dL_law_484 : decode cL_law 484 = .ok (.iadd, 1) := by decide +kernel
theorem dL_law_485 : decode cL_law 485 = .ok (.iaload, 1) := by decide +kernel
theorem dL_law_486 : decode cL_law 486 = .ok (.aload_n 0, 1) := by decide +kernel
theorem dL_law_487 : decode cL_law 487 = .ok (.iload_n 3, 1) := by decide +kernel
theorem dL_law_488 : decode cL_law 488 = .ok (.iconst 3, 1) := by decide +kernel
theorem dL_law_489 : decode cL_law 489 = .ok (.iadd, 1) := by decide +kernel
theorem dL_law_490 : decode cL_law 490 = .ok (.iaload, 1) := by decide +kernel
theorem dL_law_491 : decode cL_law 491 = .ok (.aload_n 0, 1) := by decide +kernel
theorem dL_law_492 : decode cL_law 492 = .ok (.iload_n 3, 1) := by decide +kernel
theorem dL_law_493 : decode cL_law 493 = .ok (.iconst 4, 1) := by decide +kernel
theorem dL_law_494 : decode cL_law 494 = .ok (.iadd, 1) := by decide +kernel
theorem dL_law_495 : decode cL_law 495 = .ok (.iaload, 1) := by decide +kernel
theorem dL_law_496 : decode cL_law 496 = .ok (.invokevirtual 67, 3) := by decide +kernel
theorem dL_law_499 : decode cL_law 499 = .ok (.if_icmp .eq 511, 3) := by decide +kernel
theorem dL_law_504 : decode cL_law 504 = .ok (.aload_n 1, 1) := by decide +kernel
theorem dL_law_505 : decode cL_law 505 = .ok (.aload_n 0, 1) := by decide +kernel
theorem dL_law_506 : decode cL_law 506 = .ok (.iload_n 3, 1) := by decide +kernel
theorem dL_law_507 : decode cL_law 507 = .ok (.iconst 1, 1) := by decide +kernel
theorem dL_law_508 : decode cL_law 508 = .ok (.iadd, 1) := by decide +kernel
theorem dL_law_509 : decode cL_law 509 = .ok (.iaload, 1) := by decide +kernel
theorem dL_law_510 : decode cL_law 510 = .ok (.invokevirtual 68, 3) := by decide +kernel
theorem dL_law_513 : decode cL_law 513 = .ok (.aload_n 2, 1) := by decide +kernel
theorem dL_law_514 : decode cL_law 514 = .ok (.aload_n 0, 1) := by decide +kernel
theorem dL_law_515 : decode cL_law 515 = .ok (.iload_n 3, 1) := by decide +kernel
theorem dL_law_516 : decode cL_law 516 = .ok (.iconst 1, 1) := by decide +kernel
theorem dL_law_517 : decode cL_law 517 = .ok (.iadd, 1) := by decide +kernel
theorem dL_law_518 : decode cL_law 518 = .ok (.iaload, 1) := by decide +kernel
theorem dL_law_519 : decode cL_law 519 = .ok (.invokevirtual 71, 3) := by decide +kernel
theorem dL_law_522 : decode cL_law 522 = .ok (.if_icmp .eq 488, 3) := by decide +kernel
theorem dL_law_527 : decode cL_law 527 = .ok (.aload_n 1, 1) := by decide +kernel
theorem dL_law_528 : decode cL_law 528 = .ok (.aload_n 0, 1) := by decide +kernel
theorem dL_law_529 : decode cL_law 529 = .ok (.iload_n 3, 1) := by decide +kernel
theorem dL_law_530 : decode cL_law 530 = .ok (.iconst 1, 1) := by decide +kernel
theorem dL_law_531 : decode cL_law 531 = .ok (.iadd, 1) := by decide +kernel
theorem dL_law_532 : decode cL_law 532 = .ok (.iaload, 1) := by decide +kernel
theorem dL_law_533 : decode cL_law 533 = .ok (.invokevirtual 72, 3) := by decide +kernel
theorem dL_law_536 : decode cL_law 536 = .ok (.aload_n 2, 1) := by decide +kernel
end
section
theorem dL_law_537 : decode cL_law 537 = .ok (.aload_n 0, 1) := by decide +kernel
theorem dL_law_538 : decode cL_law 538 = .ok (.iload_n 3, 1) := by decide +kernel
theorem dL_law_539 : decode cL_law 539 = .ok (.iconst 1, 1) := by decide +kernel
theorem dL_law_540 : decode cL_law 540 = .ok (.iadd, 1) := by decide +kernel
theorem dL_law_541 : decode cL_law 541 = .ok (.iaload, 1) := by decide +kernel
theorem dL_law_542 : decode cL_law 542 = .ok (.invokevirtual 75, 3) := by decide +kernel
theorem dL_law_545 : decode cL_law 545 = .ok (.if_icmp .eq 465, 3) := by decide +kernel
theorem dL_law_550 : decode cL_law 550 = .ok (.aload_n 1, 1) := by decide +kernel
theorem dL_law_551 : decode cL_law 551 = .ok (.aload_n 0, 1) := by decide +kernel
theorem dL_law_552 : decode cL_law 552 = .ok (.iload_n 3, 1) := by decide +kernel
theorem dL_law_553 : decode cL_law 553 = .ok (.iconst 1, 1) := by decide +kernel
theorem dL_law_554 : decode cL_law 554 = .ok (.iadd, 1) := by decide +kernel
theorem dL_law_555 : decode cL_law 555 = .ok (.iaload, 1) := by decide +kernel
theorem dL_law_556 : decode cL_law 556 = .ok (.invokevirtual 76, 3) := by decide +kernel
theorem dL_law_559 : decode cL_law 559 = .ok (.aload_n 2, 1) := by decide +kernel
theorem dL_law_560 : decode cL_law 560 = .ok (.aload_n 0, 1) := by decide +kernel
theorem dL_law_561 : decode cL_law 561 = .ok (.iload_n 3, 1) := by decide +kernel
theorem dL_law_562 : decode cL_law 562 = .ok (.iconst 1, 1) := by decide +kernel
theorem dL_law_563 : decode cL_law 563 = .ok (.iadd, 1) := by decide +kernel
theorem dL_law_564 : decode cL_law 564 = .ok (.iaload, 1) := by decide +kernel
theorem dL_law_565 : decode cL_law 565 = .ok (.invokevirtual 79, 3) := by decide +kernel
theorem dL_law_568 : decode cL_law 568 = .ok (.if_icmp .eq 442, 3) := by decide +kernel
theorem dL_law_573 : decode cL_law 573 = .ok (.aload_n 1, 1) := by decide +kernel
theorem dL_law_574 : decode cL_law 574 = .ok (.aload_n 0, 1) := by decide +kernel
theorem dL_law_575 : decode cL_law 575 = .ok (.iload_n 3, 1) := by decide +kernel
theorem dL_law_576 : decode cL_law 576 = .ok (.iconst 1, 1) := by decide +kernel
theorem dL_law_577 : decode cL_law 577 = .ok (.iadd, 1) := by decide +kernel
theorem dL_law_578 : decode cL_law 578 = .ok (.iaload, 1) := by decide +kernel
theorem dL_law_579 : decode cL_law 579 = .ok (.i2l, 1) := by decide +kernel
theorem dL_law_580 : decode cL_law 580 = .ok (.bipush 32, 2) := by decide +kernel
theorem dL_law_582 : decode cL_law 582 = .ok (.lshl, 1) := by decide +kernel
theorem dL_law_583 : decode cL_law 583 = .ok (.aload_n 0, 1) := by decide +kernel
theorem dL_law_584 : decode cL_law 584 = .ok (.iload_n 3, 1) := by decide +kernel
theorem dL_law_585 : decode cL_law 585 = .ok (.iconst 2, 1) := by decide +kernel
theorem dL_law_586 : decode cL_law 586 = .ok (.iadd, 1) := by decide +kernel
theorem dL_law_587 : decode cL_law 587 = .ok (.iaload, 1) := by decide +kernel
theorem dL_law_588 : decode cL_law 588 = .ok (.i2l, 1) := by decide +kernel
theorem dL_law_589 : decode cL_law 589 = .ok (.ldc2_w 80, 3) := by decide +kernel
theorem dL_law_592 : decode cL_law 592 = .ok (.land, 1) := by decide +kernel
theorem dL_law_593 : decode cL_law 593 = .ok (.lor, 1) := by decide +kernel
theorem dL_law_594 : decode cL_law 594 = .ok (.invokevirtual 82, 3) := by decide +kernel
theorem dL_law_597 : decode cL_law 597 = .ok (.aload_n 2, 1) := by decide +kernel
theorem dL_law_598 : decode cL_law 598 = .ok (.aload_n 0, 1) := by decide +kernel
theorem dL_law_599 : decode cL_law 599 = .ok (.iload_n 3, 1) := by decide +kernel
theorem dL_law_600 : decode cL_law 600 = .ok (.iconst 1, 1) := by decide +kernel
theorem dL_law_601 : decode cL_law 601 = .ok (.iadd, 1) := by decide +kernel
theorem dL_law_602 : decode cL_law 602 = .ok (.iaload, 1) := by decide +kernel
theorem dL_law_603 : decode cL_law 603 = .ok (.i2l, 1) := by decide +kernel
theorem dL_law_604 : decode cL_law 604 = .ok (.bipush 32, 2) := by decide +kernel
theorem dL_law_606 : decode cL_law 606 = .ok (.lshl, 1) := by decide +kernel
theorem dL_law_607 : decode cL_law 607 = .ok (.aload_n 0, 1) := by decide +kernel
theorem dL_law_608 : decode cL_law 608 = .ok (.iload_n 3, 1) := by decide +kernel
theorem dL_law_609 : decode cL_law 609 = .ok (.iconst 2, 1) := by decide +kernel
theorem dL_law_610 : decode cL_law 610 = .ok (.iadd, 1) := by decide +kernel
theorem dL_law_611 : decode cL_law 611 = .ok (.iaload, 1) := by decide +kernel
theorem dL_law_612 : decode cL_law 612 = .ok (.i2l, 1) := by decide +kernel
theorem dL_law_613 : decode cL_law 613 = .ok (.ldc2_w 80, 3) := by decide +kernel
theorem dL_law_616 : decode cL_law 616 = .ok (.land, 1) := by decide +kernel
theorem dL_law_617 : decode cL_law 617 = .ok (.lor, 1) := by decide +kernel
theorem dL_law_618 : decode cL_law 618 = .ok (.invokevirtual 86, 3) := by decide +kernel
theorem dL_law_621 : decode cL_law 621 = .ok (.if_icmp .eq 389, 3) := by decide +kernel
theorem dL_law_626 : decode cL_law 626 = .ok (.aload_n 1, 1) := by decide +kernel
theorem dL_law_627 : decode cL_law 627 = .ok (.aload_n 0, 1) := by decide +kernel
theorem dL_law_628 : decode cL_law 628 = .ok (.iload_n 3, 1) := by decide +kernel
theorem dL_law_629 : decode cL_law 629 = .ok (.iconst 1, 1) := by decide +kernel
theorem dL_law_630 : decode cL_law 630 = .ok (.iadd, 1) := by decide +kernel
theorem dL_law_631 : decode cL_law 631 = .ok (.iaload, 1) := by decide +kernel
theorem dL_law_632 : decode cL_law 632 = .ok (.aload_n 0, 1) := by decide +kernel
theorem dL_law_633 : decode cL_law 633 = .ok (.iload_n 3, 1) := by decide +kernel
theorem dL_law_634 : decode cL_law 634 = .ok (.iconst 2, 1) := by decide +kernel
theorem dL_law_635 : decode cL_law 635 = .ok (.iadd, 1) := by decide +kernel
theorem dL_law_636 : decode cL_law 636 = .ok (.iaload, 1) := by decide +kernel
theorem dL_law_637 : decode cL_law 637 = .ok (.invokevirtual 87, 3) := by decide +kernel
theorem dL_law_640 : decode cL_law 640 = .ok (.aload_n 2, 1) := by decide +kernel
theorem dL_law_641 : decode cL_law 641 = .ok (.aload_n 0, 1) := by decide +kernel
theorem dL_law_642 : decode cL_law 642 = .ok (.iload_n 3, 1) := by decide +kernel
theorem dL_law_643 : decode cL_law 643 = .ok (.iconst 1, 1) := by decide +kernel
theorem dL_law_644 : decode cL_law 644 = .ok (.iadd, 1) := by decide +kernel
theorem dL_law_645 : decode cL_law 645 = .ok (.iaload, 1) := by decide +kernel
theorem dL_law_646 : decode cL_law 646 = .ok (.aload_n 0, 1) := by decide +kernel
theorem dL_law_647 : decode cL_law 647 = .ok (.iload_n 3, 1) := by decide +kernel
theorem dL_law_648 : decode cL_law 648 = .ok (.iconst 2, 1) := by decide +kernel
theorem dL_law_649 : decode cL_law 649 = .ok (.iadd, 1) := by decide +kernel
theorem dL_law_650 : decode cL_law 650 = .ok (.iaload, 1) := by decide +kernel
theorem dL_law_651 : decode cL_law 651 = .ok (.invokevirtual 90, 3) := by decide +kernel
theorem dL_law_654 : decode cL_law 654 = .ok (.if_icmp .eq 356, 3) := by decide +kernel
theorem dL_law_659 : decode cL_law 659 = .ok (.aload_n 1, 1) := by decide +kernel
theorem dL_law_660 : decode cL_law 660 = .ok (.invokevirtual 91, 3) := by decide +kernel
theorem dL_law_663 : decode cL_law 663 = .ok (.aload_n 2, 1) := by decide +kernel
theorem dL_law_664 : decode cL_law 664 = .ok (.invokevirtual 95, 3) := by decide +kernel
theorem dL_law_667 : decode cL_law 667 = .ok (.lcmp, 1) := by decide +kernel
theorem dL_law_668 : decode cL_law 668 = .ok (.ifCond .eq 342, 3) := by decide +kernel
theorem dL_law_673 : decode cL_law 673 = .ok (.aload_n 1, 1) := by decide +kernel
theorem dL_law_674 : decode cL_law 674 = .ok (.invokevirtual 96, 3) := by decide +kernel
theorem dL_law_677 : decode cL_law 677 = .ok (.aload_n 2, 1) := by decide +kernel
theorem dL_law_678 : decode cL_law 678 = .ok (.invokevirtual 99, 3) := by decide +kernel
theorem dL_law_681 : decode cL_law 681 = .ok (.if_icmp .eq 329, 3) := by decide +kernel
theorem dL_law_686 : decode cL_law 686 = .ok (.aload_n 1, 1) := by decide +kernel
theorem dL_law_687 : decode cL_law 687 = .ok (.invokevirtual 100, 3) := by decide +kernel
theorem dL_law_690 : decode cL_law 690 = .ok (.aload_n 2, 1) := by decide +kernel
theorem dL_law_691 : decode cL_law 691 = .ok (.invokevirtual 103, 3) := by decide +kernel
theorem dL_law_694 : decode cL_law 694 = .ok (.if_icmp .eq 316, 3) := by decide +kernel
theorem dL_law_699 : decode cL_law 699 = .ok (.aload_n 1, 1) := by decide +kernel
theorem dL_law_700 : decode cL_law 700 = .ok (.aload_n 0, 1) := by decide +kernel
theorem dL_law_701 : decode cL_law 701 = .ok (.iload_n 3, 1) := by decide +kernel
theorem dL_law_702 : decode cL_law 702 = .ok (.iconst 1, 1) := by decide +kernel
theorem dL_law_703 : decode cL_law 703 = .ok (.iadd, 1) := by decide +kernel
theorem dL_law_704 : decode cL_law 704 = .ok (.iaload, 1) := by decide +kernel
theorem dL_law_705 : decode cL_law 705 = .ok (.invokevirtual 104, 3) := by decide +kernel
theorem dL_law_708 : decode cL_law 708 = .ok (.aload_n 2, 1) := by decide +kernel
theorem dL_law_709 : decode cL_law 709 = .ok (.aload_n 0, 1) := by decide +kernel
theorem dL_law_710 : decode cL_law 710 = .ok (.iload_n 3, 1) := by decide +kernel
theorem dL_law_711 : decode cL_law 711 = .ok (.iconst 1, 1) := by decide +kernel
theorem dL_law_712 : decode cL_law 712 = .ok (.iadd, 1) := by decide +kernel
theorem dL_law_713 : decode cL_law 713 = .ok (.iaload, 1) := by decide +kernel
theorem dL_law_714 : decode cL_law 714 = .ok (.invokevirtual 108, 3) := by decide +kernel
theorem dL_law_717 : decode cL_law 717 = .ok (.lcmp, 1) := by decide +kernel
theorem dL_law_718 : decode cL_law 718 = .ok (.ifCond .eq 292, 3) := by decide +kernel
theorem dL_law_723 : decode cL_law 723 = .ok (.aload_n 1, 1) := by decide +kernel
theorem dL_law_724 : decode cL_law 724 = .ok (.aload_n 0, 1) := by decide +kernel
theorem dL_law_725 : decode cL_law 725 = .ok (.iload_n 3, 1) := by decide +kernel
theorem dL_law_726 : decode cL_law 726 = .ok (.iconst 1, 1) := by decide +kernel
theorem dL_law_727 : decode cL_law 727 = .ok (.iadd, 1) := by decide +kernel
theorem dL_law_728 : decode cL_law 728 = .ok (.iaload, 1) := by decide +kernel
theorem dL_law_729 : decode cL_law 729 = .ok (.aload_n 0, 1) := by decide +kernel
theorem dL_law_730 : decode cL_law 730 = .ok (.iload_n 3, 1) := by decide +kernel
theorem dL_law_731 : decode cL_law 731 = .ok (.iconst 2, 1) := by decide +kernel
theorem dL_law_732 : decode cL_law 732 = .ok (.iadd, 1) := by decide +kernel
theorem dL_law_733 : decode cL_law 733 = .ok (.iaload, 1) := by decide +kernel
theorem dL_law_734 : decode cL_law 734 = .ok (.invokevirtual 109, 3) := by decide +kernel
theorem dL_law_737 : decode cL_law 737 = .ok (.aload_n 2, 1) := by decide +kernel
theorem dL_law_738 : decode cL_law 738 = .ok (.aload_n 0, 1) := by decide +kernel
theorem dL_law_739 : decode cL_law 739 = .ok (.iload_n 3, 1) := by decide +kernel
theorem dL_law_740 : decode cL_law 740 = .ok (.iconst 1, 1) := by decide +kernel
theorem dL_law_741 : decode cL_law 741 = .ok (.iadd, 1) := by decide +kernel
theorem dL_law_742 : decode cL_law 742 = .ok (.iaload, 1) := by decide +kernel
theorem dL_law_743 : decode cL_law 743 = .ok (.aload_n 0, 1) := by decide +kernel
theorem dL_law_744 : decode cL_law 744 = .ok (.iload_n 3, 1) := by decide +kernel
theorem dL_law_745 : decode cL_law 745 = .ok (.iconst 2, 1) := by decide +kernel
theorem dL_law_746 : decode cL_law 746 = .ok (.iadd, 1) := by decide +kernel
theorem dL_law_747 : decode cL_law 747 = .ok (.iaload, 1) := by decide +kernel
theorem dL_law_748 : decode cL_law 748 = .ok (.invokevirtual 112, 3) := by decide +kernel
theorem dL_law_751 : decode cL_law 751 = .ok (.if_icmp .eq 259, 3) := by decide +kernel
theorem dL_law_756 : decode cL_law 756 = .ok (.aload_n 1, 1) := by decide +kernel
theorem dL_law_757 : decode cL_law 757 = .ok (.aload_n 0, 1) := by decide +kernel
theorem dL_law_758 : decode cL_law 758 = .ok (.iload_n 3, 1) := by decide +kernel
theorem dL_law_759 : decode cL_law 759 = .ok (.iconst 1, 1) := by decide +kernel
theorem dL_law_760 : decode cL_law 760 = .ok (.iadd, 1) := by decide +kernel
theorem dL_law_761 : decode cL_law 761 = .ok (.iaload, 1) := by decide +kernel
theorem dL_law_762 : decode cL_law 762 = .ok (.invokevirtual 113, 3) := by decide +kernel
end
section
theorem dL_law_765 : decode cL_law 765 = .ok (.aload_n 2, 1) := by decide +kernel
theorem dL_law_766 : decode cL_law 766 = .ok (.aload_n 0, 1) := by decide +kernel
theorem dL_law_767 : decode cL_law 767 = .ok (.iload_n 3, 1) := by decide +kernel
theorem dL_law_768 : decode cL_law 768 = .ok (.iconst 1, 1) := by decide +kernel
theorem dL_law_769 : decode cL_law 769 = .ok (.iadd, 1) := by decide +kernel
theorem dL_law_770 : decode cL_law 770 = .ok (.iaload, 1) := by decide +kernel
theorem dL_law_771 : decode cL_law 771 = .ok (.invokevirtual 116, 3) := by decide +kernel
theorem dL_law_774 : decode cL_law 774 = .ok (.if_icmp .eq 236, 3) := by decide +kernel
theorem dL_law_779 : decode cL_law 779 = .ok (.aload_n 1, 1) := by decide +kernel
theorem dL_law_780 : decode cL_law 780 = .ok (.aload_n 0, 1) := by decide +kernel
theorem dL_law_781 : decode cL_law 781 = .ok (.iload_n 3, 1) := by decide +kernel
theorem dL_law_782 : decode cL_law 782 = .ok (.iconst 1, 1) := by decide +kernel
theorem dL_law_783 : decode cL_law 783 = .ok (.iadd, 1) := by decide +kernel
theorem dL_law_784 : decode cL_law 784 = .ok (.iaload, 1) := by decide +kernel
theorem dL_law_785 : decode cL_law 785 = .ok (.aload_n 0, 1) := by decide +kernel
theorem dL_law_786 : decode cL_law 786 = .ok (.iload_n 3, 1) := by decide +kernel
theorem dL_law_787 : decode cL_law 787 = .ok (.iconst 2, 1) := by decide +kernel
theorem dL_law_788 : decode cL_law 788 = .ok (.iadd, 1) := by decide +kernel
theorem dL_law_789 : decode cL_law 789 = .ok (.iaload, 1) := by decide +kernel
theorem dL_law_790 : decode cL_law 790 = .ok (.invokevirtual 117, 3) := by decide +kernel
theorem dL_law_793 : decode cL_law 793 = .ok (.aload_n 2, 1) := by decide +kernel
theorem dL_law_794 : decode cL_law 794 = .ok (.aload_n 0, 1) := by decide +kernel
theorem dL_law_795 : decode cL_law 795 = .ok (.iload_n 3, 1) := by decide +kernel
theorem dL_law_796 : decode cL_law 796 = .ok (.iconst 1, 1) := by decide +kernel
theorem dL_law_797 : decode cL_law 797 = .ok (.iadd, 1) := by decide +kernel
theorem dL_law_798 : decode cL_law 798 = .ok (.iaload, 1) := by decide +kernel
theorem dL_law_799 : decode cL_law 799 = .ok (.aload_n 0, 1) := by decide +kernel
theorem dL_law_800 : decode cL_law 800 = .ok (.iload_n 3, 1) := by decide +kernel
theorem dL_law_801 : decode cL_law 801 = .ok (.iconst 2, 1) := by decide +kernel
theorem dL_law_802 : decode cL_law 802 = .ok (.iadd, 1) := by decide +kernel
theorem dL_law_803 : decode cL_law 803 = .ok (.iaload, 1) := by decide +kernel
theorem dL_law_804 : decode cL_law 804 = .ok (.invokevirtual 120, 3) := by decide +kernel
theorem dL_law_807 : decode cL_law 807 = .ok (.if_icmp .eq 203, 3) := by decide +kernel
theorem dL_law_812 : decode cL_law 812 = .ok (.aload_n 1, 1) := by decide +kernel
theorem dL_law_813 : decode cL_law 813 = .ok (.aload_n 0, 1) := by decide +kernel
theorem dL_law_814 : decode cL_law 814 = .ok (.iload_n 3, 1) := by decide +kernel
theorem dL_law_815 : decode cL_law 815 = .ok (.iconst 1, 1) := by decide +kernel
theorem dL_law_816 : decode cL_law 816 = .ok (.iadd, 1) := by decide +kernel
theorem dL_law_817 : decode cL_law 817 = .ok (.iaload, 1) := by decide +kernel
theorem dL_law_818 : decode cL_law 818 = .ok (.aload_n 0, 1) := by decide +kernel
theorem dL_law_819 : decode cL_law 819 = .ok (.iload_n 3, 1) := by decide +kernel
theorem dL_law_820 : decode cL_law 820 = .ok (.iconst 2, 1) := by decide +kernel
theorem dL_law_821 : decode cL_law 821 = .ok (.iadd, 1) := by decide +kernel
theorem dL_law_822 : decode cL_law 822 = .ok (.iaload, 1) := by decide +kernel
theorem dL_law_823 : decode cL_law 823 = .ok (.aload_n 0, 1) := by decide +kernel
theorem dL_law_824 : decode cL_law 824 = .ok (.iload_n 3, 1) := by decide +kernel
theorem dL_law_825 : decode cL_law 825 = .ok (.iconst 3, 1) := by decide +kernel
theorem dL_law_826 : decode cL_law 826 = .ok (.iadd, 1) := by decide +kernel
theorem dL_law_827 : decode cL_law 827 = .ok (.iaload, 1) := by decide +kernel
theorem dL_law_828 : decode cL_law 828 = .ok (.aload_n 0, 1) := by decide +kernel
theorem dL_law_829 : decode cL_law 829 = .ok (.iload_n 3, 1) := by decide +kernel
theorem dL_law_830 : decode cL_law 830 = .ok (.iconst 4, 1) := by decide +kernel
theorem dL_law_831 : decode cL_law 831 = .ok (.iadd, 1) := by decide +kernel
theorem dL_law_832 : decode cL_law 832 = .ok (.iaload, 1) := by decide +kernel
theorem dL_law_833 : decode cL_law 833 = .ok (.invokevirtual 121, 3) := by decide +kernel
theorem dL_law_836 : decode cL_law 836 = .ok (.aload_n 2, 1) := by decide +kernel
theorem dL_law_837 : decode cL_law 837 = .ok (.aload_n 0, 1) := by decide +kernel
theorem dL_law_838 : decode cL_law 838 = .ok (.iload_n 3, 1) := by decide +kernel
theorem dL_law_839 : decode cL_law 839 = .ok (.iconst 1, 1) := by decide +kernel
theorem dL_law_840 : decode cL_law 840 = .ok (.iadd, 1) := by decide +kernel
theorem dL_law_841 : decode cL_law 841 = .ok (.iaload, 1) := by decide +kernel
theorem dL_law_842 : decode cL_law 842 = .ok (.aload_n 0, 1) := by decide +kernel
theorem dL_law_843 : decode cL_law 843 = .ok (.iload_n 3, 1) := by decide +kernel
theorem dL_law_844 : decode cL_law 844 = .ok (.iconst 2, 1) := by decide +kernel
theorem dL_law_845 : decode cL_law 845 = .ok (.iadd, 1) := by decide +kernel
theorem dL_law_846 : decode cL_law 846 = .ok (.iaload, 1) := by decide +kernel
theorem dL_law_847 : decode cL_law 847 = .ok (.aload_n 0, 1) := by decide +kernel
theorem dL_law_848 : decode cL_law 848 = .ok (.iload_n 3, 1) := by decide +kernel
theorem dL_law_849 : decode cL_law 849 = .ok (.iconst 3, 1) := by decide +kernel
theorem dL_law_850 : decode cL_law 850 = .ok (.iadd, 1) := by decide +kernel
theorem dL_law_851 : decode cL_law 851 = .ok (.iaload, 1) := by decide +kernel
theorem dL_law_852 : decode cL_law 852 = .ok (.aload_n 0, 1) := by decide +kernel
theorem dL_law_853 : decode cL_law 853 = .ok (.iload_n 3, 1) := by decide +kernel
theorem dL_law_854 : decode cL_law 854 = .ok (.iconst 4, 1) := by decide +kernel
theorem dL_law_855 : decode cL_law 855 = .ok (.iadd, 1) := by decide +kernel
theorem dL_law_856 : decode cL_law 856 = .ok (.iaload, 1) := by decide +kernel
theorem dL_law_857 : decode cL_law 857 = .ok (.invokevirtual 124, 3) := by decide +kernel
theorem dL_law_860 : decode cL_law 860 = .ok (.if_icmp .eq 150, 3) := by decide +kernel
theorem dL_law_865 : decode cL_law 865 = .ok (.aload_n 1, 1) := by decide +kernel
theorem dL_law_866 : decode cL_law 866 = .ok (.aload_n 0, 1) := by decide +kernel
theorem dL_law_867 : decode cL_law 867 = .ok (.iload_n 3, 1) := by decide +kernel
theorem dL_law_868 : decode cL_law 868 = .ok (.iconst 1, 1) := by decide +kernel
theorem dL_law_869 : decode cL_law 869 = .ok (.iadd, 1) := by decide +kernel
theorem dL_law_870 : decode cL_law 870 = .ok (.iaload, 1) := by decide +kernel
theorem dL_law_871 : decode cL_law 871 = .ok (.aload_n 0, 1) := by decide +kernel
theorem dL_law_872 : decode cL_law 872 = .ok (.iload_n 3, 1) := by decide +kernel
theorem dL_law_873 : decode cL_law 873 = .ok (.iconst 2, 1) := by decide +kernel
theorem dL_law_874 : decode cL_law 874 = .ok (.iadd, 1) := by decide +kernel
theorem dL_law_875 : decode cL_law 875 = .ok (.iaload, 1) := by decide +kernel
theorem dL_law_876 : decode cL_law 876 = .ok (.aload_n 0, 1) := by decide +kernel
theorem dL_law_877 : decode cL_law 877 = .ok (.iload_n 3, 1) := by decide +kernel
theorem dL_law_878 : decode cL_law 878 = .ok (.iconst 3, 1) := by decide +kernel
theorem dL_law_879 : decode cL_law 879 = .ok (.iadd, 1) := by decide +kernel
theorem dL_law_880 : decode cL_law 880 = .ok (.iaload, 1) := by decide +kernel
theorem dL_law_881 : decode cL_law 881 = .ok (.aload_n 0, 1) := by decide +kernel
theorem dL_law_882 : decode cL_law 882 = .ok (.iload_n 3, 1) := by decide +kernel
theorem dL_law_883 : decode cL_law 883 = .ok (.iconst 4, 1) := by decide +kernel
theorem dL_law_884 : decode cL_law 884 = .ok (.iadd, 1) := by decide +kernel
theorem dL_law_885 : decode cL_law 885 = .ok (.iaload, 1) := by decide +kernel
theorem dL_law_886 : decode cL_law 886 = .ok (.invokevirtual 125, 3) := by decide +kernel
theorem dL_law_889 : decode cL_law 889 = .ok (.aload_n 2, 1) := by decide +kernel
theorem dL_law_890 : decode cL_law 890 = .ok (.aload_n 0, 1) := by decide +kernel
theorem dL_law_891 : decode cL_law 891 = .ok (.iload_n 3, 1) := by decide +kernel
theorem dL_law_892 : decode cL_law 892 = .ok (.iconst 1, 1) := by decide +kernel
theorem dL_law_893 : decode cL_law 893 = .ok (.iadd, 1) := by decide +kernel
theorem dL_law_894 : decode cL_law 894 = .ok (.iaload, 1) := by decide +kernel
theorem dL_law_895 : decode cL_law 895 = .ok (.aload_n 0, 1) := by decide +kernel
theorem dL_law_896 : decode cL_law 896 = .ok (.iload_n 3, 1) := by decide +kernel
theorem dL_law_897 : decode cL_law 897 = .ok (.iconst 2, 1) := by decide +kernel
theorem dL_law_898 : decode cL_law 898 = .ok (.iadd, 1) := by decide +kernel
theorem dL_law_899 : decode cL_law 899 = .ok (.iaload, 1) := by decide +kernel
theorem dL_law_900 : decode cL_law 900 = .ok (.aload_n 0, 1) := by decide +kernel
theorem dL_law_901 : decode cL_law 901 = .ok (.iload_n 3, 1) := by decide +kernel
theorem dL_law_902 : decode cL_law 902 = .ok (.iconst 3, 1) := by decide +kernel
theorem dL_law_903 : decode cL_law 903 = .ok (.iadd, 1) := by decide +kernel
theorem dL_law_904 : decode cL_law 904 = .ok (.iaload, 1) := by decide +kernel
theorem dL_law_905 : decode cL_law 905 = .ok (.aload_n 0, 1) := by decide +kernel
theorem dL_law_906 : decode cL_law 906 = .ok (.iload_n 3, 1) := by decide +kernel
theorem dL_law_907 : decode cL_law 907 = .ok (.iconst 4, 1) := by decide +kernel
theorem dL_law_908 : decode cL_law 908 = .ok (.iadd, 1) := by decide +kernel
theorem dL_law_909 : decode cL_law 909 = .ok (.iaload, 1) := by decide +kernel
theorem dL_law_910 : decode cL_law 910 = .ok (.invokevirtual 129, 3) := by decide +kernel
theorem dL_law_913 : decode cL_law 913 = .ok (.if_icmp .eq 97, 3) := by decide +kernel
theorem dL_law_918 : decode cL_law 918 = .ok (.aload_n 1, 1) := by decide +kernel
theorem dL_law_919 : decode cL_law 919 = .ok (.aload_n 0, 1) := by decide +kernel
theorem dL_law_920 : decode cL_law 920 = .ok (.iload_n 3, 1) := by decide +kernel
theorem dL_law_921 : decode cL_law 921 = .ok (.iconst 1, 1) := by decide +kernel
theorem dL_law_922 : decode cL_law 922 = .ok (.iadd, 1) := by decide +kernel
theorem dL_law_923 : decode cL_law 923 = .ok (.iaload, 1) := by decide +kernel
theorem dL_law_924 : decode cL_law 924 = .ok (.aload_n 0, 1) := by decide +kernel
theorem dL_law_925 : decode cL_law 925 = .ok (.iload_n 3, 1) := by decide +kernel
theorem dL_law_926 : decode cL_law 926 = .ok (.iconst 2, 1) := by decide +kernel
theorem dL_law_927 : decode cL_law 927 = .ok (.iadd, 1) := by decide +kernel
theorem dL_law_928 : decode cL_law 928 = .ok (.iaload, 1) := by decide +kernel
theorem dL_law_929 : decode cL_law 929 = .ok (.invokevirtual 130, 3) := by decide +kernel
theorem dL_law_932 : decode cL_law 932 = .ok (.aload_n 2, 1) := by decide +kernel
theorem dL_law_933 : decode cL_law 933 = .ok (.aload_n 0, 1) := by decide +kernel
theorem dL_law_934 : decode cL_law 934 = .ok (.iload_n 3, 1) := by decide +kernel
theorem dL_law_935 : decode cL_law 935 = .ok (.iconst 1, 1) := by decide +kernel
theorem dL_law_936 : decode cL_law 936 = .ok (.iadd, 1) := by decide +kernel
theorem dL_law_937 : decode cL_law 937 = .ok (.iaload, 1) := by decide +kernel
theorem dL_law_938 : decode cL_law 938 = .ok (.aload_n 0, 1) := by decide +kernel
theorem dL_law_939 : decode cL_law 939 = .ok (.iload_n 3, 1) := by decide +kernel
theorem dL_law_940 : decode cL_law 940 = .ok (.iconst 2, 1) := by decide +kernel
theorem dL_law_941 : decode cL_law 941 = .ok (.iadd, 1) := by decide +kernel
theorem dL_law_942 : decode cL_law 942 = .ok (.iaload, 1) := by decide +kernel
theorem dL_law_943 : decode cL_law 943 = .ok (.invokevirtual 133, 3) := by decide +kernel
theorem dL_law_946 : decode cL_law 946 = .ok (.if_icmp .eq 64, 3) := by decide +kernel
theorem dL_law_951 : decode cL_law 951 = .ok (.aload_n 1, 1) := by decide +kernel
theorem dL_law_952 : decode cL_law 952 = .ok (.aload_n 0, 1) := by decide +kernel
end
section
theorem dL_law_953 : decode cL_law 953 = .ok (.iload_n 3, 1) := by decide +kernel
theorem dL_law_954 : decode cL_law 954 = .ok (.iconst 1, 1) := by decide +kernel
theorem dL_law_955 : decode cL_law 955 = .ok (.iadd, 1) := by decide +kernel
theorem dL_law_956 : decode cL_law 956 = .ok (.iaload, 1) := by decide +kernel
theorem dL_law_957 : decode cL_law 957 = .ok (.invokevirtual 134, 3) := by decide +kernel
theorem dL_law_960 : decode cL_law 960 = .ok (.aload_n 2, 1) := by decide +kernel
theorem dL_law_961 : decode cL_law 961 = .ok (.aload_n 0, 1) := by decide +kernel
theorem dL_law_962 : decode cL_law 962 = .ok (.iload_n 3, 1) := by decide +kernel
theorem dL_law_963 : decode cL_law 963 = .ok (.iconst 1, 1) := by decide +kernel
theorem dL_law_964 : decode cL_law 964 = .ok (.iadd, 1) := by decide +kernel
theorem dL_law_965 : decode cL_law 965 = .ok (.iaload, 1) := by decide +kernel
theorem dL_law_966 : decode cL_law 966 = .ok (.invokevirtual 137, 3) := by decide +kernel
theorem dL_law_969 : decode cL_law 969 = .ok (.if_icmp .eq 41, 3) := by decide +kernel
theorem dL_law_974 : decode cL_law 974 = .ok (.aload_n 1, 1) := by decide +kernel
theorem dL_law_975 : decode cL_law 975 = .ok (.aload_n 0, 1) := by decide +kernel
theorem dL_law_976 : decode cL_law 976 = .ok (.iload_n 3, 1) := by decide +kernel
theorem dL_law_977 : decode cL_law 977 = .ok (.iconst 1, 1) := by decide +kernel
theorem dL_law_978 : decode cL_law 978 = .ok (.iadd, 1) := by decide +kernel
theorem dL_law_979 : decode cL_law 979 = .ok (.iaload, 1) := by decide +kernel
theorem dL_law_980 : decode cL_law 980 = .ok (.invokevirtual 138, 3) := by decide +kernel
theorem dL_law_983 : decode cL_law 983 = .ok (.aload_n 2, 1) := by decide +kernel
theorem dL_law_984 : decode cL_law 984 = .ok (.aload_n 0, 1) := by decide +kernel
theorem dL_law_985 : decode cL_law 985 = .ok (.iload_n 3, 1) := by decide +kernel
theorem dL_law_986 : decode cL_law 986 = .ok (.iconst 1, 1) := by decide +kernel
theorem dL_law_987 : decode cL_law 987 = .ok (.iadd, 1) := by decide +kernel
theorem dL_law_988 : decode cL_law 988 = .ok (.iaload, 1) := by decide +kernel
theorem dL_law_989 : decode cL_law 989 = .ok (.invokevirtual 141, 3) := by decide +kernel
theorem dL_law_992 : decode cL_law 992 = .ok (.if_icmp .eq 18, 3) := by decide +kernel
theorem dL_law_997 : decode cL_law 997 = .ok (.aload_n 1, 1) := by decide +kernel
theorem dL_law_998 : decode cL_law 998 = .ok (.invokevirtual 142, 3) := by decide +kernel
theorem dL_law_1001 : decode cL_law 1001 = .ok (.aload_n 2, 1) := by decide +kernel
theorem dL_law_1002 : decode cL_law 1002 = .ok (.invokevirtual 145, 3) := by decide +kernel
theorem dL_law_1005 : decode cL_law 1005 = .ok (.if_icmp .eq 5, 3) := by decide +kernel
theorem dL_law_1010 : decode cL_law 1010 = .ok (.iinc 3 6, 3) := by decide +kernel
theorem dL_law_1013 : decode cL_law 1013 = .ok (.goto (-995), 3) := by decide +kernel
theorem dL_law_1016 : decode cL_law 1016 = .ok (.iconst 1, 1) := by decide +kernel
theorem dL_law_1017 : decode cL_law 1017 = .ok (.ireturn, 1) := by decide +kernel
theorem dX0_init_0 : decode cX0_init 0 = .ok (.aload_n 0, 1) := by decide +kernel
theorem dX0_init_1 : decode cX0_init 1 = .ok (.invokespecial 1, 3) := by decide +kernel
theorem dX0_init_4 : decode cX0_init 4 = .ok (.aload_n 0, 1) := by decide +kernel
theorem dX0_init_5 : decode cX0_init 5 = .ok (.bipush 64, 2) := by decide +kernel
theorem dX0_init_7 : decode cX0_init 7 = .ok (.newarray .byte, 2) := by decide +kernel
theorem dX0_init_9 : decode cX0_init 9 = .ok (.putfield 7, 3) := by decide +kernel
theorem dX0_init_12 : decode cX0_init 12 = .ok (.return_, 1) := by decide +kernel
theorem dX0_put_0 : decode cX0_put 0 = .ok (.aload_n 0, 1) := by decide +kernel
theorem dX0_put_1 : decode cX0_put 1 = .ok (.getfield 13, 3) := by decide +kernel
theorem dX0_put_4 : decode cX0_put 4 = .ok (.aload_n 0, 1) := by decide +kernel
theorem dX0_put_5 : decode cX0_put 5 = .ok (.getfield 7, 3) := by decide +kernel
theorem dX0_put_8 : decode cX0_put 8 = .ok (.arraylength, 1) := by decide +kernel
theorem dX0_put_9 : decode cX0_put 9 = .ok (.if_icmp .lt 21, 3) := by decide +kernel
theorem dX0_put_30 : decode cX0_put 30 = .ok (.aload_n 0, 1) := by decide +kernel
theorem dX0_put_31 : decode cX0_put 31 = .ok (.getfield 7, 3) := by decide +kernel
theorem dX0_put_34 : decode cX0_put 34 = .ok (.aload_n 0, 1) := by decide +kernel
theorem dX0_put_35 : decode cX0_put 35 = .ok (.getfield 13, 3) := by decide +kernel
theorem dX0_put_38 : decode cX0_put 38 = .ok (.iload_n 1, 1) := by decide +kernel
theorem dX0_put_39 : decode cX0_put 39 = .ok (.i2b, 1) := by decide +kernel
theorem dX0_put_40 : decode cX0_put 40 = .ok (.bastore, 1) := by decide +kernel
theorem dX0_put_41 : decode cX0_put 41 = .ok (.aload_n 0, 1) := by decide +kernel
theorem dX0_put_42 : decode cX0_put 42 = .ok (.dup, 1) := by decide +kernel
theorem dX0_put_43 : decode cX0_put 43 = .ok (.getfield 13, 3) := by decide +kernel
theorem dX0_put_46 : decode cX0_put 46 = .ok (.iconst 1, 1) := by decide +kernel
theorem dX0_put_47 : decode cX0_put 47 = .ok (.iadd, 1) := by decide +kernel
theorem dX0_put_48 : decode cX0_put 48 = .ok (.putfield 13, 3) := by decide +kernel
theorem dX0_put_51 : decode cX0_put 51 = .ok (.return_, 1) := by decide +kernel
theorem dX0_put2_0 : decode cX0_put2 0 = .ok (.aload_n 0, 1) := by decide +kernel
theorem dX0_put2_1 : decode cX0_put2 1 = .ok (.iload_n 1, 1) := by decide +kernel
theorem dX0_put2_2 : decode cX0_put2 2 = .ok (.bipush 8, 2) := by decide +kernel
theorem dX0_put2_4 : decode cX0_put2 4 = .ok (.ishr, 1) := by decide +kernel
theorem dX0_put2_5 : decode cX0_put2 5 = .ok (.invokevirtual 23, 3) := by decide +kernel
theorem dX0_put2_8 : decode cX0_put2 8 = .ok (.aload_n 0, 1) := by decide +kernel
theorem dX0_put2_9 : decode cX0_put2 9 = .ok (.iload_n 1, 1) := by decide +kernel
theorem dX0_put2_10 : decode cX0_put2 10 = .ok (.invokevirtual 23, 3) := by decide +kernel
theorem dX0_put2_13 : decode cX0_put2 13 = .ok (.return_, 1) := by decide +kernel
theorem dX0_put4_0 : decode cX0_put4 0 = .ok (.aload_n 0, 1) := by decide +kernel
theorem dX0_put4_1 : decode cX0_put4 1 = .ok (.iload_n 1, 1) := by decide +kernel
theorem dX0_put4_2 : decode cX0_put4 2 = .ok (.bipush 16, 2) := by decide +kernel
theorem dX0_put4_4 : decode cX0_put4 4 = .ok (.ishr, 1) := by decide +kernel
theorem dX0_put4_5 : decode cX0_put4 5 = .ok (.invokevirtual 27, 3) := by decide +kernel
theorem dX0_put4_8 : decode cX0_put4 8 = .ok (.aload_n 0, 1) := by decide +kernel
theorem dX0_put4_9 : decode cX0_put4 9 = .ok (.iload_n 1, 1) := by decide +kernel
theorem dX0_put4_10 : decode cX0_put4 10 = .ok (.invokevirtual 27, 3) := by decide +kernel
theorem dX0_put4_13 : decode cX0_put4 13 = .ok (.return_, 1) := by decide +kernel
theorem dX11_init_0 : decode cX11_init 0 = .ok (.aload_n 0, 1) := by decide +kernel
theorem dX11_init_1 : decode cX11_init 1 = .ok (.invokespecial 3, 3) := by decide +kernel
theorem dX11_init_4 : decode cX11_init 4 = .ok (.aload_n 0, 1) := by decide +kernel
theorem dX11_init_5 : decode cX11_init 5 = .ok (.new 9, 3) := by decide +kernel
theorem dX11_init_8 : decode cX11_init 8 = .ok (.dup, 1) := by decide +kernel
theorem dX11_init_9 : decode cX11_init 9 = .ok (.invokespecial 11, 3) := by decide +kernel
theorem dX11_init_12 : decode cX11_init 12 = .ok (.putfield 12, 3) := by decide +kernel
theorem dX11_init_15 : decode cX11_init 15 = .ok (.aload_n 0, 1) := by decide +kernel
theorem dX11_init_16 : decode cX11_init 16 = .ok (.new 9, 3) := by decide +kernel
theorem dX11_init_19 : decode cX11_init 19 = .ok (.dup, 1) := by decide +kernel
theorem dX11_init_20 : decode cX11_init 20 = .ok (.invokespecial 11, 3) := by decide +kernel
theorem dX11_init_23 : decode cX11_init 23 = .ok (.putfield 18, 3) := by decide +kernel
theorem dX11_init_26 : decode cX11_init 26 = .ok (.aload_n 0, 1) := by decide +kernel
theorem dX11_init_27 : decode cX11_init 27 = .ok (.new 9, 3) := by decide +kernel
theorem dX11_init_30 : decode cX11_init 30 = .ok (.dup, 1) := by decide +kernel
theorem dX11_init_31 : decode cX11_init 31 = .ok (.invokespecial 11, 3) := by decide +kernel
theorem dX11_init_34 : decode cX11_init 34 = .ok (.putfield 21, 3) := by decide +kernel
theorem dX11_init_37 : decode cX11_init 37 = .ok (.aload_n 0, 1) := by decide +kernel
theorem dX11_init_38 : decode cX11_init 38 = .ok (.sipush 500, 3) := by decide +kernel
theorem dX11_init_41 : decode cX11_init 41 = .ok (.newarray .int, 2) := by decide +kernel
theorem dX11_init_43 : decode cX11_init 43 = .ok (.putfield 24, 3) := by decide +kernel
theorem dX11_init_46 : decode cX11_init 46 = .ok (.aload_n 0, 1) := by decide +kernel
theorem dX11_init_47 : decode cX11_init 47 = .ok (.sipush 500, 3) := by decide +kernel
theorem dX11_init_50 : decode cX11_init 50 = .ok (.newarray .int, 2) := by decide +kernel
theorem dX11_init_52 : decode cX11_init 52 = .ok (.putfield 28, 3) := by decide +kernel
theorem dX11_init_55 : decode cX11_init 55 = .ok (.aload_n 0, 1) := by decide +kernel
theorem dX11_init_56 : decode cX11_init 56 = .ok (.bipush 24, 2) := by decide +kernel
theorem dX11_init_58 : decode cX11_init 58 = .ok (.newarray .int, 2) := by decide +kernel
theorem dX11_init_60 : decode cX11_init 60 = .ok (.putfield 31, 3) := by decide +kernel
theorem dX11_init_63 : decode cX11_init 63 = .ok (.aload_n 0, 1) := by decide +kernel
theorem dX11_init_64 : decode cX11_init 64 = .ok (.bipush 24, 2) := by decide +kernel
theorem dX11_init_66 : decode cX11_init 66 = .ok (.newarray .int, 2) := by decide +kernel
theorem dX11_init_68 : decode cX11_init 68 = .ok (.putfield 34, 3) := by decide +kernel
theorem dX11_init_71 : decode cX11_init 71 = .ok (.aload_n 0, 1) := by decide +kernel
theorem dX11_init_72 : decode cX11_init 72 = .ok (.bipush 24, 2) := by decide +kernel
theorem dX11_init_74 : decode cX11_init 74 = .ok (.newarray .int, 2) := by decide +kernel
theorem dX11_init_76 : decode cX11_init 76 = .ok (.putfield 37, 3) := by decide +kernel
theorem dX11_init_79 : decode cX11_init 79 = .ok (.aload_n 0, 1) := by decide +kernel
theorem dX11_init_80 : decode cX11_init 80 = .ok (.bipush 24, 2) := by decide +kernel
theorem dX11_init_82 : decode cX11_init 82 = .ok (.newarray .int, 2) := by decide +kernel
theorem dX11_init_84 : decode cX11_init 84 = .ok (.putfield 40, 3) := by decide +kernel
theorem dX11_init_87 : decode cX11_init 87 = .ok (.aload_n 0, 1) := by decide +kernel
theorem dX11_init_88 : decode cX11_init 88 = .ok (.new 43, 3) := by decide +kernel
theorem dX11_init_91 : decode cX11_init 91 = .ok (.dup, 1) := by decide +kernel
theorem dX11_init_92 : decode cX11_init 92 = .ok (.invokespecial 45, 3) := by decide +kernel
theorem dX11_init_95 : decode cX11_init 95 = .ok (.putfield 46, 3) := by decide +kernel
theorem dX11_init_98 : decode cX11_init 98 = .ok (.aload_n 0, 1) := by decide +kernel
theorem dX11_init_99 : decode cX11_init 99 = .ok (.iconst 0, 1) := by decide +kernel
theorem dX11_init_100 : decode cX11_init 100 = .ok (.newarray .int, 2) := by decide +kernel
theorem dX11_init_102 : decode cX11_init 102 = .ok (.putfield 50, 3) := by decide +kernel
theorem dX11_init_105 : decode cX11_init 105 = .ok (.aload_n 0, 1) := by decide +kernel
theorem dX11_init_106 : decode cX11_init 106 = .ok (.iconst 0, 1) := by decide +kernel
theorem dX11_init_107 : decode cX11_init 107 = .ok (.newarray .int, 2) := by decide +kernel
theorem dX11_init_109 : decode cX11_init 109 = .ok (.putfield 53, 3) := by decide +kernel
theorem dX11_init_112 : decode cX11_init 112 = .ok (.return_, 1) := by decide +kernel
theorem dX12_applied_0 : decode cX12_applied 0 = .ok (.aload_n 0, 1) := by decide +kernel
theorem dX12_applied_1 : decode cX12_applied 1 = .ok (.getfield 66, 3) := by decide +kernel
theorem dX12_applied_4 : decode cX12_applied 4 = .ok (.iload_n 1, 1) := by decide +kernel
theorem dX12_applied_5 : decode cX12_applied 5 = .ok (.invokevirtual 244, 3) := by decide +kernel
theorem dX12_applied_8 : decode cX12_applied 8 = .ok (.ireturn, 1) := by decide +kernel
theorem dX12_argument_0 : decode cX12_argument 0 = .ok (.aload_n 0, 1) := by decide +kernel
theorem dX12_argument_1 : decode cX12_argument 1 = .ok (.getfield 52, 3) := by decide +kernel
theorem dX12_argument_4 : decode cX12_argument 4 = .ok (.lload_n 1, 1) := by decide +kernel
theorem dX12_argument_5 : decode cX12_argument 5 = .ok (.invokevirtual 182, 3) := by decide +kernel
theorem dX12_argument_8 : decode cX12_argument 8 = .ok (.ireturn, 1) := by decide +kernel
theorem dX12_arrayLength_0 : decode cX12_arrayLength 0 = .ok (.aload_n 0, 1) := by decide +kernel
theorem dX12_arrayLength_1 : decode cX12_arrayLength 1 = .ok (.getfield 52, 3) := by decide +kernel
theorem dX12_arrayLength_4 : decode cX12_arrayLength 4 = .ok (.iload_n 1, 1) := by decide +kernel
end
section
theorem dX12_arrayLength_5 : decode cX12_arrayLength 5 = .ok (.invokevirtual 212, 3) := by decide +kernel
theorem dX12_arrayLength_8 : decode cX12_arrayLength 8 = .ok (.ireturn, 1) := by decide +kernel
theorem dX12_at_0 : decode cX12_at 0 = .ok (.aload_n 0, 1) := by decide +kernel
theorem dX12_at_1 : decode cX12_at 1 = .ok (.getfield 77, 3) := by decide +kernel
theorem dX12_at_4 : decode cX12_at 4 = .ok (.ireturn, 1) := by decide +kernel
theorem dX12_block_0 : decode cX12_block 0 = .ok (.aload_n 0, 1) := by decide +kernel
theorem dX12_block_1 : decode cX12_block 1 = .ok (.iload_n 1, 1) := by decide +kernel
theorem dX12_block_2 : decode cX12_block 2 = .ok (.iload_n 2, 1) := by decide +kernel
theorem dX12_block_3 : decode cX12_block 3 = .ok (.invokevirtual 132, 3) := by decide +kernel
theorem dX12_block_6 : decode cX12_block 6 = .ok (.astore 5, 2) := by decide +kernel
theorem dX12_block_8 : decode cX12_block 8 = .ok (.aload 5, 2) := by decide +kernel
theorem dX12_block_10 : decode cX12_block 10 = .ok (.ifnonnull 5, 3) := by decide +kernel
theorem dX12_block_13 : decode cX12_block 13 = .ok (.iconst (-1), 1) := by decide +kernel
theorem dX12_block_14 : decode cX12_block 14 = .ok (.ireturn, 1) := by decide +kernel
theorem dX12_blocks_0 : decode cX12_blocks 0 = .ok (.aload_n 0, 1) := by decide +kernel
theorem dX12_blocks_1 : decode cX12_blocks 1 = .ok (.iload_n 1, 1) := by decide +kernel
theorem dX12_blocks_2 : decode cX12_blocks 2 = .ok (.iload_n 2, 1) := by decide +kernel
theorem dX12_blocks_3 : decode cX12_blocks 3 = .ok (.invokevirtual 132, 3) := by decide +kernel
theorem dX12_blocks_6 : decode cX12_blocks 6 = .ok (.astore_n 3, 1) := by decide +kernel
theorem dX12_blocks_7 : decode cX12_blocks 7 = .ok (.aload_n 3, 1) := by decide +kernel
theorem dX12_blocks_8 : decode cX12_blocks 8 = .ok (.ifnonnull 5, 3) := by decide +kernel
theorem dX12_blocks_11 : decode cX12_blocks 11 = .ok (.iconst (-1), 1) := by decide +kernel
theorem dX12_blocks_12 : decode cX12_blocks 12 = .ok (.ireturn, 1) := by decide +kernel
theorem dX12_byteAt_0 : decode cX12_byteAt 0 = .ok (.iload_n 1, 1) := by decide +kernel
theorem dX12_byteAt_1 : decode cX12_byteAt 1 = .ok (.ifCond .lt 14, 3) := by decide +kernel
theorem dX12_byteAt_4 : decode cX12_byteAt 4 = .ok (.iload_n 1, 1) := by decide +kernel
theorem dX12_byteAt_5 : decode cX12_byteAt 5 = .ok (.aload_n 0, 1) := by decide +kernel
theorem dX12_byteAt_6 : decode cX12_byteAt 6 = .ok (.getfield 16, 3) := by decide +kernel
theorem dX12_byteAt_9 : decode cX12_byteAt 9 = .ok (.getfield 83, 3) := by decide +kernel
theorem dX12_byteAt_12 : decode cX12_byteAt 12 = .ok (.if_icmp .lt 7, 3) := by decide +kernel
theorem dX12_byteAt_15 : decode cX12_byteAt 15 = .ok (.iconst (-1), 1) := by decide +kernel
theorem dX12_byteAt_16 : decode cX12_byteAt 16 = .ok (.goto 11, 3) := by decide +kernel
theorem dX12_byteAt_27 : decode cX12_byteAt 27 = .ok (.ireturn, 1) := by decide +kernel
theorem dX12_count_0 : decode cX12_count 0 = .ok (.aload_n 0, 1) := by decide +kernel
theorem dX12_count_1 : decode cX12_count 1 = .ok (.iload_n 1, 1) := by decide +kernel
theorem dX12_count_2 : decode cX12_count 2 = .ok (.invokevirtual 152, 3) := by decide +kernel
theorem dX12_count_5 : decode cX12_count 5 = .ok (.astore_n 2, 1) := by decide +kernel
theorem dX12_count_6 : decode cX12_count 6 = .ok (.aload_n 2, 1) := by decide +kernel
theorem dX12_count_7 : decode cX12_count 7 = .ok (.ifnonnull 5, 3) := by decide +kernel
theorem dX12_count_10 : decode cX12_count 10 = .ok (.iconst (-1), 1) := by decide +kernel
theorem dX12_count_11 : decode cX12_count 11 = .ok (.ireturn, 1) := by decide +kernel
theorem dX12_edge_0 : decode cX12_edge 0 = .ok (.aload_n 0, 1) := by decide +kernel
theorem dX12_edge_1 : decode cX12_edge 1 = .ok (.iload_n 1, 1) := by decide +kernel
theorem dX12_edge_2 : decode cX12_edge 2 = .ok (.iload_n 2, 1) := by decide +kernel
theorem dX12_edge_3 : decode cX12_edge 3 = .ok (.invokevirtual 132, 3) := by decide +kernel
theorem dX12_edge_6 : decode cX12_edge 6 = .ok (.astore 5, 2) := by decide +kernel
theorem dX12_edge_8 : decode cX12_edge 8 = .ok (.aload 5, 2) := by decide +kernel
theorem dX12_edge_10 : decode cX12_edge 10 = .ok (.ifnonnull 5, 3) := by decide +kernel
theorem dX12_edge_13 : decode cX12_edge 13 = .ok (.iconst 0, 1) := by decide +kernel
theorem dX12_edge_14 : decode cX12_edge 14 = .ok (.ireturn, 1) := by decide +kernel
theorem dX12_element_0 : decode cX12_element 0 = .ok (.aload_n 0, 1) := by decide +kernel
theorem dX12_element_1 : decode cX12_element 1 = .ok (.getfield 52, 3) := by decide +kernel
theorem dX12_element_4 : decode cX12_element 4 = .ok (.iload_n 1, 1) := by decide +kernel
theorem dX12_element_5 : decode cX12_element 5 = .ok (.iload_n 2, 1) := by decide +kernel
theorem dX12_element_6 : decode cX12_element 6 = .ok (.invokevirtual 209, 3) := by decide +kernel
theorem dX12_element_9 : decode cX12_element 9 = .ok (.ireturn, 1) := by decide +kernel
theorem dX12_end_0 : decode cX12_end 0 = .ok (.iload_n 1, 1) := by decide +kernel
theorem dX12_end_1 : decode cX12_end 1 = .ok (.ifCond .lt 14, 3) := by decide +kernel
theorem dX12_end_4 : decode cX12_end 4 = .ok (.iload_n 1, 1) := by decide +kernel
theorem dX12_end_5 : decode cX12_end 5 = .ok (.aload_n 0, 1) := by decide +kernel
theorem dX12_end_6 : decode cX12_end 6 = .ok (.getfield 10, 3) := by decide +kernel
theorem dX12_end_9 : decode cX12_end 9 = .ok (.getfield 83, 3) := by decide +kernel
theorem dX12_end_12 : decode cX12_end 12 = .ok (.if_icmp .le 5, 3) := by decide +kernel
theorem dX12_end_15 : decode cX12_end 15 = .ok (.iconst 0, 1) := by decide +kernel
theorem dX12_end_16 : decode cX12_end 16 = .ok (.ireturn, 1) := by decide +kernel
theorem dX12_end_17 : decode cX12_end 17 = .ok (.aload_n 0, 1) := by decide +kernel
theorem dX12_end_18 : decode cX12_end 18 = .ok (.getfield 10, 3) := by decide +kernel
theorem dX12_end_21 : decode cX12_end 21 = .ok (.iload_n 1, 1) := by decide +kernel
theorem dX12_end_22 : decode cX12_end 22 = .ok (.putfield 83, 3) := by decide +kernel
theorem dX12_end_25 : decode cX12_end 25 = .ok (.iconst 1, 1) := by decide +kernel
theorem dX12_end_26 : decode cX12_end 26 = .ok (.ireturn, 1) := by decide +kernel
theorem dX12_error_0 : decode cX12_error 0 = .ok (.aload_n 0, 1) := by decide +kernel
theorem dX12_error_1 : decode cX12_error 1 = .ok (.getfield 52, 3) := by decide +kernel
theorem dX12_error_4 : decode cX12_error 4 = .ok (.getfield 199, 3) := by decide +kernel
theorem dX12_error_7 : decode cX12_error 7 = .ok (.ireturn, 1) := by decide +kernel
theorem dX12_feed_0 : decode cX12_feed 0 = .ok (.aload_n 0, 1) := by decide +kernel
theorem dX12_feed_1 : decode cX12_feed 1 = .ok (.getfield 10, 3) := by decide +kernel
theorem dX12_feed_4 : decode cX12_feed 4 = .ok (.getfield 83, 3) := by decide +kernel
theorem dX12_feed_7 : decode cX12_feed 7 = .ok (.bipush 20, 2) := by decide +kernel
theorem dX12_feed_9 : decode cX12_feed 9 = .ok (.iadd, 1) := by decide +kernel
theorem dX12_feed_10 : decode cX12_feed 10 = .ok (.sipush 16000, 3) := by decide +kernel
theorem dX12_feed_13 : decode cX12_feed 13 = .ok (.if_icmp .gt 15, 3) := by decide +kernel
theorem dX12_feed_16 : decode cX12_feed 16 = .ok (.aload_n 0, 1) := by decide +kernel
theorem dX12_feed_17 : decode cX12_feed 17 = .ok (.getfield 86, 3) := by decide +kernel
theorem dX12_feed_20 : decode cX12_feed 20 = .ok (.bipush 20, 2) := by decide +kernel
theorem dX12_feed_22 : decode cX12_feed 22 = .ok (.iadd, 1) := by decide +kernel
theorem dX12_feed_23 : decode cX12_feed 23 = .ok (.ldc 89, 2) := by decide +kernel
theorem dX12_feed_25 : decode cX12_feed 25 = .ok (.if_icmp .le 5, 3) := by decide +kernel
theorem dX12_feed_30 : decode cX12_feed 30 = .ok (.aload_n 0, 1) := by decide +kernel
theorem dX12_feed_31 : decode cX12_feed 31 = .ok (.getfield 10, 3) := by decide +kernel
theorem dX12_feed_34 : decode cX12_feed 34 = .ok (.iload_n 1, 1) := by decide +kernel
theorem dX12_feed_35 : decode cX12_feed 35 = .ok (.invokevirtual 90, 3) := by decide +kernel
theorem dX12_feed_38 : decode cX12_feed 38 = .ok (.aload_n 0, 1) := by decide +kernel
theorem dX12_feed_39 : decode cX12_feed 39 = .ok (.getfield 10, 3) := by decide +kernel
theorem dX12_feed_42 : decode cX12_feed 42 = .ok (.iload_n 2, 1) := by decide +kernel
theorem dX12_feed_43 : decode cX12_feed 43 = .ok (.invokevirtual 90, 3) := by decide +kernel
theorem dX12_feed_46 : decode cX12_feed 46 = .ok (.aload_n 0, 1) := by decide +kernel
theorem dX12_feed_47 : decode cX12_feed 47 = .ok (.getfield 10, 3) := by decide +kernel
theorem dX12_feed_50 : decode cX12_feed 50 = .ok (.iload_n 3, 1) := by decide +kernel
theorem dX12_feed_51 : decode cX12_feed 51 = .ok (.invokevirtual 90, 3) := by decide +kernel
theorem dX12_feed_54 : decode cX12_feed 54 = .ok (.aload_n 0, 1) := by decide +kernel
theorem dX12_feed_55 : decode cX12_feed 55 = .ok (.getfield 10, 3) := by decide +kernel
theorem dX12_feed_58 : decode cX12_feed 58 = .ok (.iload 4, 2) := by decide +kernel
theorem dX12_feed_60 : decode cX12_feed 60 = .ok (.invokevirtual 90, 3) := by decide +kernel
theorem dX12_feed_63 : decode cX12_feed 63 = .ok (.aload_n 0, 1) := by decide +kernel
theorem dX12_feed_64 : decode cX12_feed 64 = .ok (.getfield 10, 3) := by decide +kernel
theorem dX12_feed_67 : decode cX12_feed 67 = .ok (.iload 5, 2) := by decide +kernel
theorem dX12_feed_69 : decode cX12_feed 69 = .ok (.invokevirtual 90, 3) := by decide +kernel
theorem dX12_feed_72 : decode cX12_feed 72 = .ok (.aload_n 0, 1) := by decide +kernel
theorem dX12_feed_73 : decode cX12_feed 73 = .ok (.dup, 1) := by decide +kernel
theorem dX12_feed_74 : decode cX12_feed 74 = .ok (.getfield 86, 3) := by decide +kernel
theorem dX12_feed_77 : decode cX12_feed 77 = .ok (.bipush 20, 2) := by decide +kernel
theorem dX12_feed_79 : decode cX12_feed 79 = .ok (.iadd, 1) := by decide +kernel
theorem dX12_feed_80 : decode cX12_feed 80 = .ok (.putfield 86, 3) := by decide +kernel
theorem dX12_feed_83 : decode cX12_feed 83 = .ok (.aload_n 0, 1) := by decide +kernel
theorem dX12_feed_84 : decode cX12_feed 84 = .ok (.getfield 10, 3) := by decide +kernel
theorem dX12_feed_87 : decode cX12_feed 87 = .ok (.getfield 83, 3) := by decide +kernel
theorem dX12_feed_90 : decode cX12_feed 90 = .ok (.ireturn, 1) := by decide +kernel
theorem dX12_field_0 : decode cX12_field 0 = .ok (.aload_n 0, 1) := by decide +kernel
theorem dX12_field_1 : decode cX12_field 1 = .ok (.getfield 52, 3) := by decide +kernel
theorem dX12_field_4 : decode cX12_field 4 = .ok (.iload_n 1, 1) := by decide +kernel
theorem dX12_field_5 : decode cX12_field 5 = .ok (.invokevirtual 205, 3) := by decide +kernel
theorem dX12_field_8 : decode cX12_field 8 = .ok (.lreturn, 1) := by decide +kernel
theorem dX12_file_0 : decode cX12_file 0 = .ok (.aload_n 0, 1) := by decide +kernel
theorem dX12_file_1 : decode cX12_file 1 = .ok (.getfield 94, 3) := by decide +kernel
theorem dX12_file_4 : decode cX12_file 4 = .ok (.bipush 12, 2) := by decide +kernel
theorem dX12_file_6 : decode cX12_file 6 = .ok (.if_icmp .lt 6, 3) := by decide +kernel
theorem dX12_file_12 : decode cX12_file 12 = .ok (.aload_n 0, 1) := by decide +kernel
theorem dX12_file_13 : decode cX12_file 13 = .ok (.getfield 31, 3) := by decide +kernel
theorem dX12_file_16 : decode cX12_file 16 = .ok (.aload_n 0, 1) := by decide +kernel
theorem dX12_file_17 : decode cX12_file 17 = .ok (.getfield 10, 3) := by decide +kernel
theorem dX12_file_20 : decode cX12_file 20 = .ok (.invokevirtual 97, 3) := by decide +kernel
theorem dX12_file_23 : decode cX12_file 23 = .ok (.astore_n 1, 1) := by decide +kernel
theorem dX12_file_24 : decode cX12_file 24 = .ok (.aload_n 0, 1) := by decide +kernel
theorem dX12_file_25 : decode cX12_file 25 = .ok (.getfield 10, 3) := by decide +kernel
theorem dX12_file_28 : decode cX12_file 28 = .ok (.iconst 0, 1) := by decide +kernel
theorem dX12_file_29 : decode cX12_file 29 = .ok (.putfield 83, 3) := by decide +kernel
theorem dX12_file_32 : decode cX12_file 32 = .ok (.aload_n 0, 1) := by decide +kernel
theorem dX12_file_33 : decode cX12_file 33 = .ok (.aload_n 0, 1) := by decide +kernel
theorem dX12_file_34 : decode cX12_file 34 = .ok (.getfield 31, 3) := by decide +kernel
theorem dX12_file_37 : decode cX12_file 37 = .ok (.getfield 101, 3) := by decide +kernel
theorem dX12_file_40 : decode cX12_file 40 = .ok (.getfield 105, 3) := by decide +kernel
theorem dX12_file_43 : decode cX12_file 43 = .ok (.putfield 110, 3) := by decide +kernel
theorem dX12_file_46 : decode cX12_file 46 = .ok (.aload_n 0, 1) := by decide +kernel
theorem dX12_file_47 : decode cX12_file 47 = .ok (.aload_n 0, 1) := by decide +kernel
theorem dX12_file_48 : decode cX12_file 48 = .ok (.getfield 31, 3) := by decide +kernel
theorem dX12_file_51 : decode cX12_file 51 = .ok (.getfield 101, 3) := by decide +kernel
theorem dX12_file_54 : decode cX12_file 54 = .ok (.getfield 111, 3) := by decide +kernel
theorem dX12_file_57 : decode cX12_file 57 = .ok (.putfield 70, 3) := by decide +kernel
theorem dX12_file_60 : decode cX12_file 60 = .ok (.aload_n 0, 1) := by decide +kernel
end
section
theorem dX12_file_61 : decode cX12_file 61 = .ok (.aload_n 1, 1) := by decide +kernel
theorem dX12_file_62 : decode cX12_file 62 = .ok (.iconst (-1), 1) := by decide +kernel
theorem dX12_file_63 : decode cX12_file 63 = .ok (.invokevirtual 112, 3) := by decide +kernel
theorem dX12_file_66 : decode cX12_file 66 = .ok (.ireturn, 1) := by decide +kernel
theorem dX12_height_0 : decode cX12_height 0 = .ok (.aload_n 0, 1) := by decide +kernel
theorem dX12_height_1 : decode cX12_height 1 = .ok (.iload_n 1, 1) := by decide +kernel
theorem dX12_height_2 : decode cX12_height 2 = .ok (.invokevirtual 152, 3) := by decide +kernel
theorem dX12_height_5 : decode cX12_height 5 = .ok (.ifnonnull 7, 3) := by decide +kernel
theorem dX12_height_8 : decode cX12_height 8 = .ok (.aconst_null, 1) := by decide +kernel
theorem dX12_height_9 : decode cX12_height 9 = .ok (.goto 9, 3) := by decide +kernel
theorem dX12_height_18 : decode cX12_height 18 = .ok (.astore 4, 2) := by decide +kernel
theorem dX12_height_20 : decode cX12_height 20 = .ok (.aload 4, 2) := by decide +kernel
theorem dX12_height_22 : decode cX12_height 22 = .ok (.ifnonnull 7, 3) := by decide +kernel
theorem dX12_height_25 : decode cX12_height 25 = .ok (.iconst (-1), 1) := by decide +kernel
theorem dX12_height_26 : decode cX12_height 26 = .ok (.goto 9, 3) := by decide +kernel
theorem dX12_height_35 : decode cX12_height 35 = .ok (.ireturn, 1) := by decide +kernel
theorem dX12_improve_0 : decode cX12_improve 0 = .ok (.aload_n 0, 1) := by decide +kernel
theorem dX12_improve_1 : decode cX12_improve 1 = .ok (.getfield 66, 3) := by decide +kernel
theorem dX12_improve_4 : decode cX12_improve 4 = .ok (.invokevirtual 226, 3) := by decide +kernel
theorem dX12_improve_7 : decode cX12_improve 7 = .ok (.aload_n 0, 1) := by decide +kernel
theorem dX12_improve_8 : decode cX12_improve 8 = .ok (.iload_n 1, 1) := by decide +kernel
theorem dX12_improve_9 : decode cX12_improve 9 = .ok (.invokevirtual 152, 3) := by decide +kernel
theorem dX12_improve_12 : decode cX12_improve 12 = .ok (.astore_n 3, 1) := by decide +kernel
theorem dX12_improve_13 : decode cX12_improve 13 = .ok (.aload_n 3, 1) := by decide +kernel
theorem dX12_improve_14 : decode cX12_improve 14 = .ok (.ifnull 14, 3) := by decide +kernel
theorem dX12_improve_28 : decode cX12_improve 28 = .ok (.iconst (-1), 1) := by decide +kernel
theorem dX12_improve_29 : decode cX12_improve 29 = .ok (.ireturn, 1) := by decide +kernel
theorem dX12_init_0 : decode cX12_init 0 = .ok (.aload_n 0, 1) := by decide +kernel
theorem dX12_init_1 : decode cX12_init 1 = .ok (.invokespecial 1, 3) := by decide +kernel
theorem dX12_init_4 : decode cX12_init 4 = .ok (.aload_n 0, 1) := by decide +kernel
theorem dX12_init_5 : decode cX12_init 5 = .ok (.new 7, 3) := by decide +kernel
theorem dX12_init_8 : decode cX12_init 8 = .ok (.dup, 1) := by decide +kernel
theorem dX12_init_9 : decode cX12_init 9 = .ok (.invokespecial 9, 3) := by decide +kernel
theorem dX12_init_12 : decode cX12_init 12 = .ok (.putfield 10, 3) := by decide +kernel
theorem dX12_init_15 : decode cX12_init 15 = .ok (.aload_n 0, 1) := by decide +kernel
theorem dX12_init_16 : decode cX12_init 16 = .ok (.new 7, 3) := by decide +kernel
theorem dX12_init_19 : decode cX12_init 19 = .ok (.dup, 1) := by decide +kernel
theorem dX12_init_20 : decode cX12_init 20 = .ok (.invokespecial 9, 3) := by decide +kernel
theorem dX12_init_23 : decode cX12_init 23 = .ok (.putfield 16, 3) := by decide +kernel
theorem dX12_init_26 : decode cX12_init 26 = .ok (.aload_n 0, 1) := by decide +kernel
theorem dX12_init_27 : decode cX12_init 27 = .ok (.new 7, 3) := by decide +kernel
theorem dX12_init_30 : decode cX12_init 30 = .ok (.dup, 1) := by decide +kernel
theorem dX12_init_31 : decode cX12_init 31 = .ok (.invokespecial 9, 3) := by decide +kernel
theorem dX12_init_34 : decode cX12_init 34 = .ok (.putfield 19, 3) := by decide +kernel
theorem dX12_init_37 : decode cX12_init 37 = .ok (.aload_n 0, 1) := by decide +kernel
theorem dX12_init_38 : decode cX12_init 38 = .ok (.bipush 12, 2) := by decide +kernel
theorem dX12_init_40 : decode cX12_init 40 = .ok (.anewarray 22, 3) := by decide +kernel
theorem dX12_init_43 : decode cX12_init 43 = .ok (.putfield 24, 3) := by decide +kernel
theorem dX12_init_46 : decode cX12_init 46 = .ok (.aload_n 0, 1) := by decide +kernel
theorem dX12_init_47 : decode cX12_init 47 = .ok (.new 28, 3) := by decide +kernel
theorem dX12_init_50 : decode cX12_init 50 = .ok (.dup, 1) := by decide +kernel
theorem dX12_init_51 : decode cX12_init 51 = .ok (.invokespecial 30, 3) := by decide +kernel
theorem dX12_init_54 : decode cX12_init 54 = .ok (.putfield 31, 3) := by decide +kernel
theorem dX12_init_57 : decode cX12_init 57 = .ok (.aload_n 0, 1) := by decide +kernel
theorem dX12_init_58 : decode cX12_init 58 = .ok (.new 35, 3) := by decide +kernel
theorem dX12_init_61 : decode cX12_init 61 = .ok (.dup, 1) := by decide +kernel
theorem dX12_init_62 : decode cX12_init 62 = .ok (.invokespecial 37, 3) := by decide +kernel
theorem dX12_init_65 : decode cX12_init 65 = .ok (.putfield 38, 3) := by decide +kernel
theorem dX12_init_68 : decode cX12_init 68 = .ok (.aload_n 0, 1) := by decide +kernel
theorem dX12_init_69 : decode cX12_init 69 = .ok (.new 42, 3) := by decide +kernel
theorem dX12_init_72 : decode cX12_init 72 = .ok (.dup, 1) := by decide +kernel
theorem dX12_init_73 : decode cX12_init 73 = .ok (.invokespecial 44, 3) := by decide +kernel
theorem dX12_init_76 : decode cX12_init 76 = .ok (.putfield 45, 3) := by decide +kernel
theorem dX12_init_79 : decode cX12_init 79 = .ok (.aload_n 0, 1) := by decide +kernel
theorem dX12_init_80 : decode cX12_init 80 = .ok (.new 49, 3) := by decide +kernel
theorem dX12_init_83 : decode cX12_init 83 = .ok (.dup, 1) := by decide +kernel
theorem dX12_init_84 : decode cX12_init 84 = .ok (.invokespecial 51, 3) := by decide +kernel
theorem dX12_init_87 : decode cX12_init 87 = .ok (.putfield 52, 3) := by decide +kernel
theorem dX12_init_90 : decode cX12_init 90 = .ok (.aload_n 0, 1) := by decide +kernel
theorem dX12_init_91 : decode cX12_init 91 = .ok (.new 56, 3) := by decide +kernel
theorem dX12_init_94 : decode cX12_init 94 = .ok (.dup, 1) := by decide +kernel
theorem dX12_init_95 : decode cX12_init 95 = .ok (.invokespecial 58, 3) := by decide +kernel
theorem dX12_init_98 : decode cX12_init 98 = .ok (.putfield 59, 3) := by decide +kernel
theorem dX12_init_101 : decode cX12_init 101 = .ok (.aload_n 0, 1) := by decide +kernel
theorem dX12_init_102 : decode cX12_init 102 = .ok (.new 63, 3) := by decide +kernel
theorem dX12_init_105 : decode cX12_init 105 = .ok (.dup, 1) := by decide +kernel
theorem dX12_init_106 : decode cX12_init 106 = .ok (.invokespecial 65, 3) := by decide +kernel
theorem dX12_init_109 : decode cX12_init 109 = .ok (.putfield 66, 3) := by decide +kernel
theorem dX12_init_112 : decode cX12_init 112 = .ok (.aload_n 0, 1) := by decide +kernel
theorem dX12_init_113 : decode cX12_init 113 = .ok (.iconst (-1), 1) := by decide +kernel
theorem dX12_init_114 : decode cX12_init 114 = .ok (.putfield 70, 3) := by decide +kernel
theorem dX12_init_117 : decode cX12_init 117 = .ok (.aload_n 0, 1) := by decide +kernel
theorem dX12_init_118 : decode cX12_init 118 = .ok (.iconst (-1), 1) := by decide +kernel
theorem dX12_init_119 : decode cX12_init 119 = .ok (.putfield 74, 3) := by decide +kernel
theorem dX12_init_122 : decode cX12_init 122 = .ok (.aload_n 0, 1) := by decide +kernel
theorem dX12_init_123 : decode cX12_init 123 = .ok (.iconst (-1), 1) := by decide +kernel
theorem dX12_init_124 : decode cX12_init 124 = .ok (.putfield 77, 3) := by decide +kernel
theorem dX12_init_127 : decode cX12_init 127 = .ok (.aload_n 0, 1) := by decide +kernel
theorem dX12_init_128 : decode cX12_init 128 = .ok (.iconst (-1), 1) := by decide +kernel
theorem dX12_init_129 : decode cX12_init 129 = .ok (.putfield 80, 3) := by decide +kernel
theorem dX12_init_132 : decode cX12_init 132 = .ok (.return_, 1) := by decide +kernel
theorem dX12_keep_0 : decode cX12_keep 0 = .ok (.aload_n 1, 1) := by decide +kernel
theorem dX12_keep_1 : decode cX12_keep 1 = .ok (.ifnull 12, 3) := by decide +kernel
theorem dX12_keep_13 : decode cX12_keep 13 = .ok (.iload_n 2, 1) := by decide +kernel
theorem dX12_keep_14 : decode cX12_keep 14 = .ok (.ireturn, 1) := by decide +kernel
theorem dX12_length_0 : decode cX12_length 0 = .ok (.aload_n 0, 1) := by decide +kernel
theorem dX12_length_1 : decode cX12_length 1 = .ok (.iload_n 1, 1) := by decide +kernel
theorem dX12_length_2 : decode cX12_length 2 = .ok (.iload_n 2, 1) := by decide +kernel
theorem dX12_length_3 : decode cX12_length 3 = .ok (.invokevirtual 132, 3) := by decide +kernel
theorem dX12_length_6 : decode cX12_length 6 = .ok (.astore_n 3, 1) := by decide +kernel
theorem dX12_length_7 : decode cX12_length 7 = .ok (.aload_n 3, 1) := by decide +kernel
theorem dX12_length_8 : decode cX12_length 8 = .ok (.ifnonnull 7, 3) := by decide +kernel
theorem dX12_length_11 : decode cX12_length 11 = .ok (.iconst (-1), 1) := by decide +kernel
theorem dX12_length_12 : decode cX12_length 12 = .ok (.goto 7, 3) := by decide +kernel
theorem dX12_length_19 : decode cX12_length 19 = .ok (.ireturn, 1) := by decide +kernel
theorem dX12_local_0 : decode cX12_local 0 = .ok (.aload_n 0, 1) := by decide +kernel
theorem dX12_local_1 : decode cX12_local 1 = .ok (.iload_n 1, 1) := by decide +kernel
theorem dX12_local_2 : decode cX12_local 2 = .ok (.invokevirtual 152, 3) := by decide +kernel
theorem dX12_local_5 : decode cX12_local 5 = .ok (.ifnonnull 7, 3) := by decide +kernel
theorem dX12_local_8 : decode cX12_local 8 = .ok (.aconst_null, 1) := by decide +kernel
theorem dX12_local_9 : decode cX12_local 9 = .ok (.goto 9, 3) := by decide +kernel
theorem dX12_local_18 : decode cX12_local 18 = .ok (.astore 5, 2) := by decide +kernel
theorem dX12_local_20 : decode cX12_local 20 = .ok (.aload 5, 2) := by decide +kernel
theorem dX12_local_22 : decode cX12_local 22 = .ok (.ifnull 24, 3) := by decide +kernel
theorem dX12_local_46 : decode cX12_local 46 = .ok (.iconst (-1), 1) := by decide +kernel
theorem dX12_local_47 : decode cX12_local 47 = .ok (.ireturn, 1) := by decide +kernel
theorem dX12_method_0 : decode cX12_method 0 = .ok (.aload_n 0, 1) := by decide +kernel
theorem dX12_method_1 : decode cX12_method 1 = .ok (.getfield 74, 3) := by decide +kernel
theorem dX12_method_4 : decode cX12_method 4 = .ok (.ireturn, 1) := by decide +kernel
theorem dX12_place_0 : decode cX12_place 0 = .ok (.aload_n 0, 1) := by decide +kernel
theorem dX12_place_1 : decode cX12_place 1 = .ok (.getfield 70, 3) := by decide +kernel
theorem dX12_place_4 : decode cX12_place 4 = .ok (.ireturn, 1) := by decide +kernel
theorem dX12_result_0 : decode cX12_result 0 = .ok (.aload_n 0, 1) := by decide +kernel
theorem dX12_result_1 : decode cX12_result 1 = .ok (.getfield 52, 3) := by decide +kernel
theorem dX12_result_4 : decode cX12_result 4 = .ok (.getfield 195, 3) := by decide +kernel
theorem dX12_result_7 : decode cX12_result 7 = .ok (.lreturn, 1) := by decide +kernel
theorem dX12_rowAt_0 : decode cX12_rowAt 0 = .ok (.aload_n 0, 1) := by decide +kernel
theorem dX12_rowAt_1 : decode cX12_rowAt 1 = .ok (.iload_n 1, 1) := by decide +kernel
theorem dX12_rowAt_2 : decode cX12_rowAt 2 = .ok (.invokevirtual 116, 3) := by decide +kernel
theorem dX12_rowAt_5 : decode cX12_rowAt 5 = .ok (.astore_n 3, 1) := by decide +kernel
theorem dX12_rowAt_6 : decode cX12_rowAt 6 = .ok (.aload_n 3, 1) := by decide +kernel
theorem dX12_rowAt_7 : decode cX12_rowAt 7 = .ok (.ifnonnull 7, 3) := by decide +kernel
theorem dX12_rowAt_10 : decode cX12_rowAt 10 = .ok (.aconst_null, 1) := by decide +kernel
theorem dX12_rowAt_11 : decode cX12_rowAt 11 = .ok (.goto 8, 3) := by decide +kernel
theorem dX12_rowAt_19 : decode cX12_rowAt 19 = .ok (.areturn, 1) := by decide +kernel
theorem dX12_rule_0 : decode cX12_rule 0 = .ok (.aload_n 0, 1) := by decide +kernel
theorem dX12_rule_1 : decode cX12_rule 1 = .ok (.getfield 110, 3) := by decide +kernel
theorem dX12_rule_4 : decode cX12_rule 4 = .ok (.ireturn, 1) := by decide +kernel
theorem dX12_run_0 : decode cX12_run 0 = .ok (.aload_n 0, 1) := by decide +kernel
theorem dX12_run_1 : decode cX12_run 1 = .ok (.getfield 52, 3) := by decide +kernel
theorem dX12_run_4 : decode cX12_run 4 = .ok (.iload_n 1, 1) := by decide +kernel
theorem dX12_run_5 : decode cX12_run 5 = .ok (.iload_n 2, 1) := by decide +kernel
theorem dX12_run_6 : decode cX12_run 6 = .ok (.invokevirtual 186, 3) := by decide +kernel
theorem dX12_run_9 : decode cX12_run 9 = .ok (.istore_n 3, 1) := by decide +kernel
theorem dX12_run_10 : decode cX12_run 10 = .ok (.iload_n 3, 1) := by decide +kernel
theorem dX12_run_11 : decode cX12_run 11 = .ok (.ifCond .ne 13, 3) := by decide +kernel
theorem dX12_run_24 : decode cX12_run 24 = .ok (.aload_n 0, 1) := by decide +kernel
theorem dX12_run_25 : decode cX12_run 25 = .ok (.getfield 52, 3) := by decide +kernel
theorem dX12_run_28 : decode cX12_run 28 = .ok (.iconst 0, 1) := by decide +kernel
theorem dX12_run_29 : decode cX12_run 29 = .ok (.putfield 192, 3) := by decide +kernel
end
section
theorem dX12_run_32 : decode cX12_run 32 = .ok (.iload_n 3, 1) := by decide +kernel
theorem dX12_run_33 : decode cX12_run 33 = .ok (.ireturn, 1) := by decide +kernel
theorem dX12_size_0 : decode cX12_size 0 = .ok (.aload_n 0, 1) := by decide +kernel
theorem dX12_size_1 : decode cX12_size 1 = .ok (.iload_n 1, 1) := by decide +kernel
theorem dX12_size_2 : decode cX12_size 2 = .ok (.invokevirtual 116, 3) := by decide +kernel
theorem dX12_size_5 : decode cX12_size 5 = .ok (.astore_n 3, 1) := by decide +kernel
theorem dX12_size_6 : decode cX12_size 6 = .ok (.aload_n 3, 1) := by decide +kernel
theorem dX12_size_7 : decode cX12_size 7 = .ok (.ifnonnull 5, 3) := by decide +kernel
theorem dX12_size_10 : decode cX12_size 10 = .ok (.iconst (-1), 1) := by decide +kernel
theorem dX12_size_11 : decode cX12_size 11 = .ok (.ireturn, 1) := by decide +kernel
theorem dX12_soundUnitAt_0 : decode cX12_soundUnitAt 0 = .ok (.aload_n 0, 1) := by decide +kernel
theorem dX12_soundUnitAt_1 : decode cX12_soundUnitAt 1 = .ok (.iload_n 1, 1) := by decide +kernel
theorem dX12_soundUnitAt_2 : decode cX12_soundUnitAt 2 = .ok (.invokevirtual 116, 3) := by decide +kernel
theorem dX12_soundUnitAt_5 : decode cX12_soundUnitAt 5 = .ok (.astore_n 2, 1) := by decide +kernel
theorem dX12_soundUnitAt_6 : decode cX12_soundUnitAt 6 = .ok (.aload_n 2, 1) := by decide +kernel
theorem dX12_soundUnitAt_7 : decode cX12_soundUnitAt 7 = .ok (.ifnull 17, 3) := by decide +kernel
theorem dX12_soundUnitAt_24 : decode cX12_soundUnitAt 24 = .ok (.aconst_null, 1) := by decide +kernel
theorem dX12_soundUnitAt_25 : decode cX12_soundUnitAt 25 = .ok (.goto 4, 3) := by decide +kernel
theorem dX12_soundUnitAt_29 : decode cX12_soundUnitAt 29 = .ok (.areturn, 1) := by decide +kernel
theorem dX12_stage_0 : decode cX12_stage 0 = .ok (.aload_n 0, 1) := by decide +kernel
theorem dX12_stage_1 : decode cX12_stage 1 = .ok (.iload_n 1, 1) := by decide +kernel
theorem dX12_stage_2 : decode cX12_stage 2 = .ok (.invokevirtual 152, 3) := by decide +kernel
theorem dX12_stage_5 : decode cX12_stage 5 = .ok (.astore_n 2, 1) := by decide +kernel
theorem dX12_stage_6 : decode cX12_stage 6 = .ok (.aload_n 2, 1) := by decide +kernel
theorem dX12_stage_7 : decode cX12_stage 7 = .ok (.ifnonnull 5, 3) := by decide +kernel
theorem dX12_stage_10 : decode cX12_stage 10 = .ok (.iconst 0, 1) := by decide +kernel
theorem dX12_stage_11 : decode cX12_stage 11 = .ok (.ireturn, 1) := by decide +kernel
theorem dX12_steps_0 : decode cX12_steps 0 = .ok (.aload_n 0, 1) := by decide +kernel
theorem dX12_steps_1 : decode cX12_steps 1 = .ok (.getfield 52, 3) := by decide +kernel
theorem dX12_steps_4 : decode cX12_steps 4 = .ok (.getfield 202, 3) := by decide +kernel
theorem dX12_steps_7 : decode cX12_steps 7 = .ok (.ireturn, 1) := by decide +kernel
theorem dX12_strays_0 : decode cX12_strays 0 = .ok (.aload_n 0, 1) := by decide +kernel
theorem dX12_strays_1 : decode cX12_strays 1 = .ok (.getfield 52, 3) := by decide +kernel
theorem dX12_strays_4 : decode cX12_strays 4 = .ok (.getfield 259, 3) := by decide +kernel
theorem dX12_strays_7 : decode cX12_strays 7 = .ok (.ireturn, 1) := by decide +kernel
theorem dX12_unitAt_0 : decode cX12_unitAt 0 = .ok (.iload_n 1, 1) := by decide +kernel
theorem dX12_unitAt_1 : decode cX12_unitAt 1 = .ok (.ifCond .lt 11, 3) := by decide +kernel
theorem dX12_unitAt_4 : decode cX12_unitAt 4 = .ok (.iload_n 1, 1) := by decide +kernel
theorem dX12_unitAt_5 : decode cX12_unitAt 5 = .ok (.aload_n 0, 1) := by decide +kernel
theorem dX12_unitAt_6 : decode cX12_unitAt 6 = .ok (.getfield 94, 3) := by decide +kernel
theorem dX12_unitAt_9 : decode cX12_unitAt 9 = .ok (.if_icmp .lt 7, 3) := by decide +kernel
theorem dX12_unitAt_12 : decode cX12_unitAt 12 = .ok (.aconst_null, 1) := by decide +kernel
theorem dX12_unitAt_13 : decode cX12_unitAt 13 = .ok (.goto 9, 3) := by decide +kernel
theorem dX12_unitAt_22 : decode cX12_unitAt 22 = .ok (.areturn, 1) := by decide +kernel
theorem dX12_verify_0 : decode cX12_verify 0 = .ok (.aload_n 0, 1) := by decide +kernel
theorem dX12_verify_1 : decode cX12_verify 1 = .ok (.iconst (-1), 1) := by decide +kernel
theorem dX12_verify_2 : decode cX12_verify 2 = .ok (.putfield 74, 3) := by decide +kernel
theorem dX12_verify_5 : decode cX12_verify 5 = .ok (.aload_n 0, 1) := by decide +kernel
theorem dX12_verify_6 : decode cX12_verify 6 = .ok (.iconst (-1), 1) := by decide +kernel
theorem dX12_verify_7 : decode cX12_verify 7 = .ok (.putfield 77, 3) := by decide +kernel
theorem dX12_verify_10 : decode cX12_verify 10 = .ok (.aload_n 0, 1) := by decide +kernel
theorem dX12_verify_11 : decode cX12_verify 11 = .ok (.iload_n 1, 1) := by decide +kernel
theorem dX12_verify_12 : decode cX12_verify 12 = .ok (.invokevirtual 116, 3) := by decide +kernel
theorem dX12_verify_15 : decode cX12_verify 15 = .ok (.astore_n 2, 1) := by decide +kernel
theorem dX12_verify_16 : decode cX12_verify 16 = .ok (.aload_n 2, 1) := by decide +kernel
theorem dX12_verify_17 : decode cX12_verify 17 = .ok (.ifnonnull 5, 3) := by decide +kernel
theorem dX12_verify_20 : decode cX12_verify 20 = .ok (.iconst (-1), 1) := by decide +kernel
theorem dX12_verify_21 : decode cX12_verify 21 = .ok (.ireturn, 1) := by decide +kernel
theorem dX12_write_0 : decode cX12_write 0 = .ok (.aload_n 0, 1) := by decide +kernel
theorem dX12_write_1 : decode cX12_write 1 = .ok (.iload_n 1, 1) := by decide +kernel
theorem dX12_write_2 : decode cX12_write 2 = .ok (.invokevirtual 152, 3) := by decide +kernel
theorem dX12_write_5 : decode cX12_write 5 = .ok (.astore_n 2, 1) := by decide +kernel
theorem dX12_write_6 : decode cX12_write 6 = .ok (.aload_n 2, 1) := by decide +kernel
theorem dX12_write_7 : decode cX12_write 7 = .ok (.ifnonnull 5, 3) := by decide +kernel
theorem dX12_write_10 : decode cX12_write 10 = .ok (.iconst (-1), 1) := by decide +kernel
theorem dX12_write_11 : decode cX12_write 11 = .ok (.ireturn, 1) := by decide +kernel
theorem dX13_init_0 : decode cX13_init 0 = .ok (.aload_n 0, 1) := by decide +kernel
theorem dX13_init_1 : decode cX13_init 1 = .ok (.invokespecial 3, 3) := by decide +kernel
theorem dX13_init_4 : decode cX13_init 4 = .ok (.aload_n 0, 1) := by decide +kernel
theorem dX13_init_5 : decode cX13_init 5 = .ok (.bipush 24, 2) := by decide +kernel
theorem dX13_init_7 : decode cX13_init 7 = .ok (.anewarray 9, 3) := by decide +kernel
theorem dX13_init_10 : decode cX13_init 10 = .ok (.putfield 11, 3) := by decide +kernel
theorem dX13_init_13 : decode cX13_init 13 = .ok (.aload_n 0, 1) := by decide +kernel
theorem dX13_init_14 : decode cX13_init 14 = .ok (.bipush 24, 2) := by decide +kernel
theorem dX13_init_16 : decode cX13_init 16 = .ok (.anewarray 9, 3) := by decide +kernel
theorem dX13_init_19 : decode cX13_init 19 = .ok (.putfield 17, 3) := by decide +kernel
theorem dX13_init_22 : decode cX13_init 22 = .ok (.aload_n 0, 1) := by decide +kernel
theorem dX13_init_23 : decode cX13_init 23 = .ok (.bipush 24, 2) := by decide +kernel
theorem dX13_init_25 : decode cX13_init 25 = .ok (.anewarray 9, 3) := by decide +kernel
theorem dX13_init_28 : decode cX13_init 28 = .ok (.putfield 20, 3) := by decide +kernel
theorem dX13_init_31 : decode cX13_init 31 = .ok (.aload_n 0, 1) := by decide +kernel
theorem dX13_init_32 : decode cX13_init 32 = .ok (.bipush 24, 2) := by decide +kernel
theorem dX13_init_34 : decode cX13_init 34 = .ok (.anewarray 9, 3) := by decide +kernel
theorem dX13_init_37 : decode cX13_init 37 = .ok (.putfield 23, 3) := by decide +kernel
theorem dX13_init_40 : decode cX13_init 40 = .ok (.aload_n 0, 1) := by decide +kernel
theorem dX13_init_41 : decode cX13_init 41 = .ok (.bipush 24, 2) := by decide +kernel
theorem dX13_init_43 : decode cX13_init 43 = .ok (.anewarray 9, 3) := by decide +kernel
theorem dX13_init_46 : decode cX13_init 46 = .ok (.putfield 26, 3) := by decide +kernel
theorem dX13_init_49 : decode cX13_init 49 = .ok (.aload_n 0, 1) := by decide +kernel
theorem dX13_init_50 : decode cX13_init 50 = .ok (.bipush 24, 2) := by decide +kernel
theorem dX13_init_52 : decode cX13_init 52 = .ok (.anewarray 9, 3) := by decide +kernel
theorem dX13_init_55 : decode cX13_init 55 = .ok (.putfield 29, 3) := by decide +kernel
theorem dX13_init_58 : decode cX13_init 58 = .ok (.aload_n 0, 1) := by decide +kernel
theorem dX13_init_59 : decode cX13_init 59 = .ok (.bipush 24, 2) := by decide +kernel
theorem dX13_init_61 : decode cX13_init 61 = .ok (.anewarray 9, 3) := by decide +kernel
theorem dX13_init_64 : decode cX13_init 64 = .ok (.putfield 32, 3) := by decide +kernel
theorem dX13_init_67 : decode cX13_init 67 = .ok (.aload_n 0, 1) := by decide +kernel
theorem dX13_init_68 : decode cX13_init 68 = .ok (.bipush 24, 2) := by decide +kernel
theorem dX13_init_70 : decode cX13_init 70 = .ok (.newarray .int, 2) := by decide +kernel
theorem dX13_init_72 : decode cX13_init 72 = .ok (.putfield 35, 3) := by decide +kernel
theorem dX13_init_75 : decode cX13_init 75 = .ok (.aload_n 0, 1) := by decide +kernel
theorem dX13_init_76 : decode cX13_init 76 = .ok (.bipush 24, 2) := by decide +kernel
theorem dX13_init_78 : decode cX13_init 78 = .ok (.newarray .int, 2) := by decide +kernel
theorem dX13_init_80 : decode cX13_init 80 = .ok (.putfield 39, 3) := by decide +kernel
theorem dX13_init_83 : decode cX13_init 83 = .ok (.aload_n 0, 1) := by decide +kernel
theorem dX13_init_84 : decode cX13_init 84 = .ok (.bipush 24, 2) := by decide +kernel
theorem dX13_init_86 : decode cX13_init 86 = .ok (.newarray .int, 2) := by decide +kernel
theorem dX13_init_88 : decode cX13_init 88 = .ok (.putfield 42, 3) := by decide +kernel
theorem dX13_init_91 : decode cX13_init 91 = .ok (.aload_n 0, 1) := by decide +kernel
theorem dX13_init_92 : decode cX13_init 92 = .ok (.bipush 24, 2) := by decide +kernel
theorem dX13_init_94 : decode cX13_init 94 = .ok (.newarray .int, 2) := by decide +kernel
theorem dX13_init_96 : decode cX13_init 96 = .ok (.putfield 45, 3) := by decide +kernel
theorem dX13_init_99 : decode cX13_init 99 = .ok (.aload_n 0, 1) := by decide +kernel
theorem dX13_init_100 : decode cX13_init 100 = .ok (.bipush 24, 2) := by decide +kernel
theorem dX13_init_102 : decode cX13_init 102 = .ok (.newarray .int, 2) := by decide +kernel
theorem dX13_init_104 : decode cX13_init 104 = .ok (.putfield 48, 3) := by decide +kernel
theorem dX13_init_107 : decode cX13_init 107 = .ok (.aload_n 0, 1) := by decide +kernel
theorem dX13_init_108 : decode cX13_init 108 = .ok (.bipush 24, 2) := by decide +kernel
theorem dX13_init_110 : decode cX13_init 110 = .ok (.newarray .int, 2) := by decide +kernel
theorem dX13_init_112 : decode cX13_init 112 = .ok (.putfield 51, 3) := by decide +kernel
theorem dX13_init_115 : decode cX13_init 115 = .ok (.return_, 1) := by decide +kernel
theorem dX14_applied_0 : decode cX14_applied 0 = .ok (.iload_n 1, 1) := by decide +kernel
theorem dX14_applied_1 : decode cX14_applied 1 = .ok (.iconst 1, 1) := by decide +kernel
theorem dX14_applied_2 : decode cX14_applied 2 = .ok (.if_icmp .lt 18, 3) := by decide +kernel
theorem dX14_applied_5 : decode cX14_applied 5 = .ok (.iload_n 1, 1) := by decide +kernel
theorem dX14_applied_6 : decode cX14_applied 6 = .ok (.bipush 11, 2) := by decide +kernel
theorem dX14_applied_8 : decode cX14_applied 8 = .ok (.if_icmp .gt 12, 3) := by decide +kernel
theorem dX14_applied_11 : decode cX14_applied 11 = .ok (.aload_n 0, 1) := by decide +kernel
theorem dX14_applied_12 : decode cX14_applied 12 = .ok (.getfield 237, 3) := by decide +kernel
theorem dX14_applied_15 : decode cX14_applied 15 = .ok (.iload_n 1, 1) := by decide +kernel
theorem dX14_applied_16 : decode cX14_applied 16 = .ok (.iaload, 1) := by decide +kernel
theorem dX14_applied_17 : decode cX14_applied 17 = .ok (.goto 4, 3) := by decide +kernel
theorem dX14_applied_20 : decode cX14_applied 20 = .ok (.iconst 0, 1) := by decide +kernel
theorem dX14_applied_21 : decode cX14_applied 21 = .ok (.ireturn, 1) := by decide +kernel
theorem dX14_argument_0 : decode cX14_argument 0 = .ok (.aload_n 0, 1) := by decide +kernel
theorem dX14_argument_1 : decode cX14_argument 1 = .ok (.getfield 970, 3) := by decide +kernel
theorem dX14_argument_4 : decode cX14_argument 4 = .ok (.bipush 8, 2) := by decide +kernel
theorem dX14_argument_6 : decode cX14_argument 6 = .ok (.if_icmp .ne 5, 3) := by decide +kernel
theorem dX14_argument_11 : decode cX14_argument 11 = .ok (.aload_n 0, 1) := by decide +kernel
theorem dX14_argument_12 : decode cX14_argument 12 = .ok (.getfield 158, 3) := by decide +kernel
theorem dX14_argument_15 : decode cX14_argument 15 = .ok (.aload_n 0, 1) := by decide +kernel
theorem dX14_argument_16 : decode cX14_argument 16 = .ok (.getfield 970, 3) := by decide +kernel
theorem dX14_argument_19 : decode cX14_argument 19 = .ok (.lload_n 1, 1) := by decide +kernel
theorem dX14_argument_20 : decode cX14_argument 20 = .ok (.lastore, 1) := by decide +kernel
theorem dX14_argument_21 : decode cX14_argument 21 = .ok (.aload_n 0, 1) := by decide +kernel
theorem dX14_argument_22 : decode cX14_argument 22 = .ok (.dup, 1) := by decide +kernel
theorem dX14_argument_23 : decode cX14_argument 23 = .ok (.getfield 970, 3) := by decide +kernel
theorem dX14_argument_26 : decode cX14_argument 26 = .ok (.iconst 1, 1) := by decide +kernel
theorem dX14_argument_27 : decode cX14_argument 27 = .ok (.iadd, 1) := by decide +kernel
theorem dX14_argument_28 : decode cX14_argument 28 = .ok (.putfield 970, 3) := by decide +kernel
end
section
theorem dX14_argument_31 : decode cX14_argument 31 = .ok (.aload_n 0, 1) := by decide +kernel
theorem dX14_argument_32 : decode cX14_argument 32 = .ok (.getfield 970, 3) := by decide +kernel
theorem dX14_argument_35 : decode cX14_argument 35 = .ok (.ireturn, 1) := by decide +kernel
theorem dX14_arrayLength_0 : decode cX14_arrayLength 0 = .ok (.iload_n 1, 1) := by decide +kernel
theorem dX14_arrayLength_1 : decode cX14_arrayLength 1 = .ok (.iconst 1, 1) := by decide +kernel
theorem dX14_arrayLength_2 : decode cX14_arrayLength 2 = .ok (.if_icmp .lt 20, 3) := by decide +kernel
theorem dX14_arrayLength_5 : decode cX14_arrayLength 5 = .ok (.iload_n 1, 1) := by decide +kernel
theorem dX14_arrayLength_6 : decode cX14_arrayLength 6 = .ok (.aload_n 0, 1) := by decide +kernel
theorem dX14_arrayLength_7 : decode cX14_arrayLength 7 = .ok (.getfield 964, 3) := by decide +kernel
theorem dX14_arrayLength_10 : decode cX14_arrayLength 10 = .ok (.if_icmp .gt 12, 3) := by decide +kernel
theorem dX14_arrayLength_22 : decode cX14_arrayLength 22 = .ok (.iconst (-1), 1) := by decide +kernel
theorem dX14_arrayLength_23 : decode cX14_arrayLength 23 = .ok (.ireturn, 1) := by decide +kernel
theorem dX14_at_0 : decode cX14_at 0 = .ok (.aload_n 0, 1) := by decide +kernel
theorem dX14_at_1 : decode cX14_at 1 = .ok (.getfield 108, 3) := by decide +kernel
theorem dX14_at_4 : decode cX14_at 4 = .ok (.ireturn, 1) := by decide +kernel
theorem dX14_block_0 : decode cX14_block 0 = .ok (.aload_n 0, 1) := by decide +kernel
theorem dX14_block_1 : decode cX14_block 1 = .ok (.iload_n 1, 1) := by decide +kernel
theorem dX14_block_2 : decode cX14_block 2 = .ok (.iload_n 2, 1) := by decide +kernel
theorem dX14_block_3 : decode cX14_block 3 = .ok (.invokevirtual 662, 3) := by decide +kernel
theorem dX14_block_6 : decode cX14_block 6 = .ok (.ifCond .ne 5, 3) := by decide +kernel
theorem dX14_block_9 : decode cX14_block 9 = .ok (.iconst (-1), 1) := by decide +kernel
theorem dX14_block_10 : decode cX14_block 10 = .ok (.ireturn, 1) := by decide +kernel
theorem dX14_blocks_0 : decode cX14_blocks 0 = .ok (.aload_n 0, 1) := by decide +kernel
theorem dX14_blocks_1 : decode cX14_blocks 1 = .ok (.iload_n 1, 1) := by decide +kernel
theorem dX14_blocks_2 : decode cX14_blocks 2 = .ok (.iload_n 2, 1) := by decide +kernel
theorem dX14_blocks_3 : decode cX14_blocks 3 = .ok (.invokevirtual 662, 3) := by decide +kernel
theorem dX14_blocks_6 : decode cX14_blocks 6 = .ok (.ifCond .ne 5, 3) := by decide +kernel
theorem dX14_blocks_9 : decode cX14_blocks 9 = .ok (.iconst (-1), 1) := by decide +kernel
theorem dX14_blocks_10 : decode cX14_blocks 10 = .ok (.ireturn, 1) := by decide +kernel
theorem dX14_broken_0 : decode cX14_broken 0 = .ok (.aload_n 0, 1) := by decide +kernel
theorem dX14_broken_1 : decode cX14_broken 1 = .ok (.iload_n 1, 1) := by decide +kernel
theorem dX14_broken_2 : decode cX14_broken 2 = .ok (.putfield 296, 3) := by decide +kernel
theorem dX14_broken_5 : decode cX14_broken 5 = .ok (.aload_n 0, 1) := by decide +kernel
theorem dX14_broken_6 : decode cX14_broken 6 = .ok (.iload_n 2, 1) := by decide +kernel
theorem dX14_broken_7 : decode cX14_broken 7 = .ok (.putfield 299, 3) := by decide +kernel
theorem dX14_broken_10 : decode cX14_broken 10 = .ok (.aload_n 0, 1) := by decide +kernel
theorem dX14_broken_11 : decode cX14_broken 11 = .ok (.getfield 22, 3) := by decide +kernel
theorem dX14_broken_14 : decode cX14_broken 14 = .ok (.areturn, 1) := by decide +kernel
theorem dX14_byteAt_0 : decode cX14_byteAt 0 = .ok (.iload_n 1, 1) := by decide +kernel
theorem dX14_byteAt_1 : decode cX14_byteAt 1 = .ok (.ifCond .lt 24, 3) := by decide +kernel
theorem dX14_byteAt_4 : decode cX14_byteAt 4 = .ok (.iload_n 1, 1) := by decide +kernel
theorem dX14_byteAt_5 : decode cX14_byteAt 5 = .ok (.aload_n 0, 1) := by decide +kernel
theorem dX14_byteAt_6 : decode cX14_byteAt 6 = .ok (.getfield 958, 3) := by decide +kernel
theorem dX14_byteAt_9 : decode cX14_byteAt 9 = .ok (.if_icmp .ge 16, 3) := by decide +kernel
theorem dX14_byteAt_25 : decode cX14_byteAt 25 = .ok (.iconst (-1), 1) := by decide +kernel
theorem dX14_byteAt_26 : decode cX14_byteAt 26 = .ok (.ireturn, 1) := by decide +kernel
theorem dX14_count_0 : decode cX14_count 0 = .ok (.aload_n 0, 1) := by decide +kernel
theorem dX14_count_1 : decode cX14_count 1 = .ok (.iload_n 1, 1) := by decide +kernel
theorem dX14_count_2 : decode cX14_count 2 = .ok (.invokevirtual 860, 3) := by decide +kernel
theorem dX14_count_5 : decode cX14_count 5 = .ok (.ifCond .ne 5, 3) := by decide +kernel
theorem dX14_count_8 : decode cX14_count 8 = .ok (.iconst (-1), 1) := by decide +kernel
theorem dX14_count_9 : decode cX14_count 9 = .ok (.ireturn, 1) := by decide +kernel
theorem dX14_edge_0 : decode cX14_edge 0 = .ok (.aload_n 0, 1) := by decide +kernel
theorem dX14_edge_1 : decode cX14_edge 1 = .ok (.iload_n 1, 1) := by decide +kernel
theorem dX14_edge_2 : decode cX14_edge 2 = .ok (.iload_n 2, 1) := by decide +kernel
theorem dX14_edge_3 : decode cX14_edge 3 = .ok (.invokevirtual 662, 3) := by decide +kernel
theorem dX14_edge_6 : decode cX14_edge 6 = .ok (.ifCond .ne 5, 3) := by decide +kernel
theorem dX14_edge_9 : decode cX14_edge 9 = .ok (.iconst 0, 1) := by decide +kernel
theorem dX14_edge_10 : decode cX14_edge 10 = .ok (.ireturn, 1) := by decide +kernel
theorem dX14_element_0 : decode cX14_element 0 = .ok (.iload_n 1, 1) := by decide +kernel
theorem dX14_element_1 : decode cX14_element 1 = .ok (.iconst 1, 1) := by decide +kernel
theorem dX14_element_2 : decode cX14_element 2 = .ok (.if_icmp .lt 41, 3) := by decide +kernel
theorem dX14_element_5 : decode cX14_element 5 = .ok (.iload_n 1, 1) := by decide +kernel
theorem dX14_element_6 : decode cX14_element 6 = .ok (.aload_n 0, 1) := by decide +kernel
theorem dX14_element_7 : decode cX14_element 7 = .ok (.getfield 964, 3) := by decide +kernel
theorem dX14_element_10 : decode cX14_element 10 = .ok (.if_icmp .gt 33, 3) := by decide +kernel
theorem dX14_element_43 : decode cX14_element 43 = .ok (.iconst 0, 1) := by decide +kernel
theorem dX14_element_44 : decode cX14_element 44 = .ok (.ireturn, 1) := by decide +kernel
theorem dX14_end_0 : decode cX14_end 0 = .ok (.iload_n 1, 1) := by decide +kernel
theorem dX14_end_1 : decode cX14_end 1 = .ok (.ifCond .lt 11, 3) := by decide +kernel
theorem dX14_end_4 : decode cX14_end 4 = .ok (.iload_n 1, 1) := by decide +kernel
theorem dX14_end_5 : decode cX14_end 5 = .ok (.aload_n 0, 1) := by decide +kernel
theorem dX14_end_6 : decode cX14_end 6 = .ok (.getfield 285, 3) := by decide +kernel
theorem dX14_end_9 : decode cX14_end 9 = .ok (.if_icmp .le 5, 3) := by decide +kernel
theorem dX14_end_12 : decode cX14_end 12 = .ok (.iconst 0, 1) := by decide +kernel
theorem dX14_end_13 : decode cX14_end 13 = .ok (.ireturn, 1) := by decide +kernel
theorem dX14_end_14 : decode cX14_end 14 = .ok (.aload_n 0, 1) := by decide +kernel
theorem dX14_end_15 : decode cX14_end 15 = .ok (.iload_n 1, 1) := by decide +kernel
theorem dX14_end_16 : decode cX14_end 16 = .ok (.putfield 285, 3) := by decide +kernel
theorem dX14_end_19 : decode cX14_end 19 = .ok (.iconst 1, 1) := by decide +kernel
theorem dX14_end_20 : decode cX14_end 20 = .ok (.ireturn, 1) := by decide +kernel
theorem dX14_error_0 : decode cX14_error 0 = .ok (.aload_n 0, 1) := by decide +kernel
theorem dX14_error_1 : decode cX14_error 1 = .ok (.getfield 182, 3) := by decide +kernel
theorem dX14_error_4 : decode cX14_error 4 = .ok (.ireturn, 1) := by decide +kernel
theorem dX14_feed_0 : decode cX14_feed 0 = .ok (.aload_n 0, 1) := by decide +kernel
theorem dX14_feed_1 : decode cX14_feed 1 = .ok (.getfield 285, 3) := by decide +kernel
theorem dX14_feed_4 : decode cX14_feed 4 = .ok (.bipush 20, 2) := by decide +kernel
theorem dX14_feed_6 : decode cX14_feed 6 = .ok (.iadd, 1) := by decide +kernel
theorem dX14_feed_7 : decode cX14_feed 7 = .ok (.sipush 16000, 3) := by decide +kernel
theorem dX14_feed_10 : decode cX14_feed 10 = .ok (.if_icmp .gt 16, 3) := by decide +kernel
theorem dX14_feed_13 : decode cX14_feed 13 = .ok (.aload_n 0, 1) := by decide +kernel
theorem dX14_feed_14 : decode cX14_feed 14 = .ok (.getfield 288, 3) := by decide +kernel
theorem dX14_feed_17 : decode cX14_feed 17 = .ok (.bipush 20, 2) := by decide +kernel
theorem dX14_feed_19 : decode cX14_feed 19 = .ok (.iadd, 1) := by decide +kernel
theorem dX14_feed_20 : decode cX14_feed 20 = .ok (.ldc_w 291, 3) := by decide +kernel
theorem dX14_feed_23 : decode cX14_feed 23 = .ok (.if_icmp .le 5, 3) := by decide +kernel
theorem dX14_feed_28 : decode cX14_feed 28 = .ok (.aload_n 0, 1) := by decide +kernel
theorem dX14_feed_29 : decode cX14_feed 29 = .ok (.iload_n 1, 1) := by decide +kernel
theorem dX14_feed_30 : decode cX14_feed 30 = .ok (.invokevirtual 292, 3) := by decide +kernel
theorem dX14_feed_33 : decode cX14_feed 33 = .ok (.aload_n 0, 1) := by decide +kernel
theorem dX14_feed_34 : decode cX14_feed 34 = .ok (.iload_n 2, 1) := by decide +kernel
theorem dX14_feed_35 : decode cX14_feed 35 = .ok (.invokevirtual 292, 3) := by decide +kernel
theorem dX14_feed_38 : decode cX14_feed 38 = .ok (.aload_n 0, 1) := by decide +kernel
theorem dX14_feed_39 : decode cX14_feed 39 = .ok (.iload_n 3, 1) := by decide +kernel
theorem dX14_feed_40 : decode cX14_feed 40 = .ok (.invokevirtual 292, 3) := by decide +kernel
theorem dX14_feed_43 : decode cX14_feed 43 = .ok (.aload_n 0, 1) := by decide +kernel
theorem dX14_feed_44 : decode cX14_feed 44 = .ok (.iload 4, 2) := by decide +kernel
theorem dX14_feed_46 : decode cX14_feed 46 = .ok (.invokevirtual 292, 3) := by decide +kernel
theorem dX14_feed_49 : decode cX14_feed 49 = .ok (.aload_n 0, 1) := by decide +kernel
theorem dX14_feed_50 : decode cX14_feed 50 = .ok (.iload 5, 2) := by decide +kernel
theorem dX14_feed_52 : decode cX14_feed 52 = .ok (.invokevirtual 292, 3) := by decide +kernel
theorem dX14_feed_55 : decode cX14_feed 55 = .ok (.aload_n 0, 1) := by decide +kernel
theorem dX14_feed_56 : decode cX14_feed 56 = .ok (.dup, 1) := by decide +kernel
theorem dX14_feed_57 : decode cX14_feed 57 = .ok (.getfield 288, 3) := by decide +kernel
theorem dX14_feed_60 : decode cX14_feed 60 = .ok (.bipush 20, 2) := by decide +kernel
theorem dX14_feed_62 : decode cX14_feed 62 = .ok (.iadd, 1) := by decide +kernel
theorem dX14_feed_63 : decode cX14_feed 63 = .ok (.putfield 288, 3) := by decide +kernel
theorem dX14_feed_66 : decode cX14_feed 66 = .ok (.aload_n 0, 1) := by decide +kernel
theorem dX14_feed_67 : decode cX14_feed 67 = .ok (.getfield 285, 3) := by decide +kernel
theorem dX14_feed_70 : decode cX14_feed 70 = .ok (.ireturn, 1) := by decide +kernel
theorem dX14_field_0 : decode cX14_field 0 = .ok (.aload_n 0, 1) := by decide +kernel
theorem dX14_field_1 : decode cX14_field 1 = .ok (.getfield 961, 3) := by decide +kernel
theorem dX14_field_4 : decode cX14_field 4 = .ok (.ifnull 27, 3) := by decide +kernel
theorem dX14_field_31 : decode cX14_field 31 = .ok (.lconst 0, 1) := by decide +kernel
theorem dX14_field_32 : decode cX14_field 32 = .ok (.lreturn, 1) := by decide +kernel
theorem dX14_file_0 : decode cX14_file 0 = .ok (.aload_n 0, 1) := by decide +kernel
theorem dX14_file_1 : decode cX14_file 1 = .ok (.getfield 647, 3) := by decide +kernel
theorem dX14_file_4 : decode cX14_file 4 = .ok (.bipush 12, 2) := by decide +kernel
theorem dX14_file_6 : decode cX14_file 6 = .ok (.if_icmp .ne 6, 3) := by decide +kernel
theorem dX14_file_12 : decode cX14_file 12 = .ok (.aload_n 0, 1) := by decide +kernel
theorem dX14_file_13 : decode cX14_file 13 = .ok (.getfield 285, 3) := by decide +kernel
theorem dX14_file_16 : decode cX14_file 16 = .ok (.istore_n 1, 1) := by decide +kernel
theorem dX14_file_17 : decode cX14_file 17 = .ok (.aload_n 0, 1) := by decide +kernel
theorem dX14_file_18 : decode cX14_file 18 = .ok (.iconst 0, 1) := by decide +kernel
theorem dX14_file_19 : decode cX14_file 19 = .ok (.putfield 285, 3) := by decide +kernel
theorem dX14_file_22 : decode cX14_file 22 = .ok (.aload_n 0, 1) := by decide +kernel
theorem dX14_file_23 : decode cX14_file 23 = .ok (.iconst 0, 1) := by decide +kernel
theorem dX14_file_24 : decode cX14_file 24 = .ok (.putfield 306, 3) := by decide +kernel
theorem dX14_file_27 : decode cX14_file 27 = .ok (.aload_n 0, 1) := by decide +kernel
theorem dX14_file_28 : decode cX14_file 28 = .ok (.iconst (-1), 1) := by decide +kernel
theorem dX14_file_29 : decode cX14_file 29 = .ok (.putfield 26, 3) := by decide +kernel
theorem dX14_file_32 : decode cX14_file 32 = .ok (.aload_n 0, 1) := by decide +kernel
theorem dX14_file_33 : decode cX14_file 33 = .ok (.aload_n 0, 1) := by decide +kernel
theorem dX14_file_34 : decode cX14_file 34 = .ok (.aload_n 0, 1) := by decide +kernel
theorem dX14_file_35 : decode cX14_file 35 = .ok (.getfield 15, 3) := by decide +kernel
theorem dX14_file_38 : decode cX14_file 38 = .ok (.iload_n 1, 1) := by decide +kernel
theorem dX14_file_39 : decode cX14_file 39 = .ok (.invokevirtual 650, 3) := by decide +kernel
theorem dX14_file_46 : decode cX14_file 46 = .ok (.astore_n 2, 1) := by decide +kernel
theorem dX14_file_47 : decode cX14_file 47 = .ok (.aload_n 0, 1) := by decide +kernel
theorem dX14_file_48 : decode cX14_file 48 = .ok (.aload_n 0, 1) := by decide +kernel
end
section
theorem dX14_file_49 : decode cX14_file 49 = .ok (.getfield 296, 3) := by decide +kernel
theorem dX14_file_52 : decode cX14_file 52 = .ok (.putfield 306, 3) := by decide +kernel
theorem dX14_file_55 : decode cX14_file 55 = .ok (.aload_n 0, 1) := by decide +kernel
theorem dX14_file_56 : decode cX14_file 56 = .ok (.aload_n 0, 1) := by decide +kernel
theorem dX14_file_57 : decode cX14_file 57 = .ok (.getfield 299, 3) := by decide +kernel
theorem dX14_file_60 : decode cX14_file 60 = .ok (.putfield 26, 3) := by decide +kernel
theorem dX14_file_63 : decode cX14_file 63 = .ok (.iconst (-1), 1) := by decide +kernel
theorem dX14_file_64 : decode cX14_file 64 = .ok (.ireturn, 1) := by decide +kernel
theorem dX14_fileAt_0 : decode cX14_fileAt 0 = .ok (.iload_n 1, 1) := by decide +kernel
theorem dX14_fileAt_1 : decode cX14_fileAt 1 = .ok (.ifCond .lt 20, 3) := by decide +kernel
theorem dX14_fileAt_4 : decode cX14_fileAt 4 = .ok (.iload_n 1, 1) := by decide +kernel
theorem dX14_fileAt_5 : decode cX14_fileAt 5 = .ok (.aload_n 0, 1) := by decide +kernel
theorem dX14_fileAt_6 : decode cX14_fileAt 6 = .ok (.getfield 647, 3) := by decide +kernel
theorem dX14_fileAt_9 : decode cX14_fileAt 9 = .ok (.if_icmp .ge 12, 3) := by decide +kernel
theorem dX14_fileAt_21 : decode cX14_fileAt 21 = .ok (.aconst_null, 1) := by decide +kernel
theorem dX14_fileAt_22 : decode cX14_fileAt 22 = .ok (.areturn, 1) := by decide +kernel
theorem dX14_height_0 : decode cX14_height 0 = .ok (.aload_n 0, 1) := by decide +kernel
theorem dX14_height_1 : decode cX14_height 1 = .ok (.iload_n 1, 1) := by decide +kernel
theorem dX14_height_2 : decode cX14_height 2 = .ok (.iload_n 2, 1) := by decide +kernel
theorem dX14_height_3 : decode cX14_height 3 = .ok (.iload_n 3, 1) := by decide +kernel
theorem dX14_height_4 : decode cX14_height 4 = .ok (.invokevirtual 863, 3) := by decide +kernel
theorem dX14_height_7 : decode cX14_height 7 = .ok (.istore 4, 2) := by decide +kernel
theorem dX14_height_9 : decode cX14_height 9 = .ok (.iload 4, 2) := by decide +kernel
theorem dX14_height_11 : decode cX14_height 11 = .ok (.ifCond .ge 7, 3) := by decide +kernel
theorem dX14_height_14 : decode cX14_height 14 = .ok (.iconst (-1), 1) := by decide +kernel
theorem dX14_height_15 : decode cX14_height 15 = .ok (.goto 15, 3) := by decide +kernel
theorem dX14_height_30 : decode cX14_height 30 = .ok (.ireturn, 1) := by decide +kernel
theorem dX14_improve_0 : decode cX14_improve 0 = .ok (.aload_n 0, 1) := by decide +kernel
theorem dX14_improve_1 : decode cX14_improve 1 = .ok (.iload_n 1, 1) := by decide +kernel
theorem dX14_improve_2 : decode cX14_improve 2 = .ok (.invokevirtual 860, 3) := by decide +kernel
theorem dX14_improve_5 : decode cX14_improve 5 = .ok (.ifCond .eq 14, 3) := by decide +kernel
theorem dX14_improve_19 : decode cX14_improve 19 = .ok (.iconst (-1), 1) := by decide +kernel
theorem dX14_improve_20 : decode cX14_improve 20 = .ok (.ireturn, 1) := by decide +kernel
theorem dX14_init_0 : decode cX14_init 0 = .ok (.aload_n 0, 1) := by decide +kernel
theorem dX14_init_1 : decode cX14_init 1 = .ok (.invokespecial 3, 3) := by decide +kernel
theorem dX14_init_4 : decode cX14_init 4 = .ok (.aload_n 0, 1) := by decide +kernel
theorem dX14_init_5 : decode cX14_init 5 = .ok (.bipush 12, 2) := by decide +kernel
theorem dX14_init_7 : decode cX14_init 7 = .ok (.anewarray 9, 3) := by decide +kernel
theorem dX14_init_10 : decode cX14_init 10 = .ok (.putfield 11, 3) := by decide +kernel
theorem dX14_init_13 : decode cX14_init 13 = .ok (.aload_n 0, 1) := by decide +kernel
theorem dX14_init_14 : decode cX14_init 14 = .ok (.sipush 16000, 3) := by decide +kernel
theorem dX14_init_17 : decode cX14_init 17 = .ok (.newarray .byte, 2) := by decide +kernel
theorem dX14_init_19 : decode cX14_init 19 = .ok (.putfield 15, 3) := by decide +kernel
theorem dX14_init_22 : decode cX14_init 22 = .ok (.aload_n 0, 1) := by decide +kernel
theorem dX14_init_23 : decode cX14_init 23 = .ok (.new 19, 3) := by decide +kernel
theorem dX14_init_26 : decode cX14_init 26 = .ok (.dup, 1) := by decide +kernel
theorem dX14_init_27 : decode cX14_init 27 = .ok (.invokespecial 21, 3) := by decide +kernel
theorem dX14_init_30 : decode cX14_init 30 = .ok (.putfield 22, 3) := by decide +kernel
theorem dX14_init_33 : decode cX14_init 33 = .ok (.aload_n 0, 1) := by decide +kernel
theorem dX14_init_34 : decode cX14_init 34 = .ok (.iconst (-1), 1) := by decide +kernel
theorem dX14_init_35 : decode cX14_init 35 = .ok (.putfield 26, 3) := by decide +kernel
theorem dX14_init_38 : decode cX14_init 38 = .ok (.aload_n 0, 1) := by decide +kernel
theorem dX14_init_39 : decode cX14_init 39 = .ok (.sipush 502, 3) := by decide +kernel
theorem dX14_init_42 : decode cX14_init 42 = .ok (.newarray .int, 2) := by decide +kernel
theorem dX14_init_44 : decode cX14_init 44 = .ok (.putfield 30, 3) := by decide +kernel
theorem dX14_init_47 : decode cX14_init 47 = .ok (.aload_n 0, 1) := by decide +kernel
theorem dX14_init_48 : decode cX14_init 48 = .ok (.sipush 502, 3) := by decide +kernel
theorem dX14_init_51 : decode cX14_init 51 = .ok (.newarray .int, 2) := by decide +kernel
theorem dX14_init_53 : decode cX14_init 53 = .ok (.putfield 34, 3) := by decide +kernel
theorem dX14_init_56 : decode cX14_init 56 = .ok (.aload_n 0, 1) := by decide +kernel
theorem dX14_init_57 : decode cX14_init 57 = .ok (.sipush 502, 3) := by decide +kernel
theorem dX14_init_60 : decode cX14_init 60 = .ok (.newarray .int, 2) := by decide +kernel
theorem dX14_init_62 : decode cX14_init 62 = .ok (.putfield 37, 3) := by decide +kernel
theorem dX14_init_65 : decode cX14_init 65 = .ok (.aload_n 0, 1) := by decide +kernel
theorem dX14_init_66 : decode cX14_init 66 = .ok (.sipush 502, 3) := by decide +kernel
theorem dX14_init_69 : decode cX14_init 69 = .ok (.newarray .int, 2) := by decide +kernel
theorem dX14_init_71 : decode cX14_init 71 = .ok (.putfield 40, 3) := by decide +kernel
theorem dX14_init_74 : decode cX14_init 74 = .ok (.aload_n 0, 1) := by decide +kernel
theorem dX14_init_75 : decode cX14_init 75 = .ok (.sipush 502, 3) := by decide +kernel
theorem dX14_init_78 : decode cX14_init 78 = .ok (.newarray .long, 2) := by decide +kernel
theorem dX14_init_80 : decode cX14_init 80 = .ok (.putfield 43, 3) := by decide +kernel
theorem dX14_init_83 : decode cX14_init 83 = .ok (.aload_n 0, 1) := by decide +kernel
theorem dX14_init_84 : decode cX14_init 84 = .ok (.bipush 48, 2) := by decide +kernel
theorem dX14_init_86 : decode cX14_init 86 = .ok (.newarray .int, 2) := by decide +kernel
theorem dX14_init_88 : decode cX14_init 88 = .ok (.putfield 47, 3) := by decide +kernel
theorem dX14_init_91 : decode cX14_init 91 = .ok (.aload_n 0, 1) := by decide +kernel
theorem dX14_init_92 : decode cX14_init 92 = .ok (.sipush 3000, 3) := by decide +kernel
theorem dX14_init_95 : decode cX14_init 95 = .ok (.newarray .int, 2) := by decide +kernel
theorem dX14_init_97 : decode cX14_init 97 = .ok (.putfield 50, 3) := by decide +kernel
theorem dX14_init_100 : decode cX14_init 100 = .ok (.aload_n 0, 1) := by decide +kernel
theorem dX14_init_101 : decode cX14_init 101 = .ok (.sipush 3000, 3) := by decide +kernel
theorem dX14_init_104 : decode cX14_init 104 = .ok (.newarray .int, 2) := by decide +kernel
theorem dX14_init_106 : decode cX14_init 106 = .ok (.putfield 53, 3) := by decide +kernel
theorem dX14_init_109 : decode cX14_init 109 = .ok (.aload_n 0, 1) := by decide +kernel
theorem dX14_init_110 : decode cX14_init 110 = .ok (.bipush 24, 2) := by decide +kernel
theorem dX14_init_112 : decode cX14_init 112 = .ok (.newarray .int, 2) := by decide +kernel
theorem dX14_init_114 : decode cX14_init 114 = .ok (.putfield 56, 3) := by decide +kernel
theorem dX14_init_117 : decode cX14_init 117 = .ok (.aload_n 0, 1) := by decide +kernel
theorem dX14_init_118 : decode cX14_init 118 = .ok (.bipush 24, 2) := by decide +kernel
theorem dX14_init_120 : decode cX14_init 120 = .ok (.newarray .int, 2) := by decide +kernel
theorem dX14_init_122 : decode cX14_init 122 = .ok (.putfield 59, 3) := by decide +kernel
theorem dX14_init_125 : decode cX14_init 125 = .ok (.aload_n 0, 1) := by decide +kernel
theorem dX14_init_126 : decode cX14_init 126 = .ok (.bipush 24, 2) := by decide +kernel
theorem dX14_init_128 : decode cX14_init 128 = .ok (.newarray .int, 2) := by decide +kernel
theorem dX14_init_130 : decode cX14_init 130 = .ok (.putfield 62, 3) := by decide +kernel
theorem dX14_init_133 : decode cX14_init 133 = .ok (.aload_n 0, 1) := by decide +kernel
theorem dX14_init_134 : decode cX14_init 134 = .ok (.bipush 24, 2) := by decide +kernel
theorem dX14_init_136 : decode cX14_init 136 = .ok (.newarray .int, 2) := by decide +kernel
theorem dX14_init_138 : decode cX14_init 138 = .ok (.putfield 65, 3) := by decide +kernel
theorem dX14_init_141 : decode cX14_init 141 = .ok (.aload_n 0, 1) := by decide +kernel
theorem dX14_init_142 : decode cX14_init 142 = .ok (.bipush 24, 2) := by decide +kernel
theorem dX14_init_144 : decode cX14_init 144 = .ok (.newarray .int, 2) := by decide +kernel
theorem dX14_init_146 : decode cX14_init 146 = .ok (.putfield 68, 3) := by decide +kernel
theorem dX14_init_149 : decode cX14_init 149 = .ok (.aload_n 0, 1) := by decide +kernel
theorem dX14_init_150 : decode cX14_init 150 = .ok (.bipush 24, 2) := by decide +kernel
theorem dX14_init_152 : decode cX14_init 152 = .ok (.newarray .int, 2) := by decide +kernel
theorem dX14_init_154 : decode cX14_init 154 = .ok (.putfield 71, 3) := by decide +kernel
theorem dX14_init_157 : decode cX14_init 157 = .ok (.aload_n 0, 1) := by decide +kernel
theorem dX14_init_158 : decode cX14_init 158 = .ok (.sipush 1201, 3) := by decide +kernel
theorem dX14_init_161 : decode cX14_init 161 = .ok (.newarray .int, 2) := by decide +kernel
theorem dX14_init_163 : decode cX14_init 163 = .ok (.putfield 74, 3) := by decide +kernel
theorem dX14_init_166 : decode cX14_init 166 = .ok (.aload_n 0, 1) := by decide +kernel
theorem dX14_init_167 : decode cX14_init 167 = .ok (.ldc 77, 2) := by decide +kernel
theorem dX14_init_169 : decode cX14_init 169 = .ok (.newarray .int, 2) := by decide +kernel
theorem dX14_init_171 : decode cX14_init 171 = .ok (.putfield 78, 3) := by decide +kernel
theorem dX14_init_174 : decode cX14_init 174 = .ok (.aload_n 0, 1) := by decide +kernel
theorem dX14_init_175 : decode cX14_init 175 = .ok (.ldc 81, 2) := by decide +kernel
theorem dX14_init_177 : decode cX14_init 177 = .ok (.newarray .int, 2) := by decide +kernel
theorem dX14_init_179 : decode cX14_init 179 = .ok (.putfield 82, 3) := by decide +kernel
theorem dX14_init_182 : decode cX14_init 182 = .ok (.aload_n 0, 1) := by decide +kernel
theorem dX14_init_183 : decode cX14_init 183 = .ok (.sipush 1536, 3) := by decide +kernel
theorem dX14_init_186 : decode cX14_init 186 = .ok (.newarray .int, 2) := by decide +kernel
theorem dX14_init_188 : decode cX14_init 188 = .ok (.putfield 85, 3) := by decide +kernel
theorem dX14_init_191 : decode cX14_init 191 = .ok (.aload_n 0, 1) := by decide +kernel
theorem dX14_init_192 : decode cX14_init 192 = .ok (.sipush 9600, 3) := by decide +kernel
theorem dX14_init_195 : decode cX14_init 195 = .ok (.newarray .int, 2) := by decide +kernel
theorem dX14_init_197 : decode cX14_init 197 = .ok (.putfield 88, 3) := by decide +kernel
theorem dX14_init_200 : decode cX14_init 200 = .ok (.aload_n 0, 1) := by decide +kernel
theorem dX14_init_201 : decode cX14_init 201 = .ok (.ldc 91, 2) := by decide +kernel
theorem dX14_init_203 : decode cX14_init 203 = .ok (.newarray .byte, 2) := by decide +kernel
theorem dX14_init_205 : decode cX14_init 205 = .ok (.putfield 92, 3) := by decide +kernel
theorem dX14_init_208 : decode cX14_init 208 = .ok (.aload_n 0, 1) := by decide +kernel
theorem dX14_init_209 : decode cX14_init 209 = .ok (.sipush 1200, 3) := by decide +kernel
theorem dX14_init_212 : decode cX14_init 212 = .ok (.newarray .boolean, 2) := by decide +kernel
theorem dX14_init_214 : decode cX14_init 214 = .ok (.putfield 95, 3) := by decide +kernel
theorem dX14_init_217 : decode cX14_init 217 = .ok (.aload_n 0, 1) := by decide +kernel
theorem dX14_init_218 : decode cX14_init 218 = .ok (.bipush 24, 2) := by decide +kernel
theorem dX14_init_220 : decode cX14_init 220 = .ok (.newarray .byte, 2) := by decide +kernel
theorem dX14_init_222 : decode cX14_init 222 = .ok (.putfield 99, 3) := by decide +kernel
theorem dX14_init_225 : decode cX14_init 225 = .ok (.aload_n 0, 1) := by decide +kernel
theorem dX14_init_226 : decode cX14_init 226 = .ok (.bipush 28, 2) := by decide +kernel
theorem dX14_init_228 : decode cX14_init 228 = .ok (.newarray .byte, 2) := by decide +kernel
theorem dX14_init_230 : decode cX14_init 230 = .ok (.putfield 102, 3) := by decide +kernel
theorem dX14_init_233 : decode cX14_init 233 = .ok (.aload_n 0, 1) := by decide +kernel
theorem dX14_init_234 : decode cX14_init 234 = .ok (.iconst (-1), 1) := by decide +kernel
theorem dX14_init_235 : decode cX14_init 235 = .ok (.putfield 105, 3) := by decide +kernel
theorem dX14_init_238 : decode cX14_init 238 = .ok (.aload_n 0, 1) := by decide +kernel
theorem dX14_init_239 : decode cX14_init 239 = .ok (.iconst (-1), 1) := by decide +kernel
theorem dX14_init_240 : decode cX14_init 240 = .ok (.putfield 108, 3) := by decide +kernel
theorem dX14_init_243 : decode cX14_init 243 = .ok (.aload_n 0, 1) := by decide +kernel
end
section
theorem dX14_init_244 : decode cX14_init 244 = .ok (.ldc 111, 2) := by decide +kernel
theorem dX14_init_246 : decode cX14_init 246 = .ok (.newarray .int, 2) := by decide +kernel
theorem dX14_init_248 : decode cX14_init 248 = .ok (.putfield 112, 3) := by decide +kernel
theorem dX14_init_251 : decode cX14_init 251 = .ok (.aload_n 0, 1) := by decide +kernel
theorem dX14_init_252 : decode cX14_init 252 = .ok (.sipush 700, 3) := by decide +kernel
theorem dX14_init_255 : decode cX14_init 255 = .ok (.newarray .int, 2) := by decide +kernel
theorem dX14_init_257 : decode cX14_init 257 = .ok (.putfield 115, 3) := by decide +kernel
theorem dX14_init_260 : decode cX14_init 260 = .ok (.aload_n 0, 1) := by decide +kernel
theorem dX14_init_261 : decode cX14_init 261 = .ok (.sipush 700, 3) := by decide +kernel
theorem dX14_init_264 : decode cX14_init 264 = .ok (.newarray .int, 2) := by decide +kernel
theorem dX14_init_266 : decode cX14_init 266 = .ok (.putfield 118, 3) := by decide +kernel
theorem dX14_init_269 : decode cX14_init 269 = .ok (.aload_n 0, 1) := by decide +kernel
theorem dX14_init_270 : decode cX14_init 270 = .ok (.sipush 700, 3) := by decide +kernel
theorem dX14_init_273 : decode cX14_init 273 = .ok (.newarray .int, 2) := by decide +kernel
theorem dX14_init_275 : decode cX14_init 275 = .ok (.putfield 121, 3) := by decide +kernel
theorem dX14_init_278 : decode cX14_init 278 = .ok (.aload_n 0, 1) := by decide +kernel
theorem dX14_init_279 : decode cX14_init 279 = .ok (.sipush 700, 3) := by decide +kernel
theorem dX14_init_282 : decode cX14_init 282 = .ok (.newarray .int, 2) := by decide +kernel
theorem dX14_init_284 : decode cX14_init 284 = .ok (.putfield 124, 3) := by decide +kernel
theorem dX14_init_287 : decode cX14_init 287 = .ok (.aload_n 0, 1) := by decide +kernel
theorem dX14_init_288 : decode cX14_init 288 = .ok (.sipush 700, 3) := by decide +kernel
theorem dX14_init_291 : decode cX14_init 291 = .ok (.newarray .long, 2) := by decide +kernel
theorem dX14_init_293 : decode cX14_init 293 = .ok (.putfield 127, 3) := by decide +kernel
theorem dX14_init_296 : decode cX14_init 296 = .ok (.aload_n 0, 1) := by decide +kernel
theorem dX14_init_297 : decode cX14_init 297 = .ok (.sipush 700, 3) := by decide +kernel
theorem dX14_init_300 : decode cX14_init 300 = .ok (.anewarray 130, 3) := by decide +kernel
theorem dX14_init_303 : decode cX14_init 303 = .ok (.putfield 132, 3) := by decide +kernel
theorem dX14_init_306 : decode cX14_init 306 = .ok (.aload_n 0, 1) := by decide +kernel
theorem dX14_init_307 : decode cX14_init 307 = .ok (.ldc 136, 2) := by decide +kernel
theorem dX14_init_309 : decode cX14_init 309 = .ok (.newarray .byte, 2) := by decide +kernel
theorem dX14_init_311 : decode cX14_init 311 = .ok (.putfield 137, 3) := by decide +kernel
theorem dX14_init_314 : decode cX14_init 314 = .ok (.aload_n 0, 1) := by decide +kernel
theorem dX14_init_315 : decode cX14_init 315 = .ok (.ldc 136, 2) := by decide +kernel
theorem dX14_init_317 : decode cX14_init 317 = .ok (.newarray .byte, 2) := by decide +kernel
theorem dX14_init_319 : decode cX14_init 319 = .ok (.putfield 140, 3) := by decide +kernel
theorem dX14_init_322 : decode cX14_init 322 = .ok (.aload_n 0, 1) := by decide +kernel
theorem dX14_init_323 : decode cX14_init 323 = .ok (.sipush 1297, 3) := by decide +kernel
theorem dX14_init_326 : decode cX14_init 326 = .ok (.newarray .int, 2) := by decide +kernel
theorem dX14_init_328 : decode cX14_init 328 = .ok (.putfield 143, 3) := by decide +kernel
theorem dX14_init_331 : decode cX14_init 331 = .ok (.aload_n 0, 1) := by decide +kernel
theorem dX14_init_332 : decode cX14_init 332 = .ok (.bipush 24, 2) := by decide +kernel
theorem dX14_init_334 : decode cX14_init 334 = .ok (.newarray .long, 2) := by decide +kernel
theorem dX14_init_336 : decode cX14_init 336 = .ok (.putfield 146, 3) := by decide +kernel
theorem dX14_init_339 : decode cX14_init 339 = .ok (.aload_n 0, 1) := by decide +kernel
theorem dX14_init_340 : decode cX14_init 340 = .ok (.sipush 20000, 3) := by decide +kernel
theorem dX14_init_343 : decode cX14_init 343 = .ok (.newarray .int, 2) := by decide +kernel
theorem dX14_init_345 : decode cX14_init 345 = .ok (.putfield 149, 3) := by decide +kernel
theorem dX14_init_348 : decode cX14_init 348 = .ok (.aload_n 0, 1) := by decide +kernel
theorem dX14_init_349 : decode cX14_init 349 = .ok (.sipush 401, 3) := by decide +kernel
theorem dX14_init_352 : decode cX14_init 352 = .ok (.newarray .int, 2) := by decide +kernel
theorem dX14_init_354 : decode cX14_init 354 = .ok (.putfield 152, 3) := by decide +kernel
theorem dX14_init_357 : decode cX14_init 357 = .ok (.aload_n 0, 1) := by decide +kernel
theorem dX14_init_358 : decode cX14_init 358 = .ok (.sipush 401, 3) := by decide +kernel
theorem dX14_init_361 : decode cX14_init 361 = .ok (.newarray .int, 2) := by decide +kernel
theorem dX14_init_363 : decode cX14_init 363 = .ok (.putfield 155, 3) := by decide +kernel
theorem dX14_init_366 : decode cX14_init 366 = .ok (.aload_n 0, 1) := by decide +kernel
theorem dX14_init_367 : decode cX14_init 367 = .ok (.bipush 8, 2) := by decide +kernel
theorem dX14_init_369 : decode cX14_init 369 = .ok (.newarray .long, 2) := by decide +kernel
theorem dX14_init_371 : decode cX14_init 371 = .ok (.putfield 158, 3) := by decide +kernel
theorem dX14_init_374 : decode cX14_init 374 = .ok (.aload_n 0, 1) := by decide +kernel
theorem dX14_init_375 : decode cX14_init 375 = .ok (.bipush 60, 2) := by decide +kernel
theorem dX14_init_377 : decode cX14_init 377 = .ok (.newarray .int, 2) := by decide +kernel
theorem dX14_init_379 : decode cX14_init 379 = .ok (.putfield 161, 3) := by decide +kernel
theorem dX14_init_382 : decode cX14_init 382 = .ok (.aload_n 0, 1) := by decide +kernel
theorem dX14_init_383 : decode cX14_init 383 = .ok (.bipush 60, 2) := by decide +kernel
theorem dX14_init_385 : decode cX14_init 385 = .ok (.newarray .int, 2) := by decide +kernel
theorem dX14_init_387 : decode cX14_init 387 = .ok (.putfield 164, 3) := by decide +kernel
theorem dX14_init_390 : decode cX14_init 390 = .ok (.aload_n 0, 1) := by decide +kernel
theorem dX14_init_391 : decode cX14_init 391 = .ok (.bipush 60, 2) := by decide +kernel
theorem dX14_init_393 : decode cX14_init 393 = .ok (.newarray .int, 2) := by decide +kernel
theorem dX14_init_395 : decode cX14_init 395 = .ok (.putfield 167, 3) := by decide +kernel
theorem dX14_init_398 : decode cX14_init 398 = .ok (.aload_n 0, 1) := by decide +kernel
theorem dX14_init_399 : decode cX14_init 399 = .ok (.sipush 1440, 3) := by decide +kernel
theorem dX14_init_402 : decode cX14_init 402 = .ok (.newarray .long, 2) := by decide +kernel
theorem dX14_init_404 : decode cX14_init 404 = .ok (.putfield 170, 3) := by decide +kernel
theorem dX14_init_407 : decode cX14_init 407 = .ok (.aload_n 0, 1) := by decide +kernel
theorem dX14_init_408 : decode cX14_init 408 = .ok (.sipush 1440, 3) := by decide +kernel
theorem dX14_init_411 : decode cX14_init 411 = .ok (.newarray .long, 2) := by decide +kernel
theorem dX14_init_413 : decode cX14_init 413 = .ok (.putfield 173, 3) := by decide +kernel
theorem dX14_init_416 : decode cX14_init 416 = .ok (.aload_n 0, 1) := by decide +kernel
theorem dX14_init_417 : decode cX14_init 417 = .ok (.sipush 1440, 3) := by decide +kernel
theorem dX14_init_420 : decode cX14_init 420 = .ok (.newarray .byte, 2) := by decide +kernel
theorem dX14_init_422 : decode cX14_init 422 = .ok (.putfield 176, 3) := by decide +kernel
theorem dX14_init_425 : decode cX14_init 425 = .ok (.aload_n 0, 1) := by decide +kernel
theorem dX14_init_426 : decode cX14_init 426 = .ok (.sipush 1440, 3) := by decide +kernel
theorem dX14_init_429 : decode cX14_init 429 = .ok (.newarray .byte, 2) := by decide +kernel
theorem dX14_init_431 : decode cX14_init 431 = .ok (.putfield 179, 3) := by decide +kernel
theorem dX14_init_434 : decode cX14_init 434 = .ok (.aload_n 0, 1) := by decide +kernel
theorem dX14_init_435 : decode cX14_init 435 = .ok (.iconst (-1), 1) := by decide +kernel
theorem dX14_init_436 : decode cX14_init 436 = .ok (.putfield 182, 3) := by decide +kernel
theorem dX14_init_439 : decode cX14_init 439 = .ok (.aload_n 0, 1) := by decide +kernel
theorem dX14_init_440 : decode cX14_init 440 = .ok (.sipush 1201, 3) := by decide +kernel
theorem dX14_init_443 : decode cX14_init 443 = .ok (.newarray .int, 2) := by decide +kernel
theorem dX14_init_445 : decode cX14_init 445 = .ok (.putfield 185, 3) := by decide +kernel
theorem dX14_init_448 : decode cX14_init 448 = .ok (.aload_n 0, 1) := by decide +kernel
theorem dX14_init_449 : decode cX14_init 449 = .ok (.sipush 1201, 3) := by decide +kernel
theorem dX14_init_452 : decode cX14_init 452 = .ok (.newarray .int, 2) := by decide +kernel
theorem dX14_init_454 : decode cX14_init 454 = .ok (.putfield 188, 3) := by decide +kernel
theorem dX14_init_457 : decode cX14_init 457 = .ok (.aload_n 0, 1) := by decide +kernel
theorem dX14_init_458 : decode cX14_init 458 = .ok (.iconst (-1), 1) := by decide +kernel
theorem dX14_init_459 : decode cX14_init 459 = .ok (.putfield 191, 3) := by decide +kernel
theorem dX14_init_462 : decode cX14_init 462 = .ok (.aload_n 0, 1) := by decide +kernel
theorem dX14_init_463 : decode cX14_init 463 = .ok (.sipush 1202, 3) := by decide +kernel
theorem dX14_init_466 : decode cX14_init 466 = .ok (.newarray .int, 2) := by decide +kernel
theorem dX14_init_468 : decode cX14_init 468 = .ok (.putfield 194, 3) := by decide +kernel
theorem dX14_init_471 : decode cX14_init 471 = .ok (.aload_n 0, 1) := by decide +kernel
theorem dX14_init_472 : decode cX14_init 472 = .ok (.sipush 24000, 3) := by decide +kernel
theorem dX14_init_475 : decode cX14_init 475 = .ok (.newarray .int, 2) := by decide +kernel
theorem dX14_init_477 : decode cX14_init 477 = .ok (.putfield 197, 3) := by decide +kernel
theorem dX14_init_480 : decode cX14_init 480 = .ok (.aload_n 0, 1) := by decide +kernel
theorem dX14_init_481 : decode cX14_init 481 = .ok (.sipush 1200, 3) := by decide +kernel
theorem dX14_init_484 : decode cX14_init 484 = .ok (.newarray .boolean, 2) := by decide +kernel
theorem dX14_init_486 : decode cX14_init 486 = .ok (.putfield 200, 3) := by decide +kernel
theorem dX14_init_489 : decode cX14_init 489 = .ok (.aload_n 0, 1) := by decide +kernel
theorem dX14_init_490 : decode cX14_init 490 = .ok (.ldc 203, 2) := by decide +kernel
theorem dX14_init_492 : decode cX14_init 492 = .ok (.newarray .int, 2) := by decide +kernel
theorem dX14_init_494 : decode cX14_init 494 = .ok (.putfield 204, 3) := by decide +kernel
theorem dX14_init_497 : decode cX14_init 497 = .ok (.aload_n 0, 1) := by decide +kernel
theorem dX14_init_498 : decode cX14_init 498 = .ok (.sipush 1200, 3) := by decide +kernel
theorem dX14_init_501 : decode cX14_init 501 = .ok (.newarray .int, 2) := by decide +kernel
theorem dX14_init_503 : decode cX14_init 503 = .ok (.putfield 207, 3) := by decide +kernel
theorem dX14_init_506 : decode cX14_init 506 = .ok (.aload_n 0, 1) := by decide +kernel
theorem dX14_init_507 : decode cX14_init 507 = .ok (.sipush 1200, 3) := by decide +kernel
theorem dX14_init_510 : decode cX14_init 510 = .ok (.newarray .boolean, 2) := by decide +kernel
theorem dX14_init_512 : decode cX14_init 512 = .ok (.putfield 210, 3) := by decide +kernel
theorem dX14_init_515 : decode cX14_init 515 = .ok (.aload_n 0, 1) := by decide +kernel
theorem dX14_init_516 : decode cX14_init 516 = .ok (.sipush 1200, 3) := by decide +kernel
theorem dX14_init_519 : decode cX14_init 519 = .ok (.newarray .int, 2) := by decide +kernel
theorem dX14_init_521 : decode cX14_init 521 = .ok (.putfield 213, 3) := by decide +kernel
theorem dX14_init_524 : decode cX14_init 524 = .ok (.aload_n 0, 1) := by decide +kernel
theorem dX14_init_525 : decode cX14_init 525 = .ok (.sipush 1200, 3) := by decide +kernel
theorem dX14_init_528 : decode cX14_init 528 = .ok (.newarray .boolean, 2) := by decide +kernel
theorem dX14_init_530 : decode cX14_init 530 = .ok (.putfield 216, 3) := by decide +kernel
theorem dX14_init_533 : decode cX14_init 533 = .ok (.aload_n 0, 1) := by decide +kernel
theorem dX14_init_534 : decode cX14_init 534 = .ok (.sipush 1200, 3) := by decide +kernel
theorem dX14_init_537 : decode cX14_init 537 = .ok (.newarray .int, 2) := by decide +kernel
theorem dX14_init_539 : decode cX14_init 539 = .ok (.putfield 219, 3) := by decide +kernel
theorem dX14_init_542 : decode cX14_init 542 = .ok (.aload_n 0, 1) := by decide +kernel
theorem dX14_init_543 : decode cX14_init 543 = .ok (.new 9, 3) := by decide +kernel
theorem dX14_init_546 : decode cX14_init 546 = .ok (.dup, 1) := by decide +kernel
theorem dX14_init_547 : decode cX14_init 547 = .ok (.invokespecial 222, 3) := by decide +kernel
theorem dX14_init_550 : decode cX14_init 550 = .ok (.putfield 223, 3) := by decide +kernel
theorem dX14_init_553 : decode cX14_init 553 = .ok (.aload_n 0, 1) := by decide +kernel
theorem dX14_init_554 : decode cX14_init 554 = .ok (.ldc 227, 2) := by decide +kernel
theorem dX14_init_556 : decode cX14_init 556 = .ok (.newarray .int, 2) := by decide +kernel
theorem dX14_init_558 : decode cX14_init 558 = .ok (.putfield 228, 3) := by decide +kernel
theorem dX14_init_561 : decode cX14_init 561 = .ok (.aload_n 0, 1) := by decide +kernel
theorem dX14_init_562 : decode cX14_init 562 = .ok (.ldc 81, 2) := by decide +kernel
theorem dX14_init_564 : decode cX14_init 564 = .ok (.newarray .int, 2) := by decide +kernel
theorem dX14_init_566 : decode cX14_init 566 = .ok (.putfield 231, 3) := by decide +kernel
end
section
theorem dX14_init_569 : decode cX14_init 569 = .ok (.aload_n 0, 1) := by decide +kernel
theorem dX14_init_570 : decode cX14_init 570 = .ok (.sipush 1536, 3) := by decide +kernel
theorem dX14_init_573 : decode cX14_init 573 = .ok (.newarray .int, 2) := by decide +kernel
theorem dX14_init_575 : decode cX14_init 575 = .ok (.putfield 234, 3) := by decide +kernel
theorem dX14_init_578 : decode cX14_init 578 = .ok (.aload_n 0, 1) := by decide +kernel
theorem dX14_init_579 : decode cX14_init 579 = .ok (.bipush 12, 2) := by decide +kernel
theorem dX14_init_581 : decode cX14_init 581 = .ok (.newarray .int, 2) := by decide +kernel
theorem dX14_init_583 : decode cX14_init 583 = .ok (.putfield 237, 3) := by decide +kernel
theorem dX14_init_586 : decode cX14_init 586 = .ok (.aload_n 0, 1) := by decide +kernel
theorem dX14_init_587 : decode cX14_init 587 = .ok (.sipush 1200, 3) := by decide +kernel
theorem dX14_init_590 : decode cX14_init 590 = .ok (.newarray .int, 2) := by decide +kernel
theorem dX14_init_592 : decode cX14_init 592 = .ok (.putfield 240, 3) := by decide +kernel
theorem dX14_init_595 : decode cX14_init 595 = .ok (.aload_n 0, 1) := by decide +kernel
theorem dX14_init_596 : decode cX14_init 596 = .ok (.sipush 1200, 3) := by decide +kernel
theorem dX14_init_599 : decode cX14_init 599 = .ok (.newarray .int, 2) := by decide +kernel
theorem dX14_init_601 : decode cX14_init 601 = .ok (.putfield 243, 3) := by decide +kernel
theorem dX14_init_604 : decode cX14_init 604 = .ok (.aload_n 0, 1) := by decide +kernel
theorem dX14_init_605 : decode cX14_init 605 = .ok (.sipush 1200, 3) := by decide +kernel
theorem dX14_init_608 : decode cX14_init 608 = .ok (.newarray .int, 2) := by decide +kernel
theorem dX14_init_610 : decode cX14_init 610 = .ok (.putfield 246, 3) := by decide +kernel
theorem dX14_init_613 : decode cX14_init 613 = .ok (.aload_n 0, 1) := by decide +kernel
theorem dX14_init_614 : decode cX14_init 614 = .ok (.sipush 1200, 3) := by decide +kernel
theorem dX14_init_617 : decode cX14_init 617 = .ok (.newarray .boolean, 2) := by decide +kernel
theorem dX14_init_619 : decode cX14_init 619 = .ok (.putfield 249, 3) := by decide +kernel
theorem dX14_init_622 : decode cX14_init 622 = .ok (.aload_n 0, 1) := by decide +kernel
theorem dX14_init_623 : decode cX14_init 623 = .ok (.bipush 16, 2) := by decide +kernel
theorem dX14_init_625 : decode cX14_init 625 = .ok (.newarray .int, 2) := by decide +kernel
theorem dX14_init_627 : decode cX14_init 627 = .ok (.putfield 252, 3) := by decide +kernel
theorem dX14_init_630 : decode cX14_init 630 = .ok (.aload_n 0, 1) := by decide +kernel
theorem dX14_init_631 : decode cX14_init 631 = .ok (.bipush 16, 2) := by decide +kernel
theorem dX14_init_633 : decode cX14_init 633 = .ok (.newarray .int, 2) := by decide +kernel
theorem dX14_init_635 : decode cX14_init 635 = .ok (.putfield 255, 3) := by decide +kernel
theorem dX14_init_638 : decode cX14_init 638 = .ok (.aload_n 0, 1) := by decide +kernel
theorem dX14_init_639 : decode cX14_init 639 = .ok (.bipush 16, 2) := by decide +kernel
theorem dX14_init_641 : decode cX14_init 641 = .ok (.newarray .int, 2) := by decide +kernel
theorem dX14_init_643 : decode cX14_init 643 = .ok (.putfield 258, 3) := by decide +kernel
theorem dX14_init_646 : decode cX14_init 646 = .ok (.aload_n 0, 1) := by decide +kernel
theorem dX14_init_647 : decode cX14_init 647 = .ok (.bipush 16, 2) := by decide +kernel
theorem dX14_init_649 : decode cX14_init 649 = .ok (.newarray .int, 2) := by decide +kernel
theorem dX14_init_651 : decode cX14_init 651 = .ok (.putfield 261, 3) := by decide +kernel
theorem dX14_init_654 : decode cX14_init 654 = .ok (.aload_n 0, 1) := by decide +kernel
theorem dX14_init_655 : decode cX14_init 655 = .ok (.bipush 16, 2) := by decide +kernel
theorem dX14_init_657 : decode cX14_init 657 = .ok (.newarray .boolean, 2) := by decide +kernel
theorem dX14_init_659 : decode cX14_init 659 = .ok (.putfield 264, 3) := by decide +kernel
theorem dX14_init_662 : decode cX14_init 662 = .ok (.aload_n 0, 1) := by decide +kernel
theorem dX14_init_663 : decode cX14_init 663 = .ok (.sipush 1201, 3) := by decide +kernel
theorem dX14_init_666 : decode cX14_init 666 = .ok (.newarray .boolean, 2) := by decide +kernel
theorem dX14_init_668 : decode cX14_init 668 = .ok (.putfield 267, 3) := by decide +kernel
theorem dX14_init_671 : decode cX14_init 671 = .ok (.aload_n 0, 1) := by decide +kernel
theorem dX14_init_672 : decode cX14_init 672 = .ok (.sipush 1200, 3) := by decide +kernel
theorem dX14_init_675 : decode cX14_init 675 = .ok (.newarray .boolean, 2) := by decide +kernel
theorem dX14_init_677 : decode cX14_init 677 = .ok (.putfield 270, 3) := by decide +kernel
theorem dX14_init_680 : decode cX14_init 680 = .ok (.aload_n 0, 1) := by decide +kernel
theorem dX14_init_681 : decode cX14_init 681 = .ok (.sipush 1200, 3) := by decide +kernel
theorem dX14_init_684 : decode cX14_init 684 = .ok (.newarray .int, 2) := by decide +kernel
theorem dX14_init_686 : decode cX14_init 686 = .ok (.putfield 273, 3) := by decide +kernel
theorem dX14_init_689 : decode cX14_init 689 = .ok (.aload_n 0, 1) := by decide +kernel
theorem dX14_init_690 : decode cX14_init 690 = .ok (.sipush 1200, 3) := by decide +kernel
theorem dX14_init_693 : decode cX14_init 693 = .ok (.newarray .int, 2) := by decide +kernel
theorem dX14_init_695 : decode cX14_init 695 = .ok (.putfield 276, 3) := by decide +kernel
theorem dX14_init_698 : decode cX14_init 698 = .ok (.aload_n 0, 1) := by decide +kernel
theorem dX14_init_699 : decode cX14_init 699 = .ok (.sipush 1201, 3) := by decide +kernel
theorem dX14_init_702 : decode cX14_init 702 = .ok (.newarray .int, 2) := by decide +kernel
theorem dX14_init_704 : decode cX14_init 704 = .ok (.putfield 279, 3) := by decide +kernel
theorem dX14_init_707 : decode cX14_init 707 = .ok (.aload_n 0, 1) := by decide +kernel
theorem dX14_init_708 : decode cX14_init 708 = .ok (.sipush 1200, 3) := by decide +kernel
theorem dX14_init_711 : decode cX14_init 711 = .ok (.newarray .int, 2) := by decide +kernel
theorem dX14_init_713 : decode cX14_init 713 = .ok (.putfield 282, 3) := by decide +kernel
theorem dX14_init_716 : decode cX14_init 716 = .ok (.return_, 1) := by decide +kernel
theorem dX14_isMethod_0 : decode cX14_isMethod 0 = .ok (.aload_n 0, 1) := by decide +kernel
theorem dX14_isMethod_1 : decode cX14_isMethod 1 = .ok (.iload_n 1, 1) := by decide +kernel
theorem dX14_isMethod_2 : decode cX14_isMethod 2 = .ok (.invokevirtual 658, 3) := by decide +kernel
theorem dX14_isMethod_5 : decode cX14_isMethod 5 = .ok (.ifnull 24, 3) := by decide +kernel
theorem dX14_isMethod_29 : decode cX14_isMethod 29 = .ok (.iconst 0, 1) := by decide +kernel
theorem dX14_isMethod_30 : decode cX14_isMethod 30 = .ok (.ireturn, 1) := by decide +kernel
theorem dX14_isRight_0 : decode cX14_isRight 0 = .ok (.aload_n 0, 1) := by decide +kernel
theorem dX14_isRight_1 : decode cX14_isRight 1 = .ok (.iload_n 1, 1) := by decide +kernel
theorem dX14_isRight_2 : decode cX14_isRight 2 = .ok (.invokevirtual 658, 3) := by decide +kernel
theorem dX14_isRight_5 : decode cX14_isRight 5 = .ok (.ifnull 20, 3) := by decide +kernel
theorem dX14_isRight_25 : decode cX14_isRight 25 = .ok (.iconst 0, 1) := by decide +kernel
theorem dX14_isRight_26 : decode cX14_isRight 26 = .ok (.ireturn, 1) := by decide +kernel
theorem dX14_layout_0 : decode cX14_layout 0 = .ok (.iconst 0, 1) := by decide +kernel
theorem dX14_layout_1 : decode cX14_layout 1 = .ok (.istore_n 1, 1) := by decide +kernel
theorem dX14_layout_2 : decode cX14_layout 2 = .ok (.iload_n 1, 1) := by decide +kernel
theorem dX14_layout_3 : decode cX14_layout 3 = .ok (.bipush 8, 2) := by decide +kernel
theorem dX14_layout_5 : decode cX14_layout 5 = .ok (.if_icmp .ge 54, 3) := by decide +kernel
theorem dX14_layout_8 : decode cX14_layout 8 = .ok (.aload_n 0, 1) := by decide +kernel
theorem dX14_layout_9 : decode cX14_layout 9 = .ok (.iload_n 1, 1) := by decide +kernel
theorem dX14_layout_10 : decode cX14_layout 10 = .ok (.aload_n 0, 1) := by decide +kernel
theorem dX14_layout_11 : decode cX14_layout 11 = .ok (.getfield 322, 3) := by decide +kernel
theorem dX14_layout_14 : decode cX14_layout 14 = .ok (.if_icmp .ge 7, 3) := by decide +kernel
theorem dX14_layout_21 : decode cX14_layout 21 = .ok (.iconst 0, 1) := by decide +kernel
theorem dX14_layout_22 : decode cX14_layout 22 = .ok (.iconst 2, 1) := by decide +kernel
theorem dX14_layout_23 : decode cX14_layout 23 = .ok (.aload_n 0, 1) := by decide +kernel
theorem dX14_layout_24 : decode cX14_layout 24 = .ok (.getfield 322, 3) := by decide +kernel
theorem dX14_layout_27 : decode cX14_layout 27 = .ok (.invokevirtual 325, 3) := by decide +kernel
theorem dX14_length_0 : decode cX14_length 0 = .ok (.aload_n 0, 1) := by decide +kernel
theorem dX14_length_1 : decode cX14_length 1 = .ok (.iload_n 1, 1) := by decide +kernel
theorem dX14_length_2 : decode cX14_length 2 = .ok (.iload_n 2, 1) := by decide +kernel
theorem dX14_length_3 : decode cX14_length 3 = .ok (.invokevirtual 662, 3) := by decide +kernel
theorem dX14_length_6 : decode cX14_length 6 = .ok (.ifCond .eq 17, 3) := by decide +kernel
theorem dX14_length_23 : decode cX14_length 23 = .ok (.iconst (-1), 1) := by decide +kernel
theorem dX14_length_24 : decode cX14_length 24 = .ok (.ireturn, 1) := by decide +kernel
theorem dX14_local_0 : decode cX14_local 0 = .ok (.aload_n 0, 1) := by decide +kernel
theorem dX14_local_1 : decode cX14_local 1 = .ok (.iload_n 1, 1) := by decide +kernel
theorem dX14_local_2 : decode cX14_local 2 = .ok (.iload_n 2, 1) := by decide +kernel
theorem dX14_local_3 : decode cX14_local 3 = .ok (.iload_n 3, 1) := by decide +kernel
theorem dX14_local_4 : decode cX14_local 4 = .ok (.invokevirtual 863, 3) := by decide +kernel
theorem dX14_local_7 : decode cX14_local 7 = .ok (.istore 5, 2) := by decide +kernel
theorem dX14_local_9 : decode cX14_local 9 = .ok (.iload 5, 2) := by decide +kernel
theorem dX14_local_11 : decode cX14_local 11 = .ok (.ifCond .lt 30, 3) := by decide +kernel
theorem dX14_local_41 : decode cX14_local 41 = .ok (.iconst (-1), 1) := by decide +kernel
theorem dX14_local_42 : decode cX14_local 42 = .ok (.ireturn, 1) := by decide +kernel
theorem dX14_method_0 : decode cX14_method 0 = .ok (.aload_n 0, 1) := by decide +kernel
theorem dX14_method_1 : decode cX14_method 1 = .ok (.getfield 105, 3) := by decide +kernel
theorem dX14_method_4 : decode cX14_method 4 = .ok (.ireturn, 1) := by decide +kernel
theorem dX14_must_0 : decode cX14_must 0 = .ok (.iload_n 1, 1) := by decide +kernel
theorem dX14_must_1 : decode cX14_must 1 = .ok (.ifCond .ne 10, 3) := by decide +kernel
theorem dX14_must_4 : decode cX14_must 4 = .ok (.aload_n 0, 1) := by decide +kernel
theorem dX14_must_5 : decode cX14_must 5 = .ok (.iload_n 2, 1) := by decide +kernel
theorem dX14_must_6 : decode cX14_must 6 = .ok (.iload_n 3, 1) := by decide +kernel
theorem dX14_must_7 : decode cX14_must 7 = .ok (.invokevirtual 302, 3) := by decide +kernel
theorem dX14_must_10 : decode cX14_must 10 = .ok (.athrow, 1) := by decide +kernel
theorem dX14_place_0 : decode cX14_place 0 = .ok (.aload_n 0, 1) := by decide +kernel
theorem dX14_place_1 : decode cX14_place 1 = .ok (.getfield 26, 3) := by decide +kernel
theorem dX14_place_4 : decode cX14_place 4 = .ok (.ireturn, 1) := by decide +kernel
theorem dX14_readFile_0 : decode cX14_readFile 0 = .ok (.aload_n 0, 1) := by decide +kernel
theorem dX14_readFile_1 : decode cX14_readFile 1 = .ok (.aload_n 1, 1) := by decide +kernel
theorem dX14_readFile_2 : decode cX14_readFile 2 = .ok (.putfield 309, 3) := by decide +kernel
theorem dX14_readFile_5 : decode cX14_readFile 5 = .ok (.aload_n 0, 1) := by decide +kernel
theorem dX14_readFile_6 : decode cX14_readFile 6 = .ok (.iload_n 2, 1) := by decide +kernel
theorem dX14_readFile_7 : decode cX14_readFile 7 = .ok (.putfield 322, 3) := by decide +kernel
theorem dX14_readFile_10 : decode cX14_readFile 10 = .ok (.aload_n 0, 1) := by decide +kernel
theorem dX14_readFile_11 : decode cX14_readFile 11 = .ok (.invokevirtual 552, 3) := by decide +kernel
theorem dX14_result_0 : decode cX14_result 0 = .ok (.aload_n 0, 1) := by decide +kernel
theorem dX14_result_1 : decode cX14_result 1 = .ok (.getfield 980, 3) := by decide +kernel
theorem dX14_result_4 : decode cX14_result 4 = .ok (.lreturn, 1) := by decide +kernel
theorem dX14_rule_0 : decode cX14_rule 0 = .ok (.aload_n 0, 1) := by decide +kernel
theorem dX14_rule_1 : decode cX14_rule 1 = .ok (.getfield 306, 3) := by decide +kernel
theorem dX14_rule_4 : decode cX14_rule 4 = .ok (.ireturn, 1) := by decide +kernel
theorem dX14_run_0 : decode cX14_run 0 = .ok (.aload_n 0, 1) := by decide +kernel
theorem dX14_run_1 : decode cX14_run 1 = .ok (.getfield 970, 3) := by decide +kernel
theorem dX14_run_4 : decode cX14_run 4 = .ok (.istore_n 3, 1) := by decide +kernel
theorem dX14_run_5 : decode cX14_run 5 = .ok (.aload_n 0, 1) := by decide +kernel
theorem dX14_run_6 : decode cX14_run 6 = .ok (.iconst 0, 1) := by decide +kernel
theorem dX14_run_7 : decode cX14_run 7 = .ok (.putfield 970, 3) := by decide +kernel
theorem dX14_run_10 : decode cX14_run 10 = .ok (.aload_n 0, 1) := by decide +kernel
theorem dX14_run_11 : decode cX14_run 11 = .ok (.getfield 961, 3) := by decide +kernel
theorem dX14_run_14 : decode cX14_run 14 = .ok (.ifnull 18, 3) := by decide +kernel
theorem dX14_run_32 : decode cX14_run 32 = .ok (.iconst (-1), 1) := by decide +kernel
end
section
theorem dX14_run_33 : decode cX14_run 33 = .ok (.ireturn, 1) := by decide +kernel
theorem dX14_size_0 : decode cX14_size 0 = .ok (.aload_n 0, 1) := by decide +kernel
theorem dX14_size_1 : decode cX14_size 1 = .ok (.iload_n 1, 1) := by decide +kernel
theorem dX14_size_2 : decode cX14_size 2 = .ok (.invokevirtual 658, 3) := by decide +kernel
theorem dX14_size_5 : decode cX14_size 5 = .ok (.astore_n 3, 1) := by decide +kernel
theorem dX14_size_6 : decode cX14_size 6 = .ok (.aload_n 3, 1) := by decide +kernel
theorem dX14_size_7 : decode cX14_size 7 = .ok (.ifnonnull 5, 3) := by decide +kernel
theorem dX14_size_10 : decode cX14_size 10 = .ok (.iconst (-1), 1) := by decide +kernel
theorem dX14_size_11 : decode cX14_size 11 = .ok (.ireturn, 1) := by decide +kernel
theorem dX14_stage_0 : decode cX14_stage 0 = .ok (.aload_n 0, 1) := by decide +kernel
theorem dX14_stage_1 : decode cX14_stage 1 = .ok (.iload_n 1, 1) := by decide +kernel
theorem dX14_stage_2 : decode cX14_stage 2 = .ok (.invokevirtual 860, 3) := by decide +kernel
theorem dX14_stage_5 : decode cX14_stage 5 = .ok (.ifCond .ne 5, 3) := by decide +kernel
theorem dX14_stage_8 : decode cX14_stage 8 = .ok (.iconst 0, 1) := by decide +kernel
theorem dX14_stage_9 : decode cX14_stage 9 = .ok (.ireturn, 1) := by decide +kernel
theorem dX14_stateAt_0 : decode cX14_stateAt 0 = .ok (.aload_n 0, 1) := by decide +kernel
theorem dX14_stateAt_1 : decode cX14_stateAt 1 = .ok (.iload_n 1, 1) := by decide +kernel
theorem dX14_stateAt_2 : decode cX14_stateAt 2 = .ok (.invokevirtual 860, 3) := by decide +kernel
theorem dX14_stateAt_5 : decode cX14_stateAt 5 = .ok (.ifCond .eq 49, 3) := by decide +kernel
theorem dX14_stateAt_54 : decode cX14_stateAt 54 = .ok (.iconst (-1), 1) := by decide +kernel
theorem dX14_stateAt_55 : decode cX14_stateAt 55 = .ok (.ireturn, 1) := by decide +kernel
theorem dX14_steps_0 : decode cX14_steps 0 = .ok (.aload_n 0, 1) := by decide +kernel
theorem dX14_steps_1 : decode cX14_steps 1 = .ok (.getfield 983, 3) := by decide +kernel
theorem dX14_steps_4 : decode cX14_steps 4 = .ok (.ireturn, 1) := by decide +kernel
theorem dX14_strays_0 : decode cX14_strays 0 = .ok (.aload_n 0, 1) := by decide +kernel
theorem dX14_strays_1 : decode cX14_strays 1 = .ok (.getfield 1050, 3) := by decide +kernel
theorem dX14_strays_4 : decode cX14_strays 4 = .ok (.ireturn, 1) := by decide +kernel
theorem dX14_verify_0 : decode cX14_verify 0 = .ok (.aload_n 0, 1) := by decide +kernel
theorem dX14_verify_1 : decode cX14_verify 1 = .ok (.iconst (-1), 1) := by decide +kernel
theorem dX14_verify_2 : decode cX14_verify 2 = .ok (.putfield 105, 3) := by decide +kernel
theorem dX14_verify_5 : decode cX14_verify 5 = .ok (.aload_n 0, 1) := by decide +kernel
theorem dX14_verify_6 : decode cX14_verify 6 = .ok (.iconst (-1), 1) := by decide +kernel
theorem dX14_verify_7 : decode cX14_verify 7 = .ok (.putfield 108, 3) := by decide +kernel
theorem dX14_verify_10 : decode cX14_verify 10 = .ok (.aload_n 0, 1) := by decide +kernel
theorem dX14_verify_11 : decode cX14_verify 11 = .ok (.iload_n 1, 1) := by decide +kernel
theorem dX14_verify_12 : decode cX14_verify 12 = .ok (.invokevirtual 658, 3) := by decide +kernel
theorem dX14_verify_15 : decode cX14_verify 15 = .ok (.astore_n 2, 1) := by decide +kernel
theorem dX14_verify_16 : decode cX14_verify 16 = .ok (.aload_n 2, 1) := by decide +kernel
theorem dX14_verify_17 : decode cX14_verify 17 = .ok (.ifnonnull 5, 3) := by decide +kernel
theorem dX14_verify_20 : decode cX14_verify 20 = .ok (.iconst (-1), 1) := by decide +kernel
theorem dX14_verify_21 : decode cX14_verify 21 = .ok (.ireturn, 1) := by decide +kernel
theorem dX14_word_0 : decode cX14_word 0 = .ok (.iconst 0, 1) := by decide +kernel
theorem dX14_word_1 : decode cX14_word 1 = .ok (.istore_n 2, 1) := by decide +kernel
theorem dX14_word_2 : decode cX14_word 2 = .ok (.iload_n 2, 1) := by decide +kernel
theorem dX14_word_3 : decode cX14_word 3 = .ok (.iconst 4, 1) := by decide +kernel
theorem dX14_word_4 : decode cX14_word 4 = .ok (.if_icmp .ge 38, 3) := by decide +kernel
theorem dX14_word_7 : decode cX14_word 7 = .ok (.aload_n 0, 1) := by decide +kernel
theorem dX14_word_8 : decode cX14_word 8 = .ok (.getfield 15, 3) := by decide +kernel
theorem dX14_word_11 : decode cX14_word 11 = .ok (.aload_n 0, 1) := by decide +kernel
theorem dX14_word_12 : decode cX14_word 12 = .ok (.getfield 285, 3) := by decide +kernel
theorem dX14_word_15 : decode cX14_word 15 = .ok (.iload_n 1, 1) := by decide +kernel
theorem dX14_word_16 : decode cX14_word 16 = .ok (.bipush 24, 2) := by decide +kernel
theorem dX14_word_18 : decode cX14_word 18 = .ok (.bipush 8, 2) := by decide +kernel
theorem dX14_word_20 : decode cX14_word 20 = .ok (.iload_n 2, 1) := by decide +kernel
theorem dX14_word_21 : decode cX14_word 21 = .ok (.imul, 1) := by decide +kernel
theorem dX14_word_22 : decode cX14_word 22 = .ok (.isub, 1) := by decide +kernel
theorem dX14_word_23 : decode cX14_word 23 = .ok (.ishr, 1) := by decide +kernel
theorem dX14_word_24 : decode cX14_word 24 = .ok (.i2b, 1) := by decide +kernel
theorem dX14_word_25 : decode cX14_word 25 = .ok (.bastore, 1) := by decide +kernel
theorem dX14_word_26 : decode cX14_word 26 = .ok (.aload_n 0, 1) := by decide +kernel
theorem dX14_word_27 : decode cX14_word 27 = .ok (.dup, 1) := by decide +kernel
theorem dX14_word_28 : decode cX14_word 28 = .ok (.getfield 285, 3) := by decide +kernel
theorem dX14_word_31 : decode cX14_word 31 = .ok (.iconst 1, 1) := by decide +kernel
theorem dX14_word_32 : decode cX14_word 32 = .ok (.iadd, 1) := by decide +kernel
theorem dX14_word_33 : decode cX14_word 33 = .ok (.putfield 285, 3) := by decide +kernel
theorem dX14_word_36 : decode cX14_word 36 = .ok (.iinc 2 1, 3) := by decide +kernel
theorem dX14_word_39 : decode cX14_word 39 = .ok (.goto (-37), 3) := by decide +kernel
theorem dX14_word_42 : decode cX14_word 42 = .ok (.return_, 1) := by decide +kernel
theorem dX14_write_0 : decode cX14_write 0 = .ok (.aload_n 0, 1) := by decide +kernel
theorem dX14_write_1 : decode cX14_write 1 = .ok (.iload_n 1, 1) := by decide +kernel
theorem dX14_write_2 : decode cX14_write 2 = .ok (.invokevirtual 860, 3) := by decide +kernel
theorem dX14_write_5 : decode cX14_write 5 = .ok (.ifCond .ne 5, 3) := by decide +kernel
theorem dX14_write_8 : decode cX14_write 8 = .ok (.iconst (-1), 1) := by decide +kernel
theorem dX14_write_9 : decode cX14_write 9 = .ok (.ireturn, 1) := by decide +kernel
theorem dX1_init_0 : decode cX1_init 0 = .ok (.aload_n 0, 1) := by decide +kernel
theorem dX1_init_1 : decode cX1_init 1 = .ok (.invokespecial 3, 3) := by decide +kernel
theorem dX1_init_4 : decode cX1_init 4 = .ok (.aload_n 0, 1) := by decide +kernel
theorem dX1_init_5 : decode cX1_init 5 = .ok (.new 9, 3) := by decide +kernel
theorem dX1_init_8 : decode cX1_init 8 = .ok (.dup, 1) := by decide +kernel
theorem dX1_init_9 : decode cX1_init 9 = .ok (.invokespecial 11, 3) := by decide +kernel
theorem dX1_init_12 : decode cX1_init 12 = .ok (.putfield 12, 3) := by decide +kernel
theorem dX1_init_15 : decode cX1_init 15 = .ok (.aload_n 0, 1) := by decide +kernel
theorem dX1_init_16 : decode cX1_init 16 = .ok (.iconst 0, 1) := by decide +kernel
theorem dX1_init_17 : decode cX1_init 17 = .ok (.newarray .byte, 2) := by decide +kernel
theorem dX1_init_19 : decode cX1_init 19 = .ok (.putfield 18, 3) := by decide +kernel
theorem dX1_init_22 : decode cX1_init 22 = .ok (.aload_n 0, 1) := by decide +kernel
theorem dX1_init_23 : decode cX1_init 23 = .ok (.iconst 0, 1) := by decide +kernel
theorem dX1_init_24 : decode cX1_init 24 = .ok (.newarray .boolean, 2) := by decide +kernel
theorem dX1_init_26 : decode cX1_init 26 = .ok (.putfield 22, 3) := by decide +kernel
theorem dX1_init_29 : decode cX1_init 29 = .ok (.aload_n 0, 1) := by decide +kernel
theorem dX1_init_30 : decode cX1_init 30 = .ok (.iconst 0, 1) := by decide +kernel
theorem dX1_init_31 : decode cX1_init 31 = .ok (.newarray .boolean, 2) := by decide +kernel
theorem dX1_init_33 : decode cX1_init 33 = .ok (.putfield 26, 3) := by decide +kernel
theorem dX1_init_36 : decode cX1_init 36 = .ok (.aload_n 0, 1) := by decide +kernel
theorem dX1_init_37 : decode cX1_init 37 = .ok (.bipush 48, 2) := by decide +kernel
theorem dX1_init_39 : decode cX1_init 39 = .ok (.newarray .byte, 2) := by decide +kernel
theorem dX1_init_41 : decode cX1_init 41 = .ok (.putfield 29, 3) := by decide +kernel
theorem dX1_init_44 : decode cX1_init 44 = .ok (.return_, 1) := by decide +kernel
theorem dX2_init_0 : decode cX2_init 0 = .ok (.aload_n 0, 1) := by decide +kernel
theorem dX2_init_1 : decode cX2_init 1 = .ok (.invokespecial 3, 3) := by decide +kernel
theorem dX2_init_4 : decode cX2_init 4 = .ok (.aload_n 0, 1) := by decide +kernel
theorem dX2_init_5 : decode cX2_init 5 = .ok (.new 9, 3) := by decide +kernel
theorem dX2_init_8 : decode cX2_init 8 = .ok (.dup, 1) := by decide +kernel
theorem dX2_init_9 : decode cX2_init 9 = .ok (.invokespecial 11, 3) := by decide +kernel
theorem dX2_init_12 : decode cX2_init 12 = .ok (.putfield 12, 3) := by decide +kernel
theorem dX2_init_15 : decode cX2_init 15 = .ok (.aload_n 0, 1) := by decide +kernel
theorem dX2_init_16 : decode cX2_init 16 = .ok (.sipush 1201, 3) := by decide +kernel
theorem dX2_init_19 : decode cX2_init 19 = .ok (.newarray .int, 2) := by decide +kernel
theorem dX2_init_21 : decode cX2_init 21 = .ok (.putfield 18, 3) := by decide +kernel
theorem dX2_init_24 : decode cX2_init 24 = .ok (.return_, 1) := by decide +kernel
theorem dX2_unitOf_0 : decode cX2_unitOf 0 = .ok (.aload_n 0, 1) := by decide +kernel
theorem dX2_unitOf_1 : decode cX2_unitOf 1 = .ok (.getfield 12, 3) := by decide +kernel
theorem dX2_unitOf_4 : decode cX2_unitOf 4 = .ok (.aload_n 1, 1) := by decide +kernel
theorem dX2_unitOf_5 : decode cX2_unitOf 5 = .ok (.invokevirtual 22, 3) := by decide +kernel
theorem dX2_unitOf_8 : decode cX2_unitOf 8 = .ok (.ifCond .eq 24, 3) := by decide +kernel
theorem dX2_unitOf_32 : decode cX2_unitOf 32 = .ok (.aconst_null, 1) := by decide +kernel
theorem dX2_unitOf_33 : decode cX2_unitOf 33 = .ok (.areturn, 1) := by decide +kernel
theorem dX3_init_0 : decode cX3_init 0 = .ok (.aload_n 0, 1) := by decide +kernel
theorem dX3_init_1 : decode cX3_init 1 = .ok (.invokespecial 3, 3) := by decide +kernel
theorem dX3_init_4 : decode cX3_init 4 = .ok (.aload_n 0, 1) := by decide +kernel
theorem dX3_init_5 : decode cX3_init 5 = .ok (.iconst 0, 1) := by decide +kernel
theorem dX3_init_6 : decode cX3_init 6 = .ok (.newarray .int, 2) := by decide +kernel
theorem dX3_init_8 : decode cX3_init 8 = .ok (.putfield 9, 3) := by decide +kernel
theorem dX3_init_11 : decode cX3_init 11 = .ok (.aload_n 0, 1) := by decide +kernel
theorem dX3_init_12 : decode cX3_init 12 = .ok (.iconst 0, 1) := by decide +kernel
theorem dX3_init_13 : decode cX3_init 13 = .ok (.newarray .int, 2) := by decide +kernel
theorem dX3_init_15 : decode cX3_init 15 = .ok (.putfield 15, 3) := by decide +kernel
theorem dX3_init_18 : decode cX3_init 18 = .ok (.aload_n 0, 1) := by decide +kernel
theorem dX3_init_19 : decode cX3_init 19 = .ok (.iconst 0, 1) := by decide +kernel
theorem dX3_init_20 : decode cX3_init 20 = .ok (.newarray .int, 2) := by decide +kernel
theorem dX3_init_22 : decode cX3_init 22 = .ok (.putfield 18, 3) := by decide +kernel
theorem dX3_init_25 : decode cX3_init 25 = .ok (.aload_n 0, 1) := by decide +kernel
theorem dX3_init_26 : decode cX3_init 26 = .ok (.bipush 16, 2) := by decide +kernel
theorem dX3_init_28 : decode cX3_init 28 = .ok (.newarray .int, 2) := by decide +kernel
theorem dX3_init_30 : decode cX3_init 30 = .ok (.putfield 21, 3) := by decide +kernel
theorem dX3_init_33 : decode cX3_init 33 = .ok (.aload_n 0, 1) := by decide +kernel
theorem dX3_init_34 : decode cX3_init 34 = .ok (.iconst 0, 1) := by decide +kernel
theorem dX3_init_35 : decode cX3_init 35 = .ok (.newarray .int, 2) := by decide +kernel
theorem dX3_init_37 : decode cX3_init 37 = .ok (.putfield 24, 3) := by decide +kernel
theorem dX3_init_40 : decode cX3_init 40 = .ok (.aload_n 0, 1) := by decide +kernel
theorem dX3_init_41 : decode cX3_init 41 = .ok (.iconst 0, 1) := by decide +kernel
theorem dX3_init_42 : decode cX3_init 42 = .ok (.newarray .int, 2) := by decide +kernel
theorem dX3_init_44 : decode cX3_init 44 = .ok (.putfield 27, 3) := by decide +kernel
theorem dX3_init_47 : decode cX3_init 47 = .ok (.aload_n 0, 1) := by decide +kernel
theorem dX3_init_48 : decode cX3_init 48 = .ok (.iconst 0, 1) := by decide +kernel
theorem dX3_init_49 : decode cX3_init 49 = .ok (.newarray .boolean, 2) := by decide +kernel
theorem dX3_init_51 : decode cX3_init 51 = .ok (.putfield 30, 3) := by decide +kernel
theorem dX3_init_54 : decode cX3_init 54 = .ok (.aload_n 0, 1) := by decide +kernel
theorem dX3_init_55 : decode cX3_init 55 = .ok (.iconst 0, 1) := by decide +kernel
theorem dX3_init_56 : decode cX3_init 56 = .ok (.newarray .long, 2) := by decide +kernel
end
section
theorem dX3_init_58 : decode cX3_init 58 = .ok (.putfield 34, 3) := by decide +kernel
theorem dX3_init_61 : decode cX3_init 61 = .ok (.aload_n 0, 1) := by decide +kernel
theorem dX3_init_62 : decode cX3_init 62 = .ok (.iconst 0, 1) := by decide +kernel
theorem dX3_init_63 : decode cX3_init 63 = .ok (.newarray .int, 2) := by decide +kernel
theorem dX3_init_65 : decode cX3_init 65 = .ok (.putfield 38, 3) := by decide +kernel
theorem dX3_init_68 : decode cX3_init 68 = .ok (.aload_n 0, 1) := by decide +kernel
theorem dX3_init_69 : decode cX3_init 69 = .ok (.iconst 0, 1) := by decide +kernel
theorem dX3_init_70 : decode cX3_init 70 = .ok (.newarray .int, 2) := by decide +kernel
theorem dX3_init_72 : decode cX3_init 72 = .ok (.putfield 41, 3) := by decide +kernel
theorem dX3_init_75 : decode cX3_init 75 = .ok (.aload_n 0, 1) := by decide +kernel
theorem dX3_init_76 : decode cX3_init 76 = .ok (.iconst 0, 1) := by decide +kernel
theorem dX3_init_77 : decode cX3_init 77 = .ok (.newarray .int, 2) := by decide +kernel
theorem dX3_init_79 : decode cX3_init 79 = .ok (.putfield 44, 3) := by decide +kernel
theorem dX3_init_82 : decode cX3_init 82 = .ok (.aload_n 0, 1) := by decide +kernel
theorem dX3_init_83 : decode cX3_init 83 = .ok (.iconst 0, 1) := by decide +kernel
theorem dX3_init_84 : decode cX3_init 84 = .ok (.newarray .int, 2) := by decide +kernel
theorem dX3_init_86 : decode cX3_init 86 = .ok (.putfield 47, 3) := by decide +kernel
theorem dX3_init_89 : decode cX3_init 89 = .ok (.aload_n 0, 1) := by decide +kernel
theorem dX3_init_90 : decode cX3_init 90 = .ok (.iconst 0, 1) := by decide +kernel
theorem dX3_init_91 : decode cX3_init 91 = .ok (.newarray .int, 2) := by decide +kernel
theorem dX3_init_93 : decode cX3_init 93 = .ok (.putfield 50, 3) := by decide +kernel
theorem dX3_init_96 : decode cX3_init 96 = .ok (.return_, 1) := by decide +kernel
theorem dX4_init_0 : decode cX4_init 0 = .ok (.aload_n 0, 1) := by decide +kernel
theorem dX4_init_1 : decode cX4_init 1 = .ok (.invokespecial 3, 3) := by decide +kernel
theorem dX4_init_4 : decode cX4_init 4 = .ok (.aload_n 0, 1) := by decide +kernel
theorem dX4_init_5 : decode cX4_init 5 = .ok (.iconst 0, 1) := by decide +kernel
theorem dX4_init_6 : decode cX4_init 6 = .ok (.newarray .int, 2) := by decide +kernel
theorem dX4_init_8 : decode cX4_init 8 = .ok (.putfield 9, 3) := by decide +kernel
theorem dX4_init_11 : decode cX4_init 11 = .ok (.aload_n 0, 1) := by decide +kernel
theorem dX4_init_12 : decode cX4_init 12 = .ok (.iconst 0, 1) := by decide +kernel
theorem dX4_init_13 : decode cX4_init 13 = .ok (.newarray .int, 2) := by decide +kernel
theorem dX4_init_15 : decode cX4_init 15 = .ok (.putfield 15, 3) := by decide +kernel
theorem dX4_init_18 : decode cX4_init 18 = .ok (.aload_n 0, 1) := by decide +kernel
theorem dX4_init_19 : decode cX4_init 19 = .ok (.iconst 0, 1) := by decide +kernel
theorem dX4_init_20 : decode cX4_init 20 = .ok (.newarray .boolean, 2) := by decide +kernel
theorem dX4_init_22 : decode cX4_init 22 = .ok (.putfield 18, 3) := by decide +kernel
theorem dX4_init_25 : decode cX4_init 25 = .ok (.return_, 1) := by decide +kernel
theorem dX5_addArgument_0 : decode cX5_addArgument 0 = .ok (.aload_n 0, 1) := by decide +kernel
theorem dX5_addArgument_1 : decode cX5_addArgument 1 = .ok (.getfield 54, 3) := by decide +kernel
theorem dX5_addArgument_4 : decode cX5_addArgument 4 = .ok (.bipush 8, 2) := by decide +kernel
theorem dX5_addArgument_6 : decode cX5_addArgument 6 = .ok (.if_icmp .lt 5, 3) := by decide +kernel
theorem dX5_addArgument_11 : decode cX5_addArgument 11 = .ok (.aload_n 0, 1) := by decide +kernel
theorem dX5_addArgument_12 : decode cX5_addArgument 12 = .ok (.getfield 22, 3) := by decide +kernel
theorem dX5_addArgument_15 : decode cX5_addArgument 15 = .ok (.aload_n 0, 1) := by decide +kernel
theorem dX5_addArgument_16 : decode cX5_addArgument 16 = .ok (.getfield 54, 3) := by decide +kernel
theorem dX5_addArgument_19 : decode cX5_addArgument 19 = .ok (.lload_n 1, 1) := by decide +kernel
theorem dX5_addArgument_20 : decode cX5_addArgument 20 = .ok (.lastore, 1) := by decide +kernel
theorem dX5_addArgument_21 : decode cX5_addArgument 21 = .ok (.aload_n 0, 1) := by decide +kernel
theorem dX5_addArgument_22 : decode cX5_addArgument 22 = .ok (.dup, 1) := by decide +kernel
theorem dX5_addArgument_23 : decode cX5_addArgument 23 = .ok (.getfield 54, 3) := by decide +kernel
theorem dX5_addArgument_26 : decode cX5_addArgument 26 = .ok (.iconst 1, 1) := by decide +kernel
theorem dX5_addArgument_27 : decode cX5_addArgument 27 = .ok (.iadd, 1) := by decide +kernel
theorem dX5_addArgument_28 : decode cX5_addArgument 28 = .ok (.putfield 54, 3) := by decide +kernel
theorem dX5_addArgument_31 : decode cX5_addArgument 31 = .ok (.aload_n 0, 1) := by decide +kernel
theorem dX5_addArgument_32 : decode cX5_addArgument 32 = .ok (.getfield 54, 3) := by decide +kernel
theorem dX5_addArgument_35 : decode cX5_addArgument 35 = .ok (.ireturn, 1) := by decide +kernel
theorem dX5_elementAt_0 : decode cX5_elementAt 0 = .ok (.iload_n 2, 1) := by decide +kernel
theorem dX5_elementAt_1 : decode cX5_elementAt 1 = .ok (.ifCond .lt 12, 3) := by decide +kernel
theorem dX5_elementAt_4 : decode cX5_elementAt 4 = .ok (.iload_n 2, 1) := by decide +kernel
theorem dX5_elementAt_5 : decode cX5_elementAt 5 = .ok (.aload_n 0, 1) := by decide +kernel
theorem dX5_elementAt_6 : decode cX5_elementAt 6 = .ok (.iload_n 1, 1) := by decide +kernel
theorem dX5_elementAt_7 : decode cX5_elementAt 7 = .ok (.invokevirtual 70, 3) := by decide +kernel
theorem dX5_elementAt_10 : decode cX5_elementAt 10 = .ok (.if_icmp .lt 7, 3) := by decide +kernel
theorem dX5_elementAt_13 : decode cX5_elementAt 13 = .ok (.iconst 0, 1) := by decide +kernel
theorem dX5_elementAt_14 : decode cX5_elementAt 14 = .ok (.goto 14, 3) := by decide +kernel
theorem dX5_elementAt_28 : decode cX5_elementAt 28 = .ok (.ireturn, 1) := by decide +kernel
theorem dX5_fieldAt_0 : decode cX5_fieldAt 0 = .ok (.aload_n 0, 1) := by decide +kernel
theorem dX5_fieldAt_1 : decode cX5_fieldAt 1 = .ok (.getfield 38, 3) := by decide +kernel
theorem dX5_fieldAt_4 : decode cX5_fieldAt 4 = .ok (.ifnull 24, 3) := by decide +kernel
theorem dX5_fieldAt_28 : decode cX5_fieldAt 28 = .ok (.lconst 0, 1) := by decide +kernel
theorem dX5_fieldAt_29 : decode cX5_fieldAt 29 = .ok (.goto 9, 3) := by decide +kernel
theorem dX5_fieldAt_38 : decode cX5_fieldAt 38 = .ok (.lreturn, 1) := by decide +kernel
theorem dX5_init_0 : decode cX5_init 0 = .ok (.aload_n 0, 1) := by decide +kernel
theorem dX5_init_1 : decode cX5_init 1 = .ok (.invokespecial 3, 3) := by decide +kernel
theorem dX5_init_4 : decode cX5_init 4 = .ok (.aload_n 0, 1) := by decide +kernel
theorem dX5_init_5 : decode cX5_init 5 = .ok (.bipush 24, 2) := by decide +kernel
theorem dX5_init_7 : decode cX5_init 7 = .ok (.newarray .long, 2) := by decide +kernel
theorem dX5_init_9 : decode cX5_init 9 = .ok (.putfield 9, 3) := by decide +kernel
theorem dX5_init_12 : decode cX5_init 12 = .ok (.aload_n 0, 1) := by decide +kernel
theorem dX5_init_13 : decode cX5_init 13 = .ok (.iconst 0, 1) := by decide +kernel
theorem dX5_init_14 : decode cX5_init 14 = .ok (.newarray .int, 2) := by decide +kernel
theorem dX5_init_16 : decode cX5_init 16 = .ok (.putfield 15, 3) := by decide +kernel
theorem dX5_init_19 : decode cX5_init 19 = .ok (.aload_n 0, 1) := by decide +kernel
theorem dX5_init_20 : decode cX5_init 20 = .ok (.bipush 8, 2) := by decide +kernel
theorem dX5_init_22 : decode cX5_init 22 = .ok (.newarray .int, 2) := by decide +kernel
theorem dX5_init_24 : decode cX5_init 24 = .ok (.putfield 19, 3) := by decide +kernel
theorem dX5_init_27 : decode cX5_init 27 = .ok (.aload_n 0, 1) := by decide +kernel
theorem dX5_init_28 : decode cX5_init 28 = .ok (.bipush 8, 2) := by decide +kernel
theorem dX5_init_30 : decode cX5_init 30 = .ok (.newarray .long, 2) := by decide +kernel
theorem dX5_init_32 : decode cX5_init 32 = .ok (.putfield 22, 3) := by decide +kernel
theorem dX5_init_35 : decode cX5_init 35 = .ok (.aload_n 0, 1) := by decide +kernel
theorem dX5_init_36 : decode cX5_init 36 = .ok (.iconst 0, 1) := by decide +kernel
theorem dX5_init_37 : decode cX5_init 37 = .ok (.newarray .long, 2) := by decide +kernel
theorem dX5_init_39 : decode cX5_init 39 = .ok (.putfield 25, 3) := by decide +kernel
theorem dX5_init_42 : decode cX5_init 42 = .ok (.aload_n 0, 1) := by decide +kernel
theorem dX5_init_43 : decode cX5_init 43 = .ok (.iconst 0, 1) := by decide +kernel
theorem dX5_init_44 : decode cX5_init 44 = .ok (.newarray .long, 2) := by decide +kernel
theorem dX5_init_46 : decode cX5_init 46 = .ok (.putfield 28, 3) := by decide +kernel
theorem dX5_init_49 : decode cX5_init 49 = .ok (.aload_n 0, 1) := by decide +kernel
theorem dX5_init_50 : decode cX5_init 50 = .ok (.sipush 180, 3) := by decide +kernel
theorem dX5_init_53 : decode cX5_init 53 = .ok (.newarray .int, 2) := by decide +kernel
theorem dX5_init_55 : decode cX5_init 55 = .ok (.putfield 31, 3) := by decide +kernel
theorem dX5_init_58 : decode cX5_init 58 = .ok (.aload_n 0, 1) := by decide +kernel
theorem dX5_init_59 : decode cX5_init 59 = .ok (.iconst (-1), 1) := by decide +kernel
theorem dX5_init_60 : decode cX5_init 60 = .ok (.putfield 34, 3) := by decide +kernel
theorem dX5_init_63 : decode cX5_init 63 = .ok (.return_, 1) := by decide +kernel
theorem dX5_isArray_0 : decode cX5_isArray 0 = .ok (.lload_n 1, 1) := by decide +kernel
theorem dX5_isArray_1 : decode cX5_isArray 1 = .ok (.lconst 1, 1) := by decide +kernel
theorem dX5_isArray_2 : decode cX5_isArray 2 = .ok (.lcmp, 1) := by decide +kernel
theorem dX5_isArray_3 : decode cX5_isArray 3 = .ok (.ifCond .lt 17, 3) := by decide +kernel
theorem dX5_isArray_6 : decode cX5_isArray 6 = .ok (.lload_n 1, 1) := by decide +kernel
theorem dX5_isArray_7 : decode cX5_isArray 7 = .ok (.aload_n 0, 1) := by decide +kernel
theorem dX5_isArray_8 : decode cX5_isArray 8 = .ok (.getfield 51, 3) := by decide +kernel
theorem dX5_isArray_11 : decode cX5_isArray 11 = .ok (.i2l, 1) := by decide +kernel
theorem dX5_isArray_12 : decode cX5_isArray 12 = .ok (.lcmp, 1) := by decide +kernel
theorem dX5_isArray_13 : decode cX5_isArray 13 = .ok (.ifCond .gt 7, 3) := by decide +kernel
theorem dX5_isArray_20 : decode cX5_isArray 20 = .ok (.iconst 0, 1) := by decide +kernel
theorem dX5_isArray_21 : decode cX5_isArray 21 = .ok (.ireturn, 1) := by decide +kernel
theorem dX5_lengthOf_0 : decode cX5_lengthOf 0 = .ok (.aload_n 0, 1) := by decide +kernel
theorem dX5_lengthOf_1 : decode cX5_lengthOf 1 = .ok (.iload_n 1, 1) := by decide +kernel
theorem dX5_lengthOf_2 : decode cX5_lengthOf 2 = .ok (.i2l, 1) := by decide +kernel
theorem dX5_lengthOf_3 : decode cX5_lengthOf 3 = .ok (.invokevirtual 62, 3) := by decide +kernel
theorem dX5_lengthOf_6 : decode cX5_lengthOf 6 = .ok (.ifCond .eq 19, 3) := by decide +kernel
theorem dX5_lengthOf_25 : decode cX5_lengthOf 25 = .ok (.iconst (-1), 1) := by decide +kernel
theorem dX5_lengthOf_26 : decode cX5_lengthOf 26 = .ok (.ireturn, 1) := by decide +kernel
theorem dX5_refusal_0 : decode cX5_refusal 0 = .ok (.aload_n 0, 1) := by decide +kernel
theorem dX5_refusal_1 : decode cX5_refusal 1 = .ok (.getfield 38, 3) := by decide +kernel
theorem dX5_refusal_4 : decode cX5_refusal 4 = .ok (.ifnull 14, 3) := by decide +kernel
theorem dX5_refusal_18 : decode cX5_refusal 18 = .ok (.iconst (-1), 1) := by decide +kernel
theorem dX5_refusal_19 : decode cX5_refusal 19 = .ok (.ireturn, 1) := by decide +kernel
theorem dX7_breaks_0 : decode cX7_breaks 0 = .ok (.aload_n 0, 1) := by decide +kernel
theorem dX7_breaks_1 : decode cX7_breaks 1 = .ok (.iload_n 1, 1) := by decide +kernel
theorem dX7_breaks_2 : decode cX7_breaks 2 = .ok (.putfield 41, 3) := by decide +kernel
theorem dX7_breaks_5 : decode cX7_breaks 5 = .ok (.aload_n 0, 1) := by decide +kernel
theorem dX7_breaks_6 : decode cX7_breaks 6 = .ok (.iload_n 2, 1) := by decide +kernel
theorem dX7_breaks_7 : decode cX7_breaks 7 = .ok (.putfield 15, 3) := by decide +kernel
theorem dX7_breaks_10 : decode cX7_breaks 10 = .ok (.iconst 0, 1) := by decide +kernel
theorem dX7_breaks_11 : decode cX7_breaks 11 = .ok (.ireturn, 1) := by decide +kernel
theorem dX7_init_0 : decode cX7_init 0 = .ok (.aload_n 0, 1) := by decide +kernel
theorem dX7_init_1 : decode cX7_init 1 = .ok (.invokespecial 3, 3) := by decide +kernel
theorem dX7_init_4 : decode cX7_init 4 = .ok (.aload_n 0, 1) := by decide +kernel
theorem dX7_init_5 : decode cX7_init 5 = .ok (.iconst 0, 1) := by decide +kernel
theorem dX7_init_6 : decode cX7_init 6 = .ok (.newarray .byte, 2) := by decide +kernel
theorem dX7_init_8 : decode cX7_init 8 = .ok (.putfield 9, 3) := by decide +kernel
theorem dX7_init_11 : decode cX7_init 11 = .ok (.aload_n 0, 1) := by decide +kernel
theorem dX7_init_12 : decode cX7_init 12 = .ok (.iconst (-1), 1) := by decide +kernel
theorem dX7_init_13 : decode cX7_init 13 = .ok (.putfield 15, 3) := by decide +kernel
theorem dX7_init_16 : decode cX7_init 16 = .ok (.aload_n 0, 1) := by decide +kernel
theorem dX7_init_17 : decode cX7_init 17 = .ok (.sipush 500, 3) := by decide +kernel
theorem dX7_init_20 : decode cX7_init 20 = .ok (.newarray .int, 2) := by decide +kernel
end
section
theorem dX7_init_22 : decode cX7_init 22 = .ok (.putfield 19, 3) := by decide +kernel
theorem dX7_init_25 : decode cX7_init 25 = .ok (.aload_n 0, 1) := by decide +kernel
theorem dX7_init_26 : decode cX7_init 26 = .ok (.bipush 48, 2) := by decide +kernel
theorem dX7_init_28 : decode cX7_init 28 = .ok (.newarray .int, 2) := by decide +kernel
theorem dX7_init_30 : decode cX7_init 30 = .ok (.putfield 23, 3) := by decide +kernel
theorem dX7_init_33 : decode cX7_init 33 = .ok (.aload_n 0, 1) := by decide +kernel
theorem dX7_init_34 : decode cX7_init 34 = .ok (.bipush 24, 2) := by decide +kernel
theorem dX7_init_36 : decode cX7_init 36 = .ok (.newarray .int, 2) := by decide +kernel
theorem dX7_init_38 : decode cX7_init 38 = .ok (.putfield 26, 3) := by decide +kernel
theorem dX7_init_41 : decode cX7_init 41 = .ok (.aload_n 0, 1) := by decide +kernel
theorem dX7_init_42 : decode cX7_init 42 = .ok (.bipush 24, 2) := by decide +kernel
theorem dX7_init_44 : decode cX7_init 44 = .ok (.newarray .int, 2) := by decide +kernel
theorem dX7_init_46 : decode cX7_init 46 = .ok (.putfield 29, 3) := by decide +kernel
theorem dX7_init_49 : decode cX7_init 49 = .ok (.return_, 1) := by decide +kernel
theorem dX7_isSound_0 : decode cX7_isSound 0 = .ok (.aload_n 0, 1) := by decide +kernel
theorem dX7_isSound_1 : decode cX7_isSound 1 = .ok (.aload_n 1, 1) := by decide +kernel
theorem dX7_isSound_2 : decode cX7_isSound 2 = .ok (.getfield 32, 3) := by decide +kernel
theorem dX7_isSound_5 : decode cX7_isSound 5 = .ok (.putfield 9, 3) := by decide +kernel
theorem dX7_isSound_8 : decode cX7_isSound 8 = .ok (.aload_n 0, 1) := by decide +kernel
theorem dX7_isSound_9 : decode cX7_isSound 9 = .ok (.aload_n 1, 1) := by decide +kernel
theorem dX7_isSound_10 : decode cX7_isSound 10 = .ok (.getfield 35, 3) := by decide +kernel
theorem dX7_isSound_13 : decode cX7_isSound 13 = .ok (.putfield 38, 3) := by decide +kernel
theorem dX7_isSound_16 : decode cX7_isSound 16 = .ok (.aload_n 0, 1) := by decide +kernel
theorem dX7_isSound_17 : decode cX7_isSound 17 = .ok (.iconst 0, 1) := by decide +kernel
theorem dX7_isSound_18 : decode cX7_isSound 18 = .ok (.putfield 41, 3) := by decide +kernel
theorem dX7_isSound_21 : decode cX7_isSound 21 = .ok (.aload_n 0, 1) := by decide +kernel
theorem dX7_isSound_22 : decode cX7_isSound 22 = .ok (.iconst (-1), 1) := by decide +kernel
theorem dX7_isSound_23 : decode cX7_isSound 23 = .ok (.putfield 15, 3) := by decide +kernel
theorem dX7_isSound_26 : decode cX7_isSound 26 = .ok (.aload_n 0, 1) := by decide +kernel
theorem dX7_isSound_27 : decode cX7_isSound 27 = .ok (.iconst 0, 1) := by decide +kernel
theorem dX7_isSound_28 : decode cX7_isSound 28 = .ok (.putfield 44, 3) := by decide +kernel
theorem dX7_isSound_31 : decode cX7_isSound 31 = .ok (.aload_n 0, 1) := by decide +kernel
theorem dX7_isSound_32 : decode cX7_isSound 32 = .ok (.invokevirtual 47, 3) := by decide +kernel
theorem dX7_isSound_35 : decode cX7_isSound 35 = .ok (.ifCond .eq 115, 3) := by decide +kernel
theorem dX7_isSound_150 : decode cX7_isSound 150 = .ok (.iconst 0, 1) := by decide +kernel
theorem dX7_isSound_151 : decode cX7_isSound 151 = .ok (.ireturn, 1) := by decide +kernel
theorem dX7_magicHolds_0 : decode cX7_magicHolds 0 = .ok (.iconst 0, 1) := by decide +kernel
theorem dX7_magicHolds_1 : decode cX7_magicHolds 1 = .ok (.istore_n 1, 1) := by decide +kernel
theorem dX7_magicHolds_2 : decode cX7_magicHolds 2 = .ok (.iload_n 1, 1) := by decide +kernel
theorem dX7_magicHolds_3 : decode cX7_magicHolds 3 = .ok (.getstatic 97, 3) := by decide +kernel
theorem dX7_magicHolds_6 : decode cX7_magicHolds 6 = .ok (.arraylength, 1) := by decide +kernel
theorem dX7_magicHolds_7 : decode cX7_magicHolds 7 = .ok (.if_icmp .ge 47, 3) := by decide +kernel
theorem dX7_magicHolds_10 : decode cX7_magicHolds 10 = .ok (.iload_n 1, 1) := by decide +kernel
theorem dX7_magicHolds_11 : decode cX7_magicHolds 11 = .ok (.aload_n 0, 1) := by decide +kernel
theorem dX7_magicHolds_12 : decode cX7_magicHolds 12 = .ok (.getfield 38, 3) := by decide +kernel
theorem dX7_magicHolds_15 : decode cX7_magicHolds 15 = .ok (.if_icmp .lt 13, 3) := by decide +kernel
theorem dX7_magicHolds_18 : decode cX7_magicHolds 18 = .ok (.aload_n 0, 1) := by decide +kernel
theorem dX7_magicHolds_19 : decode cX7_magicHolds 19 = .ok (.iconst 2, 1) := by decide +kernel
theorem dX7_magicHolds_20 : decode cX7_magicHolds 20 = .ok (.aload_n 0, 1) := by decide +kernel
theorem dX7_magicHolds_21 : decode cX7_magicHolds 21 = .ok (.getfield 38, 3) := by decide +kernel
theorem dX7_magicHolds_24 : decode cX7_magicHolds 24 = .ok (.invokevirtual 87, 3) := by decide +kernel
theorem dX7_magicHolds_27 : decode cX7_magicHolds 27 = .ok (.ireturn, 1) := by decide +kernel
theorem dX8_init_0 : decode cX8_init 0 = .ok (.aload_n 0, 1) := by decide +kernel
theorem dX8_init_1 : decode cX8_init 1 = .ok (.invokespecial 3, 3) := by decide +kernel
theorem dX8_init_4 : decode cX8_init 4 = .ok (.aload_n 0, 1) := by decide +kernel
theorem dX8_init_5 : decode cX8_init 5 = .ok (.iload_n 1, 1) := by decide +kernel
theorem dX8_init_6 : decode cX8_init 6 = .ok (.newarray .int, 2) := by decide +kernel
theorem dX8_init_8 : decode cX8_init 8 = .ok (.putfield 9, 3) := by decide +kernel
theorem dX8_init_11 : decode cX8_init 11 = .ok (.aload_n 0, 1) := by decide +kernel
theorem dX8_init_12 : decode cX8_init 12 = .ok (.iload_n 1, 1) := by decide +kernel
theorem dX8_init_13 : decode cX8_init 13 = .ok (.newarray .long, 2) := by decide +kernel
theorem dX8_init_15 : decode cX8_init 15 = .ok (.putfield 15, 3) := by decide +kernel
theorem dX8_init_18 : decode cX8_init 18 = .ok (.aload_n 0, 1) := by decide +kernel
theorem dX8_init_19 : decode cX8_init 19 = .ok (.iload_n 2, 1) := by decide +kernel
theorem dX8_init_20 : decode cX8_init 20 = .ok (.newarray .int, 2) := by decide +kernel
theorem dX8_init_22 : decode cX8_init 22 = .ok (.putfield 19, 3) := by decide +kernel
theorem dX8_init_25 : decode cX8_init 25 = .ok (.aload_n 0, 1) := by decide +kernel
theorem dX8_init_26 : decode cX8_init 26 = .ok (.iload_n 3, 1) := by decide +kernel
theorem dX8_init_27 : decode cX8_init 27 = .ok (.newarray .int, 2) := by decide +kernel
theorem dX8_init_29 : decode cX8_init 29 = .ok (.putfield 22, 3) := by decide +kernel
theorem dX8_init_32 : decode cX8_init 32 = .ok (.aload_n 0, 1) := by decide +kernel
theorem dX8_init_33 : decode cX8_init 33 = .ok (.iload_n 3, 1) := by decide +kernel
theorem dX8_init_34 : decode cX8_init 34 = .ok (.newarray .int, 2) := by decide +kernel
theorem dX8_init_36 : decode cX8_init 36 = .ok (.putfield 25, 3) := by decide +kernel
theorem dX8_init_39 : decode cX8_init 39 = .ok (.aload_n 0, 1) := by decide +kernel
theorem dX8_init_40 : decode cX8_init 40 = .ok (.iload_n 3, 1) := by decide +kernel
theorem dX8_init_41 : decode cX8_init 41 = .ok (.newarray .int, 2) := by decide +kernel
theorem dX8_init_43 : decode cX8_init 43 = .ok (.putfield 28, 3) := by decide +kernel
theorem dX8_init_46 : decode cX8_init 46 = .ok (.aload_n 0, 1) := by decide +kernel
theorem dX8_init_47 : decode cX8_init 47 = .ok (.iload_n 3, 1) := by decide +kernel
theorem dX8_init_48 : decode cX8_init 48 = .ok (.newarray .int, 2) := by decide +kernel
theorem dX8_init_50 : decode cX8_init 50 = .ok (.putfield 31, 3) := by decide +kernel
theorem dX8_init_53 : decode cX8_init 53 = .ok (.return_, 1) := by decide +kernel
theorem dX9_appliedAt_0 : decode cX9_appliedAt 0 = .ok (.iload_n 1, 1) := by decide +kernel
theorem dX9_appliedAt_1 : decode cX9_appliedAt 1 = .ok (.ifCond .lt 12, 3) := by decide +kernel
theorem dX9_appliedAt_4 : decode cX9_appliedAt 4 = .ok (.iload_n 1, 1) := by decide +kernel
theorem dX9_appliedAt_5 : decode cX9_appliedAt 5 = .ok (.aload_n 0, 1) := by decide +kernel
theorem dX9_appliedAt_6 : decode cX9_appliedAt 6 = .ok (.getfield 20, 3) := by decide +kernel
theorem dX9_appliedAt_9 : decode cX9_appliedAt 9 = .ok (.arraylength, 1) := by decide +kernel
theorem dX9_appliedAt_10 : decode cX9_appliedAt 10 = .ok (.if_icmp .lt 7, 3) := by decide +kernel
theorem dX9_appliedAt_13 : decode cX9_appliedAt 13 = .ok (.iconst 0, 1) := by decide +kernel
theorem dX9_appliedAt_14 : decode cX9_appliedAt 14 = .ok (.goto 9, 3) := by decide +kernel
theorem dX9_appliedAt_17 : decode cX9_appliedAt 17 = .ok (.aload_n 0, 1) := by decide +kernel
theorem dX9_appliedAt_18 : decode cX9_appliedAt 18 = .ok (.getfield 20, 3) := by decide +kernel
theorem dX9_appliedAt_21 : decode cX9_appliedAt 21 = .ok (.iload_n 1, 1) := by decide +kernel
theorem dX9_appliedAt_22 : decode cX9_appliedAt 22 = .ok (.iaload, 1) := by decide +kernel
theorem dX9_appliedAt_23 : decode cX9_appliedAt 23 = .ok (.ireturn, 1) := by decide +kernel
theorem dX9_forgetApplied_0 : decode cX9_forgetApplied 0 = .ok (.aload_n 0, 1) := by decide +kernel
theorem dX9_forgetApplied_1 : decode cX9_forgetApplied 1 = .ok (.getfield 20, 3) := by decide +kernel
theorem dX9_forgetApplied_4 : decode cX9_forgetApplied 4 = .ok (.iconst 0, 1) := by decide +kernel
theorem dX9_forgetApplied_5 : decode cX9_forgetApplied 5 = .ok (.invokestatic 37, 3) := by decide +kernel
theorem dX9_forgetApplied_8 : decode cX9_forgetApplied 8 = .ok (.return_, 1) := by decide +kernel
theorem dX9_init_0 : decode cX9_init 0 = .ok (.aload_n 0, 1) := by decide +kernel
theorem dX9_init_1 : decode cX9_init 1 = .ok (.invokespecial 3, 3) := by decide +kernel
theorem dX9_init_4 : decode cX9_init 4 = .ok (.aload_n 0, 1) := by decide +kernel
theorem dX9_init_5 : decode cX9_init 5 = .ok (.new 9, 3) := by decide +kernel
theorem dX9_init_8 : decode cX9_init 8 = .ok (.dup, 1) := by decide +kernel
theorem dX9_init_9 : decode cX9_init 9 = .ok (.iconst 0, 1) := by decide +kernel
theorem dX9_init_10 : decode cX9_init 10 = .ok (.iconst 0, 1) := by decide +kernel
theorem dX9_init_11 : decode cX9_init 11 = .ok (.iconst 0, 1) := by decide +kernel
theorem dX9_init_12 : decode cX9_init 12 = .ok (.invokespecial 11, 3) := by decide +kernel
theorem dX9_init_15 : decode cX9_init 15 = .ok (.putfield 14, 3) := by decide +kernel
theorem dX9_init_18 : decode cX9_init 18 = .ok (.aload_n 0, 1) := by decide +kernel
theorem dX9_init_19 : decode cX9_init 19 = .ok (.bipush 12, 2) := by decide +kernel
theorem dX9_init_21 : decode cX9_init 21 = .ok (.newarray .int, 2) := by decide +kernel
theorem dX9_init_23 : decode cX9_init 23 = .ok (.putfield 20, 3) := by decide +kernel
theorem dX9_init_26 : decode cX9_init 26 = .ok (.aload_n 0, 1) := by decide +kernel
theorem dX9_init_27 : decode cX9_init 27 = .ok (.iconst 0, 1) := by decide +kernel
theorem dX9_init_28 : decode cX9_init 28 = .ok (.newarray .boolean, 2) := by decide +kernel
theorem dX9_init_30 : decode cX9_init 30 = .ok (.putfield 24, 3) := by decide +kernel
theorem dX9_init_33 : decode cX9_init 33 = .ok (.aload_n 0, 1) := by decide +kernel
theorem dX9_init_34 : decode cX9_init 34 = .ok (.iconst 0, 1) := by decide +kernel
theorem dX9_init_35 : decode cX9_init 35 = .ok (.newarray .boolean, 2) := by decide +kernel
theorem dX9_init_37 : decode cX9_init 37 = .ok (.putfield 28, 3) := by decide +kernel
theorem dX9_init_40 : decode cX9_init 40 = .ok (.aload_n 0, 1) := by decide +kernel
theorem dX9_init_41 : decode cX9_init 41 = .ok (.iconst 0, 1) := by decide +kernel
theorem dX9_init_42 : decode cX9_init 42 = .ok (.newarray .int, 2) := by decide +kernel
theorem dX9_init_44 : decode cX9_init 44 = .ok (.putfield 31, 3) := by decide +kernel
theorem dX9_init_47 : decode cX9_init 47 = .ok (.aload_n 0, 1) := by decide +kernel
theorem dX9_init_48 : decode cX9_init 48 = .ok (.iconst 0, 1) := by decide +kernel
theorem dX9_init_49 : decode cX9_init 49 = .ok (.newarray .int, 2) := by decide +kernel
theorem dX9_init_51 : decode cX9_init 51 = .ok (.putfield 34, 3) := by decide +kernel
theorem dX9_init_54 : decode cX9_init 54 = .ok (.return_, 1) := by decide +kernel
end
section
def tbr_0 : List Cond := [Cond.methodLink RX0 1 objectInit, Cond.instanceMethod objectInit, Cond.code objectInit ⟨#[0xb1]⟩ 1 none, Cond.arrayClass .byte, Cond.fieldLink RX0 7 "CodeFoundry$Bytes" "data" "[B", Cond.methodLink RX4 3 objectInit, Cond.arrayClass .int, Cond.fieldLink RX4 9 "CodeFoundry$Heights" "come" "[I", Cond.fieldLink RX4 15 "CodeFoundry$Heights" "waiting" "[I", Cond.arrayClass .boolean, Cond.fieldLink RX4 18 "CodeFoundry$Heights" "wrong" "[Z", Cond.methodLink RX8 3 objectInit, Cond.fieldLink RX8 9 "CodeFoundry$Row" "op" "[I", Cond.arrayClass .long, Cond.fieldLink RX8 15 "CodeFoundry$Row" "arg" "[J", Cond.fieldLink RX8 19 "CodeFoundry$Row" "table" "[I", Cond.fieldLink RX8 22 "CodeFoundry$Row" "catchFrom" "[I", Cond.fieldLink RX8 25 "CodeFoundry$Row" "catchTo" "[I", Cond.fieldLink RX8 28 "CodeFoundry$Row" "catchAt" "[I", Cond.fieldLink RX8 31 "CodeFoundry$Row" "catchKind" "[I", Cond.methodLink RX1 3 objectInit, Cond.classLink RX1 9 RX4, Cond.instantiable RX4 8, Cond.initialized RX4, Cond.code yX4_init cX4_init 1 none, Cond.instanceMethod yX4_init, Cond.fieldLink RX1 12 "CodeFoundry$Checker" "heights" "LCodeFoundry$Heights;", Cond.fieldLink RX1 18 "CodeFoundry$Checker" "before" "[B", Cond.fieldLink RX1 22 "CodeFoundry$Checker" "come" "[Z", Cond.fieldLink RX1 26 "CodeFoundry$Checker" "waiting" "[Z", Cond.fieldLink RX1 29 "CodeFoundry$Checker" "now" "[B", Cond.methodLink RX7 3 objectInit, Cond.fieldLink RX7 9 "CodeFoundry$Reader" "data" "[B", Cond.fieldLink RX7 15 "CodeFoundry$Reader" "brokenPlace" "I", Cond.fieldLink RX7 19 "CodeFoundry$Reader" "entry" "[I", Cond.fieldLink RX7 23 "CodeFoundry$Reader" "memberAt" "[I", Cond.fieldLink RX7 26 "CodeFoundry$Reader" "codeAt" "[I", Cond.fieldLink RX7 29 "CodeFoundry$Reader" "codeEnd" "[I", Cond.methodLink RX2 3 objectInit, Cond.classLink RX2 9 RX7]
def tbr_1 : List Cond := [Cond.instantiable RX7 17, Cond.initialized RX7, Cond.code yX7_init cX7_init 1 none, Cond.instanceMethod yX7_init, Cond.fieldLink RX2 12 "CodeFoundry$CodeReader" "file" "LCodeFoundry$Reader;", Cond.fieldLink RX2 18 "CodeFoundry$CodeReader" "numberAt" "[I", Cond.methodLink RX11 3 objectInit, Cond.classLink RX11 9 RX0, Cond.instantiable RX0 2, Cond.initialized RX0, Cond.code yX0_init cX0_init 1 none, Cond.instanceMethod yX0_init, Cond.fieldLink RX11 12 "CodeFoundry$Writer" "pool" "LCodeFoundry$Bytes;", Cond.fieldLink RX11 18 "CodeFoundry$Writer" "rest" "LCodeFoundry$Bytes;", Cond.fieldLink RX11 21 "CodeFoundry$Writer" "wanted" "LCodeFoundry$Bytes;", Cond.fieldLink RX11 24 "CodeFoundry$Writer" "entryAt" "[I", Cond.fieldLink RX11 28 "CodeFoundry$Writer" "entryEnd" "[I", Cond.fieldLink RX11 31 "CodeFoundry$Writer" "fieldName" "[I", Cond.fieldLink RX11 34 "CodeFoundry$Writer" "fieldType" "[I", Cond.fieldLink RX11 37 "CodeFoundry$Writer" "fieldEntry" "[I", Cond.fieldLink RX11 40 "CodeFoundry$Writer" "methodEntry" "[I", Cond.classLink RX11 43 RX4, Cond.fieldLink RX11 46 "CodeFoundry$Writer" "heights" "LCodeFoundry$Heights;", Cond.fieldLink RX11 50 "CodeFoundry$Writer" "needs" "[I", Cond.fieldLink RX11 53 "CodeFoundry$Writer" "offsets" "[I", Cond.methodLink RX5 3 objectInit, Cond.fieldLink RX5 9 "CodeFoundry$Machine" "fields" "[J", Cond.fieldLink RX5 15 "CodeFoundry$Machine" "heap" "[I", Cond.fieldLink RX5 19 "CodeFoundry$Machine" "arrayAt" "[I", Cond.fieldLink RX5 22 "CodeFoundry$Machine" "arguments" "[J", Cond.fieldLink RX5 25 "CodeFoundry$Machine" "locals" "[J", Cond.fieldLink RX5 28 "CodeFoundry$Machine" "stack" "[J", Cond.fieldLink RX5 31 "CodeFoundry$Machine" "frames" "[I", Cond.fieldLink RX5 34 "CodeFoundry$Machine" "lastError" "I", Cond.methodLink RX3 3 objectInit, Cond.fieldLink RX3 9 "CodeFoundry$Graph" "start" "[I", Cond.fieldLink RX3 15 "CodeFoundry$Graph" "blockOf" "[I", Cond.fieldLink RX3 18 "CodeFoundry$Graph" "edgeAt" "[I", Cond.fieldLink RX3 21 "CodeFoundry$Graph" "edges" "[I", Cond.fieldLink RX3 24 "CodeFoundry$Graph" "backAt" "[I"]
def tbr_2 : List Cond := [Cond.fieldLink RX3 27 "CodeFoundry$Graph" "backs" "[I", Cond.fieldLink RX3 30 "CodeFoundry$Graph" "reached" "[Z", Cond.fieldLink RX3 34 "CodeFoundry$Graph" "dominators" "[J", Cond.fieldLink RX3 38 "CodeFoundry$Graph" "dominator" "[I", Cond.fieldLink RX3 41 "CodeFoundry$Graph" "latches" "[I", Cond.fieldLink RX3 44 "CodeFoundry$Graph" "depth" "[I", Cond.fieldLink RX3 47 "CodeFoundry$Graph" "seen" "[I", Cond.fieldLink RX3 50 "CodeFoundry$Graph" "waiting" "[I", Cond.methodLink RX9 3 objectInit, Cond.classLink RX9 9 RX8, Cond.instantiable RX8 15, Cond.initialized RX8, Cond.methodLink RX9 11 yX8_init, Cond.code yX8_init cX8_init 4 none, Cond.instanceMethod yX8_init, Cond.fieldLink RX9 14 "CodeFoundry$Smith" "row" "LCodeFoundry$Row;", Cond.fieldLink RX9 20 "CodeFoundry$Smith" "applied" "[I", Cond.fieldLink RX9 24 "CodeFoundry$Smith" "marked" "[Z", Cond.fieldLink RX9 28 "CodeFoundry$Smith" "reached" "[Z", Cond.fieldLink RX9 31 "CodeFoundry$Smith" "live" "[I", Cond.fieldLink RX9 34 "CodeFoundry$Smith" "newPlace" "[I", Cond.methodLink RX12 1 objectInit, Cond.classLink RX12 7 RX0, Cond.fieldLink RX12 10 "CodeFoundry" "tray" "LCodeFoundry$Bytes;", Cond.fieldLink RX12 16 "CodeFoundry" "written" "LCodeFoundry$Bytes;", Cond.fieldLink RX12 19 "CodeFoundry" "draft" "LCodeFoundry$Bytes;", Cond.classLink RX12 22 "CodeFoundry$Unit", Cond.fieldLink RX12 24 "CodeFoundry" "units" "[LCodeFoundry$Unit;", Cond.classLink RX12 28 RX2, Cond.instantiable RX2 12, Cond.initialized RX2, Cond.code yX2_init cX2_init 1 none, Cond.instanceMethod yX2_init, Cond.fieldLink RX12 31 "CodeFoundry" "reader" "LCodeFoundry$CodeReader;", Cond.classLink RX12 35 RX1, Cond.instantiable RX1 10, Cond.initialized RX1, Cond.code yX1_init cX1_init 1 none, Cond.instanceMethod yX1_init, Cond.fieldLink RX12 38 "CodeFoundry" "checker" "LCodeFoundry$Checker;"]
def tbr_3 : List Cond := [Cond.classLink RX12 42 RX11, Cond.instantiable RX11 18, Cond.initialized RX11, Cond.code yX11_init cX11_init 1 none, Cond.instanceMethod yX11_init, Cond.fieldLink RX12 45 "CodeFoundry" "writer" "LCodeFoundry$Writer;", Cond.classLink RX12 49 RX5, Cond.instantiable RX5 20, Cond.initialized RX5, Cond.code yX5_init cX5_init 1 none, Cond.instanceMethod yX5_init, Cond.fieldLink RX12 52 "CodeFoundry" "machine" "LCodeFoundry$Machine;", Cond.classLink RX12 56 RX3, Cond.instantiable RX3 16, Cond.initialized RX3, Cond.code yX3_init cX3_init 1 none, Cond.instanceMethod yX3_init, Cond.fieldLink RX12 59 "CodeFoundry" "graph" "LCodeFoundry$Graph;", Cond.classLink RX12 63 RX9, Cond.instantiable RX9 6, Cond.initialized RX9, Cond.code yX9_init cX9_init 1 none, Cond.instanceMethod yX9_init, Cond.fieldLink RX12 66 "CodeFoundry" "smith" "LCodeFoundry$Smith;", Cond.fieldLink RX12 70 "CodeFoundry" "brokenPlace" "I", Cond.fieldLink RX12 74 "CodeFoundry" "faultMethod" "I", Cond.fieldLink RX12 77 "CodeFoundry" "faultAt" "I", Cond.fieldLink RX12 80 "CodeFoundry" "writtenFile" "I", Cond.fieldLink RX0 13 "CodeFoundry$Bytes" "count" "I", Cond.methodLink RX0 23 yX0_put, Cond.instanceMethod yX0_put, Cond.selects RX0 yX0_put yX0_put, Cond.code yX0_put cX0_put 2 none, Cond.methodLink RX0 27 yX0_put2, Cond.instanceMethod yX0_put2, Cond.selects RX0 yX0_put2 yX0_put2, Cond.code yX0_put2 cX0_put2 2 none, Cond.fieldLink RX12 83 "CodeFoundry$Bytes" "count" "I", Cond.fieldLink RX12 86 "CodeFoundry" "fed" "I", Cond.constant RX12 89 (65536)]
def tbr_4 : List Cond := [Cond.methodLink RX12 90 yX0_put4, Cond.instanceMethod yX0_put4, Cond.selects RX0 yX0_put4 yX0_put4, Cond.code yX0_put4 cX0_put4 2 none, Cond.fieldLink RX12 110 "CodeFoundry" "brokenRule" "I", Cond.fieldLink RX12 94 "CodeFoundry" "unitCount" "I", Cond.methodLink RX12 116 yX12_unitAt, Cond.instanceMethod yX12_unitAt, Cond.selects RX12 yX12_unitAt yX12_unitAt, Cond.initialized RX12, Cond.code yX12_unitAt cX12_unitAt 2 (some (.object "CodeFoundry$Unit")), Cond.methodLink RX12 132 yX12_rowAt, Cond.instanceMethod yX12_rowAt, Cond.selects RX12 yX12_rowAt yX12_rowAt, Cond.code yX12_rowAt cX12_rowAt 4 (some (.object "CodeFoundry$Row")), Cond.methodLink RX12 152 yX12_soundUnitAt, Cond.instanceMethod yX12_soundUnitAt, Cond.selects RX12 yX12_soundUnitAt yX12_soundUnitAt, Cond.code yX12_soundUnitAt cX12_soundUnitAt 3 (some (.object "CodeFoundry$Unit")), Cond.fieldLink RX5 54 "CodeFoundry$Machine" "argumentCount" "I", Cond.fieldLink RX5 38 "CodeFoundry$Machine" "unit" "LCodeFoundry$Unit;", Cond.fieldLink RX5 51 "CodeFoundry$Machine" "arrays" "I", Cond.methodLink RX5 62 yX5_isArray, Cond.instanceMethod yX5_isArray, Cond.selects RX5 yX5_isArray yX5_isArray, Cond.code yX5_isArray cX5_isArray 3 (some .boolean), Cond.methodLink RX5 70 yX5_lengthOf, Cond.instanceMethod yX5_lengthOf, Cond.selects RX5 yX5_lengthOf yX5_lengthOf, Cond.code yX5_lengthOf cX5_lengthOf 2 (some .int), Cond.methodLink RX12 182 yX5_addArgument, Cond.instanceMethod yX5_addArgument, Cond.selects RX5 yX5_addArgument yX5_addArgument, Cond.code yX5_addArgument cX5_addArgument 3 (some .int), Cond.methodLink RX12 186 yX5_refusal, Cond.instanceMethod yX5_refusal, Cond.selects RX5 yX5_refusal yX5_refusal, Cond.code yX5_refusal cX5_refusal 5 (some .int), Cond.fieldLink RX12 192 "CodeFoundry$Machine" "argumentCount" "I", Cond.fieldLink RX12 195 "CodeFoundry$Machine" "lastResult" "J"]
def tbr_5 : List Cond := [Cond.fieldLink RX12 199 "CodeFoundry$Machine" "lastError" "I", Cond.fieldLink RX12 202 "CodeFoundry$Machine" "lastSteps" "I", Cond.fieldLink RX12 259 "CodeFoundry$Machine" "strays" "I", Cond.methodLink RX12 205 yX5_fieldAt, Cond.instanceMethod yX5_fieldAt, Cond.selects RX5 yX5_fieldAt yX5_fieldAt, Cond.code yX5_fieldAt cX5_fieldAt 2 (some .long), Cond.methodLink RX12 209 yX5_elementAt, Cond.instanceMethod yX5_elementAt, Cond.selects RX5 yX5_elementAt yX5_elementAt, Cond.code yX5_elementAt cX5_elementAt 3 (some .int), Cond.methodLink RX12 212 yX5_lengthOf, Cond.methodLink RX9 37 yJ7_fill_53178, Cond.static yJ7_fill_53178, Cond.initialized RJ7, Cond.code yJ7_fill_53178 cJ7_fill_53178 4 none, Cond.methodLink RX12 226 yX9_forgetApplied, Cond.instanceMethod yX9_forgetApplied, Cond.selects RX9 yX9_forgetApplied yX9_forgetApplied, Cond.code yX9_forgetApplied cX9_forgetApplied 1 none, Cond.methodLink RX12 244 yX9_appliedAt, Cond.instanceMethod yX9_appliedAt, Cond.selects RX9 yX9_appliedAt yX9_appliedAt, Cond.code yX9_appliedAt cX9_appliedAt 2 (some .int), Cond.fieldLink RX7 41 "CodeFoundry$Reader" "brokenRule" "I", Cond.fieldLink RX7 38 "CodeFoundry$Reader" "end" "I", Cond.methodLink RX7 87 yX7_breaks, Cond.instanceMethod yX7_breaks, Cond.selects RX7 yX7_breaks yX7_breaks, Cond.code yX7_breaks cX7_breaks 3 (some .boolean), Cond.fieldLink RX7 32 "CodeFoundry$Bytes" "data" "[B", Cond.fieldLink RX7 35 "CodeFoundry$Bytes" "count" "I", Cond.fieldLink RX7 44 "CodeFoundry$Reader" "p" "I", Cond.methodLink RX7 47 yX7_magicHolds, Cond.instanceMethod yX7_magicHolds, Cond.selects RX7 yX7_magicHolds yX7_magicHolds, Cond.code yX7_magicHolds cX7_magicHolds 2 (some .boolean), Cond.methodLink RX2 22 yX7_isSound, Cond.instanceMethod yX7_isSound, Cond.selects RX7 yX7_isSound yX7_isSound]
def tbr_6 : List Cond := [Cond.code yX7_isSound cX7_isSound 2 (some .boolean), Cond.methodLink RX12 97 yX2_unitOf, Cond.instanceMethod yX2_unitOf, Cond.selects RX2 yX2_unitOf yX2_unitOf, Cond.code yX2_unitOf cX2_unitOf 4 (some (.object "CodeFoundry$Unit")), Cond.fieldLink RX12 101 "CodeFoundry$CodeReader" "file" "LCodeFoundry$Reader;", Cond.fieldLink RX12 105 "CodeFoundry$Reader" "brokenRule" "I", Cond.fieldLink RX12 111 "CodeFoundry$Reader" "brokenPlace" "I", Cond.methodLink RX12 112 yX12_keep, Cond.instanceMethod yX12_keep, Cond.selects RX12 yX12_keep yX12_keep, Cond.code yX12_keep cX12_keep 3 (some .int), Cond.methodLink RX13 3 objectInit, Cond.classLink RX13 9 "java/lang/String", Cond.fieldLink RX13 11 "CodeFoundryModel$File" "fieldNames" "[Ljava/lang/String;", Cond.fieldLink RX13 17 "CodeFoundryModel$File" "fieldTypes" "[Ljava/lang/String;", Cond.fieldLink RX13 20 "CodeFoundryModel$File" "fieldLetters" "[Ljava/lang/String;", Cond.fieldLink RX13 23 "CodeFoundryModel$File" "methodNames" "[Ljava/lang/String;", Cond.fieldLink RX13 26 "CodeFoundryModel$File" "methodTypes" "[Ljava/lang/String;", Cond.fieldLink RX13 29 "CodeFoundryModel$File" "takes" "[Ljava/lang/String;", Cond.fieldLink RX13 32 "CodeFoundryModel$File" "gives" "[Ljava/lang/String;", Cond.fieldLink RX13 35 "CodeFoundryModel$File" "mostStack" "[I", Cond.fieldLink RX13 39 "CodeFoundryModel$File" "mostLocals" "[I", Cond.fieldLink RX13 42 "CodeFoundryModel$File" "firsts" "[I", Cond.fieldLink RX13 45 "CodeFoundryModel$File" "lengths" "[I", Cond.fieldLink RX13 48 "CodeFoundryModel$File" "catchFirsts" "[I", Cond.fieldLink RX13 51 "CodeFoundryModel$File" "catchCounts" "[I", Cond.methodLink RX14 3 objectInit, Cond.classLink RX14 9 "CodeFoundryModel$File", Cond.fieldLink RX14 11 "CodeFoundryModel" "files" "[LCodeFoundryModel$File;", Cond.fieldLink RX14 15 "CodeFoundryModel" "tray" "[B", Cond.classLink RX14 19 RJxb5711, Cond.initialized RJxb5711, Cond.fieldLink RX14 22 "CodeFoundryModel" "stop" "Ljava/lang/IllegalStateException;", Cond.fieldLink RX14 26 "CodeFoundryModel" "toldPlace" "I", Cond.fieldLink RX14 30 "CodeFoundryModel" "tags" "[I", Cond.fieldLink RX14 34 "CodeFoundryModel" "tagPlaces" "[I", Cond.fieldLink RX14 37 "CodeFoundryModel" "firstOf" "[I", Cond.fieldLink RX14 40 "CodeFoundryModel" "secondOf" "[I", Cond.fieldLink RX14 43 "CodeFoundryModel" "worthOf" "[J"]
def tbr_7 : List Cond := [Cond.fieldLink RX14 47 "CodeFoundryModel" "memberAt" "[I", Cond.fieldLink RX14 50 "CodeFoundryModel" "attributeAt" "[I", Cond.fieldLink RX14 53 "CodeFoundryModel" "attributeOwner" "[I", Cond.fieldLink RX14 56 "CodeFoundryModel" "stackOf" "[I", Cond.fieldLink RX14 59 "CodeFoundryModel" "localsOf" "[I", Cond.fieldLink RX14 62 "CodeFoundryModel" "codeAts" "[I", Cond.fieldLink RX14 65 "CodeFoundryModel" "codeSizes" "[I", Cond.fieldLink RX14 68 "CodeFoundryModel" "catchAts" "[I", Cond.fieldLink RX14 71 "CodeFoundryModel" "catchesOf" "[I", Cond.fieldLink RX14 74 "CodeFoundryModel" "numberAt" "[I", Cond.constant RX14 77 (86400), Cond.fieldLink RX14 78 "CodeFoundryModel" "newRows" "[I", Cond.constant RX14 81 (40000), Cond.fieldLink RX14 82 "CodeFoundryModel" "newTables" "[I", Cond.fieldLink RX14 85 "CodeFoundryModel" "newCatches" "[I", Cond.fieldLink RX14 88 "CodeFoundryModel" "heights" "[I", Cond.constant RX14 91 (57600), Cond.fieldLink RX14 92 "CodeFoundryModel" "types" "[B", Cond.fieldLink RX14 95 "CodeFoundryModel" "isCome" "[Z", Cond.fieldLink RX14 99 "CodeFoundryModel" "locals" "[B", Cond.fieldLink RX14 102 "CodeFoundryModel" "pile" "[B", Cond.fieldLink RX14 105 "CodeFoundryModel" "faultMethod" "I", Cond.fieldLink RX14 108 "CodeFoundryModel" "faultAt" "I", Cond.constant RX14 111 (115200), Cond.fieldLink RX14 112 "CodeFoundryModel" "newStates" "[I", Cond.fieldLink RX14 115 "CodeFoundryModel" "tagOf" "[I", Cond.fieldLink RX14 118 "CodeFoundryModel" "numberOf" "[I", Cond.fieldLink RX14 121 "CodeFoundryModel" "oneOf" "[I", Cond.fieldLink RX14 124 "CodeFoundryModel" "otherOf" "[I", Cond.fieldLink RX14 127 "CodeFoundryModel" "valueOf" "[J", Cond.classLink RX14 130 "java/lang/String", Cond.fieldLink RX14 132 "CodeFoundryModel" "textOf" "[Ljava/lang/String;", Cond.constant RX14 136 (131072), Cond.fieldLink RX14 137 "CodeFoundryModel" "writing" "[B", Cond.fieldLink RX14 140 "CodeFoundryModel" "told" "[B", Cond.fieldLink RX14 143 "CodeFoundryModel" "offsets" "[I", Cond.fieldLink RX14 146 "CodeFoundryModel" "fieldValues" "[J", Cond.fieldLink RX14 149 "CodeFoundryModel" "elements" "[I", Cond.fieldLink RX14 152 "CodeFoundryModel" "arrayFirsts" "[I", Cond.fieldLink RX14 155 "CodeFoundryModel" "arrayLengths" "[I"]
def tbr_8 : List Cond := [Cond.fieldLink RX14 158 "CodeFoundryModel" "arguments" "[J", Cond.fieldLink RX14 161 "CodeFoundryModel" "running" "[I", Cond.fieldLink RX14 164 "CodeFoundryModel" "places" "[I", Cond.fieldLink RX14 167 "CodeFoundryModel" "tops" "[I", Cond.fieldLink RX14 170 "CodeFoundryModel" "slots" "[J", Cond.fieldLink RX14 173 "CodeFoundryModel" "piles" "[J", Cond.fieldLink RX14 176 "CodeFoundryModel" "slotTags" "[B", Cond.fieldLink RX14 179 "CodeFoundryModel" "pileTags" "[B", Cond.fieldLink RX14 182 "CodeFoundryModel" "lastError" "I", Cond.fieldLink RX14 185 "CodeFoundryModel" "blockStart" "[I", Cond.fieldLink RX14 188 "CodeFoundryModel" "blockOf" "[I", Cond.fieldLink RX14 191 "CodeFoundryModel" "graphFile" "I", Cond.fieldLink RX14 194 "CodeFoundryModel" "edgeFirst" "[I", Cond.fieldLink RX14 197 "CodeFoundryModel" "edgeTo" "[I", Cond.fieldLink RX14 200 "CodeFoundryModel" "isReached" "[Z", Cond.constant RX14 203 (45600), Cond.fieldLink RX14 204 "CodeFoundryModel" "above" "[I", Cond.fieldLink RX14 207 "CodeFoundryModel" "nearest" "[I", Cond.fieldLink RX14 210 "CodeFoundryModel" "isHead" "[Z", Cond.fieldLink RX14 213 "CodeFoundryModel" "depths" "[I", Cond.fieldLink RX14 216 "CodeFoundryModel" "isMarked" "[Z", Cond.fieldLink RX14 219 "CodeFoundryModel" "ranks" "[I", Cond.classLink RX14 9 RX13, Cond.instantiable RX13 23, Cond.initialized RX13, Cond.code yX13_init cX13_init 1 none, Cond.instanceMethod yX13_init, Cond.fieldLink RX14 223 "CodeFoundryModel" "draft" "LCodeFoundryModel$File;", Cond.constant RX14 227 (87000), Cond.fieldLink RX14 228 "CodeFoundryModel" "draftRows" "[I", Cond.fieldLink RX14 231 "CodeFoundryModel" "draftTables" "[I", Cond.fieldLink RX14 234 "CodeFoundryModel" "draftCatches" "[I", Cond.fieldLink RX14 237 "CodeFoundryModel" "didRule" "[I", Cond.fieldLink RX14 240 "CodeFoundryModel" "ops" "[I", Cond.fieldLink RX14 243 "CodeFoundryModel" "ones" "[I", Cond.fieldLink RX14 246 "CodeFoundryModel" "others" "[I", Cond.fieldLink RX14 249 "CodeFoundryModel" "gone" "[Z", Cond.fieldLink RX14 252 "CodeFoundryModel" "froms" "[I", Cond.fieldLink RX14 255 "CodeFoundryModel" "tos" "[I", Cond.fieldLink RX14 258 "CodeFoundryModel" "bys" "[I"]
def tbr_9 : List Cond := [Cond.fieldLink RX14 261 "CodeFoundryModel" "errors" "[I", Cond.fieldLink RX14 264 "CodeFoundryModel" "isOut" "[Z", Cond.fieldLink RX14 267 "CodeFoundryModel" "aimed" "[Z", Cond.fieldLink RX14 270 "CodeFoundryModel" "isMet" "[Z", Cond.fieldLink RX14 273 "CodeFoundryModel" "seenBy" "[I", Cond.fieldLink RX14 276 "CodeFoundryModel" "liveBefore" "[I", Cond.fieldLink RX14 279 "CodeFoundryModel" "newPlaces" "[I", Cond.fieldLink RX14 282 "CodeFoundryModel" "rowOf" "[I", Cond.fieldLink RX14 285 "CodeFoundryModel" "trayed" "I", Cond.fieldLink RX14 288 "CodeFoundryModel" "fed" "I", Cond.constant RX14 291 (65536), Cond.methodLink RX14 292 yX14_word, Cond.instanceMethod yX14_word, Cond.selects RX14 yX14_word yX14_word, Cond.initialized RX14, Cond.code yX14_word cX14_word 3 none, Cond.fieldLink RX14 306 "CodeFoundryModel" "toldRule" "I", Cond.fieldLink RX14 983 "CodeFoundryModel" "stepsDone" "I", Cond.fieldLink RX14 1050 "CodeFoundryModel" "strayCount" "I", Cond.fieldLink RX14 980 "CodeFoundryModel" "given" "J", Cond.fieldLink RX14 647 "CodeFoundryModel" "fileCount" "I", Cond.methodLink RX14 658 yX14_fileAt, Cond.instanceMethod yX14_fileAt, Cond.selects RX14 yX14_fileAt yX14_fileAt, Cond.code yX14_fileAt cX14_fileAt 2 (some (.object "CodeFoundryModel$File")), Cond.methodLink RX14 860 yX14_isRight, Cond.instanceMethod yX14_isRight, Cond.selects RX14 yX14_isRight yX14_isRight, Cond.code yX14_isRight cX14_isRight 2 (some .boolean), Cond.methodLink RX14 662 yX14_isMethod, Cond.instanceMethod yX14_isMethod, Cond.selects RX14 yX14_isMethod yX14_isMethod, Cond.code yX14_isMethod cX14_isMethod 3 (some .boolean), Cond.methodLink RX14 863 yX14_stateAt, Cond.instanceMethod yX14_stateAt, Cond.selects RX14 yX14_stateAt yX14_stateAt, Cond.code yX14_stateAt cX14_stateAt 4 (some .int), Cond.fieldLink RX14 958 "CodeFoundryModel" "toldSize" "I", Cond.fieldLink RX14 970 "CodeFoundryModel" "argumentCount" "I", Cond.fieldLink RX14 961 "CodeFoundryModel" "stage" "LCodeFoundryModel$File;"]
def tbr_10 : List Cond := [Cond.fieldLink RX14 964 "CodeFoundryModel" "arrays" "I", Cond.fieldLink RX14 296 "CodeFoundryModel" "brokenRule" "I", Cond.fieldLink RX14 299 "CodeFoundryModel" "brokenPlace" "I", Cond.methodLink RX14 302 yX14_broken, Cond.instanceMethod yX14_broken, Cond.selects RX14 yX14_broken yX14_broken, Cond.code yX14_broken cX14_broken 3 (some (.object "java/lang/IllegalStateException")), Cond.fieldLink RX14 322 "CodeFoundryModel" "srcSize" "I", Cond.methodLink RX14 325 yX14_must, Cond.instanceMethod yX14_must, Cond.selects RX14 yX14_must yX14_must, Cond.code yX14_must cX14_must 4 none, Cond.fieldLink RX14 309 "CodeFoundryModel" "src" "[B", Cond.methodLink RX14 552 yX14_layout, Cond.instanceMethod yX14_layout, Cond.selects RX14 yX14_layout yX14_layout, Cond.code yX14_layout cX14_layout 2 none, Cond.methodLink RX14 650 yX14_readFile, Cond.instanceMethod yX14_readFile, Cond.selects RX14 yX14_readFile yX14_readFile, Cond.code yX14_readFile cX14_readFile 7 (some (.object "CodeFoundryModel$File")), Cond.methodLink RL 13 yX12_feed, Cond.instanceMethod yX12_feed, Cond.selects RX12 yX12_feed yX12_feed, Cond.code yX12_feed cX12_feed 6 (some .int), Cond.methodLink RL 17 yX14_feed, Cond.instanceMethod yX14_feed, Cond.selects RX14 yX14_feed yX14_feed, Cond.code yX14_feed cX14_feed 6 (some .int), Cond.methodLink RL 18 yX12_end, Cond.instanceMethod yX12_end, Cond.selects RX12 yX12_end yX12_end, Cond.code yX12_end cX12_end 2 (some .boolean), Cond.methodLink RL 22 yX14_end, Cond.instanceMethod yX14_end, Cond.selects RX14 yX14_end yX14_end, Cond.code yX14_end cX14_end 2 (some .boolean), Cond.methodLink RL 23 yX12_file, Cond.instanceMethod yX12_file, Cond.selects RX12 yX12_file yX12_file]
def tbr_11 : List Cond := [Cond.code yX12_file cX12_file 2 (some .int), Cond.methodLink RL 27 yX14_file, Cond.instanceMethod yX14_file, Cond.selects RX14 yX14_file yX14_file, Cond.codeWith yX14_file cX14_file 3 (some .int) [(32, 45, 46, 19)], Cond.methodLink RL 28 yX12_rule, Cond.instanceMethod yX12_rule, Cond.selects RX12 yX12_rule yX12_rule, Cond.code yX12_rule cX12_rule 1 (some .int), Cond.methodLink RL 31 yX14_rule, Cond.instanceMethod yX14_rule, Cond.selects RX14 yX14_rule yX14_rule, Cond.code yX14_rule cX14_rule 1 (some .int), Cond.methodLink RL 32 yX12_place, Cond.instanceMethod yX12_place, Cond.selects RX12 yX12_place yX12_place, Cond.code yX12_place cX12_place 1 (some .int), Cond.methodLink RL 35 yX14_place, Cond.instanceMethod yX14_place, Cond.selects RX14 yX14_place yX14_place, Cond.code yX14_place cX14_place 1 (some .int), Cond.methodLink RL 36 yX12_size, Cond.instanceMethod yX12_size, Cond.selects RX12 yX12_size yX12_size, Cond.code yX12_size cX12_size 4 (some .int), Cond.methodLink RL 40 yX14_size, Cond.instanceMethod yX14_size, Cond.selects RX14 yX14_size yX14_size, Cond.code yX14_size cX14_size 4 (some .int), Cond.methodLink RL 41 yX12_length, Cond.instanceMethod yX12_length, Cond.selects RX12 yX12_length yX12_length, Cond.code yX12_length cX12_length 4 (some .int), Cond.methodLink RL 44 yX14_length, Cond.instanceMethod yX14_length, Cond.selects RX14 yX14_length yX14_length, Cond.code yX14_length cX14_length 3 (some .int), Cond.methodLink RL 45 yX12_verify, Cond.instanceMethod yX12_verify, Cond.selects RX12 yX12_verify yX12_verify]
def tbr_12 : List Cond := [Cond.code yX12_verify cX12_verify 4 (some .int), Cond.methodLink RL 49 yX14_verify, Cond.instanceMethod yX14_verify, Cond.selects RX14 yX14_verify yX14_verify, Cond.code yX14_verify cX14_verify 6 (some .int), Cond.methodLink RL 50 yX12_method, Cond.instanceMethod yX12_method, Cond.selects RX12 yX12_method yX12_method, Cond.code yX12_method cX12_method 1 (some .int), Cond.methodLink RL 53 yX14_method, Cond.instanceMethod yX14_method, Cond.selects RX14 yX14_method yX14_method, Cond.code yX14_method cX14_method 1 (some .int), Cond.methodLink RL 54 yX12_at, Cond.instanceMethod yX12_at, Cond.selects RX12 yX12_at yX12_at, Cond.code yX12_at cX12_at 1 (some .int), Cond.methodLink RL 57 yX14_at, Cond.instanceMethod yX14_at, Cond.selects RX14 yX14_at yX14_at, Cond.code yX14_at cX14_at 1 (some .int), Cond.methodLink RL 58 yX12_height, Cond.instanceMethod yX12_height, Cond.selects RX12 yX12_height yX12_height, Cond.code yX12_height cX12_height 5 (some .int), Cond.methodLink RL 62 yX14_height, Cond.instanceMethod yX14_height, Cond.selects RX14 yX14_height yX14_height, Cond.code yX14_height cX14_height 5 (some .int), Cond.methodLink RL 63 yX12_local, Cond.instanceMethod yX12_local, Cond.selects RX12 yX12_local yX12_local, Cond.code yX12_local cX12_local 6 (some .int), Cond.methodLink RL 67 yX14_local, Cond.instanceMethod yX14_local, Cond.selects RX14 yX14_local yX14_local, Cond.code yX14_local cX14_local 6 (some .int), Cond.methodLink RL 68 yX12_write, Cond.instanceMethod yX12_write, Cond.selects RX12 yX12_write yX12_write]
def tbr_13 : List Cond := [Cond.code yX12_write cX12_write 4 (some .int), Cond.methodLink RL 71 yX14_write, Cond.instanceMethod yX14_write, Cond.selects RX14 yX14_write yX14_write, Cond.code yX14_write cX14_write 3 (some .int), Cond.methodLink RL 72 yX12_byteAt, Cond.instanceMethod yX12_byteAt, Cond.selects RX12 yX12_byteAt yX12_byteAt, Cond.code yX12_byteAt cX12_byteAt 2 (some .int), Cond.methodLink RL 75 yX14_byteAt, Cond.instanceMethod yX14_byteAt, Cond.selects RX14 yX14_byteAt yX14_byteAt, Cond.code yX14_byteAt cX14_byteAt 2 (some .int), Cond.methodLink RL 76 yX12_stage, Cond.instanceMethod yX12_stage, Cond.selects RX12 yX12_stage yX12_stage, Cond.code yX12_stage cX12_stage 3 (some .boolean), Cond.methodLink RL 79 yX14_stage, Cond.instanceMethod yX14_stage, Cond.selects RX14 yX14_stage yX14_stage, Cond.code yX14_stage cX14_stage 3 (some .boolean), Cond.constantLong RL 80 (4294967295), Cond.methodLink RL 82 yX12_argument, Cond.instanceMethod yX12_argument, Cond.selects RX12 yX12_argument yX12_argument, Cond.code yX12_argument cX12_argument 3 (some .int), Cond.methodLink RL 86 yX14_argument, Cond.instanceMethod yX14_argument, Cond.selects RX14 yX14_argument yX14_argument, Cond.code yX14_argument cX14_argument 3 (some .int), Cond.methodLink RL 87 yX12_run, Cond.instanceMethod yX12_run, Cond.selects RX12 yX12_run yX12_run, Cond.code yX12_run cX12_run 4 (some .int), Cond.methodLink RL 90 yX14_run, Cond.instanceMethod yX14_run, Cond.selects RX14 yX14_run yX14_run, Cond.code yX14_run cX14_run 7 (some .int), Cond.methodLink RL 91 yX12_result, Cond.instanceMethod yX12_result]
def tbr_14 : List Cond := [Cond.selects RX12 yX12_result yX12_result, Cond.code yX12_result cX12_result 1 (some .long), Cond.methodLink RL 95 yX14_result, Cond.instanceMethod yX14_result, Cond.selects RX14 yX14_result yX14_result, Cond.code yX14_result cX14_result 1 (some .long), Cond.methodLink RL 96 yX12_error, Cond.instanceMethod yX12_error, Cond.selects RX12 yX12_error yX12_error, Cond.code yX12_error cX12_error 1 (some .int), Cond.methodLink RL 99 yX14_error, Cond.instanceMethod yX14_error, Cond.selects RX14 yX14_error yX14_error, Cond.code yX14_error cX14_error 1 (some .int), Cond.methodLink RL 100 yX12_steps, Cond.instanceMethod yX12_steps, Cond.selects RX12 yX12_steps yX12_steps, Cond.code yX12_steps cX12_steps 1 (some .int), Cond.methodLink RL 103 yX14_steps, Cond.instanceMethod yX14_steps, Cond.selects RX14 yX14_steps yX14_steps, Cond.code yX14_steps cX14_steps 1 (some .int), Cond.methodLink RL 104 yX12_field, Cond.instanceMethod yX12_field, Cond.selects RX12 yX12_field yX12_field, Cond.code yX12_field cX12_field 2 (some .long), Cond.methodLink RL 108 yX14_field, Cond.instanceMethod yX14_field, Cond.selects RX14 yX14_field yX14_field, Cond.code yX14_field cX14_field 2 (some .long), Cond.methodLink RL 109 yX12_element, Cond.instanceMethod yX12_element, Cond.selects RX12 yX12_element yX12_element, Cond.code yX12_element cX12_element 3 (some .int), Cond.methodLink RL 112 yX14_element, Cond.instanceMethod yX14_element, Cond.selects RX14 yX14_element yX14_element, Cond.code yX14_element cX14_element 3 (some .int), Cond.methodLink RL 113 yX12_arrayLength, Cond.instanceMethod yX12_arrayLength]
def tbr_15 : List Cond := [Cond.selects RX12 yX12_arrayLength yX12_arrayLength, Cond.code yX12_arrayLength cX12_arrayLength 2 (some .int), Cond.methodLink RL 116 yX14_arrayLength, Cond.instanceMethod yX14_arrayLength, Cond.selects RX14 yX14_arrayLength yX14_arrayLength, Cond.code yX14_arrayLength cX14_arrayLength 2 (some .int), Cond.methodLink RL 117 yX12_blocks, Cond.instanceMethod yX12_blocks, Cond.selects RX12 yX12_blocks yX12_blocks, Cond.code yX12_blocks cX12_blocks 4 (some .int), Cond.methodLink RL 120 yX14_blocks, Cond.instanceMethod yX14_blocks, Cond.selects RX14 yX14_blocks yX14_blocks, Cond.code yX14_blocks cX14_blocks 3 (some .int), Cond.methodLink RL 121 yX12_block, Cond.instanceMethod yX12_block, Cond.selects RX12 yX12_block yX12_block, Cond.code yX12_block cX12_block 6 (some .int), Cond.methodLink RL 124 yX14_block, Cond.instanceMethod yX14_block, Cond.selects RX14 yX14_block yX14_block, Cond.code yX14_block cX14_block 5 (some .int), Cond.methodLink RL 125 yX12_edge, Cond.instanceMethod yX12_edge, Cond.selects RX12 yX12_edge yX12_edge, Cond.code yX12_edge cX12_edge 6 (some .boolean), Cond.methodLink RL 129 yX14_edge, Cond.instanceMethod yX14_edge, Cond.selects RX14 yX14_edge yX14_edge, Cond.code yX14_edge cX14_edge 6 (some .boolean), Cond.methodLink RL 130 yX12_improve, Cond.instanceMethod yX12_improve, Cond.selects RX12 yX12_improve yX12_improve, Cond.code yX12_improve cX12_improve 5 (some .int), Cond.methodLink RL 133 yX14_improve, Cond.instanceMethod yX14_improve, Cond.selects RX14 yX14_improve yX14_improve, Cond.code yX14_improve cX14_improve 5 (some .int), Cond.methodLink RL 134 yX12_applied, Cond.instanceMethod yX12_applied]
def tbr_16 : List Cond := [Cond.selects RX12 yX12_applied yX12_applied, Cond.code yX12_applied cX12_applied 2 (some .int), Cond.methodLink RL 137 yX14_applied, Cond.instanceMethod yX14_applied, Cond.selects RX14 yX14_applied yX14_applied, Cond.code yX14_applied cX14_applied 2 (some .int), Cond.methodLink RL 138 yX12_count, Cond.instanceMethod yX12_count, Cond.selects RX12 yX12_count yX12_count, Cond.code yX12_count cX12_count 7 (some .int), Cond.methodLink RL 141 yX14_count, Cond.instanceMethod yX14_count, Cond.selects RX14 yX14_count yX14_count, Cond.code yX14_count cX14_count 6 (some .int), Cond.methodLink RL 142 yX12_strays, Cond.instanceMethod yX12_strays, Cond.selects RX12 yX12_strays yX12_strays, Cond.code yX12_strays cX12_strays 1 (some .int), Cond.methodLink RL 145 yX14_strays, Cond.instanceMethod yX14_strays, Cond.selects RX14 yX14_strays yX14_strays, Cond.code yX14_strays cX14_strays 1 (some .int), Cond.classLink RL 7 RX12, Cond.instantiable RX12 18, Cond.methodLink RL 9 yX12_init, Cond.code yX12_init cX12_init 1 none, Cond.instanceMethod yX12_init, Cond.classLink RL 10 RX14, Cond.instantiable RX14 143, Cond.methodLink RL 12 yX14_init, Cond.code yX14_init cX14_init 1 none, Cond.instanceMethod yX14_init]
def nmL : List String := ["java/lang/RuntimeException", "java/lang/Exception"]
def tbs : List Cond := (Bundle.ownAtoms0 RX14 21 RJxb5711 nmL).filter goodWord
def tb : List Cond := (u_ws RX0 TX0 2 ++ (u_ws RX1 TX1 10 ++ (u_ws RX2 TX2 12 ++ (u_ws RX3 TX3 16 ++ (u_ws RX4 TX4 8 ++ (u_ws RX5 TX5 20 ++ (u_ws RX7 TX7 17 ++ (u_ws RX8 TX8 15 ++ (u_ws RX9 TX9 6 ++ (u_ws RX11 TX11 18 ++ (u_ws RX12 TX12 18 ++ (u_ws RX13 TX13 23 ++ (u_ws RX14 TX14 143 ++ (tbr_0 ++ (tbr_1 ++ (tbr_2 ++ (tbr_3 ++ (tbr_4 ++ (tbr_5 ++ (tbr_6 ++ (tbr_7 ++ (tbr_8 ++ (tbr_9 ++ (tbr_10 ++ (tbr_11 ++ (tbr_12 ++ (tbr_13 ++ (tbr_14 ++ (tbr_15 ++ (tbr_16 ++ tbs))))))))))))))))))))))))))))))
abbrev wtw (y : MethodName) (c : ByteArray) (n : Nat) (r : Option FieldType) (hh : List (Nat × Nat × Nat × Nat)) : List Cond := Cond.codeWith y c n r hh :: tb
abbrev wt (y : MethodName) (c : ByteArray) (n : Nat) (r : Option FieldType) : List Cond := Cond.code y c n r :: tb
theorem inX0 : ∀ w ∈ u_ws RX0 TX0 2, w ∈ tb := fun _ h => List.mem_append_left _ h
theorem inX1 : ∀ w ∈ u_ws RX1 TX1 10, w ∈ tb := fun _ h => List.mem_append_right _ (List.mem_append_left _ h)
theorem inX2 : ∀ w ∈ u_ws RX2 TX2 12, w ∈ tb := fun _ h => List.mem_append_right _ (List.mem_append_right _ (List.mem_append_left _ h))
theorem inX3 : ∀ w ∈ u_ws RX3 TX3 16, w ∈ tb := fun _ h => List.mem_append_right _ (List.mem_append_right _ (List.mem_append_right _ (List.mem_append_left _ h)))
theorem inX4 : ∀ w ∈ u_ws RX4 TX4 8, w ∈ tb := fun _ h => List.mem_append_right _ (List.mem_append_right _ (List.mem_append_right _ (List.mem_append_right _ (List.mem_append_left _ h))))
theorem inX5 : ∀ w ∈ u_ws RX5 TX5 20, w ∈ tb := fun _ h => List.mem_append_right _ (List.mem_append_right _ (List.mem_append_right _ (List.mem_append_right _ (List.mem_append_right _ (List.mem_append_left _ h)))))
theorem inX7 : ∀ w ∈ u_ws RX7 TX7 17, w ∈ tb := fun _ h => List.mem_append_right _ (List.mem_append_right _ (List.mem_append_right _ (List.mem_append_right _ (List.mem_append_right _ (List.mem_append_right _ (List.mem_append_left _ h))))))
theorem inX8 : ∀ w ∈ u_ws RX8 TX8 15, w ∈ tb := fun _ h => List.mem_append_right _ (List.mem_append_right _ (List.mem_append_right _ (List.mem_append_right _ (List.mem_append_right _ (List.mem_append_right _ (List.mem_append_right _ (List.mem_append_left _ h)))))))
theorem inX9 : ∀ w ∈ u_ws RX9 TX9 6, w ∈ tb := fun _ h => List.mem_append_right _ (List.mem_append_right _ (List.mem_append_right _ (List.mem_append_right _ (List.mem_append_right _ (List.mem_append_right _ (List.mem_append_right _ (List.mem_append_right _ (List.mem_append_left _ h))))))))
theorem inX11 : ∀ w ∈ u_ws RX11 TX11 18, w ∈ tb := fun _ h => List.mem_append_right _ (List.mem_append_right _ (List.mem_append_right _ (List.mem_append_right _ (List.mem_append_right _ (List.mem_append_right _ (List.mem_append_right _ (List.mem_append_right _ (List.mem_append_right _ (List.mem_append_left _ h)))))))))
theorem inX12 : ∀ w ∈ u_ws RX12 TX12 18, w ∈ tb := fun _ h => List.mem_append_right _ (List.mem_append_right _ (List.mem_append_right _ (List.mem_append_right _ (List.mem_append_right _ (List.mem_append_right _ (List.mem_append_right _ (List.mem_append_right _ (List.mem_append_right _ (List.mem_append_right _ (List.mem_append_left _ h))))))))))
theorem inX13 : ∀ w ∈ u_ws RX13 TX13 23, w ∈ tb := fun _ h => List.mem_append_right _ (List.mem_append_right _ (List.mem_append_right _ (List.mem_append_right _ (List.mem_append_right _ (List.mem_append_right _ (List.mem_append_right _ (List.mem_append_right _ (List.mem_append_right _ (List.mem_append_right _ (List.mem_append_right _ (List.mem_append_left _ h)))))))))))
theorem inX14 : ∀ w ∈ u_ws RX14 TX14 143, w ∈ tb := fun _ h => List.mem_append_right _ (List.mem_append_right _ (List.mem_append_right _ (List.mem_append_right _ (List.mem_append_right _ (List.mem_append_right _ (List.mem_append_right _ (List.mem_append_right _ (List.mem_append_right _ (List.mem_append_right _ (List.mem_append_right _ (List.mem_append_right _ (List.mem_append_left _ h))))))))))))
theorem tbi_0 : ∀ w ∈ tbr_0, w ∈ tb := fun _ h => List.mem_append_right _ (List.mem_append_right _ (List.mem_append_right _ (List.mem_append_right _ (List.mem_append_right _ (List.mem_append_right _ (List.mem_append_right _ (List.mem_append_right _ (List.mem_append_right _ (List.mem_append_right _ (List.mem_append_right _ (List.mem_append_right _ (List.mem_append_right _ (List.mem_append_left _ h)))))))))))))
theorem tbi_1 : ∀ w ∈ tbr_1, w ∈ tb := fun _ h => List.mem_append_right _ (List.mem_append_right _ (List.mem_append_right _ (List.mem_append_right _ (List.mem_append_right _ (List.mem_append_right _ (List.mem_append_right _ (List.mem_append_right _ (List.mem_append_right _ (List.mem_append_right _ (List.mem_append_right _ (List.mem_append_right _ (List.mem_append_right _ (List.mem_append_right _ (List.mem_append_left _ h))))))))))))))
theorem tbi_2 : ∀ w ∈ tbr_2, w ∈ tb := fun _ h => List.mem_append_right _ (List.mem_append_right _ (List.mem_append_right _ (List.mem_append_right _ (List.mem_append_right _ (List.mem_append_right _ (List.mem_append_right _ (List.mem_append_right _ (List.mem_append_right _ (List.mem_append_right _ (List.mem_append_right _ (List.mem_append_right _ (List.mem_append_right _ (List.mem_append_right _ (List.mem_append_right _ (List.mem_append_left _ h)))))))))))))))
theorem tbi_3 : ∀ w ∈ tbr_3, w ∈ tb := fun _ h => List.mem_append_right _ (List.mem_append_right _ (List.mem_append_right _ (List.mem_append_right _ (List.mem_append_right _ (List.mem_append_right _ (List.mem_append_right _ (List.mem_append_right _ (List.mem_append_right _ (List.mem_append_right _ (List.mem_append_right _ (List.mem_append_right _ (List.mem_append_right _ (List.mem_append_right _ (List.mem_append_right _ (List.mem_append_right _ (List.mem_append_left _ h))))))))))))))))
theorem tbi_4 : ∀ w ∈ tbr_4, w ∈ tb := fun _ h => List.mem_append_right _ (List.mem_append_right _ (List.mem_append_right _ (List.mem_append_right _ (List.mem_append_right _ (List.mem_append_right _ (List.mem_append_right _ (List.mem_append_right _ (List.mem_append_right _ (List.mem_append_right _ (List.mem_append_right _ (List.mem_append_right _ (List.mem_append_right _ (List.mem_append_right _ (List.mem_append_right _ (List.mem_append_right _ (List.mem_append_right _ (List.mem_append_left _ h)))))))))))))))))
theorem tbi_5 : ∀ w ∈ tbr_5, w ∈ tb := fun _ h => List.mem_append_right _ (List.mem_append_right _ (List.mem_append_right _ (List.mem_append_right _ (List.mem_append_right _ (List.mem_append_right _ (List.mem_append_right _ (List.mem_append_right _ (List.mem_append_right _ (List.mem_append_right _ (List.mem_append_right _ (List.mem_append_right _ (List.mem_append_right _ (List.mem_append_right _ (List.mem_append_right _ (List.mem_append_right _ (List.mem_append_right _ (List.mem_append_right _ (List.mem_append_left _ h))))))))))))))))))
theorem tbi_6 : ∀ w ∈ tbr_6, w ∈ tb := fun _ h => List.mem_append_right _ (List.mem_append_right _ (List.mem_append_right _ (List.mem_append_right _ (List.mem_append_right _ (List.mem_append_right _ (List.mem_append_right _ (List.mem_append_right _ (List.mem_append_right _ (List.mem_append_right _ (List.mem_append_right _ (List.mem_append_right _ (List.mem_append_right _ (List.mem_append_right _ (List.mem_append_right _ (List.mem_append_right _ (List.mem_append_right _ (List.mem_append_right _ (List.mem_append_right _ (List.mem_append_left _ h)))))))))))))))))))
theorem tbi_7 : ∀ w ∈ tbr_7, w ∈ tb := fun _ h => List.mem_append_right _ (List.mem_append_right _ (List.mem_append_right _ (List.mem_append_right _ (List.mem_append_right _ (List.mem_append_right _ (List.mem_append_right _ (List.mem_append_right _ (List.mem_append_right _ (List.mem_append_right _ (List.mem_append_right _ (List.mem_append_right _ (List.mem_append_right _ (List.mem_append_right _ (List.mem_append_right _ (List.mem_append_right _ (List.mem_append_right _ (List.mem_append_right _ (List.mem_append_right _ (List.mem_append_right _ (List.mem_append_left _ h))))))))))))))))))))
theorem tbi_8 : ∀ w ∈ tbr_8, w ∈ tb := fun _ h => List.mem_append_right _ (List.mem_append_right _ (List.mem_append_right _ (List.mem_append_right _ (List.mem_append_right _ (List.mem_append_right _ (List.mem_append_right _ (List.mem_append_right _ (List.mem_append_right _ (List.mem_append_right _ (List.mem_append_right _ (List.mem_append_right _ (List.mem_append_right _ (List.mem_append_right _ (List.mem_append_right _ (List.mem_append_right _ (List.mem_append_right _ (List.mem_append_right _ (List.mem_append_right _ (List.mem_append_right _ (List.mem_append_right _ (List.mem_append_left _ h)))))))))))))))))))))
theorem tbi_9 : ∀ w ∈ tbr_9, w ∈ tb := fun _ h => List.mem_append_right _ (List.mem_append_right _ (List.mem_append_right _ (List.mem_append_right _ (List.mem_append_right _ (List.mem_append_right _ (List.mem_append_right _ (List.mem_append_right _ (List.mem_append_right _ (List.mem_append_right _ (List.mem_append_right _ (List.mem_append_right _ (List.mem_append_right _ (List.mem_append_right _ (List.mem_append_right _ (List.mem_append_right _ (List.mem_append_right _ (List.mem_append_right _ (List.mem_append_right _ (List.mem_append_right _ (List.mem_append_right _ (List.mem_append_right _ (List.mem_append_left _ h))))))))))))))))))))))
theorem tbi_10 : ∀ w ∈ tbr_10, w ∈ tb := fun _ h => List.mem_append_right _ (List.mem_append_right _ (List.mem_append_right _ (List.mem_append_right _ (List.mem_append_right _ (List.mem_append_right _ (List.mem_append_right _ (List.mem_append_right _ (List.mem_append_right _ (List.mem_append_right _ (List.mem_append_right _ (List.mem_append_right _ (List.mem_append_right _ (List.mem_append_right _ (List.mem_append_right _ (List.mem_append_right _ (List.mem_append_right _ (List.mem_append_right _ (List.mem_append_right _ (List.mem_append_right _ (List.mem_append_right _ (List.mem_append_right _ (List.mem_append_right _ (List.mem_append_left _ h)))))))))))))))))))))))
theorem tbi_11 : ∀ w ∈ tbr_11, w ∈ tb := fun _ h => List.mem_append_right _ (List.mem_append_right _ (List.mem_append_right _ (List.mem_append_right _ (List.mem_append_right _ (List.mem_append_right _ (List.mem_append_right _ (List.mem_append_right _ (List.mem_append_right _ (List.mem_append_right _ (List.mem_append_right _ (List.mem_append_right _ (List.mem_append_right _ (List.mem_append_right _ (List.mem_append_right _ (List.mem_append_right _ (List.mem_append_right _ (List.mem_append_right _ (List.mem_append_right _ (List.mem_append_right _ (List.mem_append_right _ (List.mem_append_right _ (List.mem_append_right _ (List.mem_append_right _ (List.mem_append_left _ h))))))))))))))))))))))))
theorem tbi_12 : ∀ w ∈ tbr_12, w ∈ tb := fun _ h => List.mem_append_right _ (List.mem_append_right _ (List.mem_append_right _ (List.mem_append_right _ (List.mem_append_right _ (List.mem_append_right _ (List.mem_append_right _ (List.mem_append_right _ (List.mem_append_right _ (List.mem_append_right _ (List.mem_append_right _ (List.mem_append_right _ (List.mem_append_right _ (List.mem_append_right _ (List.mem_append_right _ (List.mem_append_right _ (List.mem_append_right _ (List.mem_append_right _ (List.mem_append_right _ (List.mem_append_right _ (List.mem_append_right _ (List.mem_append_right _ (List.mem_append_right _ (List.mem_append_right _ (List.mem_append_right _ (List.mem_append_left _ h)))))))))))))))))))))))))
theorem tbi_13 : ∀ w ∈ tbr_13, w ∈ tb := fun _ h => List.mem_append_right _ (List.mem_append_right _ (List.mem_append_right _ (List.mem_append_right _ (List.mem_append_right _ (List.mem_append_right _ (List.mem_append_right _ (List.mem_append_right _ (List.mem_append_right _ (List.mem_append_right _ (List.mem_append_right _ (List.mem_append_right _ (List.mem_append_right _ (List.mem_append_right _ (List.mem_append_right _ (List.mem_append_right _ (List.mem_append_right _ (List.mem_append_right _ (List.mem_append_right _ (List.mem_append_right _ (List.mem_append_right _ (List.mem_append_right _ (List.mem_append_right _ (List.mem_append_right _ (List.mem_append_right _ (List.mem_append_right _ (List.mem_append_left _ h))))))))))))))))))))))))))
theorem tbi_14 : ∀ w ∈ tbr_14, w ∈ tb := fun _ h => List.mem_append_right _ (List.mem_append_right _ (List.mem_append_right _ (List.mem_append_right _ (List.mem_append_right _ (List.mem_append_right _ (List.mem_append_right _ (List.mem_append_right _ (List.mem_append_right _ (List.mem_append_right _ (List.mem_append_right _ (List.mem_append_right _ (List.mem_append_right _ (List.mem_append_right _ (List.mem_append_right _ (List.mem_append_right _ (List.mem_append_right _ (List.mem_append_right _ (List.mem_append_right _ (List.mem_append_right _ (List.mem_append_right _ (List.mem_append_right _ (List.mem_append_right _ (List.mem_append_right _ (List.mem_append_right _ (List.mem_append_right _ (List.mem_append_right _ (List.mem_append_left _ h)))))))))))))))))))))))))))
theorem tbi_15 : ∀ w ∈ tbr_15, w ∈ tb := fun _ h => List.mem_append_right _ (List.mem_append_right _ (List.mem_append_right _ (List.mem_append_right _ (List.mem_append_right _ (List.mem_append_right _ (List.mem_append_right _ (List.mem_append_right _ (List.mem_append_right _ (List.mem_append_right _ (List.mem_append_right _ (List.mem_append_right _ (List.mem_append_right _ (List.mem_append_right _ (List.mem_append_right _ (List.mem_append_right _ (List.mem_append_right _ (List.mem_append_right _ (List.mem_append_right _ (List.mem_append_right _ (List.mem_append_right _ (List.mem_append_right _ (List.mem_append_right _ (List.mem_append_right _ (List.mem_append_right _ (List.mem_append_right _ (List.mem_append_right _ (List.mem_append_right _ (List.mem_append_left _ h))))))))))))))))))))))))))))
theorem tbi_16 : ∀ w ∈ tbr_16, w ∈ tb := fun _ h => List.mem_append_right _ (List.mem_append_right _ (List.mem_append_right _ (List.mem_append_right _ (List.mem_append_right _ (List.mem_append_right _ (List.mem_append_right _ (List.mem_append_right _ (List.mem_append_right _ (List.mem_append_right _ (List.mem_append_right _ (List.mem_append_right _ (List.mem_append_right _ (List.mem_append_right _ (List.mem_append_right _ (List.mem_append_right _ (List.mem_append_right _ (List.mem_append_right _ (List.mem_append_right _ (List.mem_append_right _ (List.mem_append_right _ (List.mem_append_right _ (List.mem_append_right _ (List.mem_append_right _ (List.mem_append_right _ (List.mem_append_right _ (List.mem_append_right _ (List.mem_append_right _ (List.mem_append_right _ (List.mem_append_left _ h)))))))))))))))))))))))))))))
theorem tbsi : ∀ w ∈ tbs, w ∈ tb := fun _ h => List.mem_append_right _ (List.mem_append_right _ (List.mem_append_right _ (List.mem_append_right _ (List.mem_append_right _ (List.mem_append_right _ (List.mem_append_right _ (List.mem_append_right _ (List.mem_append_right _ (List.mem_append_right _ (List.mem_append_right _ (List.mem_append_right _ (List.mem_append_right _ (List.mem_append_right _ (List.mem_append_right _ (List.mem_append_right _ (List.mem_append_right _ (List.mem_append_right _ (List.mem_append_right _ (List.mem_append_right _ (List.mem_append_right _ (List.mem_append_right _ (List.mem_append_right _ (List.mem_append_right _ (List.mem_append_right _ (List.mem_append_right _ (List.mem_append_right _ (List.mem_append_right _ (List.mem_append_right _ (List.mem_append_right _ (h))))))))))))))))))))))))))))))
theorem kw_0 : Cond.methodLink RX0 1 objectInit ∈ tb := tbi_0 _ (List.mem_of_getElem? (i := 0) rfl)
theorem kw_1 : Cond.instanceMethod objectInit ∈ tb := tbi_0 _ (List.mem_of_getElem? (i := 1) rfl)
theorem kw_2 : Cond.code objectInit ⟨#[0xb1]⟩ 1 none ∈ tb := tbi_0 _ (List.mem_of_getElem? (i := 2) rfl)
theorem kw_3 : Cond.arrayClass .byte ∈ tb := tbi_0 _ (List.mem_of_getElem? (i := 3) rfl)
theorem kw_4 : Cond.fieldLink RX0 7 "CodeFoundry$Bytes" "data" "[B" ∈ tb := tbi_0 _ (List.mem_of_getElem? (i := 4) rfl)
theorem kw_5 : Cond.methodLink RX4 3 objectInit ∈ tb := tbi_0 _ (List.mem_of_getElem? (i := 5) rfl)
theorem kw_6 : Cond.arrayClass .int ∈ tb := tbi_0 _ (List.mem_of_getElem? (i := 6) rfl)
theorem kw_7 : Cond.fieldLink RX4 9 "CodeFoundry$Heights" "come" "[I" ∈ tb := tbi_0 _ (List.mem_of_getElem? (i := 7) rfl)
theorem kw_8 : Cond.fieldLink RX4 15 "CodeFoundry$Heights" "waiting" "[I" ∈ tb := tbi_0 _ (List.mem_of_getElem? (i := 8) rfl)
theorem kw_9 : Cond.arrayClass .boolean ∈ tb := tbi_0 _ (List.mem_of_getElem? (i := 9) rfl)
theorem kw_10 : Cond.fieldLink RX4 18 "CodeFoundry$Heights" "wrong" "[Z" ∈ tb := tbi_0 _ (List.mem_of_getElem? (i := 10) rfl)
theorem kw_11 : Cond.methodLink RX8 3 objectInit ∈ tb := tbi_0 _ (List.mem_of_getElem? (i := 11) rfl)
theorem kw_12 : Cond.fieldLink RX8 9 "CodeFoundry$Row" "op" "[I" ∈ tb := tbi_0 _ (List.mem_of_getElem? (i := 12) rfl)
theorem kw_13 : Cond.arrayClass .long ∈ tb := tbi_0 _ (List.mem_of_getElem? (i := 13) rfl)
theorem kw_14 : Cond.fieldLink RX8 15 "CodeFoundry$Row" "arg" "[J" ∈ tb := tbi_0 _ (List.mem_of_getElem? (i := 14) rfl)
theorem kw_15 : Cond.fieldLink RX8 19 "CodeFoundry$Row" "table" "[I" ∈ tb := tbi_0 _ (List.mem_of_getElem? (i := 15) rfl)
theorem kw_16 : Cond.fieldLink RX8 22 "CodeFoundry$Row" "catchFrom" "[I" ∈ tb := tbi_0 _ (List.mem_of_getElem? (i := 16) rfl)
theorem kw_17 : Cond.fieldLink RX8 25 "CodeFoundry$Row" "catchTo" "[I" ∈ tb := tbi_0 _ (List.mem_of_getElem? (i := 17) rfl)
theorem kw_18 : Cond.fieldLink RX8 28 "CodeFoundry$Row" "catchAt" "[I" ∈ tb := tbi_0 _ (List.mem_of_getElem? (i := 18) rfl)
theorem kw_19 : Cond.fieldLink RX8 31 "CodeFoundry$Row" "catchKind" "[I" ∈ tb := tbi_0 _ (List.mem_of_getElem? (i := 19) rfl)
theorem kw_20 : Cond.methodLink RX1 3 objectInit ∈ tb := tbi_0 _ (List.mem_of_getElem? (i := 20) rfl)
theorem kw_21 : Cond.classLink RX1 9 RX4 ∈ tb := tbi_0 _ (List.mem_of_getElem? (i := 21) rfl)
theorem kw_22 : Cond.instantiable RX4 8 ∈ tb := tbi_0 _ (List.mem_of_getElem? (i := 22) rfl)
theorem kw_23 : Cond.initialized RX4 ∈ tb := tbi_0 _ (List.mem_of_getElem? (i := 23) rfl)
theorem kw_24 : Cond.code yX4_init cX4_init 1 none ∈ tb := tbi_0 _ (List.mem_of_getElem? (i := 24) rfl)
theorem kw_25 : Cond.instanceMethod yX4_init ∈ tb := tbi_0 _ (List.mem_of_getElem? (i := 25) rfl)
theorem kw_26 : Cond.fieldLink RX1 12 "CodeFoundry$Checker" "heights" "LCodeFoundry$Heights;" ∈ tb := tbi_0 _ (List.mem_of_getElem? (i := 26) rfl)
theorem kw_27 : Cond.fieldLink RX1 18 "CodeFoundry$Checker" "before" "[B" ∈ tb := tbi_0 _ (List.mem_of_getElem? (i := 27) rfl)
theorem kw_28 : Cond.fieldLink RX1 22 "CodeFoundry$Checker" "come" "[Z" ∈ tb := tbi_0 _ (List.mem_of_getElem? (i := 28) rfl)
theorem kw_29 : Cond.fieldLink RX1 26 "CodeFoundry$Checker" "waiting" "[Z" ∈ tb := tbi_0 _ (List.mem_of_getElem? (i := 29) rfl)
theorem kw_30 : Cond.fieldLink RX1 29 "CodeFoundry$Checker" "now" "[B" ∈ tb := tbi_0 _ (List.mem_of_getElem? (i := 30) rfl)
theorem kw_31 : Cond.methodLink RX7 3 objectInit ∈ tb := tbi_0 _ (List.mem_of_getElem? (i := 31) rfl)
theorem kw_32 : Cond.fieldLink RX7 9 "CodeFoundry$Reader" "data" "[B" ∈ tb := tbi_0 _ (List.mem_of_getElem? (i := 32) rfl)
theorem kw_33 : Cond.fieldLink RX7 15 "CodeFoundry$Reader" "brokenPlace" "I" ∈ tb := tbi_0 _ (List.mem_of_getElem? (i := 33) rfl)
theorem kw_34 : Cond.fieldLink RX7 19 "CodeFoundry$Reader" "entry" "[I" ∈ tb := tbi_0 _ (List.mem_of_getElem? (i := 34) rfl)
theorem kw_35 : Cond.fieldLink RX7 23 "CodeFoundry$Reader" "memberAt" "[I" ∈ tb := tbi_0 _ (List.mem_of_getElem? (i := 35) rfl)
theorem kw_36 : Cond.fieldLink RX7 26 "CodeFoundry$Reader" "codeAt" "[I" ∈ tb := tbi_0 _ (List.mem_of_getElem? (i := 36) rfl)
theorem kw_37 : Cond.fieldLink RX7 29 "CodeFoundry$Reader" "codeEnd" "[I" ∈ tb := tbi_0 _ (List.mem_of_getElem? (i := 37) rfl)
theorem kw_38 : Cond.methodLink RX2 3 objectInit ∈ tb := tbi_0 _ (List.mem_of_getElem? (i := 38) rfl)
theorem kw_39 : Cond.classLink RX2 9 RX7 ∈ tb := tbi_0 _ (List.mem_of_getElem? (i := 39) rfl)
theorem kw_40 : Cond.instantiable RX7 17 ∈ tb := tbi_1 _ (List.mem_of_getElem? (i := 0) rfl)
theorem kw_41 : Cond.initialized RX7 ∈ tb := tbi_1 _ (List.mem_of_getElem? (i := 1) rfl)
theorem kw_42 : Cond.code yX7_init cX7_init 1 none ∈ tb := tbi_1 _ (List.mem_of_getElem? (i := 2) rfl)
theorem kw_43 : Cond.instanceMethod yX7_init ∈ tb := tbi_1 _ (List.mem_of_getElem? (i := 3) rfl)
theorem kw_44 : Cond.fieldLink RX2 12 "CodeFoundry$CodeReader" "file" "LCodeFoundry$Reader;" ∈ tb := tbi_1 _ (List.mem_of_getElem? (i := 4) rfl)
theorem kw_45 : Cond.fieldLink RX2 18 "CodeFoundry$CodeReader" "numberAt" "[I" ∈ tb := tbi_1 _ (List.mem_of_getElem? (i := 5) rfl)
theorem kw_46 : Cond.methodLink RX11 3 objectInit ∈ tb := tbi_1 _ (List.mem_of_getElem? (i := 6) rfl)
theorem kw_47 : Cond.classLink RX11 9 RX0 ∈ tb := tbi_1 _ (List.mem_of_getElem? (i := 7) rfl)
theorem kw_48 : Cond.instantiable RX0 2 ∈ tb := tbi_1 _ (List.mem_of_getElem? (i := 8) rfl)
theorem kw_49 : Cond.initialized RX0 ∈ tb := tbi_1 _ (List.mem_of_getElem? (i := 9) rfl)
theorem kw_50 : Cond.code yX0_init cX0_init 1 none ∈ tb := tbi_1 _ (List.mem_of_getElem? (i := 10) rfl)
theorem kw_51 : Cond.instanceMethod yX0_init ∈ tb := tbi_1 _ (List.mem_of_getElem? (i := 11) rfl)
theorem kw_52 : Cond.fieldLink RX11 12 "CodeFoundry$Writer" "pool" "LCodeFoundry$Bytes;" ∈ tb := tbi_1 _ (List.mem_of_getElem? (i := 12) rfl)
theorem kw_53 : Cond.fieldLink RX11 18 "CodeFoundry$Writer" "rest" "LCodeFoundry$Bytes;" ∈ tb := tbi_1 _ (List.mem_of_getElem? (i := 13) rfl)
theorem kw_54 : Cond.fieldLink RX11 21 "CodeFoundry$Writer" "wanted" "LCodeFoundry$Bytes;" ∈ tb := tbi_1 _ (List.mem_of_getElem? (i := 14) rfl)
theorem kw_55 : Cond.fieldLink RX11 24 "CodeFoundry$Writer" "entryAt" "[I" ∈ tb := tbi_1 _ (List.mem_of_getElem? (i := 15) rfl)
theorem kw_56 : Cond.fieldLink RX11 28 "CodeFoundry$Writer" "entryEnd" "[I" ∈ tb := tbi_1 _ (List.mem_of_getElem? (i := 16) rfl)
theorem kw_57 : Cond.fieldLink RX11 31 "CodeFoundry$Writer" "fieldName" "[I" ∈ tb := tbi_1 _ (List.mem_of_getElem? (i := 17) rfl)
theorem kw_58 : Cond.fieldLink RX11 34 "CodeFoundry$Writer" "fieldType" "[I" ∈ tb := tbi_1 _ (List.mem_of_getElem? (i := 18) rfl)
theorem kw_59 : Cond.fieldLink RX11 37 "CodeFoundry$Writer" "fieldEntry" "[I" ∈ tb := tbi_1 _ (List.mem_of_getElem? (i := 19) rfl)
theorem kw_60 : Cond.fieldLink RX11 40 "CodeFoundry$Writer" "methodEntry" "[I" ∈ tb := tbi_1 _ (List.mem_of_getElem? (i := 20) rfl)
theorem kw_61 : Cond.classLink RX11 43 RX4 ∈ tb := tbi_1 _ (List.mem_of_getElem? (i := 21) rfl)
theorem kw_62 : Cond.fieldLink RX11 46 "CodeFoundry$Writer" "heights" "LCodeFoundry$Heights;" ∈ tb := tbi_1 _ (List.mem_of_getElem? (i := 22) rfl)
theorem kw_63 : Cond.fieldLink RX11 50 "CodeFoundry$Writer" "needs" "[I" ∈ tb := tbi_1 _ (List.mem_of_getElem? (i := 23) rfl)
theorem kw_64 : Cond.fieldLink RX11 53 "CodeFoundry$Writer" "offsets" "[I" ∈ tb := tbi_1 _ (List.mem_of_getElem? (i := 24) rfl)
theorem kw_65 : Cond.methodLink RX5 3 objectInit ∈ tb := tbi_1 _ (List.mem_of_getElem? (i := 25) rfl)
theorem kw_66 : Cond.fieldLink RX5 9 "CodeFoundry$Machine" "fields" "[J" ∈ tb := tbi_1 _ (List.mem_of_getElem? (i := 26) rfl)
theorem kw_67 : Cond.fieldLink RX5 15 "CodeFoundry$Machine" "heap" "[I" ∈ tb := tbi_1 _ (List.mem_of_getElem? (i := 27) rfl)
theorem kw_68 : Cond.fieldLink RX5 19 "CodeFoundry$Machine" "arrayAt" "[I" ∈ tb := tbi_1 _ (List.mem_of_getElem? (i := 28) rfl)
theorem kw_69 : Cond.fieldLink RX5 22 "CodeFoundry$Machine" "arguments" "[J" ∈ tb := tbi_1 _ (List.mem_of_getElem? (i := 29) rfl)
theorem kw_70 : Cond.fieldLink RX5 25 "CodeFoundry$Machine" "locals" "[J" ∈ tb := tbi_1 _ (List.mem_of_getElem? (i := 30) rfl)
theorem kw_71 : Cond.fieldLink RX5 28 "CodeFoundry$Machine" "stack" "[J" ∈ tb := tbi_1 _ (List.mem_of_getElem? (i := 31) rfl)
theorem kw_72 : Cond.fieldLink RX5 31 "CodeFoundry$Machine" "frames" "[I" ∈ tb := tbi_1 _ (List.mem_of_getElem? (i := 32) rfl)
theorem kw_73 : Cond.fieldLink RX5 34 "CodeFoundry$Machine" "lastError" "I" ∈ tb := tbi_1 _ (List.mem_of_getElem? (i := 33) rfl)
theorem kw_74 : Cond.methodLink RX3 3 objectInit ∈ tb := tbi_1 _ (List.mem_of_getElem? (i := 34) rfl)
theorem kw_75 : Cond.fieldLink RX3 9 "CodeFoundry$Graph" "start" "[I" ∈ tb := tbi_1 _ (List.mem_of_getElem? (i := 35) rfl)
theorem kw_76 : Cond.fieldLink RX3 15 "CodeFoundry$Graph" "blockOf" "[I" ∈ tb := tbi_1 _ (List.mem_of_getElem? (i := 36) rfl)
theorem kw_77 : Cond.fieldLink RX3 18 "CodeFoundry$Graph" "edgeAt" "[I" ∈ tb := tbi_1 _ (List.mem_of_getElem? (i := 37) rfl)
theorem kw_78 : Cond.fieldLink RX3 21 "CodeFoundry$Graph" "edges" "[I" ∈ tb := tbi_1 _ (List.mem_of_getElem? (i := 38) rfl)
theorem kw_79 : Cond.fieldLink RX3 24 "CodeFoundry$Graph" "backAt" "[I" ∈ tb := tbi_1 _ (List.mem_of_getElem? (i := 39) rfl)
theorem kw_80 : Cond.fieldLink RX3 27 "CodeFoundry$Graph" "backs" "[I" ∈ tb := tbi_2 _ (List.mem_of_getElem? (i := 0) rfl)
theorem kw_81 : Cond.fieldLink RX3 30 "CodeFoundry$Graph" "reached" "[Z" ∈ tb := tbi_2 _ (List.mem_of_getElem? (i := 1) rfl)
theorem kw_82 : Cond.fieldLink RX3 34 "CodeFoundry$Graph" "dominators" "[J" ∈ tb := tbi_2 _ (List.mem_of_getElem? (i := 2) rfl)
theorem kw_83 : Cond.fieldLink RX3 38 "CodeFoundry$Graph" "dominator" "[I" ∈ tb := tbi_2 _ (List.mem_of_getElem? (i := 3) rfl)
theorem kw_84 : Cond.fieldLink RX3 41 "CodeFoundry$Graph" "latches" "[I" ∈ tb := tbi_2 _ (List.mem_of_getElem? (i := 4) rfl)
theorem kw_85 : Cond.fieldLink RX3 44 "CodeFoundry$Graph" "depth" "[I" ∈ tb := tbi_2 _ (List.mem_of_getElem? (i := 5) rfl)
theorem kw_86 : Cond.fieldLink RX3 47 "CodeFoundry$Graph" "seen" "[I" ∈ tb := tbi_2 _ (List.mem_of_getElem? (i := 6) rfl)
theorem kw_87 : Cond.fieldLink RX3 50 "CodeFoundry$Graph" "waiting" "[I" ∈ tb := tbi_2 _ (List.mem_of_getElem? (i := 7) rfl)
theorem kw_88 : Cond.methodLink RX9 3 objectInit ∈ tb := tbi_2 _ (List.mem_of_getElem? (i := 8) rfl)
theorem kw_89 : Cond.classLink RX9 9 RX8 ∈ tb := tbi_2 _ (List.mem_of_getElem? (i := 9) rfl)
theorem kw_90 : Cond.instantiable RX8 15 ∈ tb := tbi_2 _ (List.mem_of_getElem? (i := 10) rfl)
theorem kw_91 : Cond.initialized RX8 ∈ tb := tbi_2 _ (List.mem_of_getElem? (i := 11) rfl)
theorem kw_92 : Cond.methodLink RX9 11 yX8_init ∈ tb := tbi_2 _ (List.mem_of_getElem? (i := 12) rfl)
theorem kw_93 : Cond.code yX8_init cX8_init 4 none ∈ tb := tbi_2 _ (List.mem_of_getElem? (i := 13) rfl)
theorem kw_94 : Cond.instanceMethod yX8_init ∈ tb := tbi_2 _ (List.mem_of_getElem? (i := 14) rfl)
theorem kw_95 : Cond.fieldLink RX9 14 "CodeFoundry$Smith" "row" "LCodeFoundry$Row;" ∈ tb := tbi_2 _ (List.mem_of_getElem? (i := 15) rfl)
theorem kw_96 : Cond.fieldLink RX9 20 "CodeFoundry$Smith" "applied" "[I" ∈ tb := tbi_2 _ (List.mem_of_getElem? (i := 16) rfl)
theorem kw_97 : Cond.fieldLink RX9 24 "CodeFoundry$Smith" "marked" "[Z" ∈ tb := tbi_2 _ (List.mem_of_getElem? (i := 17) rfl)
theorem kw_98 : Cond.fieldLink RX9 28 "CodeFoundry$Smith" "reached" "[Z" ∈ tb := tbi_2 _ (List.mem_of_getElem? (i := 18) rfl)
theorem kw_99 : Cond.fieldLink RX9 31 "CodeFoundry$Smith" "live" "[I" ∈ tb := tbi_2 _ (List.mem_of_getElem? (i := 19) rfl)
theorem kw_100 : Cond.fieldLink RX9 34 "CodeFoundry$Smith" "newPlace" "[I" ∈ tb := tbi_2 _ (List.mem_of_getElem? (i := 20) rfl)
theorem kw_101 : Cond.methodLink RX12 1 objectInit ∈ tb := tbi_2 _ (List.mem_of_getElem? (i := 21) rfl)
theorem kw_102 : Cond.classLink RX12 7 RX0 ∈ tb := tbi_2 _ (List.mem_of_getElem? (i := 22) rfl)
theorem kw_103 : Cond.fieldLink RX12 10 "CodeFoundry" "tray" "LCodeFoundry$Bytes;" ∈ tb := tbi_2 _ (List.mem_of_getElem? (i := 23) rfl)
theorem kw_104 : Cond.fieldLink RX12 16 "CodeFoundry" "written" "LCodeFoundry$Bytes;" ∈ tb := tbi_2 _ (List.mem_of_getElem? (i := 24) rfl)
theorem kw_105 : Cond.fieldLink RX12 19 "CodeFoundry" "draft" "LCodeFoundry$Bytes;" ∈ tb := tbi_2 _ (List.mem_of_getElem? (i := 25) rfl)
theorem kw_106 : Cond.classLink RX12 22 "CodeFoundry$Unit" ∈ tb := tbi_2 _ (List.mem_of_getElem? (i := 26) rfl)
theorem kw_107 : Cond.fieldLink RX12 24 "CodeFoundry" "units" "[LCodeFoundry$Unit;" ∈ tb := tbi_2 _ (List.mem_of_getElem? (i := 27) rfl)
theorem kw_108 : Cond.classLink RX12 28 RX2 ∈ tb := tbi_2 _ (List.mem_of_getElem? (i := 28) rfl)
theorem kw_109 : Cond.instantiable RX2 12 ∈ tb := tbi_2 _ (List.mem_of_getElem? (i := 29) rfl)
theorem kw_110 : Cond.initialized RX2 ∈ tb := tbi_2 _ (List.mem_of_getElem? (i := 30) rfl)
theorem kw_111 : Cond.code yX2_init cX2_init 1 none ∈ tb := tbi_2 _ (List.mem_of_getElem? (i := 31) rfl)
theorem kw_112 : Cond.instanceMethod yX2_init ∈ tb := tbi_2 _ (List.mem_of_getElem? (i := 32) rfl)
theorem kw_113 : Cond.fieldLink RX12 31 "CodeFoundry" "reader" "LCodeFoundry$CodeReader;" ∈ tb := tbi_2 _ (List.mem_of_getElem? (i := 33) rfl)
theorem kw_114 : Cond.classLink RX12 35 RX1 ∈ tb := tbi_2 _ (List.mem_of_getElem? (i := 34) rfl)
theorem kw_115 : Cond.instantiable RX1 10 ∈ tb := tbi_2 _ (List.mem_of_getElem? (i := 35) rfl)
theorem kw_116 : Cond.initialized RX1 ∈ tb := tbi_2 _ (List.mem_of_getElem? (i := 36) rfl)
theorem kw_117 : Cond.code yX1_init cX1_init 1 none ∈ tb := tbi_2 _ (List.mem_of_getElem? (i := 37) rfl)
theorem kw_118 : Cond.instanceMethod yX1_init ∈ tb := tbi_2 _ (List.mem_of_getElem? (i := 38) rfl)
theorem kw_119 : Cond.fieldLink RX12 38 "CodeFoundry" "checker" "LCodeFoundry$Checker;" ∈ tb := tbi_2 _ (List.mem_of_getElem? (i := 39) rfl)
theorem kw_120 : Cond.classLink RX12 42 RX11 ∈ tb := tbi_3 _ (List.mem_of_getElem? (i := 0) rfl)
theorem kw_121 : Cond.instantiable RX11 18 ∈ tb := tbi_3 _ (List.mem_of_getElem? (i := 1) rfl)
theorem kw_122 : Cond.initialized RX11 ∈ tb := tbi_3 _ (List.mem_of_getElem? (i := 2) rfl)
theorem kw_123 : Cond.code yX11_init cX11_init 1 none ∈ tb := tbi_3 _ (List.mem_of_getElem? (i := 3) rfl)
theorem kw_124 : Cond.instanceMethod yX11_init ∈ tb := tbi_3 _ (List.mem_of_getElem? (i := 4) rfl)
theorem kw_125 : Cond.fieldLink RX12 45 "CodeFoundry" "writer" "LCodeFoundry$Writer;" ∈ tb := tbi_3 _ (List.mem_of_getElem? (i := 5) rfl)
theorem kw_126 : Cond.classLink RX12 49 RX5 ∈ tb := tbi_3 _ (List.mem_of_getElem? (i := 6) rfl)
theorem kw_127 : Cond.instantiable RX5 20 ∈ tb := tbi_3 _ (List.mem_of_getElem? (i := 7) rfl)
theorem kw_128 : Cond.initialized RX5 ∈ tb := tbi_3 _ (List.mem_of_getElem? (i := 8) rfl)
theorem kw_129 : Cond.code yX5_init cX5_init 1 none ∈ tb := tbi_3 _ (List.mem_of_getElem? (i := 9) rfl)
theorem kw_130 : Cond.instanceMethod yX5_init ∈ tb := tbi_3 _ (List.mem_of_getElem? (i := 10) rfl)
theorem kw_131 : Cond.fieldLink RX12 52 "CodeFoundry" "machine" "LCodeFoundry$Machine;" ∈ tb := tbi_3 _ (List.mem_of_getElem? (i := 11) rfl)
theorem kw_132 : Cond.classLink RX12 56 RX3 ∈ tb := tbi_3 _ (List.mem_of_getElem? (i := 12) rfl)
theorem kw_133 : Cond.instantiable RX3 16 ∈ tb := tbi_3 _ (List.mem_of_getElem? (i := 13) rfl)
theorem kw_134 : Cond.initialized RX3 ∈ tb := tbi_3 _ (List.mem_of_getElem? (i := 14) rfl)
theorem kw_135 : Cond.code yX3_init cX3_init 1 none ∈ tb := tbi_3 _ (List.mem_of_getElem? (i := 15) rfl)
theorem kw_136 : Cond.instanceMethod yX3_init ∈ tb := tbi_3 _ (List.mem_of_getElem? (i := 16) rfl)
theorem kw_137 : Cond.fieldLink RX12 59 "CodeFoundry" "graph" "LCodeFoundry$Graph;" ∈ tb := tbi_3 _ (List.mem_of_getElem? (i := 17) rfl)
theorem kw_138 : Cond.classLink RX12 63 RX9 ∈ tb := tbi_3 _ (List.mem_of_getElem? (i := 18) rfl)
theorem kw_139 : Cond.instantiable RX9 6 ∈ tb := tbi_3 _ (List.mem_of_getElem? (i := 19) rfl)
theorem kw_140 : Cond.initialized RX9 ∈ tb := tbi_3 _ (List.mem_of_getElem? (i := 20) rfl)
theorem kw_141 : Cond.code yX9_init cX9_init 1 none ∈ tb := tbi_3 _ (List.mem_of_getElem? (i := 21) rfl)
theorem kw_142 : Cond.instanceMethod yX9_init ∈ tb := tbi_3 _ (List.mem_of_getElem? (i := 22) rfl)
theorem kw_143 : Cond.fieldLink RX12 66 "CodeFoundry" "smith" "LCodeFoundry$Smith;" ∈ tb := tbi_3 _ (List.mem_of_getElem? (i := 23) rfl)
theorem kw_144 : Cond.fieldLink RX12 70 "CodeFoundry" "brokenPlace" "I" ∈ tb := tbi_3 _ (List.mem_of_getElem? (i := 24) rfl)
theorem kw_145 : Cond.fieldLink RX12 74 "CodeFoundry" "faultMethod" "I" ∈ tb := tbi_3 _ (List.mem_of_getElem? (i := 25) rfl)
theorem kw_146 : Cond.fieldLink RX12 77 "CodeFoundry" "faultAt" "I" ∈ tb := tbi_3 _ (List.mem_of_getElem? (i := 26) rfl)
theorem kw_147 : Cond.fieldLink RX12 80 "CodeFoundry" "writtenFile" "I" ∈ tb := tbi_3 _ (List.mem_of_getElem? (i := 27) rfl)
theorem kw_148 : Cond.fieldLink RX0 13 "CodeFoundry$Bytes" "count" "I" ∈ tb := tbi_3 _ (List.mem_of_getElem? (i := 28) rfl)
theorem kw_149 : Cond.methodLink RX0 23 yX0_put ∈ tb := tbi_3 _ (List.mem_of_getElem? (i := 29) rfl)
theorem kw_150 : Cond.instanceMethod yX0_put ∈ tb := tbi_3 _ (List.mem_of_getElem? (i := 30) rfl)
theorem kw_151 : Cond.selects RX0 yX0_put yX0_put ∈ tb := tbi_3 _ (List.mem_of_getElem? (i := 31) rfl)
theorem kw_152 : Cond.code yX0_put cX0_put 2 none ∈ tb := tbi_3 _ (List.mem_of_getElem? (i := 32) rfl)
theorem kw_153 : Cond.methodLink RX0 27 yX0_put2 ∈ tb := tbi_3 _ (List.mem_of_getElem? (i := 33) rfl)
theorem kw_154 : Cond.instanceMethod yX0_put2 ∈ tb := tbi_3 _ (List.mem_of_getElem? (i := 34) rfl)
theorem kw_155 : Cond.selects RX0 yX0_put2 yX0_put2 ∈ tb := tbi_3 _ (List.mem_of_getElem? (i := 35) rfl)
theorem kw_156 : Cond.code yX0_put2 cX0_put2 2 none ∈ tb := tbi_3 _ (List.mem_of_getElem? (i := 36) rfl)
theorem kw_157 : Cond.fieldLink RX12 83 "CodeFoundry$Bytes" "count" "I" ∈ tb := tbi_3 _ (List.mem_of_getElem? (i := 37) rfl)
theorem kw_158 : Cond.fieldLink RX12 86 "CodeFoundry" "fed" "I" ∈ tb := tbi_3 _ (List.mem_of_getElem? (i := 38) rfl)
theorem kw_159 : Cond.constant RX12 89 (65536) ∈ tb := tbi_3 _ (List.mem_of_getElem? (i := 39) rfl)
theorem kw_160 : Cond.methodLink RX12 90 yX0_put4 ∈ tb := tbi_4 _ (List.mem_of_getElem? (i := 0) rfl)
theorem kw_161 : Cond.instanceMethod yX0_put4 ∈ tb := tbi_4 _ (List.mem_of_getElem? (i := 1) rfl)
theorem kw_162 : Cond.selects RX0 yX0_put4 yX0_put4 ∈ tb := tbi_4 _ (List.mem_of_getElem? (i := 2) rfl)
theorem kw_163 : Cond.code yX0_put4 cX0_put4 2 none ∈ tb := tbi_4 _ (List.mem_of_getElem? (i := 3) rfl)
theorem kw_164 : Cond.fieldLink RX12 110 "CodeFoundry" "brokenRule" "I" ∈ tb := tbi_4 _ (List.mem_of_getElem? (i := 4) rfl)
theorem kw_165 : Cond.fieldLink RX12 94 "CodeFoundry" "unitCount" "I" ∈ tb := tbi_4 _ (List.mem_of_getElem? (i := 5) rfl)
theorem kw_166 : Cond.methodLink RX12 116 yX12_unitAt ∈ tb := tbi_4 _ (List.mem_of_getElem? (i := 6) rfl)
theorem kw_167 : Cond.instanceMethod yX12_unitAt ∈ tb := tbi_4 _ (List.mem_of_getElem? (i := 7) rfl)
theorem kw_168 : Cond.selects RX12 yX12_unitAt yX12_unitAt ∈ tb := tbi_4 _ (List.mem_of_getElem? (i := 8) rfl)
theorem kw_169 : Cond.initialized RX12 ∈ tb := tbi_4 _ (List.mem_of_getElem? (i := 9) rfl)
theorem kw_170 : Cond.code yX12_unitAt cX12_unitAt 2 (some (.object "CodeFoundry$Unit")) ∈ tb := tbi_4 _ (List.mem_of_getElem? (i := 10) rfl)
theorem kw_171 : Cond.methodLink RX12 132 yX12_rowAt ∈ tb := tbi_4 _ (List.mem_of_getElem? (i := 11) rfl)
theorem kw_172 : Cond.instanceMethod yX12_rowAt ∈ tb := tbi_4 _ (List.mem_of_getElem? (i := 12) rfl)
theorem kw_173 : Cond.selects RX12 yX12_rowAt yX12_rowAt ∈ tb := tbi_4 _ (List.mem_of_getElem? (i := 13) rfl)
theorem kw_174 : Cond.code yX12_rowAt cX12_rowAt 4 (some (.object "CodeFoundry$Row")) ∈ tb := tbi_4 _ (List.mem_of_getElem? (i := 14) rfl)
theorem kw_175 : Cond.methodLink RX12 152 yX12_soundUnitAt ∈ tb := tbi_4 _ (List.mem_of_getElem? (i := 15) rfl)
theorem kw_176 : Cond.instanceMethod yX12_soundUnitAt ∈ tb := tbi_4 _ (List.mem_of_getElem? (i := 16) rfl)
theorem kw_177 : Cond.selects RX12 yX12_soundUnitAt yX12_soundUnitAt ∈ tb := tbi_4 _ (List.mem_of_getElem? (i := 17) rfl)
theorem kw_178 : Cond.code yX12_soundUnitAt cX12_soundUnitAt 3 (some (.object "CodeFoundry$Unit")) ∈ tb := tbi_4 _ (List.mem_of_getElem? (i := 18) rfl)
theorem kw_179 : Cond.fieldLink RX5 54 "CodeFoundry$Machine" "argumentCount" "I" ∈ tb := tbi_4 _ (List.mem_of_getElem? (i := 19) rfl)
theorem kw_180 : Cond.fieldLink RX5 38 "CodeFoundry$Machine" "unit" "LCodeFoundry$Unit;" ∈ tb := tbi_4 _ (List.mem_of_getElem? (i := 20) rfl)
theorem kw_181 : Cond.fieldLink RX5 51 "CodeFoundry$Machine" "arrays" "I" ∈ tb := tbi_4 _ (List.mem_of_getElem? (i := 21) rfl)
theorem kw_182 : Cond.methodLink RX5 62 yX5_isArray ∈ tb := tbi_4 _ (List.mem_of_getElem? (i := 22) rfl)
theorem kw_183 : Cond.instanceMethod yX5_isArray ∈ tb := tbi_4 _ (List.mem_of_getElem? (i := 23) rfl)
theorem kw_184 : Cond.selects RX5 yX5_isArray yX5_isArray ∈ tb := tbi_4 _ (List.mem_of_getElem? (i := 24) rfl)
theorem kw_185 : Cond.code yX5_isArray cX5_isArray 3 (some .boolean) ∈ tb := tbi_4 _ (List.mem_of_getElem? (i := 25) rfl)
theorem kw_186 : Cond.methodLink RX5 70 yX5_lengthOf ∈ tb := tbi_4 _ (List.mem_of_getElem? (i := 26) rfl)
theorem kw_187 : Cond.instanceMethod yX5_lengthOf ∈ tb := tbi_4 _ (List.mem_of_getElem? (i := 27) rfl)
theorem kw_188 : Cond.selects RX5 yX5_lengthOf yX5_lengthOf ∈ tb := tbi_4 _ (List.mem_of_getElem? (i := 28) rfl)
theorem kw_189 : Cond.code yX5_lengthOf cX5_lengthOf 2 (some .int) ∈ tb := tbi_4 _ (List.mem_of_getElem? (i := 29) rfl)
theorem kw_190 : Cond.methodLink RX12 182 yX5_addArgument ∈ tb := tbi_4 _ (List.mem_of_getElem? (i := 30) rfl)
theorem kw_191 : Cond.instanceMethod yX5_addArgument ∈ tb := tbi_4 _ (List.mem_of_getElem? (i := 31) rfl)
theorem kw_192 : Cond.selects RX5 yX5_addArgument yX5_addArgument ∈ tb := tbi_4 _ (List.mem_of_getElem? (i := 32) rfl)
theorem kw_193 : Cond.code yX5_addArgument cX5_addArgument 3 (some .int) ∈ tb := tbi_4 _ (List.mem_of_getElem? (i := 33) rfl)
theorem kw_194 : Cond.methodLink RX12 186 yX5_refusal ∈ tb := tbi_4 _ (List.mem_of_getElem? (i := 34) rfl)
theorem kw_195 : Cond.instanceMethod yX5_refusal ∈ tb := tbi_4 _ (List.mem_of_getElem? (i := 35) rfl)
theorem kw_196 : Cond.selects RX5 yX5_refusal yX5_refusal ∈ tb := tbi_4 _ (List.mem_of_getElem? (i := 36) rfl)
theorem kw_197 : Cond.code yX5_refusal cX5_refusal 5 (some .int) ∈ tb := tbi_4 _ (List.mem_of_getElem? (i := 37) rfl)
theorem kw_198 : Cond.fieldLink RX12 192 "CodeFoundry$Machine" "argumentCount" "I" ∈ tb := tbi_4 _ (List.mem_of_getElem? (i := 38) rfl)
theorem kw_199 : Cond.fieldLink RX12 195 "CodeFoundry$Machine" "lastResult" "J" ∈ tb := tbi_4 _ (List.mem_of_getElem? (i := 39) rfl)
theorem kw_200 : Cond.fieldLink RX12 199 "CodeFoundry$Machine" "lastError" "I" ∈ tb := tbi_5 _ (List.mem_of_getElem? (i := 0) rfl)
theorem kw_201 : Cond.fieldLink RX12 202 "CodeFoundry$Machine" "lastSteps" "I" ∈ tb := tbi_5 _ (List.mem_of_getElem? (i := 1) rfl)
theorem kw_202 : Cond.fieldLink RX12 259 "CodeFoundry$Machine" "strays" "I" ∈ tb := tbi_5 _ (List.mem_of_getElem? (i := 2) rfl)
theorem kw_203 : Cond.methodLink RX12 205 yX5_fieldAt ∈ tb := tbi_5 _ (List.mem_of_getElem? (i := 3) rfl)
theorem kw_204 : Cond.instanceMethod yX5_fieldAt ∈ tb := tbi_5 _ (List.mem_of_getElem? (i := 4) rfl)
theorem kw_205 : Cond.selects RX5 yX5_fieldAt yX5_fieldAt ∈ tb := tbi_5 _ (List.mem_of_getElem? (i := 5) rfl)
theorem kw_206 : Cond.code yX5_fieldAt cX5_fieldAt 2 (some .long) ∈ tb := tbi_5 _ (List.mem_of_getElem? (i := 6) rfl)
theorem kw_207 : Cond.methodLink RX12 209 yX5_elementAt ∈ tb := tbi_5 _ (List.mem_of_getElem? (i := 7) rfl)
theorem kw_208 : Cond.instanceMethod yX5_elementAt ∈ tb := tbi_5 _ (List.mem_of_getElem? (i := 8) rfl)
theorem kw_209 : Cond.selects RX5 yX5_elementAt yX5_elementAt ∈ tb := tbi_5 _ (List.mem_of_getElem? (i := 9) rfl)
theorem kw_210 : Cond.code yX5_elementAt cX5_elementAt 3 (some .int) ∈ tb := tbi_5 _ (List.mem_of_getElem? (i := 10) rfl)
theorem kw_211 : Cond.methodLink RX12 212 yX5_lengthOf ∈ tb := tbi_5 _ (List.mem_of_getElem? (i := 11) rfl)
theorem kw_212 : Cond.methodLink RX9 37 yJ7_fill_53178 ∈ tb := tbi_5 _ (List.mem_of_getElem? (i := 12) rfl)
theorem kw_213 : Cond.static yJ7_fill_53178 ∈ tb := tbi_5 _ (List.mem_of_getElem? (i := 13) rfl)
theorem kw_214 : Cond.initialized RJ7 ∈ tb := tbi_5 _ (List.mem_of_getElem? (i := 14) rfl)
theorem kw_215 : Cond.code yJ7_fill_53178 cJ7_fill_53178 4 none ∈ tb := tbi_5 _ (List.mem_of_getElem? (i := 15) rfl)
theorem kw_216 : Cond.methodLink RX12 226 yX9_forgetApplied ∈ tb := tbi_5 _ (List.mem_of_getElem? (i := 16) rfl)
theorem kw_217 : Cond.instanceMethod yX9_forgetApplied ∈ tb := tbi_5 _ (List.mem_of_getElem? (i := 17) rfl)
theorem kw_218 : Cond.selects RX9 yX9_forgetApplied yX9_forgetApplied ∈ tb := tbi_5 _ (List.mem_of_getElem? (i := 18) rfl)
theorem kw_219 : Cond.code yX9_forgetApplied cX9_forgetApplied 1 none ∈ tb := tbi_5 _ (List.mem_of_getElem? (i := 19) rfl)
theorem kw_220 : Cond.methodLink RX12 244 yX9_appliedAt ∈ tb := tbi_5 _ (List.mem_of_getElem? (i := 20) rfl)
theorem kw_221 : Cond.instanceMethod yX9_appliedAt ∈ tb := tbi_5 _ (List.mem_of_getElem? (i := 21) rfl)
theorem kw_222 : Cond.selects RX9 yX9_appliedAt yX9_appliedAt ∈ tb := tbi_5 _ (List.mem_of_getElem? (i := 22) rfl)
theorem kw_223 : Cond.code yX9_appliedAt cX9_appliedAt 2 (some .int) ∈ tb := tbi_5 _ (List.mem_of_getElem? (i := 23) rfl)
theorem kw_224 : Cond.fieldLink RX7 41 "CodeFoundry$Reader" "brokenRule" "I" ∈ tb := tbi_5 _ (List.mem_of_getElem? (i := 24) rfl)
theorem kw_225 : Cond.fieldLink RX7 38 "CodeFoundry$Reader" "end" "I" ∈ tb := tbi_5 _ (List.mem_of_getElem? (i := 25) rfl)
theorem kw_226 : Cond.methodLink RX7 87 yX7_breaks ∈ tb := tbi_5 _ (List.mem_of_getElem? (i := 26) rfl)
theorem kw_227 : Cond.instanceMethod yX7_breaks ∈ tb := tbi_5 _ (List.mem_of_getElem? (i := 27) rfl)
theorem kw_228 : Cond.selects RX7 yX7_breaks yX7_breaks ∈ tb := tbi_5 _ (List.mem_of_getElem? (i := 28) rfl)
theorem kw_229 : Cond.code yX7_breaks cX7_breaks 3 (some .boolean) ∈ tb := tbi_5 _ (List.mem_of_getElem? (i := 29) rfl)
theorem kw_230 : Cond.fieldLink RX7 32 "CodeFoundry$Bytes" "data" "[B" ∈ tb := tbi_5 _ (List.mem_of_getElem? (i := 30) rfl)
theorem kw_231 : Cond.fieldLink RX7 35 "CodeFoundry$Bytes" "count" "I" ∈ tb := tbi_5 _ (List.mem_of_getElem? (i := 31) rfl)
theorem kw_232 : Cond.fieldLink RX7 44 "CodeFoundry$Reader" "p" "I" ∈ tb := tbi_5 _ (List.mem_of_getElem? (i := 32) rfl)
theorem kw_233 : Cond.methodLink RX7 47 yX7_magicHolds ∈ tb := tbi_5 _ (List.mem_of_getElem? (i := 33) rfl)
theorem kw_234 : Cond.instanceMethod yX7_magicHolds ∈ tb := tbi_5 _ (List.mem_of_getElem? (i := 34) rfl)
theorem kw_235 : Cond.selects RX7 yX7_magicHolds yX7_magicHolds ∈ tb := tbi_5 _ (List.mem_of_getElem? (i := 35) rfl)
theorem kw_236 : Cond.code yX7_magicHolds cX7_magicHolds 2 (some .boolean) ∈ tb := tbi_5 _ (List.mem_of_getElem? (i := 36) rfl)
theorem kw_237 : Cond.methodLink RX2 22 yX7_isSound ∈ tb := tbi_5 _ (List.mem_of_getElem? (i := 37) rfl)
theorem kw_238 : Cond.instanceMethod yX7_isSound ∈ tb := tbi_5 _ (List.mem_of_getElem? (i := 38) rfl)
theorem kw_239 : Cond.selects RX7 yX7_isSound yX7_isSound ∈ tb := tbi_5 _ (List.mem_of_getElem? (i := 39) rfl)
theorem kw_240 : Cond.code yX7_isSound cX7_isSound 2 (some .boolean) ∈ tb := tbi_6 _ (List.mem_of_getElem? (i := 0) rfl)
theorem kw_241 : Cond.methodLink RX12 97 yX2_unitOf ∈ tb := tbi_6 _ (List.mem_of_getElem? (i := 1) rfl)
theorem kw_242 : Cond.instanceMethod yX2_unitOf ∈ tb := tbi_6 _ (List.mem_of_getElem? (i := 2) rfl)
theorem kw_243 : Cond.selects RX2 yX2_unitOf yX2_unitOf ∈ tb := tbi_6 _ (List.mem_of_getElem? (i := 3) rfl)
theorem kw_244 : Cond.code yX2_unitOf cX2_unitOf 4 (some (.object "CodeFoundry$Unit")) ∈ tb := tbi_6 _ (List.mem_of_getElem? (i := 4) rfl)
theorem kw_245 : Cond.fieldLink RX12 101 "CodeFoundry$CodeReader" "file" "LCodeFoundry$Reader;" ∈ tb := tbi_6 _ (List.mem_of_getElem? (i := 5) rfl)
theorem kw_246 : Cond.fieldLink RX12 105 "CodeFoundry$Reader" "brokenRule" "I" ∈ tb := tbi_6 _ (List.mem_of_getElem? (i := 6) rfl)
theorem kw_247 : Cond.fieldLink RX12 111 "CodeFoundry$Reader" "brokenPlace" "I" ∈ tb := tbi_6 _ (List.mem_of_getElem? (i := 7) rfl)
theorem kw_248 : Cond.methodLink RX12 112 yX12_keep ∈ tb := tbi_6 _ (List.mem_of_getElem? (i := 8) rfl)
theorem kw_249 : Cond.instanceMethod yX12_keep ∈ tb := tbi_6 _ (List.mem_of_getElem? (i := 9) rfl)
theorem kw_250 : Cond.selects RX12 yX12_keep yX12_keep ∈ tb := tbi_6 _ (List.mem_of_getElem? (i := 10) rfl)
theorem kw_251 : Cond.code yX12_keep cX12_keep 3 (some .int) ∈ tb := tbi_6 _ (List.mem_of_getElem? (i := 11) rfl)
theorem kw_252 : Cond.methodLink RX13 3 objectInit ∈ tb := tbi_6 _ (List.mem_of_getElem? (i := 12) rfl)
theorem kw_253 : Cond.classLink RX13 9 "java/lang/String" ∈ tb := tbi_6 _ (List.mem_of_getElem? (i := 13) rfl)
theorem kw_254 : Cond.fieldLink RX13 11 "CodeFoundryModel$File" "fieldNames" "[Ljava/lang/String;" ∈ tb := tbi_6 _ (List.mem_of_getElem? (i := 14) rfl)
theorem kw_255 : Cond.fieldLink RX13 17 "CodeFoundryModel$File" "fieldTypes" "[Ljava/lang/String;" ∈ tb := tbi_6 _ (List.mem_of_getElem? (i := 15) rfl)
theorem kw_256 : Cond.fieldLink RX13 20 "CodeFoundryModel$File" "fieldLetters" "[Ljava/lang/String;" ∈ tb := tbi_6 _ (List.mem_of_getElem? (i := 16) rfl)
theorem kw_257 : Cond.fieldLink RX13 23 "CodeFoundryModel$File" "methodNames" "[Ljava/lang/String;" ∈ tb := tbi_6 _ (List.mem_of_getElem? (i := 17) rfl)
theorem kw_258 : Cond.fieldLink RX13 26 "CodeFoundryModel$File" "methodTypes" "[Ljava/lang/String;" ∈ tb := tbi_6 _ (List.mem_of_getElem? (i := 18) rfl)
theorem kw_259 : Cond.fieldLink RX13 29 "CodeFoundryModel$File" "takes" "[Ljava/lang/String;" ∈ tb := tbi_6 _ (List.mem_of_getElem? (i := 19) rfl)
theorem kw_260 : Cond.fieldLink RX13 32 "CodeFoundryModel$File" "gives" "[Ljava/lang/String;" ∈ tb := tbi_6 _ (List.mem_of_getElem? (i := 20) rfl)
theorem kw_261 : Cond.fieldLink RX13 35 "CodeFoundryModel$File" "mostStack" "[I" ∈ tb := tbi_6 _ (List.mem_of_getElem? (i := 21) rfl)
theorem kw_262 : Cond.fieldLink RX13 39 "CodeFoundryModel$File" "mostLocals" "[I" ∈ tb := tbi_6 _ (List.mem_of_getElem? (i := 22) rfl)
theorem kw_263 : Cond.fieldLink RX13 42 "CodeFoundryModel$File" "firsts" "[I" ∈ tb := tbi_6 _ (List.mem_of_getElem? (i := 23) rfl)
theorem kw_264 : Cond.fieldLink RX13 45 "CodeFoundryModel$File" "lengths" "[I" ∈ tb := tbi_6 _ (List.mem_of_getElem? (i := 24) rfl)
theorem kw_265 : Cond.fieldLink RX13 48 "CodeFoundryModel$File" "catchFirsts" "[I" ∈ tb := tbi_6 _ (List.mem_of_getElem? (i := 25) rfl)
theorem kw_266 : Cond.fieldLink RX13 51 "CodeFoundryModel$File" "catchCounts" "[I" ∈ tb := tbi_6 _ (List.mem_of_getElem? (i := 26) rfl)
theorem kw_267 : Cond.methodLink RX14 3 objectInit ∈ tb := tbi_6 _ (List.mem_of_getElem? (i := 27) rfl)
theorem kw_268 : Cond.classLink RX14 9 "CodeFoundryModel$File" ∈ tb := tbi_6 _ (List.mem_of_getElem? (i := 28) rfl)
theorem kw_269 : Cond.fieldLink RX14 11 "CodeFoundryModel" "files" "[LCodeFoundryModel$File;" ∈ tb := tbi_6 _ (List.mem_of_getElem? (i := 29) rfl)
theorem kw_270 : Cond.fieldLink RX14 15 "CodeFoundryModel" "tray" "[B" ∈ tb := tbi_6 _ (List.mem_of_getElem? (i := 30) rfl)
theorem kw_271 : Cond.classLink RX14 19 RJxb5711 ∈ tb := tbi_6 _ (List.mem_of_getElem? (i := 31) rfl)
theorem kw_272 : Cond.initialized RJxb5711 ∈ tb := tbi_6 _ (List.mem_of_getElem? (i := 32) rfl)
theorem kw_273 : Cond.fieldLink RX14 22 "CodeFoundryModel" "stop" "Ljava/lang/IllegalStateException;" ∈ tb := tbi_6 _ (List.mem_of_getElem? (i := 33) rfl)
theorem kw_274 : Cond.fieldLink RX14 26 "CodeFoundryModel" "toldPlace" "I" ∈ tb := tbi_6 _ (List.mem_of_getElem? (i := 34) rfl)
theorem kw_275 : Cond.fieldLink RX14 30 "CodeFoundryModel" "tags" "[I" ∈ tb := tbi_6 _ (List.mem_of_getElem? (i := 35) rfl)
theorem kw_276 : Cond.fieldLink RX14 34 "CodeFoundryModel" "tagPlaces" "[I" ∈ tb := tbi_6 _ (List.mem_of_getElem? (i := 36) rfl)
theorem kw_277 : Cond.fieldLink RX14 37 "CodeFoundryModel" "firstOf" "[I" ∈ tb := tbi_6 _ (List.mem_of_getElem? (i := 37) rfl)
theorem kw_278 : Cond.fieldLink RX14 40 "CodeFoundryModel" "secondOf" "[I" ∈ tb := tbi_6 _ (List.mem_of_getElem? (i := 38) rfl)
theorem kw_279 : Cond.fieldLink RX14 43 "CodeFoundryModel" "worthOf" "[J" ∈ tb := tbi_6 _ (List.mem_of_getElem? (i := 39) rfl)
theorem kw_280 : Cond.fieldLink RX14 47 "CodeFoundryModel" "memberAt" "[I" ∈ tb := tbi_7 _ (List.mem_of_getElem? (i := 0) rfl)
theorem kw_281 : Cond.fieldLink RX14 50 "CodeFoundryModel" "attributeAt" "[I" ∈ tb := tbi_7 _ (List.mem_of_getElem? (i := 1) rfl)
theorem kw_282 : Cond.fieldLink RX14 53 "CodeFoundryModel" "attributeOwner" "[I" ∈ tb := tbi_7 _ (List.mem_of_getElem? (i := 2) rfl)
theorem kw_283 : Cond.fieldLink RX14 56 "CodeFoundryModel" "stackOf" "[I" ∈ tb := tbi_7 _ (List.mem_of_getElem? (i := 3) rfl)
theorem kw_284 : Cond.fieldLink RX14 59 "CodeFoundryModel" "localsOf" "[I" ∈ tb := tbi_7 _ (List.mem_of_getElem? (i := 4) rfl)
theorem kw_285 : Cond.fieldLink RX14 62 "CodeFoundryModel" "codeAts" "[I" ∈ tb := tbi_7 _ (List.mem_of_getElem? (i := 5) rfl)
theorem kw_286 : Cond.fieldLink RX14 65 "CodeFoundryModel" "codeSizes" "[I" ∈ tb := tbi_7 _ (List.mem_of_getElem? (i := 6) rfl)
theorem kw_287 : Cond.fieldLink RX14 68 "CodeFoundryModel" "catchAts" "[I" ∈ tb := tbi_7 _ (List.mem_of_getElem? (i := 7) rfl)
theorem kw_288 : Cond.fieldLink RX14 71 "CodeFoundryModel" "catchesOf" "[I" ∈ tb := tbi_7 _ (List.mem_of_getElem? (i := 8) rfl)
theorem kw_289 : Cond.fieldLink RX14 74 "CodeFoundryModel" "numberAt" "[I" ∈ tb := tbi_7 _ (List.mem_of_getElem? (i := 9) rfl)
theorem kw_290 : Cond.constant RX14 77 (86400) ∈ tb := tbi_7 _ (List.mem_of_getElem? (i := 10) rfl)
theorem kw_291 : Cond.fieldLink RX14 78 "CodeFoundryModel" "newRows" "[I" ∈ tb := tbi_7 _ (List.mem_of_getElem? (i := 11) rfl)
theorem kw_292 : Cond.constant RX14 81 (40000) ∈ tb := tbi_7 _ (List.mem_of_getElem? (i := 12) rfl)
theorem kw_293 : Cond.fieldLink RX14 82 "CodeFoundryModel" "newTables" "[I" ∈ tb := tbi_7 _ (List.mem_of_getElem? (i := 13) rfl)
theorem kw_294 : Cond.fieldLink RX14 85 "CodeFoundryModel" "newCatches" "[I" ∈ tb := tbi_7 _ (List.mem_of_getElem? (i := 14) rfl)
theorem kw_295 : Cond.fieldLink RX14 88 "CodeFoundryModel" "heights" "[I" ∈ tb := tbi_7 _ (List.mem_of_getElem? (i := 15) rfl)
theorem kw_296 : Cond.constant RX14 91 (57600) ∈ tb := tbi_7 _ (List.mem_of_getElem? (i := 16) rfl)
theorem kw_297 : Cond.fieldLink RX14 92 "CodeFoundryModel" "types" "[B" ∈ tb := tbi_7 _ (List.mem_of_getElem? (i := 17) rfl)
theorem kw_298 : Cond.fieldLink RX14 95 "CodeFoundryModel" "isCome" "[Z" ∈ tb := tbi_7 _ (List.mem_of_getElem? (i := 18) rfl)
theorem kw_299 : Cond.fieldLink RX14 99 "CodeFoundryModel" "locals" "[B" ∈ tb := tbi_7 _ (List.mem_of_getElem? (i := 19) rfl)
theorem kw_300 : Cond.fieldLink RX14 102 "CodeFoundryModel" "pile" "[B" ∈ tb := tbi_7 _ (List.mem_of_getElem? (i := 20) rfl)
theorem kw_301 : Cond.fieldLink RX14 105 "CodeFoundryModel" "faultMethod" "I" ∈ tb := tbi_7 _ (List.mem_of_getElem? (i := 21) rfl)
theorem kw_302 : Cond.fieldLink RX14 108 "CodeFoundryModel" "faultAt" "I" ∈ tb := tbi_7 _ (List.mem_of_getElem? (i := 22) rfl)
theorem kw_303 : Cond.constant RX14 111 (115200) ∈ tb := tbi_7 _ (List.mem_of_getElem? (i := 23) rfl)
theorem kw_304 : Cond.fieldLink RX14 112 "CodeFoundryModel" "newStates" "[I" ∈ tb := tbi_7 _ (List.mem_of_getElem? (i := 24) rfl)
theorem kw_305 : Cond.fieldLink RX14 115 "CodeFoundryModel" "tagOf" "[I" ∈ tb := tbi_7 _ (List.mem_of_getElem? (i := 25) rfl)
theorem kw_306 : Cond.fieldLink RX14 118 "CodeFoundryModel" "numberOf" "[I" ∈ tb := tbi_7 _ (List.mem_of_getElem? (i := 26) rfl)
theorem kw_307 : Cond.fieldLink RX14 121 "CodeFoundryModel" "oneOf" "[I" ∈ tb := tbi_7 _ (List.mem_of_getElem? (i := 27) rfl)
theorem kw_308 : Cond.fieldLink RX14 124 "CodeFoundryModel" "otherOf" "[I" ∈ tb := tbi_7 _ (List.mem_of_getElem? (i := 28) rfl)
theorem kw_309 : Cond.fieldLink RX14 127 "CodeFoundryModel" "valueOf" "[J" ∈ tb := tbi_7 _ (List.mem_of_getElem? (i := 29) rfl)
theorem kw_310 : Cond.classLink RX14 130 "java/lang/String" ∈ tb := tbi_7 _ (List.mem_of_getElem? (i := 30) rfl)
theorem kw_311 : Cond.fieldLink RX14 132 "CodeFoundryModel" "textOf" "[Ljava/lang/String;" ∈ tb := tbi_7 _ (List.mem_of_getElem? (i := 31) rfl)
theorem kw_312 : Cond.constant RX14 136 (131072) ∈ tb := tbi_7 _ (List.mem_of_getElem? (i := 32) rfl)
theorem kw_313 : Cond.fieldLink RX14 137 "CodeFoundryModel" "writing" "[B" ∈ tb := tbi_7 _ (List.mem_of_getElem? (i := 33) rfl)
theorem kw_314 : Cond.fieldLink RX14 140 "CodeFoundryModel" "told" "[B" ∈ tb := tbi_7 _ (List.mem_of_getElem? (i := 34) rfl)
theorem kw_315 : Cond.fieldLink RX14 143 "CodeFoundryModel" "offsets" "[I" ∈ tb := tbi_7 _ (List.mem_of_getElem? (i := 35) rfl)
theorem kw_316 : Cond.fieldLink RX14 146 "CodeFoundryModel" "fieldValues" "[J" ∈ tb := tbi_7 _ (List.mem_of_getElem? (i := 36) rfl)
theorem kw_317 : Cond.fieldLink RX14 149 "CodeFoundryModel" "elements" "[I" ∈ tb := tbi_7 _ (List.mem_of_getElem? (i := 37) rfl)
theorem kw_318 : Cond.fieldLink RX14 152 "CodeFoundryModel" "arrayFirsts" "[I" ∈ tb := tbi_7 _ (List.mem_of_getElem? (i := 38) rfl)
theorem kw_319 : Cond.fieldLink RX14 155 "CodeFoundryModel" "arrayLengths" "[I" ∈ tb := tbi_7 _ (List.mem_of_getElem? (i := 39) rfl)
theorem kw_320 : Cond.fieldLink RX14 158 "CodeFoundryModel" "arguments" "[J" ∈ tb := tbi_8 _ (List.mem_of_getElem? (i := 0) rfl)
theorem kw_321 : Cond.fieldLink RX14 161 "CodeFoundryModel" "running" "[I" ∈ tb := tbi_8 _ (List.mem_of_getElem? (i := 1) rfl)
theorem kw_322 : Cond.fieldLink RX14 164 "CodeFoundryModel" "places" "[I" ∈ tb := tbi_8 _ (List.mem_of_getElem? (i := 2) rfl)
theorem kw_323 : Cond.fieldLink RX14 167 "CodeFoundryModel" "tops" "[I" ∈ tb := tbi_8 _ (List.mem_of_getElem? (i := 3) rfl)
theorem kw_324 : Cond.fieldLink RX14 170 "CodeFoundryModel" "slots" "[J" ∈ tb := tbi_8 _ (List.mem_of_getElem? (i := 4) rfl)
theorem kw_325 : Cond.fieldLink RX14 173 "CodeFoundryModel" "piles" "[J" ∈ tb := tbi_8 _ (List.mem_of_getElem? (i := 5) rfl)
theorem kw_326 : Cond.fieldLink RX14 176 "CodeFoundryModel" "slotTags" "[B" ∈ tb := tbi_8 _ (List.mem_of_getElem? (i := 6) rfl)
theorem kw_327 : Cond.fieldLink RX14 179 "CodeFoundryModel" "pileTags" "[B" ∈ tb := tbi_8 _ (List.mem_of_getElem? (i := 7) rfl)
theorem kw_328 : Cond.fieldLink RX14 182 "CodeFoundryModel" "lastError" "I" ∈ tb := tbi_8 _ (List.mem_of_getElem? (i := 8) rfl)
theorem kw_329 : Cond.fieldLink RX14 185 "CodeFoundryModel" "blockStart" "[I" ∈ tb := tbi_8 _ (List.mem_of_getElem? (i := 9) rfl)
theorem kw_330 : Cond.fieldLink RX14 188 "CodeFoundryModel" "blockOf" "[I" ∈ tb := tbi_8 _ (List.mem_of_getElem? (i := 10) rfl)
theorem kw_331 : Cond.fieldLink RX14 191 "CodeFoundryModel" "graphFile" "I" ∈ tb := tbi_8 _ (List.mem_of_getElem? (i := 11) rfl)
theorem kw_332 : Cond.fieldLink RX14 194 "CodeFoundryModel" "edgeFirst" "[I" ∈ tb := tbi_8 _ (List.mem_of_getElem? (i := 12) rfl)
theorem kw_333 : Cond.fieldLink RX14 197 "CodeFoundryModel" "edgeTo" "[I" ∈ tb := tbi_8 _ (List.mem_of_getElem? (i := 13) rfl)
theorem kw_334 : Cond.fieldLink RX14 200 "CodeFoundryModel" "isReached" "[Z" ∈ tb := tbi_8 _ (List.mem_of_getElem? (i := 14) rfl)
theorem kw_335 : Cond.constant RX14 203 (45600) ∈ tb := tbi_8 _ (List.mem_of_getElem? (i := 15) rfl)
theorem kw_336 : Cond.fieldLink RX14 204 "CodeFoundryModel" "above" "[I" ∈ tb := tbi_8 _ (List.mem_of_getElem? (i := 16) rfl)
theorem kw_337 : Cond.fieldLink RX14 207 "CodeFoundryModel" "nearest" "[I" ∈ tb := tbi_8 _ (List.mem_of_getElem? (i := 17) rfl)
theorem kw_338 : Cond.fieldLink RX14 210 "CodeFoundryModel" "isHead" "[Z" ∈ tb := tbi_8 _ (List.mem_of_getElem? (i := 18) rfl)
theorem kw_339 : Cond.fieldLink RX14 213 "CodeFoundryModel" "depths" "[I" ∈ tb := tbi_8 _ (List.mem_of_getElem? (i := 19) rfl)
theorem kw_340 : Cond.fieldLink RX14 216 "CodeFoundryModel" "isMarked" "[Z" ∈ tb := tbi_8 _ (List.mem_of_getElem? (i := 20) rfl)
theorem kw_341 : Cond.fieldLink RX14 219 "CodeFoundryModel" "ranks" "[I" ∈ tb := tbi_8 _ (List.mem_of_getElem? (i := 21) rfl)
theorem kw_342 : Cond.classLink RX14 9 RX13 ∈ tb := tbi_8 _ (List.mem_of_getElem? (i := 22) rfl)
theorem kw_343 : Cond.instantiable RX13 23 ∈ tb := tbi_8 _ (List.mem_of_getElem? (i := 23) rfl)
theorem kw_344 : Cond.initialized RX13 ∈ tb := tbi_8 _ (List.mem_of_getElem? (i := 24) rfl)
theorem kw_345 : Cond.code yX13_init cX13_init 1 none ∈ tb := tbi_8 _ (List.mem_of_getElem? (i := 25) rfl)
theorem kw_346 : Cond.instanceMethod yX13_init ∈ tb := tbi_8 _ (List.mem_of_getElem? (i := 26) rfl)
theorem kw_347 : Cond.fieldLink RX14 223 "CodeFoundryModel" "draft" "LCodeFoundryModel$File;" ∈ tb := tbi_8 _ (List.mem_of_getElem? (i := 27) rfl)
theorem kw_348 : Cond.constant RX14 227 (87000) ∈ tb := tbi_8 _ (List.mem_of_getElem? (i := 28) rfl)
theorem kw_349 : Cond.fieldLink RX14 228 "CodeFoundryModel" "draftRows" "[I" ∈ tb := tbi_8 _ (List.mem_of_getElem? (i := 29) rfl)
theorem kw_350 : Cond.fieldLink RX14 231 "CodeFoundryModel" "draftTables" "[I" ∈ tb := tbi_8 _ (List.mem_of_getElem? (i := 30) rfl)
theorem kw_351 : Cond.fieldLink RX14 234 "CodeFoundryModel" "draftCatches" "[I" ∈ tb := tbi_8 _ (List.mem_of_getElem? (i := 31) rfl)
theorem kw_352 : Cond.fieldLink RX14 237 "CodeFoundryModel" "didRule" "[I" ∈ tb := tbi_8 _ (List.mem_of_getElem? (i := 32) rfl)
theorem kw_353 : Cond.fieldLink RX14 240 "CodeFoundryModel" "ops" "[I" ∈ tb := tbi_8 _ (List.mem_of_getElem? (i := 33) rfl)
theorem kw_354 : Cond.fieldLink RX14 243 "CodeFoundryModel" "ones" "[I" ∈ tb := tbi_8 _ (List.mem_of_getElem? (i := 34) rfl)
theorem kw_355 : Cond.fieldLink RX14 246 "CodeFoundryModel" "others" "[I" ∈ tb := tbi_8 _ (List.mem_of_getElem? (i := 35) rfl)
theorem kw_356 : Cond.fieldLink RX14 249 "CodeFoundryModel" "gone" "[Z" ∈ tb := tbi_8 _ (List.mem_of_getElem? (i := 36) rfl)
theorem kw_357 : Cond.fieldLink RX14 252 "CodeFoundryModel" "froms" "[I" ∈ tb := tbi_8 _ (List.mem_of_getElem? (i := 37) rfl)
theorem kw_358 : Cond.fieldLink RX14 255 "CodeFoundryModel" "tos" "[I" ∈ tb := tbi_8 _ (List.mem_of_getElem? (i := 38) rfl)
theorem kw_359 : Cond.fieldLink RX14 258 "CodeFoundryModel" "bys" "[I" ∈ tb := tbi_8 _ (List.mem_of_getElem? (i := 39) rfl)
theorem kw_360 : Cond.fieldLink RX14 261 "CodeFoundryModel" "errors" "[I" ∈ tb := tbi_9 _ (List.mem_of_getElem? (i := 0) rfl)
theorem kw_361 : Cond.fieldLink RX14 264 "CodeFoundryModel" "isOut" "[Z" ∈ tb := tbi_9 _ (List.mem_of_getElem? (i := 1) rfl)
theorem kw_362 : Cond.fieldLink RX14 267 "CodeFoundryModel" "aimed" "[Z" ∈ tb := tbi_9 _ (List.mem_of_getElem? (i := 2) rfl)
theorem kw_363 : Cond.fieldLink RX14 270 "CodeFoundryModel" "isMet" "[Z" ∈ tb := tbi_9 _ (List.mem_of_getElem? (i := 3) rfl)
theorem kw_364 : Cond.fieldLink RX14 273 "CodeFoundryModel" "seenBy" "[I" ∈ tb := tbi_9 _ (List.mem_of_getElem? (i := 4) rfl)
theorem kw_365 : Cond.fieldLink RX14 276 "CodeFoundryModel" "liveBefore" "[I" ∈ tb := tbi_9 _ (List.mem_of_getElem? (i := 5) rfl)
theorem kw_366 : Cond.fieldLink RX14 279 "CodeFoundryModel" "newPlaces" "[I" ∈ tb := tbi_9 _ (List.mem_of_getElem? (i := 6) rfl)
theorem kw_367 : Cond.fieldLink RX14 282 "CodeFoundryModel" "rowOf" "[I" ∈ tb := tbi_9 _ (List.mem_of_getElem? (i := 7) rfl)
theorem kw_368 : Cond.fieldLink RX14 285 "CodeFoundryModel" "trayed" "I" ∈ tb := tbi_9 _ (List.mem_of_getElem? (i := 8) rfl)
theorem kw_369 : Cond.fieldLink RX14 288 "CodeFoundryModel" "fed" "I" ∈ tb := tbi_9 _ (List.mem_of_getElem? (i := 9) rfl)
theorem kw_370 : Cond.constant RX14 291 (65536) ∈ tb := tbi_9 _ (List.mem_of_getElem? (i := 10) rfl)
theorem kw_371 : Cond.methodLink RX14 292 yX14_word ∈ tb := tbi_9 _ (List.mem_of_getElem? (i := 11) rfl)
theorem kw_372 : Cond.instanceMethod yX14_word ∈ tb := tbi_9 _ (List.mem_of_getElem? (i := 12) rfl)
theorem kw_373 : Cond.selects RX14 yX14_word yX14_word ∈ tb := tbi_9 _ (List.mem_of_getElem? (i := 13) rfl)
theorem kw_374 : Cond.initialized RX14 ∈ tb := tbi_9 _ (List.mem_of_getElem? (i := 14) rfl)
theorem kw_375 : Cond.code yX14_word cX14_word 3 none ∈ tb := tbi_9 _ (List.mem_of_getElem? (i := 15) rfl)
theorem kw_376 : Cond.fieldLink RX14 306 "CodeFoundryModel" "toldRule" "I" ∈ tb := tbi_9 _ (List.mem_of_getElem? (i := 16) rfl)
theorem kw_377 : Cond.fieldLink RX14 983 "CodeFoundryModel" "stepsDone" "I" ∈ tb := tbi_9 _ (List.mem_of_getElem? (i := 17) rfl)
theorem kw_378 : Cond.fieldLink RX14 1050 "CodeFoundryModel" "strayCount" "I" ∈ tb := tbi_9 _ (List.mem_of_getElem? (i := 18) rfl)
theorem kw_379 : Cond.fieldLink RX14 980 "CodeFoundryModel" "given" "J" ∈ tb := tbi_9 _ (List.mem_of_getElem? (i := 19) rfl)
theorem kw_380 : Cond.fieldLink RX14 647 "CodeFoundryModel" "fileCount" "I" ∈ tb := tbi_9 _ (List.mem_of_getElem? (i := 20) rfl)
theorem kw_381 : Cond.methodLink RX14 658 yX14_fileAt ∈ tb := tbi_9 _ (List.mem_of_getElem? (i := 21) rfl)
theorem kw_382 : Cond.instanceMethod yX14_fileAt ∈ tb := tbi_9 _ (List.mem_of_getElem? (i := 22) rfl)
theorem kw_383 : Cond.selects RX14 yX14_fileAt yX14_fileAt ∈ tb := tbi_9 _ (List.mem_of_getElem? (i := 23) rfl)
theorem kw_384 : Cond.code yX14_fileAt cX14_fileAt 2 (some (.object "CodeFoundryModel$File")) ∈ tb := tbi_9 _ (List.mem_of_getElem? (i := 24) rfl)
theorem kw_385 : Cond.methodLink RX14 860 yX14_isRight ∈ tb := tbi_9 _ (List.mem_of_getElem? (i := 25) rfl)
theorem kw_386 : Cond.instanceMethod yX14_isRight ∈ tb := tbi_9 _ (List.mem_of_getElem? (i := 26) rfl)
theorem kw_387 : Cond.selects RX14 yX14_isRight yX14_isRight ∈ tb := tbi_9 _ (List.mem_of_getElem? (i := 27) rfl)
theorem kw_388 : Cond.code yX14_isRight cX14_isRight 2 (some .boolean) ∈ tb := tbi_9 _ (List.mem_of_getElem? (i := 28) rfl)
theorem kw_389 : Cond.methodLink RX14 662 yX14_isMethod ∈ tb := tbi_9 _ (List.mem_of_getElem? (i := 29) rfl)
theorem kw_390 : Cond.instanceMethod yX14_isMethod ∈ tb := tbi_9 _ (List.mem_of_getElem? (i := 30) rfl)
theorem kw_391 : Cond.selects RX14 yX14_isMethod yX14_isMethod ∈ tb := tbi_9 _ (List.mem_of_getElem? (i := 31) rfl)
theorem kw_392 : Cond.code yX14_isMethod cX14_isMethod 3 (some .boolean) ∈ tb := tbi_9 _ (List.mem_of_getElem? (i := 32) rfl)
theorem kw_393 : Cond.methodLink RX14 863 yX14_stateAt ∈ tb := tbi_9 _ (List.mem_of_getElem? (i := 33) rfl)
theorem kw_394 : Cond.instanceMethod yX14_stateAt ∈ tb := tbi_9 _ (List.mem_of_getElem? (i := 34) rfl)
theorem kw_395 : Cond.selects RX14 yX14_stateAt yX14_stateAt ∈ tb := tbi_9 _ (List.mem_of_getElem? (i := 35) rfl)
theorem kw_396 : Cond.code yX14_stateAt cX14_stateAt 4 (some .int) ∈ tb := tbi_9 _ (List.mem_of_getElem? (i := 36) rfl)
theorem kw_397 : Cond.fieldLink RX14 958 "CodeFoundryModel" "toldSize" "I" ∈ tb := tbi_9 _ (List.mem_of_getElem? (i := 37) rfl)
theorem kw_398 : Cond.fieldLink RX14 970 "CodeFoundryModel" "argumentCount" "I" ∈ tb := tbi_9 _ (List.mem_of_getElem? (i := 38) rfl)
theorem kw_399 : Cond.fieldLink RX14 961 "CodeFoundryModel" "stage" "LCodeFoundryModel$File;" ∈ tb := tbi_9 _ (List.mem_of_getElem? (i := 39) rfl)
theorem kw_400 : Cond.fieldLink RX14 964 "CodeFoundryModel" "arrays" "I" ∈ tb := tbi_10 _ (List.mem_of_getElem? (i := 0) rfl)
theorem kw_401 : Cond.fieldLink RX14 296 "CodeFoundryModel" "brokenRule" "I" ∈ tb := tbi_10 _ (List.mem_of_getElem? (i := 1) rfl)
theorem kw_402 : Cond.fieldLink RX14 299 "CodeFoundryModel" "brokenPlace" "I" ∈ tb := tbi_10 _ (List.mem_of_getElem? (i := 2) rfl)
theorem kw_403 : Cond.methodLink RX14 302 yX14_broken ∈ tb := tbi_10 _ (List.mem_of_getElem? (i := 3) rfl)
theorem kw_404 : Cond.instanceMethod yX14_broken ∈ tb := tbi_10 _ (List.mem_of_getElem? (i := 4) rfl)
theorem kw_405 : Cond.selects RX14 yX14_broken yX14_broken ∈ tb := tbi_10 _ (List.mem_of_getElem? (i := 5) rfl)
theorem kw_406 : Cond.code yX14_broken cX14_broken 3 (some (.object "java/lang/IllegalStateException")) ∈ tb := tbi_10 _ (List.mem_of_getElem? (i := 6) rfl)
theorem kw_407 : Cond.fieldLink RX14 322 "CodeFoundryModel" "srcSize" "I" ∈ tb := tbi_10 _ (List.mem_of_getElem? (i := 7) rfl)
theorem kw_408 : Cond.methodLink RX14 325 yX14_must ∈ tb := tbi_10 _ (List.mem_of_getElem? (i := 8) rfl)
theorem kw_409 : Cond.instanceMethod yX14_must ∈ tb := tbi_10 _ (List.mem_of_getElem? (i := 9) rfl)
theorem kw_410 : Cond.selects RX14 yX14_must yX14_must ∈ tb := tbi_10 _ (List.mem_of_getElem? (i := 10) rfl)
theorem kw_411 : Cond.code yX14_must cX14_must 4 none ∈ tb := tbi_10 _ (List.mem_of_getElem? (i := 11) rfl)
theorem kw_412 : Cond.fieldLink RX14 309 "CodeFoundryModel" "src" "[B" ∈ tb := tbi_10 _ (List.mem_of_getElem? (i := 12) rfl)
theorem kw_413 : Cond.methodLink RX14 552 yX14_layout ∈ tb := tbi_10 _ (List.mem_of_getElem? (i := 13) rfl)
theorem kw_414 : Cond.instanceMethod yX14_layout ∈ tb := tbi_10 _ (List.mem_of_getElem? (i := 14) rfl)
theorem kw_415 : Cond.selects RX14 yX14_layout yX14_layout ∈ tb := tbi_10 _ (List.mem_of_getElem? (i := 15) rfl)
theorem kw_416 : Cond.code yX14_layout cX14_layout 2 none ∈ tb := tbi_10 _ (List.mem_of_getElem? (i := 16) rfl)
theorem kw_417 : Cond.methodLink RX14 650 yX14_readFile ∈ tb := tbi_10 _ (List.mem_of_getElem? (i := 17) rfl)
theorem kw_418 : Cond.instanceMethod yX14_readFile ∈ tb := tbi_10 _ (List.mem_of_getElem? (i := 18) rfl)
theorem kw_419 : Cond.selects RX14 yX14_readFile yX14_readFile ∈ tb := tbi_10 _ (List.mem_of_getElem? (i := 19) rfl)
theorem kw_420 : Cond.code yX14_readFile cX14_readFile 7 (some (.object "CodeFoundryModel$File")) ∈ tb := tbi_10 _ (List.mem_of_getElem? (i := 20) rfl)
theorem kw_421 : Cond.methodLink RL 13 yX12_feed ∈ tb := tbi_10 _ (List.mem_of_getElem? (i := 21) rfl)
theorem kw_422 : Cond.instanceMethod yX12_feed ∈ tb := tbi_10 _ (List.mem_of_getElem? (i := 22) rfl)
theorem kw_423 : Cond.selects RX12 yX12_feed yX12_feed ∈ tb := tbi_10 _ (List.mem_of_getElem? (i := 23) rfl)
theorem kw_424 : Cond.code yX12_feed cX12_feed 6 (some .int) ∈ tb := tbi_10 _ (List.mem_of_getElem? (i := 24) rfl)
theorem kw_425 : Cond.methodLink RL 17 yX14_feed ∈ tb := tbi_10 _ (List.mem_of_getElem? (i := 25) rfl)
theorem kw_426 : Cond.instanceMethod yX14_feed ∈ tb := tbi_10 _ (List.mem_of_getElem? (i := 26) rfl)
theorem kw_427 : Cond.selects RX14 yX14_feed yX14_feed ∈ tb := tbi_10 _ (List.mem_of_getElem? (i := 27) rfl)
theorem kw_428 : Cond.code yX14_feed cX14_feed 6 (some .int) ∈ tb := tbi_10 _ (List.mem_of_getElem? (i := 28) rfl)
theorem kw_429 : Cond.methodLink RL 18 yX12_end ∈ tb := tbi_10 _ (List.mem_of_getElem? (i := 29) rfl)
theorem kw_430 : Cond.instanceMethod yX12_end ∈ tb := tbi_10 _ (List.mem_of_getElem? (i := 30) rfl)
theorem kw_431 : Cond.selects RX12 yX12_end yX12_end ∈ tb := tbi_10 _ (List.mem_of_getElem? (i := 31) rfl)
theorem kw_432 : Cond.code yX12_end cX12_end 2 (some .boolean) ∈ tb := tbi_10 _ (List.mem_of_getElem? (i := 32) rfl)
theorem kw_433 : Cond.methodLink RL 22 yX14_end ∈ tb := tbi_10 _ (List.mem_of_getElem? (i := 33) rfl)
theorem kw_434 : Cond.instanceMethod yX14_end ∈ tb := tbi_10 _ (List.mem_of_getElem? (i := 34) rfl)
theorem kw_435 : Cond.selects RX14 yX14_end yX14_end ∈ tb := tbi_10 _ (List.mem_of_getElem? (i := 35) rfl)
theorem kw_436 : Cond.code yX14_end cX14_end 2 (some .boolean) ∈ tb := tbi_10 _ (List.mem_of_getElem? (i := 36) rfl)
theorem kw_437 : Cond.methodLink RL 23 yX12_file ∈ tb := tbi_10 _ (List.mem_of_getElem? (i := 37) rfl)
theorem kw_438 : Cond.instanceMethod yX12_file ∈ tb := tbi_10 _ (List.mem_of_getElem? (i := 38) rfl)
theorem kw_439 : Cond.selects RX12 yX12_file yX12_file ∈ tb := tbi_10 _ (List.mem_of_getElem? (i := 39) rfl)
theorem kw_440 : Cond.code yX12_file cX12_file 2 (some .int) ∈ tb := tbi_11 _ (List.mem_of_getElem? (i := 0) rfl)
theorem kw_441 : Cond.methodLink RL 27 yX14_file ∈ tb := tbi_11 _ (List.mem_of_getElem? (i := 1) rfl)
theorem kw_442 : Cond.instanceMethod yX14_file ∈ tb := tbi_11 _ (List.mem_of_getElem? (i := 2) rfl)
theorem kw_443 : Cond.selects RX14 yX14_file yX14_file ∈ tb := tbi_11 _ (List.mem_of_getElem? (i := 3) rfl)
theorem kw_444 : Cond.codeWith yX14_file cX14_file 3 (some .int) [(32, 45, 46, 19)] ∈ tb := tbi_11 _ (List.mem_of_getElem? (i := 4) rfl)
theorem kw_445 : Cond.methodLink RL 28 yX12_rule ∈ tb := tbi_11 _ (List.mem_of_getElem? (i := 5) rfl)
theorem kw_446 : Cond.instanceMethod yX12_rule ∈ tb := tbi_11 _ (List.mem_of_getElem? (i := 6) rfl)
theorem kw_447 : Cond.selects RX12 yX12_rule yX12_rule ∈ tb := tbi_11 _ (List.mem_of_getElem? (i := 7) rfl)
theorem kw_448 : Cond.code yX12_rule cX12_rule 1 (some .int) ∈ tb := tbi_11 _ (List.mem_of_getElem? (i := 8) rfl)
theorem kw_449 : Cond.methodLink RL 31 yX14_rule ∈ tb := tbi_11 _ (List.mem_of_getElem? (i := 9) rfl)
theorem kw_450 : Cond.instanceMethod yX14_rule ∈ tb := tbi_11 _ (List.mem_of_getElem? (i := 10) rfl)
theorem kw_451 : Cond.selects RX14 yX14_rule yX14_rule ∈ tb := tbi_11 _ (List.mem_of_getElem? (i := 11) rfl)
theorem kw_452 : Cond.code yX14_rule cX14_rule 1 (some .int) ∈ tb := tbi_11 _ (List.mem_of_getElem? (i := 12) rfl)
theorem kw_453 : Cond.methodLink RL 32 yX12_place ∈ tb := tbi_11 _ (List.mem_of_getElem? (i := 13) rfl)
theorem kw_454 : Cond.instanceMethod yX12_place ∈ tb := tbi_11 _ (List.mem_of_getElem? (i := 14) rfl)
theorem kw_455 : Cond.selects RX12 yX12_place yX12_place ∈ tb := tbi_11 _ (List.mem_of_getElem? (i := 15) rfl)
theorem kw_456 : Cond.code yX12_place cX12_place 1 (some .int) ∈ tb := tbi_11 _ (List.mem_of_getElem? (i := 16) rfl)
theorem kw_457 : Cond.methodLink RL 35 yX14_place ∈ tb := tbi_11 _ (List.mem_of_getElem? (i := 17) rfl)
theorem kw_458 : Cond.instanceMethod yX14_place ∈ tb := tbi_11 _ (List.mem_of_getElem? (i := 18) rfl)
theorem kw_459 : Cond.selects RX14 yX14_place yX14_place ∈ tb := tbi_11 _ (List.mem_of_getElem? (i := 19) rfl)
theorem kw_460 : Cond.code yX14_place cX14_place 1 (some .int) ∈ tb := tbi_11 _ (List.mem_of_getElem? (i := 20) rfl)
theorem kw_461 : Cond.methodLink RL 36 yX12_size ∈ tb := tbi_11 _ (List.mem_of_getElem? (i := 21) rfl)
theorem kw_462 : Cond.instanceMethod yX12_size ∈ tb := tbi_11 _ (List.mem_of_getElem? (i := 22) rfl)
theorem kw_463 : Cond.selects RX12 yX12_size yX12_size ∈ tb := tbi_11 _ (List.mem_of_getElem? (i := 23) rfl)
theorem kw_464 : Cond.code yX12_size cX12_size 4 (some .int) ∈ tb := tbi_11 _ (List.mem_of_getElem? (i := 24) rfl)
theorem kw_465 : Cond.methodLink RL 40 yX14_size ∈ tb := tbi_11 _ (List.mem_of_getElem? (i := 25) rfl)
theorem kw_466 : Cond.instanceMethod yX14_size ∈ tb := tbi_11 _ (List.mem_of_getElem? (i := 26) rfl)
theorem kw_467 : Cond.selects RX14 yX14_size yX14_size ∈ tb := tbi_11 _ (List.mem_of_getElem? (i := 27) rfl)
theorem kw_468 : Cond.code yX14_size cX14_size 4 (some .int) ∈ tb := tbi_11 _ (List.mem_of_getElem? (i := 28) rfl)
theorem kw_469 : Cond.methodLink RL 41 yX12_length ∈ tb := tbi_11 _ (List.mem_of_getElem? (i := 29) rfl)
theorem kw_470 : Cond.instanceMethod yX12_length ∈ tb := tbi_11 _ (List.mem_of_getElem? (i := 30) rfl)
theorem kw_471 : Cond.selects RX12 yX12_length yX12_length ∈ tb := tbi_11 _ (List.mem_of_getElem? (i := 31) rfl)
theorem kw_472 : Cond.code yX12_length cX12_length 4 (some .int) ∈ tb := tbi_11 _ (List.mem_of_getElem? (i := 32) rfl)
theorem kw_473 : Cond.methodLink RL 44 yX14_length ∈ tb := tbi_11 _ (List.mem_of_getElem? (i := 33) rfl)
theorem kw_474 : Cond.instanceMethod yX14_length ∈ tb := tbi_11 _ (List.mem_of_getElem? (i := 34) rfl)
theorem kw_475 : Cond.selects RX14 yX14_length yX14_length ∈ tb := tbi_11 _ (List.mem_of_getElem? (i := 35) rfl)
theorem kw_476 : Cond.code yX14_length cX14_length 3 (some .int) ∈ tb := tbi_11 _ (List.mem_of_getElem? (i := 36) rfl)
theorem kw_477 : Cond.methodLink RL 45 yX12_verify ∈ tb := tbi_11 _ (List.mem_of_getElem? (i := 37) rfl)
theorem kw_478 : Cond.instanceMethod yX12_verify ∈ tb := tbi_11 _ (List.mem_of_getElem? (i := 38) rfl)
theorem kw_479 : Cond.selects RX12 yX12_verify yX12_verify ∈ tb := tbi_11 _ (List.mem_of_getElem? (i := 39) rfl)
theorem kw_480 : Cond.code yX12_verify cX12_verify 4 (some .int) ∈ tb := tbi_12 _ (List.mem_of_getElem? (i := 0) rfl)
theorem kw_481 : Cond.methodLink RL 49 yX14_verify ∈ tb := tbi_12 _ (List.mem_of_getElem? (i := 1) rfl)
theorem kw_482 : Cond.instanceMethod yX14_verify ∈ tb := tbi_12 _ (List.mem_of_getElem? (i := 2) rfl)
theorem kw_483 : Cond.selects RX14 yX14_verify yX14_verify ∈ tb := tbi_12 _ (List.mem_of_getElem? (i := 3) rfl)
theorem kw_484 : Cond.code yX14_verify cX14_verify 6 (some .int) ∈ tb := tbi_12 _ (List.mem_of_getElem? (i := 4) rfl)
theorem kw_485 : Cond.methodLink RL 50 yX12_method ∈ tb := tbi_12 _ (List.mem_of_getElem? (i := 5) rfl)
theorem kw_486 : Cond.instanceMethod yX12_method ∈ tb := tbi_12 _ (List.mem_of_getElem? (i := 6) rfl)
theorem kw_487 : Cond.selects RX12 yX12_method yX12_method ∈ tb := tbi_12 _ (List.mem_of_getElem? (i := 7) rfl)
theorem kw_488 : Cond.code yX12_method cX12_method 1 (some .int) ∈ tb := tbi_12 _ (List.mem_of_getElem? (i := 8) rfl)
theorem kw_489 : Cond.methodLink RL 53 yX14_method ∈ tb := tbi_12 _ (List.mem_of_getElem? (i := 9) rfl)
theorem kw_490 : Cond.instanceMethod yX14_method ∈ tb := tbi_12 _ (List.mem_of_getElem? (i := 10) rfl)
theorem kw_491 : Cond.selects RX14 yX14_method yX14_method ∈ tb := tbi_12 _ (List.mem_of_getElem? (i := 11) rfl)
theorem kw_492 : Cond.code yX14_method cX14_method 1 (some .int) ∈ tb := tbi_12 _ (List.mem_of_getElem? (i := 12) rfl)
theorem kw_493 : Cond.methodLink RL 54 yX12_at ∈ tb := tbi_12 _ (List.mem_of_getElem? (i := 13) rfl)
theorem kw_494 : Cond.instanceMethod yX12_at ∈ tb := tbi_12 _ (List.mem_of_getElem? (i := 14) rfl)
theorem kw_495 : Cond.selects RX12 yX12_at yX12_at ∈ tb := tbi_12 _ (List.mem_of_getElem? (i := 15) rfl)
theorem kw_496 : Cond.code yX12_at cX12_at 1 (some .int) ∈ tb := tbi_12 _ (List.mem_of_getElem? (i := 16) rfl)
theorem kw_497 : Cond.methodLink RL 57 yX14_at ∈ tb := tbi_12 _ (List.mem_of_getElem? (i := 17) rfl)
theorem kw_498 : Cond.instanceMethod yX14_at ∈ tb := tbi_12 _ (List.mem_of_getElem? (i := 18) rfl)
theorem kw_499 : Cond.selects RX14 yX14_at yX14_at ∈ tb := tbi_12 _ (List.mem_of_getElem? (i := 19) rfl)
theorem kw_500 : Cond.code yX14_at cX14_at 1 (some .int) ∈ tb := tbi_12 _ (List.mem_of_getElem? (i := 20) rfl)
theorem kw_501 : Cond.methodLink RL 58 yX12_height ∈ tb := tbi_12 _ (List.mem_of_getElem? (i := 21) rfl)
theorem kw_502 : Cond.instanceMethod yX12_height ∈ tb := tbi_12 _ (List.mem_of_getElem? (i := 22) rfl)
theorem kw_503 : Cond.selects RX12 yX12_height yX12_height ∈ tb := tbi_12 _ (List.mem_of_getElem? (i := 23) rfl)
theorem kw_504 : Cond.code yX12_height cX12_height 5 (some .int) ∈ tb := tbi_12 _ (List.mem_of_getElem? (i := 24) rfl)
theorem kw_505 : Cond.methodLink RL 62 yX14_height ∈ tb := tbi_12 _ (List.mem_of_getElem? (i := 25) rfl)
theorem kw_506 : Cond.instanceMethod yX14_height ∈ tb := tbi_12 _ (List.mem_of_getElem? (i := 26) rfl)
theorem kw_507 : Cond.selects RX14 yX14_height yX14_height ∈ tb := tbi_12 _ (List.mem_of_getElem? (i := 27) rfl)
theorem kw_508 : Cond.code yX14_height cX14_height 5 (some .int) ∈ tb := tbi_12 _ (List.mem_of_getElem? (i := 28) rfl)
theorem kw_509 : Cond.methodLink RL 63 yX12_local ∈ tb := tbi_12 _ (List.mem_of_getElem? (i := 29) rfl)
theorem kw_510 : Cond.instanceMethod yX12_local ∈ tb := tbi_12 _ (List.mem_of_getElem? (i := 30) rfl)
theorem kw_511 : Cond.selects RX12 yX12_local yX12_local ∈ tb := tbi_12 _ (List.mem_of_getElem? (i := 31) rfl)
theorem kw_512 : Cond.code yX12_local cX12_local 6 (some .int) ∈ tb := tbi_12 _ (List.mem_of_getElem? (i := 32) rfl)
theorem kw_513 : Cond.methodLink RL 67 yX14_local ∈ tb := tbi_12 _ (List.mem_of_getElem? (i := 33) rfl)
theorem kw_514 : Cond.instanceMethod yX14_local ∈ tb := tbi_12 _ (List.mem_of_getElem? (i := 34) rfl)
theorem kw_515 : Cond.selects RX14 yX14_local yX14_local ∈ tb := tbi_12 _ (List.mem_of_getElem? (i := 35) rfl)
theorem kw_516 : Cond.code yX14_local cX14_local 6 (some .int) ∈ tb := tbi_12 _ (List.mem_of_getElem? (i := 36) rfl)
theorem kw_517 : Cond.methodLink RL 68 yX12_write ∈ tb := tbi_12 _ (List.mem_of_getElem? (i := 37) rfl)
theorem kw_518 : Cond.instanceMethod yX12_write ∈ tb := tbi_12 _ (List.mem_of_getElem? (i := 38) rfl)
theorem kw_519 : Cond.selects RX12 yX12_write yX12_write ∈ tb := tbi_12 _ (List.mem_of_getElem? (i := 39) rfl)
theorem kw_520 : Cond.code yX12_write cX12_write 4 (some .int) ∈ tb := tbi_13 _ (List.mem_of_getElem? (i := 0) rfl)
theorem kw_521 : Cond.methodLink RL 71 yX14_write ∈ tb := tbi_13 _ (List.mem_of_getElem? (i := 1) rfl)
theorem kw_522 : Cond.instanceMethod yX14_write ∈ tb := tbi_13 _ (List.mem_of_getElem? (i := 2) rfl)
theorem kw_523 : Cond.selects RX14 yX14_write yX14_write ∈ tb := tbi_13 _ (List.mem_of_getElem? (i := 3) rfl)
theorem kw_524 : Cond.code yX14_write cX14_write 3 (some .int) ∈ tb := tbi_13 _ (List.mem_of_getElem? (i := 4) rfl)
theorem kw_525 : Cond.methodLink RL 72 yX12_byteAt ∈ tb := tbi_13 _ (List.mem_of_getElem? (i := 5) rfl)
theorem kw_526 : Cond.instanceMethod yX12_byteAt ∈ tb := tbi_13 _ (List.mem_of_getElem? (i := 6) rfl)
theorem kw_527 : Cond.selects RX12 yX12_byteAt yX12_byteAt ∈ tb := tbi_13 _ (List.mem_of_getElem? (i := 7) rfl)
theorem kw_528 : Cond.code yX12_byteAt cX12_byteAt 2 (some .int) ∈ tb := tbi_13 _ (List.mem_of_getElem? (i := 8) rfl)
theorem kw_529 : Cond.methodLink RL 75 yX14_byteAt ∈ tb := tbi_13 _ (List.mem_of_getElem? (i := 9) rfl)
theorem kw_530 : Cond.instanceMethod yX14_byteAt ∈ tb := tbi_13 _ (List.mem_of_getElem? (i := 10) rfl)
theorem kw_531 : Cond.selects RX14 yX14_byteAt yX14_byteAt ∈ tb := tbi_13 _ (List.mem_of_getElem? (i := 11) rfl)
theorem kw_532 : Cond.code yX14_byteAt cX14_byteAt 2 (some .int) ∈ tb := tbi_13 _ (List.mem_of_getElem? (i := 12) rfl)
theorem kw_533 : Cond.methodLink RL 76 yX12_stage ∈ tb := tbi_13 _ (List.mem_of_getElem? (i := 13) rfl)
theorem kw_534 : Cond.instanceMethod yX12_stage ∈ tb := tbi_13 _ (List.mem_of_getElem? (i := 14) rfl)
theorem kw_535 : Cond.selects RX12 yX12_stage yX12_stage ∈ tb := tbi_13 _ (List.mem_of_getElem? (i := 15) rfl)
theorem kw_536 : Cond.code yX12_stage cX12_stage 3 (some .boolean) ∈ tb := tbi_13 _ (List.mem_of_getElem? (i := 16) rfl)
theorem kw_537 : Cond.methodLink RL 79 yX14_stage ∈ tb := tbi_13 _ (List.mem_of_getElem? (i := 17) rfl)
theorem kw_538 : Cond.instanceMethod yX14_stage ∈ tb := tbi_13 _ (List.mem_of_getElem? (i := 18) rfl)
theorem kw_539 : Cond.selects RX14 yX14_stage yX14_stage ∈ tb := tbi_13 _ (List.mem_of_getElem? (i := 19) rfl)
theorem kw_540 : Cond.code yX14_stage cX14_stage 3 (some .boolean) ∈ tb := tbi_13 _ (List.mem_of_getElem? (i := 20) rfl)
theorem kw_541 : Cond.constantLong RL 80 (4294967295) ∈ tb := tbi_13 _ (List.mem_of_getElem? (i := 21) rfl)
theorem kw_542 : Cond.methodLink RL 82 yX12_argument ∈ tb := tbi_13 _ (List.mem_of_getElem? (i := 22) rfl)
theorem kw_543 : Cond.instanceMethod yX12_argument ∈ tb := tbi_13 _ (List.mem_of_getElem? (i := 23) rfl)
theorem kw_544 : Cond.selects RX12 yX12_argument yX12_argument ∈ tb := tbi_13 _ (List.mem_of_getElem? (i := 24) rfl)
theorem kw_545 : Cond.code yX12_argument cX12_argument 3 (some .int) ∈ tb := tbi_13 _ (List.mem_of_getElem? (i := 25) rfl)
theorem kw_546 : Cond.methodLink RL 86 yX14_argument ∈ tb := tbi_13 _ (List.mem_of_getElem? (i := 26) rfl)
theorem kw_547 : Cond.instanceMethod yX14_argument ∈ tb := tbi_13 _ (List.mem_of_getElem? (i := 27) rfl)
theorem kw_548 : Cond.selects RX14 yX14_argument yX14_argument ∈ tb := tbi_13 _ (List.mem_of_getElem? (i := 28) rfl)
theorem kw_549 : Cond.code yX14_argument cX14_argument 3 (some .int) ∈ tb := tbi_13 _ (List.mem_of_getElem? (i := 29) rfl)
theorem kw_550 : Cond.methodLink RL 87 yX12_run ∈ tb := tbi_13 _ (List.mem_of_getElem? (i := 30) rfl)
theorem kw_551 : Cond.instanceMethod yX12_run ∈ tb := tbi_13 _ (List.mem_of_getElem? (i := 31) rfl)
theorem kw_552 : Cond.selects RX12 yX12_run yX12_run ∈ tb := tbi_13 _ (List.mem_of_getElem? (i := 32) rfl)
theorem kw_553 : Cond.code yX12_run cX12_run 4 (some .int) ∈ tb := tbi_13 _ (List.mem_of_getElem? (i := 33) rfl)
theorem kw_554 : Cond.methodLink RL 90 yX14_run ∈ tb := tbi_13 _ (List.mem_of_getElem? (i := 34) rfl)
theorem kw_555 : Cond.instanceMethod yX14_run ∈ tb := tbi_13 _ (List.mem_of_getElem? (i := 35) rfl)
theorem kw_556 : Cond.selects RX14 yX14_run yX14_run ∈ tb := tbi_13 _ (List.mem_of_getElem? (i := 36) rfl)
theorem kw_557 : Cond.code yX14_run cX14_run 7 (some .int) ∈ tb := tbi_13 _ (List.mem_of_getElem? (i := 37) rfl)
theorem kw_558 : Cond.methodLink RL 91 yX12_result ∈ tb := tbi_13 _ (List.mem_of_getElem? (i := 38) rfl)
theorem kw_559 : Cond.instanceMethod yX12_result ∈ tb := tbi_13 _ (List.mem_of_getElem? (i := 39) rfl)
theorem kw_560 : Cond.selects RX12 yX12_result yX12_result ∈ tb := tbi_14 _ (List.mem_of_getElem? (i := 0) rfl)
theorem kw_561 : Cond.code yX12_result cX12_result 1 (some .long) ∈ tb := tbi_14 _ (List.mem_of_getElem? (i := 1) rfl)
theorem kw_562 : Cond.methodLink RL 95 yX14_result ∈ tb := tbi_14 _ (List.mem_of_getElem? (i := 2) rfl)
theorem kw_563 : Cond.instanceMethod yX14_result ∈ tb := tbi_14 _ (List.mem_of_getElem? (i := 3) rfl)
theorem kw_564 : Cond.selects RX14 yX14_result yX14_result ∈ tb := tbi_14 _ (List.mem_of_getElem? (i := 4) rfl)
theorem kw_565 : Cond.code yX14_result cX14_result 1 (some .long) ∈ tb := tbi_14 _ (List.mem_of_getElem? (i := 5) rfl)
theorem kw_566 : Cond.methodLink RL 96 yX12_error ∈ tb := tbi_14 _ (List.mem_of_getElem? (i := 6) rfl)
theorem kw_567 : Cond.instanceMethod yX12_error ∈ tb := tbi_14 _ (List.mem_of_getElem? (i := 7) rfl)
theorem kw_568 : Cond.selects RX12 yX12_error yX12_error ∈ tb := tbi_14 _ (List.mem_of_getElem? (i := 8) rfl)
theorem kw_569 : Cond.code yX12_error cX12_error 1 (some .int) ∈ tb := tbi_14 _ (List.mem_of_getElem? (i := 9) rfl)
theorem kw_570 : Cond.methodLink RL 99 yX14_error ∈ tb := tbi_14 _ (List.mem_of_getElem? (i := 10) rfl)
theorem kw_571 : Cond.instanceMethod yX14_error ∈ tb := tbi_14 _ (List.mem_of_getElem? (i := 11) rfl)
theorem kw_572 : Cond.selects RX14 yX14_error yX14_error ∈ tb := tbi_14 _ (List.mem_of_getElem? (i := 12) rfl)
theorem kw_573 : Cond.code yX14_error cX14_error 1 (some .int) ∈ tb := tbi_14 _ (List.mem_of_getElem? (i := 13) rfl)
theorem kw_574 : Cond.methodLink RL 100 yX12_steps ∈ tb := tbi_14 _ (List.mem_of_getElem? (i := 14) rfl)
theorem kw_575 : Cond.instanceMethod yX12_steps ∈ tb := tbi_14 _ (List.mem_of_getElem? (i := 15) rfl)
theorem kw_576 : Cond.selects RX12 yX12_steps yX12_steps ∈ tb := tbi_14 _ (List.mem_of_getElem? (i := 16) rfl)
theorem kw_577 : Cond.code yX12_steps cX12_steps 1 (some .int) ∈ tb := tbi_14 _ (List.mem_of_getElem? (i := 17) rfl)
theorem kw_578 : Cond.methodLink RL 103 yX14_steps ∈ tb := tbi_14 _ (List.mem_of_getElem? (i := 18) rfl)
theorem kw_579 : Cond.instanceMethod yX14_steps ∈ tb := tbi_14 _ (List.mem_of_getElem? (i := 19) rfl)
theorem kw_580 : Cond.selects RX14 yX14_steps yX14_steps ∈ tb := tbi_14 _ (List.mem_of_getElem? (i := 20) rfl)
theorem kw_581 : Cond.code yX14_steps cX14_steps 1 (some .int) ∈ tb := tbi_14 _ (List.mem_of_getElem? (i := 21) rfl)
theorem kw_582 : Cond.methodLink RL 104 yX12_field ∈ tb := tbi_14 _ (List.mem_of_getElem? (i := 22) rfl)
theorem kw_583 : Cond.instanceMethod yX12_field ∈ tb := tbi_14 _ (List.mem_of_getElem? (i := 23) rfl)
theorem kw_584 : Cond.selects RX12 yX12_field yX12_field ∈ tb := tbi_14 _ (List.mem_of_getElem? (i := 24) rfl)
theorem kw_585 : Cond.code yX12_field cX12_field 2 (some .long) ∈ tb := tbi_14 _ (List.mem_of_getElem? (i := 25) rfl)
theorem kw_586 : Cond.methodLink RL 108 yX14_field ∈ tb := tbi_14 _ (List.mem_of_getElem? (i := 26) rfl)
theorem kw_587 : Cond.instanceMethod yX14_field ∈ tb := tbi_14 _ (List.mem_of_getElem? (i := 27) rfl)
theorem kw_588 : Cond.selects RX14 yX14_field yX14_field ∈ tb := tbi_14 _ (List.mem_of_getElem? (i := 28) rfl)
theorem kw_589 : Cond.code yX14_field cX14_field 2 (some .long) ∈ tb := tbi_14 _ (List.mem_of_getElem? (i := 29) rfl)
theorem kw_590 : Cond.methodLink RL 109 yX12_element ∈ tb := tbi_14 _ (List.mem_of_getElem? (i := 30) rfl)
theorem kw_591 : Cond.instanceMethod yX12_element ∈ tb := tbi_14 _ (List.mem_of_getElem? (i := 31) rfl)
theorem kw_592 : Cond.selects RX12 yX12_element yX12_element ∈ tb := tbi_14 _ (List.mem_of_getElem? (i := 32) rfl)
theorem kw_593 : Cond.code yX12_element cX12_element 3 (some .int) ∈ tb := tbi_14 _ (List.mem_of_getElem? (i := 33) rfl)
theorem kw_594 : Cond.methodLink RL 112 yX14_element ∈ tb := tbi_14 _ (List.mem_of_getElem? (i := 34) rfl)
theorem kw_595 : Cond.instanceMethod yX14_element ∈ tb := tbi_14 _ (List.mem_of_getElem? (i := 35) rfl)
theorem kw_596 : Cond.selects RX14 yX14_element yX14_element ∈ tb := tbi_14 _ (List.mem_of_getElem? (i := 36) rfl)
theorem kw_597 : Cond.code yX14_element cX14_element 3 (some .int) ∈ tb := tbi_14 _ (List.mem_of_getElem? (i := 37) rfl)
theorem kw_598 : Cond.methodLink RL 113 yX12_arrayLength ∈ tb := tbi_14 _ (List.mem_of_getElem? (i := 38) rfl)
theorem kw_599 : Cond.instanceMethod yX12_arrayLength ∈ tb := tbi_14 _ (List.mem_of_getElem? (i := 39) rfl)
theorem kw_600 : Cond.selects RX12 yX12_arrayLength yX12_arrayLength ∈ tb := tbi_15 _ (List.mem_of_getElem? (i := 0) rfl)
theorem kw_601 : Cond.code yX12_arrayLength cX12_arrayLength 2 (some .int) ∈ tb := tbi_15 _ (List.mem_of_getElem? (i := 1) rfl)
theorem kw_602 : Cond.methodLink RL 116 yX14_arrayLength ∈ tb := tbi_15 _ (List.mem_of_getElem? (i := 2) rfl)
theorem kw_603 : Cond.instanceMethod yX14_arrayLength ∈ tb := tbi_15 _ (List.mem_of_getElem? (i := 3) rfl)
theorem kw_604 : Cond.selects RX14 yX14_arrayLength yX14_arrayLength ∈ tb := tbi_15 _ (List.mem_of_getElem? (i := 4) rfl)
theorem kw_605 : Cond.code yX14_arrayLength cX14_arrayLength 2 (some .int) ∈ tb := tbi_15 _ (List.mem_of_getElem? (i := 5) rfl)
theorem kw_606 : Cond.methodLink RL 117 yX12_blocks ∈ tb := tbi_15 _ (List.mem_of_getElem? (i := 6) rfl)
theorem kw_607 : Cond.instanceMethod yX12_blocks ∈ tb := tbi_15 _ (List.mem_of_getElem? (i := 7) rfl)
theorem kw_608 : Cond.selects RX12 yX12_blocks yX12_blocks ∈ tb := tbi_15 _ (List.mem_of_getElem? (i := 8) rfl)
theorem kw_609 : Cond.code yX12_blocks cX12_blocks 4 (some .int) ∈ tb := tbi_15 _ (List.mem_of_getElem? (i := 9) rfl)
theorem kw_610 : Cond.methodLink RL 120 yX14_blocks ∈ tb := tbi_15 _ (List.mem_of_getElem? (i := 10) rfl)
theorem kw_611 : Cond.instanceMethod yX14_blocks ∈ tb := tbi_15 _ (List.mem_of_getElem? (i := 11) rfl)
theorem kw_612 : Cond.selects RX14 yX14_blocks yX14_blocks ∈ tb := tbi_15 _ (List.mem_of_getElem? (i := 12) rfl)
theorem kw_613 : Cond.code yX14_blocks cX14_blocks 3 (some .int) ∈ tb := tbi_15 _ (List.mem_of_getElem? (i := 13) rfl)
theorem kw_614 : Cond.methodLink RL 121 yX12_block ∈ tb := tbi_15 _ (List.mem_of_getElem? (i := 14) rfl)
theorem kw_615 : Cond.instanceMethod yX12_block ∈ tb := tbi_15 _ (List.mem_of_getElem? (i := 15) rfl)
theorem kw_616 : Cond.selects RX12 yX12_block yX12_block ∈ tb := tbi_15 _ (List.mem_of_getElem? (i := 16) rfl)
theorem kw_617 : Cond.code yX12_block cX12_block 6 (some .int) ∈ tb := tbi_15 _ (List.mem_of_getElem? (i := 17) rfl)
theorem kw_618 : Cond.methodLink RL 124 yX14_block ∈ tb := tbi_15 _ (List.mem_of_getElem? (i := 18) rfl)
theorem kw_619 : Cond.instanceMethod yX14_block ∈ tb := tbi_15 _ (List.mem_of_getElem? (i := 19) rfl)
theorem kw_620 : Cond.selects RX14 yX14_block yX14_block ∈ tb := tbi_15 _ (List.mem_of_getElem? (i := 20) rfl)
theorem kw_621 : Cond.code yX14_block cX14_block 5 (some .int) ∈ tb := tbi_15 _ (List.mem_of_getElem? (i := 21) rfl)
theorem kw_622 : Cond.methodLink RL 125 yX12_edge ∈ tb := tbi_15 _ (List.mem_of_getElem? (i := 22) rfl)
theorem kw_623 : Cond.instanceMethod yX12_edge ∈ tb := tbi_15 _ (List.mem_of_getElem? (i := 23) rfl)
theorem kw_624 : Cond.selects RX12 yX12_edge yX12_edge ∈ tb := tbi_15 _ (List.mem_of_getElem? (i := 24) rfl)
theorem kw_625 : Cond.code yX12_edge cX12_edge 6 (some .boolean) ∈ tb := tbi_15 _ (List.mem_of_getElem? (i := 25) rfl)
theorem kw_626 : Cond.methodLink RL 129 yX14_edge ∈ tb := tbi_15 _ (List.mem_of_getElem? (i := 26) rfl)
theorem kw_627 : Cond.instanceMethod yX14_edge ∈ tb := tbi_15 _ (List.mem_of_getElem? (i := 27) rfl)
theorem kw_628 : Cond.selects RX14 yX14_edge yX14_edge ∈ tb := tbi_15 _ (List.mem_of_getElem? (i := 28) rfl)
theorem kw_629 : Cond.code yX14_edge cX14_edge 6 (some .boolean) ∈ tb := tbi_15 _ (List.mem_of_getElem? (i := 29) rfl)
theorem kw_630 : Cond.methodLink RL 130 yX12_improve ∈ tb := tbi_15 _ (List.mem_of_getElem? (i := 30) rfl)
theorem kw_631 : Cond.instanceMethod yX12_improve ∈ tb := tbi_15 _ (List.mem_of_getElem? (i := 31) rfl)
theorem kw_632 : Cond.selects RX12 yX12_improve yX12_improve ∈ tb := tbi_15 _ (List.mem_of_getElem? (i := 32) rfl)
theorem kw_633 : Cond.code yX12_improve cX12_improve 5 (some .int) ∈ tb := tbi_15 _ (List.mem_of_getElem? (i := 33) rfl)
theorem kw_634 : Cond.methodLink RL 133 yX14_improve ∈ tb := tbi_15 _ (List.mem_of_getElem? (i := 34) rfl)
theorem kw_635 : Cond.instanceMethod yX14_improve ∈ tb := tbi_15 _ (List.mem_of_getElem? (i := 35) rfl)
theorem kw_636 : Cond.selects RX14 yX14_improve yX14_improve ∈ tb := tbi_15 _ (List.mem_of_getElem? (i := 36) rfl)
theorem kw_637 : Cond.code yX14_improve cX14_improve 5 (some .int) ∈ tb := tbi_15 _ (List.mem_of_getElem? (i := 37) rfl)
theorem kw_638 : Cond.methodLink RL 134 yX12_applied ∈ tb := tbi_15 _ (List.mem_of_getElem? (i := 38) rfl)
theorem kw_639 : Cond.instanceMethod yX12_applied ∈ tb := tbi_15 _ (List.mem_of_getElem? (i := 39) rfl)
theorem kw_640 : Cond.selects RX12 yX12_applied yX12_applied ∈ tb := tbi_16 _ (List.mem_of_getElem? (i := 0) rfl)
theorem kw_641 : Cond.code yX12_applied cX12_applied 2 (some .int) ∈ tb := tbi_16 _ (List.mem_of_getElem? (i := 1) rfl)
theorem kw_642 : Cond.methodLink RL 137 yX14_applied ∈ tb := tbi_16 _ (List.mem_of_getElem? (i := 2) rfl)
theorem kw_643 : Cond.instanceMethod yX14_applied ∈ tb := tbi_16 _ (List.mem_of_getElem? (i := 3) rfl)
theorem kw_644 : Cond.selects RX14 yX14_applied yX14_applied ∈ tb := tbi_16 _ (List.mem_of_getElem? (i := 4) rfl)
theorem kw_645 : Cond.code yX14_applied cX14_applied 2 (some .int) ∈ tb := tbi_16 _ (List.mem_of_getElem? (i := 5) rfl)
theorem kw_646 : Cond.methodLink RL 138 yX12_count ∈ tb := tbi_16 _ (List.mem_of_getElem? (i := 6) rfl)
theorem kw_647 : Cond.instanceMethod yX12_count ∈ tb := tbi_16 _ (List.mem_of_getElem? (i := 7) rfl)
theorem kw_648 : Cond.selects RX12 yX12_count yX12_count ∈ tb := tbi_16 _ (List.mem_of_getElem? (i := 8) rfl)
theorem kw_649 : Cond.code yX12_count cX12_count 7 (some .int) ∈ tb := tbi_16 _ (List.mem_of_getElem? (i := 9) rfl)
theorem kw_650 : Cond.methodLink RL 141 yX14_count ∈ tb := tbi_16 _ (List.mem_of_getElem? (i := 10) rfl)
theorem kw_651 : Cond.instanceMethod yX14_count ∈ tb := tbi_16 _ (List.mem_of_getElem? (i := 11) rfl)
theorem kw_652 : Cond.selects RX14 yX14_count yX14_count ∈ tb := tbi_16 _ (List.mem_of_getElem? (i := 12) rfl)
theorem kw_653 : Cond.code yX14_count cX14_count 6 (some .int) ∈ tb := tbi_16 _ (List.mem_of_getElem? (i := 13) rfl)
theorem kw_654 : Cond.methodLink RL 142 yX12_strays ∈ tb := tbi_16 _ (List.mem_of_getElem? (i := 14) rfl)
theorem kw_655 : Cond.instanceMethod yX12_strays ∈ tb := tbi_16 _ (List.mem_of_getElem? (i := 15) rfl)
theorem kw_656 : Cond.selects RX12 yX12_strays yX12_strays ∈ tb := tbi_16 _ (List.mem_of_getElem? (i := 16) rfl)
theorem kw_657 : Cond.code yX12_strays cX12_strays 1 (some .int) ∈ tb := tbi_16 _ (List.mem_of_getElem? (i := 17) rfl)
theorem kw_658 : Cond.methodLink RL 145 yX14_strays ∈ tb := tbi_16 _ (List.mem_of_getElem? (i := 18) rfl)
theorem kw_659 : Cond.instanceMethod yX14_strays ∈ tb := tbi_16 _ (List.mem_of_getElem? (i := 19) rfl)
theorem kw_660 : Cond.selects RX14 yX14_strays yX14_strays ∈ tb := tbi_16 _ (List.mem_of_getElem? (i := 20) rfl)
theorem kw_661 : Cond.code yX14_strays cX14_strays 1 (some .int) ∈ tb := tbi_16 _ (List.mem_of_getElem? (i := 21) rfl)
theorem kw_662 : Cond.classLink RL 7 RX12 ∈ tb := tbi_16 _ (List.mem_of_getElem? (i := 22) rfl)
theorem kw_663 : Cond.instantiable RX12 18 ∈ tb := tbi_16 _ (List.mem_of_getElem? (i := 23) rfl)
theorem kw_664 : Cond.methodLink RL 9 yX12_init ∈ tb := tbi_16 _ (List.mem_of_getElem? (i := 24) rfl)
theorem kw_665 : Cond.code yX12_init cX12_init 1 none ∈ tb := tbi_16 _ (List.mem_of_getElem? (i := 25) rfl)
theorem kw_666 : Cond.instanceMethod yX12_init ∈ tb := tbi_16 _ (List.mem_of_getElem? (i := 26) rfl)
theorem kw_667 : Cond.classLink RL 10 RX14 ∈ tb := tbi_16 _ (List.mem_of_getElem? (i := 27) rfl)
theorem kw_668 : Cond.instantiable RX14 143 ∈ tb := tbi_16 _ (List.mem_of_getElem? (i := 28) rfl)
theorem kw_669 : Cond.methodLink RL 12 yX14_init ∈ tb := tbi_16 _ (List.mem_of_getElem? (i := 29) rfl)
theorem kw_670 : Cond.code yX14_init cX14_init 1 none ∈ tb := tbi_16 _ (List.mem_of_getElem? (i := 30) rfl)
theorem kw_671 : Cond.instanceMethod yX14_init ∈ tb := tbi_16 _ (List.mem_of_getElem? (i := 31) rfl)
theorem tbg_0 : (u_ws RX0 TX0 2).all goodWord = true := by decide +kernel
theorem tbg_1 : (u_ws RX1 TX1 10).all goodWord = true := by decide +kernel
theorem tbg_2 : (u_ws RX2 TX2 12).all goodWord = true := by decide +kernel
theorem tbg_3 : (u_ws RX3 TX3 16).all goodWord = true := by decide +kernel
theorem tbg_4 : (u_ws RX4 TX4 8).all goodWord = true := by decide +kernel
theorem tbg_5 : (u_ws RX5 TX5 20).all goodWord = true := by decide +kernel
theorem tbg_6 : (u_ws RX7 TX7 17).all goodWord = true := by decide +kernel
theorem tbg_7 : (u_ws RX8 TX8 15).all goodWord = true := by decide +kernel
theorem tbg_8 : (u_ws RX9 TX9 6).all goodWord = true := by decide +kernel
theorem tbg_9 : (u_ws RX11 TX11 18).all goodWord = true := by decide +kernel
theorem tbg_10 : (u_ws RX12 TX12 18).all goodWord = true := by decide +kernel
theorem tbg_11 : (u_ws RX13 TX13 23).all goodWord = true := by decide +kernel
theorem tbg_12 : (u_ws RX14 TX14 143).all goodWord = true := by decide +kernel
theorem tbg_13 : (tbr_0).all goodWord = true := by decide +kernel
theorem tbg_14 : (tbr_1).all goodWord = true := by decide +kernel
theorem tbg_15 : (tbr_2).all goodWord = true := by decide +kernel
theorem tbg_16 : (tbr_3).all goodWord = true := by decide +kernel
theorem tbg_17 : (tbr_4).all goodWord = true := by decide +kernel
theorem tbg_18 : (tbr_5).all goodWord = true := by decide +kernel
theorem tbg_19 : (tbr_6).all goodWord = true := by decide +kernel
theorem tbg_20 : (tbr_7).all goodWord = true := by decide +kernel
theorem tbg_21 : (tbr_8).all goodWord = true := by decide +kernel
theorem tbg_22 : (tbr_9).all goodWord = true := by decide +kernel
theorem tbg_23 : (tbr_10).all goodWord = true := by decide +kernel
theorem tbg_24 : (tbr_11).all goodWord = true := by decide +kernel
theorem tbg_25 : (tbr_12).all goodWord = true := by decide +kernel
theorem tbg_26 : (tbr_13).all goodWord = true := by decide +kernel
theorem tbg_27 : (tbr_14).all goodWord = true := by decide +kernel
theorem tbg_28 : (tbr_15).all goodWord = true := by decide +kernel
theorem tbg_29 : (tbr_16).all goodWord = true := by decide +kernel
theorem tbg_30 : (tbs).all goodWord = true := by decide +kernel
theorem tb_good : ∀ w ∈ tb, goodWord w = true := by
  intro w h
  unfold tb at h
  simp only [List.mem_append] at h
  rcases h with h | h | h | h | h | h | h | h | h | h | h | h | h | h | h | h | h | h | h | h | h | h | h | h | h | h | h | h | h | h | h
  · exact List.all_eq_true.mp tbg_0 w h
  · exact List.all_eq_true.mp tbg_1 w h
  · exact List.all_eq_true.mp tbg_2 w h
  · exact List.all_eq_true.mp tbg_3 w h
  · exact List.all_eq_true.mp tbg_4 w h
  · exact List.all_eq_true.mp tbg_5 w h
  · exact List.all_eq_true.mp tbg_6 w h
  · exact List.all_eq_true.mp tbg_7 w h
  · exact List.all_eq_true.mp tbg_8 w h
  · exact List.all_eq_true.mp tbg_9 w h
  · exact List.all_eq_true.mp tbg_10 w h
  · exact List.all_eq_true.mp tbg_11 w h
  · exact List.all_eq_true.mp tbg_12 w h
  · exact List.all_eq_true.mp tbg_13 w h
  · exact List.all_eq_true.mp tbg_14 w h
  · exact List.all_eq_true.mp tbg_15 w h
  · exact List.all_eq_true.mp tbg_16 w h
  · exact List.all_eq_true.mp tbg_17 w h
  · exact List.all_eq_true.mp tbg_18 w h
  · exact List.all_eq_true.mp tbg_19 w h
  · exact List.all_eq_true.mp tbg_20 w h
  · exact List.all_eq_true.mp tbg_21 w h
  · exact List.all_eq_true.mp tbg_22 w h
  · exact List.all_eq_true.mp tbg_23 w h
  · exact List.all_eq_true.mp tbg_24 w h
  · exact List.all_eq_true.mp tbg_25 w h
  · exact List.all_eq_true.mp tbg_26 w h
  · exact List.all_eq_true.mp tbg_27 w h
  · exact List.all_eq_true.mp tbg_28 w h
  · exact List.all_eq_true.mp tbg_29 w h
  · exact List.all_eq_true.mp tbg_30 w h
end
section
def dfX0 : List Value := [.null, .int 0]
theorem dfX0_ok : ∀ j, j < 2 → defaultValue (tyX0 j) = vp_V dfX0 j := by decide +kernel
theorem L_dfX0 : dfX0.length = 2 := by decide +kernel
def dfX1 : List Value := [.null, .null, .null, .null, .null, .int 0, .int 0, .int 0, .null, .null]
theorem dfX1_ok : ∀ j, j < 10 → defaultValue (tyX1 j) = vp_V dfX1 j := by decide +kernel
theorem L_dfX1 : dfX1.length = 10 := by decide +kernel
def dfX2 : List Value := [.null, .int 0, .int 0, .int 0, .int 0, .int 0, .int 0, .null, .int 0, .int 0, .long 0, .int 0]
theorem dfX2_ok : ∀ j, j < 12 → defaultValue (tyX2 j) = vp_V dfX2 j := by decide +kernel
theorem L_dfX2 : dfX2.length = 12 := by decide +kernel
def dfX3 : List Value := [.null, .int 0, .null, .null, .null, .null, .null, .null, .null, .null, .int 0, .null, .null, .null, .null, .null]
theorem dfX3_ok : ∀ j, j < 16 → defaultValue (tyX3 j) = vp_V dfX3 j := by decide +kernel
theorem L_dfX3 : dfX3.length = 16 := by decide +kernel
def dfX4 : List Value := [.null, .null, .null, .null, .null, .int 0, .int 0, .int 0]
theorem dfX4_ok : ∀ j, j < 8 → defaultValue (tyX4 j) = vp_V dfX4 j := by decide +kernel
theorem L_dfX4 : dfX4.length = 8 := by decide +kernel
def dfX5 : List Value := [.null, .null, .null, .int 0, .null, .int 0, .null, .int 0, .null, .null, .null, .int 0, .null, .int 0, .int 0, .int 0, .long 0, .int 0, .int 0, .int 0]
theorem dfX5_ok : ∀ j, j < 20 → defaultValue (tyX5 j) = vp_V dfX5 j := by decide +kernel
theorem L_dfX5 : dfX5.length = 20 := by decide +kernel
def dfX7 : List Value := [.null, .int 0, .int 0, .int 0, .null, .int 0, .int 0, .int 0, .int 0, .null, .null, .null, .int 0, .int 0, .int 0, .int 0, .int 0]
theorem dfX7_ok : ∀ j, j < 17 → defaultValue (tyX7 j) = vp_V dfX7 j := by decide +kernel
theorem L_dfX7 : dfX7.length = 17 := by decide +kernel
def dfX8 : List Value := [.null, .null, .int 0, .null, .int 0, .null, .null, .null, .null, .int 0, .int 0, .int 0, .null, .null, .null]
theorem dfX8_ok : ∀ j, j < 15 → defaultValue (tyX8 j) = vp_V dfX8 j := by decide +kernel
theorem L_dfX8 : dfX8.length = 15 := by decide +kernel
def dfX9 : List Value := [.null, .null, .null, .null, .null, .null]
theorem dfX9_ok : ∀ j, j < 6 → defaultValue (tyX9 j) = vp_V dfX9 j := by decide +kernel
theorem L_dfX9 : dfX9.length = 6 := by decide +kernel
def dfX11 : List Value := [.null, .null, .null, .null, .null, .int 0, .int 0, .null, .int 0, .int 0, .null, .null, .null, .null, .null, .null, .null, .null]
theorem dfX11_ok : ∀ j, j < 18 → defaultValue (tyX11 j) = vp_V dfX11 j := by decide +kernel
theorem L_dfX11 : dfX11.length = 18 := by decide +kernel
def dfX12 : List Value := [.null, .null, .null, .null, .null, .null, .null, .null, .null, .null, .int 0, .int 0, .int 0, .int 0, .int 0, .int 0, .int 0, .int 0]
theorem dfX12_ok : ∀ j, j < 18 → defaultValue (tyX12 j) = vp_V dfX12 j := by decide +kernel
theorem L_dfX12 : dfX12.length = 18 := by decide +kernel
def dfX13 : List Value := [.null, .null, .int 0, .int 0, .int 0, .null, .null, .null, .null, .null, .null, .null, .null, .null, .null, .null, .null, .null, .null, .null, .null, .int 0, .null]
theorem dfX13_ok : ∀ j, j < 23 → defaultValue (tyX13 j) = vp_V dfX13 j := by decide +kernel
theorem L_dfX13 : dfX13.length = 23 := by decide +kernel
def dfX14 : List Value := [.null, .int 0, .int 0, .null, .int 0, .int 0, .null, .int 0, .int 0, .int 0, .int 0, .null, .int 0, .int 0, .int 0, .null, .null, .null, .null, .null, .int 0, .int 0, .int 0, .int 0, .null, .int 0, .null, .null, .int 0, .null, .null, .null, .null, .null, .null, .int 0, .int 0, .int 0, .null, .int 0, .null, .int 0, .null, .int 0, .null, .int 0, .int 0, .null, .null, .null, .null, .int 0, .int 0, .int 0, .int 0, .null, .int 0, .int 0, .null, .null, .null, .null, .int 0, .int 0, .int 0, .int 0, .null, .null, .null, .null, .null, .null, .null, .int 0, .int 0, .null, .null, .int 0, .int 0, .null, .null, .null, .null, .null, .null, .int 0, .int 0, .null, .int 0, .null, .null, .null, .null, .null, .null, .null, .int 0, .int 0, .int 0, .int 0, .int 0, .long 0, .int 0, .null, .null, .int 0, .int 0, .int 0, .null, .null, .int 0, .null, .null, .null, .null, .null, .null, .null, .null, .null, .null, .null, .int 0, .int 0, .null, .null, .null, .null, .null, .int 0, .null, .null, .null, .null, .null, .int 0, .null, .null, .null, .int 0, .null, .null, .null]
theorem dfX14_ok : ∀ j, j < 143 → defaultValue (tyX14 j) = vp_V dfX14 j := by decide +kernel
theorem L_dfX14 : dfX14.length = 143 := by decide +kernel
theorem g_dfX0_1 : dfX0[1]? = some (.int 0) := rfl
theorem g_dfX12_10 : dfX12[10]? = some (.int 0) := rfl
theorem g_dfX12_11 : dfX12[11]? = some (.int 0) := rfl
theorem g_dfX12_12 : dfX12[12]? = some (.int 0) := rfl
theorem g_dfX12_13 : dfX12[13]? = some (.int 0) := rfl
theorem g_dfX14_1 : dfX14[1]? = some (.int 0) := rfl
theorem g_dfX14_4 : dfX14[4]? = some (.int 0) := rfl
theorem g_dfX14_5 : dfX14[5]? = some (.int 0) := rfl
theorem g_dfX14_9 : dfX14[9]? = some (.int 0) := rfl
theorem g_dfX14_78 : dfX14[78]? = some (.int 0) := rfl
theorem g_dfX14_80 : dfX14[80]? = some (.null) := rfl
theorem g_dfX14_85 : dfX14[85]? = some (.int 0) := rfl
theorem g_dfX14_88 : dfX14[88]? = some (.int 0) := rfl
theorem g_dfX14_96 : dfX14[96]? = some (.int 0) := rfl
theorem g_dfX14_100 : dfX14[100]? = some (.int 0) := rfl
theorem g_dfX14_101 : dfX14[101]? = some (.long 0) := rfl
theorem g_dfX5_0 : dfX5[0]? = some (.null) := rfl
theorem g_dfX5_5 : dfX5[5]? = some (.int 0) := rfl
theorem g_dfX5_7 : dfX5[7]? = some (.int 0) := rfl
theorem g_dfX5_16 : dfX5[16]? = some (.long 0) := rfl
theorem g_dfX5_18 : dfX5[18]? = some (.int 0) := rfl
theorem g_dfX5_19 : dfX5[19]? = some (.int 0) := rfl
def nestL : List Cond := [Cond.methodLinkNest RX12 9 yX0_init RX12, Cond.methodLinkNest RX12 30 yX2_init RX12, Cond.methodLinkNest RX2 11 yX7_init RX12, Cond.methodLinkNest RX12 37 yX1_init RX12, Cond.methodLinkNest RX1 11 yX4_init RX12, Cond.methodLinkNest RX12 44 yX11_init RX12, Cond.methodLinkNest RX11 11 yX0_init RX12, Cond.methodLinkNest RX11 45 yX4_init RX12, Cond.methodLinkNest RX12 51 yX5_init RX12, Cond.methodLinkNest RX12 58 yX3_init RX12, Cond.methodLinkNest RX12 65 yX9_init RX12, Cond.methodLinkNest RX14 222 yX13_init RX14, Cond.fieldLinkNest RX7 97 "CodeFoundry" "MAGIC" "[I" RX12, Cond.declares (Bundle.init0 "java/lang/RuntimeException"), Cond.declares (Bundle.init0 "java/lang/Exception"), Cond.declares (Bundle.init0 Bundle.tN), Cond.castable RJxb5711 RJxb5711]
theorem nn_X12_9 : Cond.methodLinkNest RX12 9 yX0_init RX12 ∈ nestL := List.mem_of_getElem? (i := 0) rfl
theorem nn_X12_30 : Cond.methodLinkNest RX12 30 yX2_init RX12 ∈ nestL := List.mem_of_getElem? (i := 1) rfl
theorem nn_X2_11 : Cond.methodLinkNest RX2 11 yX7_init RX12 ∈ nestL := List.mem_of_getElem? (i := 2) rfl
theorem nn_X12_37 : Cond.methodLinkNest RX12 37 yX1_init RX12 ∈ nestL := List.mem_of_getElem? (i := 3) rfl
theorem nn_X1_11 : Cond.methodLinkNest RX1 11 yX4_init RX12 ∈ nestL := List.mem_of_getElem? (i := 4) rfl
theorem nn_X12_44 : Cond.methodLinkNest RX12 44 yX11_init RX12 ∈ nestL := List.mem_of_getElem? (i := 5) rfl
theorem nn_X11_11 : Cond.methodLinkNest RX11 11 yX0_init RX12 ∈ nestL := List.mem_of_getElem? (i := 6) rfl
theorem nn_X11_45 : Cond.methodLinkNest RX11 45 yX4_init RX12 ∈ nestL := List.mem_of_getElem? (i := 7) rfl
theorem nn_X12_51 : Cond.methodLinkNest RX12 51 yX5_init RX12 ∈ nestL := List.mem_of_getElem? (i := 8) rfl
theorem nn_X12_58 : Cond.methodLinkNest RX12 58 yX3_init RX12 ∈ nestL := List.mem_of_getElem? (i := 9) rfl
theorem nn_X12_65 : Cond.methodLinkNest RX12 65 yX9_init RX12 ∈ nestL := List.mem_of_getElem? (i := 10) rfl
theorem nn_X14_222 : Cond.methodLinkNest RX14 222 yX13_init RX14 ∈ nestL := List.mem_of_getElem? (i := 11) rfl
theorem nn_X7_97 : Cond.fieldLinkNest RX7 97 "CodeFoundry" "MAGIC" "[I" RX12 ∈ nestL := List.mem_of_getElem? (i := 12) rfl
theorem nn_d1 : Cond.declares (Bundle.init0 "java/lang/RuntimeException") ∈ nestL := List.mem_of_getElem? (i := 13) rfl
theorem nn_d2 : Cond.declares (Bundle.init0 "java/lang/Exception") ∈ nestL := List.mem_of_getElem? (i := 14) rfl
theorem nn_d3 : Cond.declares (Bundle.init0 Bundle.tN) ∈ nestL := List.mem_of_getElem? (i := 15) rfl
theorem nn_cast : Cond.castable RJxb5711 RJxb5711 ∈ nestL := List.mem_of_getElem? (i := 16) rfl
def aoL : List String := ["CodeFoundry$Unit", "CodeFoundryModel$File", "java/lang/String"]
theorem ao_CodeFoundry_Unit : "CodeFoundry$Unit" ∈ aoL := List.mem_of_getElem? (i := 0) rfl
theorem ao_CodeFoundryModel_File : "CodeFoundryModel$File" ∈ aoL := List.mem_of_getElem? (i := 1) rfl
theorem ao_java_lang_String : "java/lang/String" ∈ aoL := List.mem_of_getElem? (i := 2) rfl
/-- what the tables say beside the words: nest mates' links, arrays of references -/
def ex (U : State) : Prop := (∀ w ∈ nestL, va_Nw w U) ∧ ∀ C ∈ aoL, va_AO C U
theorem ex_same {u U : State} (h : u.vm = U.vm) (hx : ex u) : ex U := by
  refine ⟨fun w hw => ?_, fun C hC => ?_⟩
  · have h1 := hx.1 w hw
    simp only [nestL, List.mem_cons, List.not_mem_nil, or_false] at hw
    rcases hw with rfl | rfl | rfl | rfl | rfl | rfl | rfl | rfl | rfl | rfl | rfl | rfl | rfl | rfl | rfl | rfl | rfl <;> exact va_Nw.same rfl h h1
  · exact va_AO.moved (by rw [h]; exact Vm.Alike.refl _) (hx.2 C hC)
theorem ex_warm {s U : State} (hW : s.WarmedH U.vm) (hx : ex s) : ex U := by
  refine ⟨fun w hw => ?_, fun C hC => va_AO.moved hW.alike (hx.2 C hC)⟩
  have h1 := hx.1 w hw
  simp only [nestL, List.mem_cons, List.not_mem_nil, or_false] at hw
  rcases hw with rfl | rfl | rfl | rfl | rfl | rfl | rfl | rfl | rfl | rfl | rfl | rfl | rfl | rfl | rfl | rfl | rfl <;> first | exact va_Nw.warmM hW h1 | exact va_Nw.warmF hW h1 | exact va_Nw.warmD hW h1 | exact va_Nw.warmC hW h1
theorem nw_of {w : Cond} {U : State} (hw : w ∈ nestL) (hx : ex U) : va_Nw w U := hx.1 w hw
theorem ao_of {C : String} {U : State} (hC : C ∈ aoL) (hx : ex U) : va_AO C U := hx.2 C hC
def st_U (dC : Nat → ClassId) (dI : Nat → Nat → Nat) (sz : Nat) (ws : va_W) (tys : List (ClassId × FieldType)) (U : State) : Prop := U.heap.size = sz ∧ va_P (dC, dI) cl0 ws U.heap ∧ va_K (dC, dI) cl0 tys U ∧ va_D (fun _ => True) ws ∧ ex U
theorem st_blind {av : List Value} {dC : Nat → ClassId} {dI : Nat → Nat → Nat} {sz : Nat} {ws : va_W} {tys : List (ClassId × FieldType)} : FrameBlind (va_Pc av (st_U dC dI sz ws tys)) := fun a U g mk q => by
  obtain ⟨q0, q1, qP, qK, qD, qE⟩ := q
  exact ⟨q0, q1, qP, va_K.moved (u := U) (U := U.calling g mk a) (Vm.Alike.refl U.vm) qK, qD, ex_same (u := U) rfl qE⟩
theorem st_mk {av : List Value} {dC : Nat → ClassId} {dI : Nat → Nat → Nat} {ws : va_W} {tys : List (ClassId × FieldType)} {s U : State} {H : Heap} {A : Nat → Prop} (hU : U.heap = H) (hW : s.WarmedH U.vm) (hP : va_P (dC, dI) cl0 ws H) (hK : va_K (dC, dI) cl0 tys s) (hD : va_D A ws) (hex : ex s) : va_Pc av (st_U dC dI H.size ws tys) av.toArray U :=
  ⟨rfl, by rw [hU], by rw [hU]; exact hP, va_K.moved hW.alike hK, hD.weaken (fun _ _ _ _ => trivial), ex_warm hW hex⟩
theorem gd_I {y : MethodName} {c : ByteArray} {n : Nat} {r : Option FieldType} (h : Cond.code y c n r ∈ tb) : GoodIn tb (wt y c n r) := fun w hw => by
  rcases List.mem_cons.mp hw with rfl | hw
  · exact ⟨h, good_of_word (tb_good _ h)⟩
  · exact ⟨hw, good_of_word (tb_good _ hw)⟩
theorem gd_V {own C : String} {idx : Nat} {y : MethodName} {c : ByteArray} {n : Nat} {r : Option FieldType} (h1 : Cond.methodLink own idx y ∈ tb) (h2 : Cond.instanceMethod y ∈ tb) (h3 : Cond.selects C y y ∈ tb) (h4 : Cond.initialized C ∈ tb) (h : Cond.code y c n r ∈ tb) : GoodIn tb (wsV own idx C y (wt y c n r)) := fun w hw => by
  unfold wsV at hw
  rcases List.mem_append.mp hw with hw | hw
  · have : w ∈ tb := by
      simp only [List.mem_cons, List.not_mem_nil, or_false] at hw
      rcases hw with rfl | rfl | rfl | rfl <;> assumption
    exact ⟨this, good_of_word (tb_good _ this)⟩
  · exact gd_I h w hw
theorem gd_W {own C : String} {idx : Nat} {y : MethodName} {c : ByteArray} {n : Nat} {r : Option FieldType} {hh : List (Nat × Nat × Nat × Nat)} (h1 : Cond.methodLink own idx y ∈ tb) (h2 : Cond.instanceMethod y ∈ tb) (h3 : Cond.selects C y y ∈ tb) (h4 : Cond.initialized C ∈ tb) (h : Cond.codeWith y c n r hh ∈ tb) : GoodIn tb (wsV own idx C y (wtw y c n r hh)) := fun w hw => by
  have : w ∈ tb := by
    unfold wsV at hw
    rcases List.mem_append.mp hw with hw | hw
    · simp only [List.mem_cons, List.not_mem_nil, or_false] at hw
      rcases hw with rfl | rfl | rfl | rfl <;> assumption
    · rcases List.mem_cons.mp hw with rfl | hw
      · exact h
      · exact hw
  exact ⟨this, good_of_word (tb_good _ this)⟩
theorem gd_S {own : String} {idx : Nat} {y : MethodName} {c : ByteArray} {n : Nat} {r : Option FieldType} (h1 : Cond.methodLink own idx y ∈ tb) (h2 : Cond.static y ∈ tb) (h4 : Cond.initialized y.cls ∈ tb) (h : Cond.code y c n r ∈ tb) : GoodIn tb (va_wsS own idx y (wt y c n r)) := fun w hw => by
  unfold va_wsS at hw
  rcases List.mem_append.mp hw with hw | hw
  · have : w ∈ tb := by
      simp only [List.mem_cons, List.not_mem_nil, or_false] at hw
      rcases hw with rfl | rfl | rfl <;> assumption
    exact ⟨this, good_of_word (tb_good _ this)⟩
  · exact gd_I h w hw
theorem fx_len {fs fs' : List Value} {k n : Nat} {v : Value} (e : fs' = fs.set k v) (h : fs.length = n) : fs'.length = n := by rw [e, List.length_set]; exact h
theorem fx_ne {fs fs' : List Value} {k j : Nat} {v w : Value} (e : fs' = fs.set k v) (h : fs[j]? = some w) (hne : k ≠ j) : fs'[j]? = some w := by rw [e, List.getElem?_set_ne hne]; exact h
theorem fx_self {fs fs' : List Value} {k : Nat} {v : Value} (e : fs' = fs.set k v) (h : k < fs.length) : fs'[k]? = some v := by rw [e]; exact List.getElem?_set_self h
theorem vi {i : Int32} {n : Nat} (h : decide (¬ (i < 0 ∨ n ≤ i.toNatClampNeg)) = true) : vp_in i n := by unfold vp_in; exact of_decide_eq_true h
def bk (n : Int32) : Bool := decide (n < 64 ∧ ¬ (n < 0 ∨ 64 ≤ n.toNatClampNeg))
theorem bk1 {n : Int32} (h : bk n = true) : n < 64 := (of_decide_eq_true h).1
theorem bk2 {n : Int32} (h : bk n = true) : vp_in n 64 := (of_decide_eq_true h).2
def wk (n : Int32) : Bool := decide (¬ (n < 0 ∨ 16000 ≤ n.toNatClampNeg))
theorem wk2 {n : Int32} (h : wk n = true) : vp_in n 16000 := by unfold vp_in; exact of_decide_eq_true h
theorem k_ge {x : Int32} (h1 : ¬ x < 0) (h2 : ¬ 0 ≤ x) : False := h2 (Int32.not_lt.mp h1)
theorem k_gt1 {x : Int32} (h1 : ¬ x < 1) (h2 : ¬ 0 < x) : False := by
  rw [Int32.lt_iff_toInt_lt] at h1 h2
  have e1 : (1 : Int32).toInt = 1 := rfl
  have e0 : (0 : Int32).toInt = 0 := rfl
  omega
theorem k_m1 {x : Int32} (h1 : ¬ x < 0) (h2 : x < -1) : False := by
  rw [Int32.lt_iff_toInt_lt] at h1 h2
  have e1 : (-1 : Int32).toInt = -1 := rfl
  have e0 : (0 : Int32).toInt = 0 := rfl
  omega
theorem k_in {x y : Int32} {n : Nat} (hy : y.toInt = n) (h1 : ¬ x < 0) (h2 : x < y) : vp_in x n := by
  unfold vp_in
  rw [Int32.lt_iff_toInt_lt] at h1 h2
  have e0 : (0 : Int32).toInt = 0 := rfl
  rintro (h | h)
  · rw [Int32.lt_iff_toInt_lt] at h; omega
  · have : x.toNatClampNeg = x.toInt.toNat := rfl
    omega
theorem k_in12 {x : Int32} (h1 : ¬ x < 0) (h2 : x < 12) : vp_in x 12 := k_in rfl h1 h2
theorem k_in12m {x : Int32} (h1 : ¬ x < 1) (h2 : ¬ 11 < x) : vp_in x 12 := by
  unfold vp_in
  rw [Int32.lt_iff_toInt_lt] at h1 h2
  have e1 : (1 : Int32).toInt = 1 := rfl
  have e2 : (11 : Int32).toInt = 11 := rfl
  have e0 : (0 : Int32).toInt = 0 := rfl
  rintro (h | h)
  · rw [Int32.lt_iff_toInt_lt] at h; omega
  · have : x.toNatClampNeg = x.toInt.toNat := rfl
    omega
theorem k_cmp {v : Int64} (h1 : ¬ lg_cmp v 1 < 0) (h2 : ¬ 0 < lg_cmp v ((0 : Int32).toInt64)) : False := by
  have e : ((0 : Int32).toInt64) = (0 : Int64) := by decide
  rw [e] at h2
  have a : (1 : Int64) ≤ v := (lg_cmp_ge v 1).mp (Int32.not_lt.mp h1)
  have b : v > 0 := Int64.lt_of_lt_of_le (by decide : (0 : Int64) < 1) a
  apply h2
  unfold lg_cmp
  rw [if_pos b]
  decide
end
section
/-! ===== BEGIN exceptions that leave a method, and their catching by the caller (launches without stack traces) ===== -/
section VXA
/-! The laws vx_back, vx_callV, vx_callS, vx_callSW, vx_throw0, vx_throwS follow proofs of the library, with one case more: JvmDerived/Free/Laws.lean (Back.of_free), Shelf42/LK1.lean (callV, callS), Shelf/KitTraced.lean (throwNew0V, throwNewS). -/
/-- where a method has thrown q: the class by its name, the cell, what was written, the world -/
def vx_T (XC : String → State → State → Prop) (st : State) (q : Addr) (t : State) (mc ms : Nat) (free : Addr → Prop) : Prop :=
  ∃ (E : String) (ce : Cell) (L : List Loc), XC E st t ∧ t.heap[q]? = some ce ∧ ce.vm = .none ∧ st.vm.findClass E = some ce.cls ∧ st.WarmedH t.vm ∧ st.sameButNew ({ t with vm := st.vm } : State) L mc ms ∧ ∀ z ∈ L, free z.base
def vx_Q (Qc : Array Value → State → Outcome → State → Prop) (XC : String → State → State → Prop) (mc ms : Nat) (free : Addr → Prop) : Array Value → State → Outcome → State → Prop := fun a st o t =>
  (Qc a st o t ∧ ∃ L, FrameEnd st o t L mc ms ∧ ∀ q ∈ L, free q.base) ∨ ∃ q, o = .threw q ∧ vx_T XC st q t mc ms free
/-- a callee that returns or throws -/
def vx_Met (l : Launch) (y : MethodName) (ws : List Cond) (rm : Room) (Pc : Array Value → State → Prop) (Qc : Array Value → State → Outcome → State → Prop) (XC : String → State → State → Prop) (mc ms : Nat) (free : Addr → Prop) : Prop :=
  MetFree l y (headSpec ws rm) Pc (fun _ _ _ _ _ => True) (vx_Q Qc XC mc ms free)
def vx_Post (XC : String → State → State → Prop) (mc ms : Nat) (free : Addr → Prop) : Pt → Array Value → Addr → Pt → Prop := fun A a q B =>
  ∃ (g : JFrame) (mk : MethodId) (t : State) (L : List Loc) (E : String) (ce : Cell), B.U.heap = t.heap ∧ B.U.vm = t.vm ∧ XC E (A.U.calling g mk a) t ∧ t.heap[q]? = some ce ∧ ce.vm = .none ∧ A.U.vm.findClass E = some ce.cls ∧ B.locs = A.locs ++ L ∧ (∀ z ∈ L, free z.base) ∧ B.cells = A.cells + mc ∧ B.slots = A.slots + ms
def vx_Back (l : Launch) (R : Room) (p : Program) (e : Env) (below : List Frame) (s : State) (sargs : Array Value) (y : MethodName) (len W9 : Nat)
    (Pre : Pt → Array Value → Prop) (Post : Pt → Array Value → Option Value → Pt → Prop) (PostX : Pt → Array Value → Addr → Pt → Prop) : Prop :=
  ∀ (m : MethodId) (meth : Method) (c : Code) (A : Pt) (g : JFrame) (ig : Instr) (mk : MethodId) (a : Array Value),
    Stand p l e R s m sargs below meth c A.U A.locs A.cells A.slots → g.method = m → g.locals.size = c.maxLocals → decode c.code g.pc = .ok (ig, len) →
    2 * g.monitorRoom + (g.stack.map fun v => v.category).sum ≤ W9 → A.U.methodNamed? y = some mk → Pre A a →
    (∃ (v : Option Value) (B : Pt), Stand p l e R s m sargs below meth c B.U B.locs B.cells B.slots ∧ Post A a v B ∧
      Steps p.tables e below (doInvoke e (A.U.setTop g) [] mk a).1 (B.U.setTop { g with pc := g.pc + len, stack := v.toList ++ g.stack })) ∨
    (∃ (q : Addr) (B : Pt), Stand p l e R s m sargs below meth c B.U B.locs B.cells B.slots ∧ PostX A a q B ∧
      Steps p.tables e below (doInvoke e (A.U.setTop g) [] mk a).1 ((B.U.setTop g).pushFrame (.throwing q)))
section Payer
variable {l : Launch} {R : Room} {p : Program} {e : Env} {below : List Frame} {s : State} {sargs : Array Value} {y : MethodName} {len W9 : Nat}
theorem vx_back {ws : List Cond} {rm : Room} {Pc : Array Value → State → Prop} {Qc : Array Value → State → Outcome → State → Prop} {XC : String → State → State → Prop} {mc ms : Nat} {free : Addr → Prop} {bytes : ByteArray} {maxL : Nat} {ret : Option FieldType}
    (hM : vx_Met l y ws rm Pc Qc XC mc ms free) (hblind : FrameBlind Pc) (hrc : rm.cells = mc) (hrs : rm.slots = ms)
    (hframes : rm.frames + 1 ≤ R.frames) (hlocals : W9 + (maxL + 11) + rm.locals ≤ R.locals)
    (hws : ∀ w ∈ ws, ∀ a' U, s.WarmedH U.vm → w.before a' U = true) (hcode : Cond.code y bytes maxL ret ∈ ws) (hinit : ∀ a' U, s.WarmedH U.vm → (Cond.initialized y.cls).before a' U = true) :
    vx_Back l R p e below s sargs y len W9 (PreOf R mc ms Pc) (PostOf Qc mc ms free) (vx_Post XC mc ms free) := by
  intro m meth c A g ig mk a X hg hsize hdg hW hn hp
  have h1 : (headSpec ws rm).pre.before a A.U = true := atoms_intro fun w hw => hws w hw _ _ X.warmed
  have h2 : (Cond.code y bytes maxL ret).before a A.U = true := hws _ hcode _ _ X.warmed
  have h3 : (Cond.initialized y.cls).before a A.U = true := hinit _ _ X.warmed
  have h4 : A.cells + (headSpec ws rm).room.cells ≤ R.cells := by rw [show (headSpec ws rm).room.cells = mc from hrc]; exact hp.1
  have h5 : A.slots + (headSpec ws rm).room.slots ≤ R.slots := by rw [show (headSpec ws rm).room.slots = ms from hrs]; exact hp.2.1
  have hPc : Pc a (A.U.calling g mk a) := hblind _ _ _ _ hp.2.2
  obtain ⟨U, Ls, c0, s0⟩ := A
  dsimp only [Pt.U, Pt.locs, Pt.cells, Pt.slots] at h1 h2 h3 h4 h5 X hn hPc ⊢
  obtain ⟨methY, cY, hmY, hcY, -, hlY, -, -, -, -⟩ := Cond.code_spec hn h2
  obtain ⟨kY, hkY, -⟩ := className_of_methodNamed hn
  have hinitY : kY.init = .initialized := Cond.initialized_spec (findClass_of_methodNamed hn) hkY h3
  have h : At U g.method c below := by rw [hg]; exact X.here
  have hlocals9 : W9 + (maxL + 11) + (headSpec ws rm).room.locals ≤ R.locals := hlocals
  have happ : (headSpec ws rm).appliesLoose y e.platform (U.calling g mk a) = true :=
    Spec.appliesLoose_calling (g := g) h hdg hn hkY hinitY
      (X.room_calling (g := g) (R' := (headSpec ws rm).room) hsize hmY hcY hframes (by rw [hlY]; omega) h4 h5) h1
  obtain ⟨mid, hmid⟩ := h.above
  have hfr : (U.setTop g).frames = (.java g :: mid) ++ below := by rw [State.frames_setTop' g h.top, hmid]; rfl
  obtain ⟨o, s₂, hsteps, -, hend, hq⟩ := Steps.callFree hM p X.admits X.cas X.clock (acts := []) hfr happ hPc trivial
  have hq' : vx_Q Qc XC mc ms free a (U.calling g mk a) o s₂ := hq
  rw [State.frames_setTop' g h.top] at hend
  obtain ⟨g₀, hg0⟩ := Option.isSome_iff_exists.mp h.top
  obtain ⟨r, hr⟩ := State.topJava?_eq_some.mp hg0
  have hr' : (({ U with heap := s₂.heap, slotsUsed := s₂.slotsUsed } : State).setVm s₂.vm).frames = .java g₀ :: r := hr
  rcases hq' with ⟨hqc, L, hfe, hL⟩ | ⟨q, rfl, E, ce, L, hx, hce, hcv, hcl, hW₂, hsm, hL⟩
  · obtain ⟨⟨v, rfl⟩, hW₂, e2, q2, q3, q4, q5, q6⟩ := id hfe
    have e3 : s₂ = ({ (U.calling g mk a).setFrames s₂.frames with heap := s₂.heap, slotsUsed := s₂.slotsUsed } : State).setVm s₂.vm := by
      have : s₂ = ({ s₂ with vm := (U.calling g mk a).vm } : State).setVm s₂.vm := rfl
      rw [e2] at this
      exact this
    obtain ⟨c₂, i₂, len₂, hc₂, hd₂, hf₂⟩ := hend
    have hW' : U.WarmedH s₂.vm := hW₂
    have hcc : c₂ = c := by
      have h1 : s₂.code? g.method = U.code? g.method := by
        rw [State.code?_eq, State.code?_eq, hW'.alike.method?]
      exact Option.some.inj (hc₂.symm.trans (h1.trans h.code))
    subst hcc
    have hlen : len₂ = len := by rw [hdg] at hd₂; cases hd₂; rfl
    subst hlen
    have hs₂ : s₂ = (({ U with heap := s₂.heap, slotsUsed := s₂.slotsUsed } : State).setVm s₂.vm).setTop { g with pc := g.pc + len₂, stack := v.toList ++ g.stack } := by
      refine e3.trans ?_
      rw [hf₂, State.calling_eq h.top, State.setFrames_setFrames, State.setTop_of_frames _ hr', hr]
      rfl
    have hsame : U.sameButNew ({ U with heap := s₂.heap, slotsUsed := s₂.slotsUsed } : State) L mc ms := by
      refine ⟨?_, q2, q3, q4, q5, q6⟩
      obtain ⟨t, ht, -⟩ := State.frames_cons hr
      show ({ U with heap := s₂.heap, slotsUsed := s₂.slotsUsed } : State) = { U.setFrames U.frames with heap := s₂.heap, slotsUsed := s₂.slotsUsed }
      rw [State.setFrames_self ht]
    subst hg
    refine Or.inl ⟨v, ⟨(({ U with heap := s₂.heap, slotsUsed := s₂.slotsUsed } : State).setVm s₂.vm), Ls ++ L, c0 + mc, s0 + ms⟩,
      ⟨X.admits, X.cas, X.clock, X.frames, X.room, X.hears, X.method, X.code, (X.here.setHeapUsed s₂.heap s₂.slotsUsed).setVm hW'.alike, X.tail, State.WarmedH.trans X.warmed hW', X.limits, X.bytes, X.same.trans (hsame.setVm s.vm)⟩,
      ⟨g, mk, s₂, L, rfl, rfl, hqc, rfl, hL, rfl, rfl⟩, ?_⟩
    show Steps p.tables e below _ ((({ U with heap := s₂.heap, slotsUsed := s₂.slotsUsed } : State).setVm s₂.vm).setTop { g with pc := g.pc + len₂, stack := v.toList ++ g.stack })
    rw [← hs₂]
    exact hsteps
  · obtain ⟨e2, q2, q3, q4, q5, q6⟩ := id hsm
    have e3 : s₂ = ({ (U.calling g mk a).setFrames s₂.frames with heap := s₂.heap, slotsUsed := s₂.slotsUsed } : State).setVm s₂.vm := by
      have : s₂ = ({ s₂ with vm := (U.calling g mk a).vm } : State).setVm s₂.vm := rfl
      rw [e2] at this
      exact this
    have hf₂ : s₂.frames = .throwing q :: .java g :: U.frames.tail := hend
    have hW' : U.WarmedH s₂.vm := hW₂
    have hs₂ : s₂ = ((({ U with heap := s₂.heap, slotsUsed := s₂.slotsUsed } : State).setVm s₂.vm).setTop g).pushFrame (.throwing q) := by
      refine e3.trans ?_
      rw [hf₂, State.calling_eq h.top, State.setFrames_setFrames, State.pushFrame, State.frames_setTop _ hr', State.setTop_of_frames _ hr', State.setFrames_setFrames, hr]
      rfl
    have hsame : U.sameButNew ({ U with heap := s₂.heap, slotsUsed := s₂.slotsUsed } : State) L mc ms := by
      refine ⟨?_, q2, q3, q4, q5, q6⟩
      obtain ⟨t, ht, -⟩ := State.frames_cons hr
      show ({ U with heap := s₂.heap, slotsUsed := s₂.slotsUsed } : State) = { U.setFrames U.frames with heap := s₂.heap, slotsUsed := s₂.slotsUsed }
      rw [State.setFrames_self ht]
    subst hg
    refine Or.inr ⟨q, ⟨(({ U with heap := s₂.heap, slotsUsed := s₂.slotsUsed } : State).setVm s₂.vm), Ls ++ L, c0 + mc, s0 + ms⟩,
      ⟨X.admits, X.cas, X.clock, X.frames, X.room, X.hears, X.method, X.code, (X.here.setHeapUsed s₂.heap s₂.slotsUsed).setVm hW'.alike, X.tail, State.WarmedH.trans X.warmed hW', X.limits, X.bytes, X.same.trans (hsame.setVm s.vm)⟩,
      ⟨g, mk, s₂, L, E, ce, rfl, rfl, hx, hce, hcv, hcl, rfl, hL, rfl, rfl⟩, ?_⟩
    show Steps p.tables e below _ (((({ U with heap := s₂.heap, slotsUsed := s₂.slotsUsed } : State).setVm s₂.vm).setTop g).pushFrame (.throwing q))
    rw [← hs₂]
    exact hsteps
end Payer
section Calls
variable {p : Program} {l : Launch} {e : Env} {R : Room} {s : State} {m : MethodId} {args : Array Value} {below : List Frame} {meth : Method} {c : Code} {T : State} {locs : List Loc} {cells slots : Nat}
theorem vx_callV (X : Stand p l e R s m args below meth c T locs cells slots) (hexec : p.tables.exec = Jvm.exec) {own C : String} {index : Nat} {y : MethodName} {bytes : ByteArray} {maxL : Nat} {ret : Option FieldType}
    (hown : s.vm.findClass own = some m.cls) (hlink : (Cond.methodLink own index y).before args s = true) (hinst : (Cond.instanceMethod y).before args s = true) (hsel : (Cond.selects C y y).before args s = true)
    (hcode : (Cond.code y bytes maxL ret).before args s = true) (hy : y.cls ≠ "java/lang/invoke/MethodHandle" ∧ y.cls ≠ "java/lang/invoke/VarHandle")
    {W9 : Nat} {Pre : Pt → Array Value → Prop} {Post : Pt → Array Value → Option Value → Pt → Prop} {PostX : Pt → Array Value → Addr → Pt → Prop} (hK : vx_Back l R p e below s args y 3 W9 Pre Post PostX)
    {b : Addr} {cellB : Cell} (hcell : T.heap[b]? = some cellB) (hobj : cellB.vm.isStatics = false) (hcls : s.vm.findClass C = some cellB.cls)
    {g : JFrame} (hg : g.method = m) (hsize : g.locals.size = c.maxLocals) {argsL rest : List Value} (hlen : ∀ sig, parseMethodDescriptor y.desc = some sig → argsL.length = sig.parameters.length)
    (hstack : g.stack = argsL.reverse ++ .ref b :: rest) (hW : 2 * g.monitorRoom + (rest.map fun v => v.category).sum ≤ W9) (hdg : decode c.code g.pc = .ok (.invokevirtual index, 3))
    (hpre : ∀ vm₁, s.WarmedH vm₁ → Pre ⟨T.setVm vm₁, locs, cells, slots⟩ (Value.ref b :: argsL).toArray) :
    (∃ (v : Option Value) (vm₁ : Vm) (B : Pt), s.WarmedH vm₁ ∧ Stand p l e R s m args below meth c B.U B.locs B.cells B.slots ∧ Post ⟨T.setVm vm₁, locs, cells, slots⟩ (Value.ref b :: argsL).toArray v B ∧
      ∀ target, Steps p.tables e below (B.U.setTop { g with pc := g.pc + 3, stack := v.toList ++ rest }) target → Steps p.tables e below (T.setTop g) target) ∨
    (∃ (q : Addr) (vm₁ : Vm) (B : Pt), s.WarmedH vm₁ ∧ Stand p l e R s m args below meth c B.U B.locs B.cells B.slots ∧ PostX ⟨T.setVm vm₁, locs, cells, slots⟩ (Value.ref b :: argsL).toArray q B ∧
      Steps p.tables e below (T.setTop g) ((B.U.setTop { g with stack := rest }).pushFrame (.throwing q))) := by
  obtain ⟨mk, methM, hnamed, hmethM, hstM, habM⟩ := Cond.instanceMethod_spec hinst
  obtain ⟨methM', cM, hmethM', -, -, -, -, -, -, hsigM⟩ := Cond.code_spec hnamed hcode
  cases hmethM.symm.trans hmethM'
  obtain ⟨c2, r2, m2, q1, q2, q3, q4, kP, hkP, hkPi⟩ := Cond.selects_spec hsel
  cases hcls.symm.trans q1
  cases (State.methodFound?_of_named hnamed hy).symm.trans q2
  cases hnamed.symm.trans q3
  have hselP : selectMethod e.platform s.vm cellB.cls mk = .method mk := by rw [Launch.admits_selectMethod X.admits]; exact q4
  obtain ⟨vm₁, X₁, hstep₁⟩ := X.invokevirtual hexec hown hlink hnamed hmethM hstM hkP hkPi hy (a := b) (cell := cellB) hcell
    (fun z h => by rw [h] at hobj; cases hobj) hselP hmethM habM hkP hkPi (g := g) hg (argsL := argsL) (rest := rest) (hlen _ hsigM) hstack hdg
  rcases hK m meth c ⟨T.setVm vm₁, locs, cells, slots⟩ { g with stack := rest } (.invokevirtual index) mk (Value.ref b :: argsL).toArray X₁ hg hsize hdg hW (X₁.named hnamed) (hpre vm₁ X₁.warmed) with ⟨v, B, X', hpost, hsteps⟩ | ⟨q, B, X', hpost, hsteps⟩
  · exact Or.inl ⟨v, vm₁, B, X₁.warmed, X', hpost, fun target h => hstep₁ _ fun acts => by rw [doInvoke_state]; exact hsteps.trans h⟩
  · exact Or.inr ⟨q, vm₁, B, X₁.warmed, X', hpost, hstep₁ _ fun acts => by rw [doInvoke_state]; exact hsteps⟩
theorem vx_callS (X : Stand p l e R s m args below meth c T locs cells slots) (hexec : p.tables.exec = Jvm.exec) {own : String} {index : Nat} {y : MethodName} {bytes : ByteArray} {maxL : Nat} {ret : Option FieldType}
    (hown : s.vm.findClass own = some m.cls) (hlink : (Cond.methodLink own index y).before args s = true) (hstat : (Cond.static y).before args s = true) (hinit : (Cond.initialized y.cls).before args s = true)
    (hcode : (Cond.code y bytes maxL ret).before args s = true) (hy : y.cls ≠ "java/lang/invoke/MethodHandle" ∧ y.cls ≠ "java/lang/invoke/VarHandle")
    {W9 : Nat} {Pre : Pt → Array Value → Prop} {Post : Pt → Array Value → Option Value → Pt → Prop} {PostX : Pt → Array Value → Addr → Pt → Prop} (hK : vx_Back l R p e below s args y 3 W9 Pre Post PostX)
    {g : JFrame} (hg : g.method = m) (hsize : g.locals.size = c.maxLocals) {argsL rest : List Value} (hlen : ∀ sig, parseMethodDescriptor y.desc = some sig → argsL.length = sig.parameters.length)
    (hstack : g.stack = argsL.reverse ++ rest) (hW : 2 * g.monitorRoom + (rest.map fun v => v.category).sum ≤ W9) (hdg : decode c.code g.pc = .ok (.invokestatic index, 3))
    (hpre : ∀ vm₁, s.WarmedH vm₁ → Pre ⟨T.setVm vm₁, locs, cells, slots⟩ argsL.toArray) :
    (∃ (v : Option Value) (vm₁ : Vm) (B : Pt), s.WarmedH vm₁ ∧ Stand p l e R s m args below meth c B.U B.locs B.cells B.slots ∧ Post ⟨T.setVm vm₁, locs, cells, slots⟩ argsL.toArray v B ∧
      ∀ target, Steps p.tables e below (B.U.setTop { g with pc := g.pc + 3, stack := v.toList ++ rest }) target → Steps p.tables e below (T.setTop g) target) ∨
    (∃ (q : Addr) (vm₁ : Vm) (B : Pt), s.WarmedH vm₁ ∧ Stand p l e R s m args below meth c B.U B.locs B.cells B.slots ∧ PostX ⟨T.setVm vm₁, locs, cells, slots⟩ argsL.toArray q B ∧
      Steps p.tables e below (T.setTop g) ((B.U.setTop { g with stack := rest }).pushFrame (.throwing q))) := by
  obtain ⟨mk, hnamed⟩ := Cond.code_named hcode
  obtain ⟨methM, cM, hmethM, -, -, -, -, -, -, hsigM⟩ := Cond.code_spec hnamed hcode
  have hstatic : methM.isStatic = true := Cond.static_spec hnamed hmethM hstat
  obtain ⟨kP, hkP, -⟩ := className_of_methodNamed hnamed
  have hinitP : kP.init = .initialized := Cond.initialized_spec (findClass_of_methodNamed hnamed) hkP hinit
  obtain ⟨vm₁, X₁, hstep₁⟩ := X.invokestatic hexec hown hlink hnamed hmethM hstatic hkP hinitP hy (g := g) hg (argsL := argsL) (rest := rest) (hlen _ hsigM) hstack hdg
  rcases hK m meth c ⟨T.setVm vm₁, locs, cells, slots⟩ { g with stack := rest } (.invokestatic index) mk argsL.toArray X₁ hg hsize hdg hW (X₁.named hnamed) (hpre vm₁ X₁.warmed) with ⟨v, B, X', hpost, hsteps⟩ | ⟨q, B, X', hpost, hsteps⟩
  · exact Or.inl ⟨v, vm₁, B, X₁.warmed, X', hpost, fun target h => hstep₁ _ fun acts => by rw [doInvoke_state]; exact hsteps.trans h⟩
  · exact Or.inr ⟨q, vm₁, B, X₁.warmed, X', hpost, hstep₁ _ fun acts => by rw [doInvoke_state]; exact hsteps⟩
end Calls
theorem vx_cls {s : State} {T : State} {vm₁ : Vm} {E : String} {k : ClassId} (hW : s.WarmedH vm₁) (h : (T.setVm vm₁).vm.findClass E = some k) : s.vm.findClass E = some k := by
  have h1 : vm₁.findClass E = some k := h
  rw [hW.alike.findClass] at h1
  exact h1
/-- the method's frame g, with q thrown over it -/
def vx_W (p : Program) (l : Launch) (e : Env) (R : Room) (s : State) (m : MethodId) (args : Array Value) (below : List Frame) (meth : Method) (c : Code) (H : Heap) (locs : List Loc) (cells slots : Nat) (Q : State → Prop) (g : JFrame) (q : Addr) : Prop :=
  ∀ T : State, T.heap = H → Stand p l e R s m args below meth c T locs cells slots → ∃ t, Steps p.tables e below ((T.setTop g).pushFrame (.throwing q)) t ∧ Q t
def vx_Run (p : Program) (l : Launch) (e : Env) (R : Room) (s : State) (m : MethodId) (args : Array Value) (below : List Frame) (meth : Method) (c : Code) (H : Heap) (locs : List Loc) (cells slots mc ms : Nat) (g : JFrame) (rest : List Value) (Qa : State → Outcome → State → Prop) (XC : String → State → State → Prop) (free : Addr → Prop) : Prop :=
  ∀ T : State, T.heap = H → Stand p l e R s m args below meth c T locs cells slots →
    (∃ (v : Option Value) (st₀ t T' : State) (L : List Loc), st₀.heap = H ∧ Stand p l e R s m args below meth c T' (locs ++ L) (cells + mc) (slots + ms) ∧ (∀ q ∈ L, free q.base) ∧ T'.heap = t.heap ∧ T'.vm = t.vm ∧ Qa st₀ (.returned v) t ∧
      Goes p e below T g T' { g with pc := g.pc + 3, stack := v.toList ++ rest }) ∨
    (∃ (q : Addr) (st₀ t T' : State) (L : List Loc) (E : String) (ce : Cell), st₀.heap = H ∧ Stand p l e R s m args below meth c T' (locs ++ L) (cells + mc) (slots + ms) ∧ (∀ z ∈ L, free z.base) ∧ T'.heap = t.heap ∧ T'.vm = t.vm ∧ XC E st₀ t ∧ t.heap[q]? = some ce ∧ ce.vm = .none ∧ s.vm.findClass E = some ce.cls ∧
      Steps p.tables e below (T.setTop g) ((T'.setTop { g with stack := rest }).pushFrame (.throwing q)))
def vx_X {S : Type} (px : S → Prop) (B : String → S → State → Prop) (A : Nat → Prop) : String → State → State → Prop := fun E st t => ∃ u : S, px u ∧ B E u t ∧ va_F A st t
section Runs
variable {p : Program} {l : Launch} {e : Env} {R : Room} {s : State} {m : MethodId} {args : Array Value} {below : List Frame} {meth : Method} {c : Code} {H : Heap} {locs : List Loc} {cells slots : Nat}
variable {y : MethodName} {bytes cc : ByteArray} {maxL nL mc ms n index : Nat} {ret : Option FieldType} {ws : List Cond} {rm : Room} {Pc : Array Value → State → Prop} {Qc : Array Value → State → Outcome → State → Prop} {XC : String → State → State → Prop} {free : Addr → Prop} {Ts : List Cond} {own C : String} {b : Addr} {As rest : List Value} {g : JFrame}
theorem vx_callBack (cb : CallB R s args own index y bytes maxL ret ws rm mc ms n) (hM : vx_Met l y ws rm Pc Qc XC mc ms free) (hbl : FrameBlind Pc) : vx_Back l R p e below s args y 3 8 (PreOf R mc ms Pc) (PostOf Qc mc ms free) (vx_Post XC mc ms free) := by
  obtain ⟨hrc, hrs, hfr, hlo, hws, hcw, -, hini, -⟩ := cb
  exact vx_back (bytes := bytes) (maxL := maxL) (ret := ret) hM hbl hrc hrs hfr hlo hws hcw (fun a' U hW => word_at hW (Or.inl (by first | rfl | simp [Cond.onTables, Cond.keeps, Cond.steady])) hini)
theorem vx_runV (S : CallFix p m c cc nL s args Ts own) (hM : vx_Met l y ws rm Pc Qc XC mc ms free) (cw : CallW R s args own C index y bytes maxL ret ws rm mc ms n) (hp : PreV s H C b Pc As)
    (hg : g.method = m) (hn : As.length = n) (hsize : g.locals.size = nL) (hstack : g.stack = As.reverse ++ .ref b :: rest) (hW : 2 * g.monitorRoom + (rest.map fun v => v.category).sum ≤ 8) (hdg : decode cc g.pc = .ok (.invokevirtual index, 3)) (hf : cells + mc ≤ R.cells ∧ slots + ms ≤ R.slots) :
    vx_Run p l e R s m args below meth c H locs cells slots mc ms g rest (Qc (Value.ref b :: As).toArray) XC free := by
  have hK : vx_Back l R p e below s args y 3 8 (PreOf R mc ms Pc) (PostOf Qc mc ms free) (vx_Post XC mc ms free) := vx_callBack cw.1 hM hp.1
  obtain ⟨⟨-, -, -, -, -, -, hcode, -, hy, hlen, hl⟩, hin, hse⟩ := cw
  obtain ⟨hx, hb, hml, ho, -⟩ := S
  obtain ⟨-, ⟨cellB, hcB, hoB, hclB⟩, hPc⟩ := hp
  intro T hT X
  rcases vx_callV X hx (C := C) (bytes := bytes) (maxL := maxL) (ret := ret) ho hl hin hse hcode hy hK (by rw [hT]; exact hcB) hoB hclB hg (hsize.trans hml.symm) (argsL := As) (rest := rest) (fun sig h => hn.trans (hlen sig h)) hstack hW (by rw [hb]; exact hdg)
    (fun vm₁ hW₁ => ⟨hf.1, hf.2, hPc (T.setVm vm₁) hT hW₁⟩) with ⟨v, vm₁, ⟨U', l2, c2, s2⟩, hW₁, X', ⟨g', mk, t, L, e1, e2, hq, h1, hL, h2, h3⟩, st⟩ | ⟨q, vm₁, ⟨U', l2, c2, s2⟩, hW₁, X', ⟨g', mk, t, L, E, ce, e1, e2, hq, hce, hcv, hcl, h1, hL, h2, h3⟩, st⟩
  · dsimp only [Pt.U, Pt.locs, Pt.cells, Pt.slots] at X' e1 e2 h1 h2 h3 st
    subst h1; subst h2; subst h3
    exact Or.inl ⟨v, (T.setVm vm₁).calling g' mk (Value.ref b :: As).toArray, t, U', L, hT, X', hL, e1, e2, hq, st⟩
  · dsimp only [Pt.U, Pt.locs, Pt.cells, Pt.slots] at X' e1 e2 h1 h2 h3 st hcl
    subst h1; subst h2; subst h3
    exact Or.inr ⟨q, (T.setVm vm₁).calling g' mk (Value.ref b :: As).toArray, t, U', L, E, ce, hT, X', hL, e1, e2, hq, hce, hcv, vx_cls hW₁ hcl, st⟩
theorem vx_runS (S : CallFix p m c cc nL s args Ts own) (hM : vx_Met l y ws rm Pc Qc XC mc ms free) (cw : CallB R s args own index y bytes maxL ret ws rm mc ms n ∧ (Cond.static y).before args s = true) (hp : PreS s H Pc As)
    (hg : g.method = m) (hn : As.length = n) (hsize : g.locals.size = nL) (hstack : g.stack = As.reverse ++ rest) (hW : 2 * g.monitorRoom + (rest.map fun v => v.category).sum ≤ 8) (hdg : decode cc g.pc = .ok (.invokestatic index, 3)) (hf : cells + mc ≤ R.cells ∧ slots + ms ≤ R.slots) :
    vx_Run p l e R s m args below meth c H locs cells slots mc ms g rest (Qc As.toArray) XC free := by
  have hK : vx_Back l R p e below s args y 3 8 (PreOf R mc ms Pc) (PostOf Qc mc ms free) (vx_Post XC mc ms free) := vx_callBack cw.1 hM hp.1
  obtain ⟨⟨-, -, -, -, -, -, hcode, hini, hy, hlen, hl⟩, hstt⟩ := cw
  obtain ⟨hx, hb, hml, ho, -⟩ := S
  intro T hT X
  rcases vx_callS X hx (bytes := bytes) (maxL := maxL) (ret := ret) ho hl hstt hini hcode hy hK hg (hsize.trans hml.symm) (argsL := As) (rest := rest) (fun sig h => hn.trans (hlen sig h)) hstack hW (by rw [hb]; exact hdg)
    (fun vm₁ hW₁ => ⟨hf.1, hf.2, hp.2 (T.setVm vm₁) hT hW₁⟩) with ⟨v, vm₁, ⟨U', l2, c2, s2⟩, hW₁, X', ⟨g', mk, t, L, e1, e2, hq, h1, hL, h2, h3⟩, st⟩ | ⟨q, vm₁, ⟨U', l2, c2, s2⟩, hW₁, X', ⟨g', mk, t, L, E, ce, e1, e2, hq, hce, hcv, hcl, h1, hL, h2, h3⟩, st⟩
  · dsimp only [Pt.U, Pt.locs, Pt.cells, Pt.slots] at X' e1 e2 h1 h2 h3 st
    subst h1; subst h2; subst h3
    exact Or.inl ⟨v, (T.setVm vm₁).calling g' mk As.toArray, t, U', L, hT, X', hL, e1, e2, hq, st⟩
  · dsimp only [Pt.U, Pt.locs, Pt.cells, Pt.slots] at X' e1 e2 h1 h2 h3 st hcl
    subst h1; subst h2; subst h3
    exact Or.inr ⟨q, (T.setVm vm₁).calling g' mk As.toArray, t, U', L, E, ce, hT, X', hL, e1, e2, hq, hce, hcv, vx_cls hW₁ hcl, st⟩
end Runs
section Rows
variable {p : Program} {l : Launch} {e : Env} {R : Room} {s : State} {m : MethodId} {args : Array Value} {below : List Frame} {meth : Method} {c : Code} {H : Heap} {locs : List Loc} {cells slots : Nat} {Q : State → Prop}
variable {mc ms : Nat} {free : Addr → Prop} {A0 A1 : Nat → Prop} {H0 : Heap} {a : Array Value} {pc : Nat} {ls : Array Slot} {st0 rest : List Value}
theorem vx_keep {st₀ t T' : State} {L : List Loc} (h0 : st₀.heap = H) (e1 : T'.heap = t.heap) (hS : va_S A0 H0 H locs) (hA : ∀ q, q < H.size → A1 q → A0 q) (hf : ∀ q, free q → A0 q) (hL : ∀ q ∈ L, free q.base) (hF : va_F A1 st₀ t) :
    H.size ≤ T'.heap.size ∧ (∀ q : Nat, q < H.size → ¬ A1 q → T'.heap[q]? = H[q]?) ∧ va_S A0 H0 T'.heap (locs ++ L) := by
  obtain ⟨hz, hk⟩ := hF
  rw [h0] at hz hk
  exact ⟨by rw [e1]; exact hz, fun q h1 h2 => by rw [e1]; exact hk q h1 h2,
    ⟨Nat.le_trans hS.1 (by rw [e1]; exact hz), fun q h1 h2 => by rw [e1, hk q (Nat.lt_of_lt_of_le h1 hS.1) (fun z => h2 (hA q (Nat.lt_of_lt_of_le h1 hS.1) z))]; exact hS.2.1 q h1 h2, fun q hq => by
      rcases List.mem_append.mp hq with h | h
      · exact hS.2.2 q h
      · exact hf _ (hL q h)⟩⟩
theorem vx_calli {S SX : Type} {post : Int32 → S → Prop} {px : SX → Prop} {B : S → State → Prop} {BX : String → SX → State → Prop} {AX : Nat → Prop} (hr : vx_Run p l e R s m args below meth c H locs cells slots mc ms (F0 m pc ls st0) rest (va_Qi post B A1 a) (vx_X px BX AX) free) (hS : va_S A0 H0 H locs) (hA : ∀ q, q < H.size → A1 q → A0 q) (hf : ∀ q, free q → A0 q) (hAX : ∀ q, q < H.size → AX q → A0 q)
    (kx : ∀ (E : String) (ce : Cell) (q9 : Addr) (u : SX) (t : State) (H1 : Heap) (locs1 : List Loc), t.heap = H1 → s.vm.Alike t.vm → px u → BX E u t → H.size ≤ H1.size → (∀ q : Nat, q < H.size → ¬ AX q → H1[q]? = H[q]?) → va_S A0 H0 H1 locs1 → H1[q9]? = some ce → ce.vm = .none → s.vm.findClass E = some ce.cls → vx_W p l e R s m args below meth c H1 locs1 (cells + mc) (slots + ms) Q (F0 m pc ls rest) q9)
    (kk : ∀ (r : Int32) (u : S) (t : State) (H1 : Heap) (locs1 : List Loc), t.heap = H1 → s.vm.Alike t.vm → post r u → B u t → H.size ≤ H1.size → (∀ q : Nat, q < H.size → ¬ A1 q → H1[q]? = H[q]?) → va_S A0 H0 H1 locs1 → W p l e R s m args below meth c H1 locs1 (cells + mc) (slots + ms) Q (F0 m (pc + 3) ls (.int r :: rest))) : W p l e R s m args below meth c H locs cells slots Q (F0 m pc ls st0) := by
  intro T hT X
  rcases hr T hT X with ⟨v, st₀, t, T', L, h0, X', hL, e1, e2, ⟨⟨r, u, hv, hp, hb⟩, hF⟩, st⟩ | ⟨q, st₀, t, T', L, E, ce, h0, X', hL, e1, e2, ⟨u, hp, hb, hF⟩, hce, hcv, hcl, st⟩
  · cases hv
    obtain ⟨k1, k2, k3⟩ := vx_keep h0 e1 hS hA hf hL hF
    obtain ⟨t2, a1, b1⟩ := kk r u t T'.heap (locs ++ L) e1.symm (by rw [← e2]; exact X'.warmed.alike) hp hb k1 k2 k3 T' rfl X'
    exact ⟨t2, st t2 a1, b1⟩
  · obtain ⟨k1, k2, k3⟩ := vx_keep h0 e1 hS hAX hf hL hF
    obtain ⟨t2, a1, b1⟩ := kx E ce q u t T'.heap (locs ++ L) e1.symm (by rw [← e2]; exact X'.warmed.alike) hp hb k1 k2 k3 (by rw [e1]; exact hce) hcv hcl T' rfl X'
    exact ⟨t2, st.trans a1, b1⟩
theorem vx_calll {S SX : Type} {post : Int64 → S → Prop} {px : SX → Prop} {B : S → State → Prop} {BX : String → SX → State → Prop} {AX : Nat → Prop} (hr : vx_Run p l e R s m args below meth c H locs cells slots mc ms (F0 m pc ls st0) rest (va_Ql post B A1 a) (vx_X px BX AX) free) (hS : va_S A0 H0 H locs) (hA : ∀ q, q < H.size → A1 q → A0 q) (hf : ∀ q, free q → A0 q) (hAX : ∀ q, q < H.size → AX q → A0 q)
    (kx : ∀ (E : String) (ce : Cell) (q9 : Addr) (u : SX) (t : State) (H1 : Heap) (locs1 : List Loc), t.heap = H1 → s.vm.Alike t.vm → px u → BX E u t → H.size ≤ H1.size → (∀ q : Nat, q < H.size → ¬ AX q → H1[q]? = H[q]?) → va_S A0 H0 H1 locs1 → H1[q9]? = some ce → ce.vm = .none → s.vm.findClass E = some ce.cls → vx_W p l e R s m args below meth c H1 locs1 (cells + mc) (slots + ms) Q (F0 m pc ls rest) q9)
    (kk : ∀ (r : Int64) (u : S) (t : State) (H1 : Heap) (locs1 : List Loc), t.heap = H1 → s.vm.Alike t.vm → post r u → B u t → H.size ≤ H1.size → (∀ q : Nat, q < H.size → ¬ A1 q → H1[q]? = H[q]?) → va_S A0 H0 H1 locs1 → W p l e R s m args below meth c H1 locs1 (cells + mc) (slots + ms) Q (F0 m (pc + 3) ls (.long r :: rest))) : W p l e R s m args below meth c H locs cells slots Q (F0 m pc ls st0) := by
  intro T hT X
  rcases hr T hT X with ⟨v, st₀, t, T', L, h0, X', hL, e1, e2, ⟨⟨r, u, hv, hp, hb⟩, hF⟩, st⟩ | ⟨q, st₀, t, T', L, E, ce, h0, X', hL, e1, e2, ⟨u, hp, hb, hF⟩, hce, hcv, hcl, st⟩
  · cases hv
    obtain ⟨k1, k2, k3⟩ := vx_keep h0 e1 hS hA hf hL hF
    obtain ⟨t2, a1, b1⟩ := kk r u t T'.heap (locs ++ L) e1.symm (by rw [← e2]; exact X'.warmed.alike) hp hb k1 k2 k3 T' rfl X'
    exact ⟨t2, st t2 a1, b1⟩
  · obtain ⟨k1, k2, k3⟩ := vx_keep h0 e1 hS hAX hf hL hF
    obtain ⟨t2, a1, b1⟩ := kx E ce q u t T'.heap (locs ++ L) e1.symm (by rw [← e2]; exact X'.warmed.alike) hp hb k1 k2 k3 (by rw [e1]; exact hce) hcv hcl T' rfl X'
    exact ⟨t2, st.trans a1, b1⟩
theorem vx_callf {S SX : Type} {post : UInt32 → S → Prop} {px : SX → Prop} {B : S → State → Prop} {BX : String → SX → State → Prop} {AX : Nat → Prop} (hr : vx_Run p l e R s m args below meth c H locs cells slots mc ms (F0 m pc ls st0) rest (va_Qf post B A1 a) (vx_X px BX AX) free) (hS : va_S A0 H0 H locs) (hA : ∀ q, q < H.size → A1 q → A0 q) (hf : ∀ q, free q → A0 q) (hAX : ∀ q, q < H.size → AX q → A0 q)
    (kx : ∀ (E : String) (ce : Cell) (q9 : Addr) (u : SX) (t : State) (H1 : Heap) (locs1 : List Loc), t.heap = H1 → s.vm.Alike t.vm → px u → BX E u t → H.size ≤ H1.size → (∀ q : Nat, q < H.size → ¬ AX q → H1[q]? = H[q]?) → va_S A0 H0 H1 locs1 → H1[q9]? = some ce → ce.vm = .none → s.vm.findClass E = some ce.cls → vx_W p l e R s m args below meth c H1 locs1 (cells + mc) (slots + ms) Q (F0 m pc ls rest) q9)
    (kk : ∀ (r : UInt32) (u : S) (t : State) (H1 : Heap) (locs1 : List Loc), t.heap = H1 → s.vm.Alike t.vm → post r u → B u t → H.size ≤ H1.size → (∀ q : Nat, q < H.size → ¬ A1 q → H1[q]? = H[q]?) → va_S A0 H0 H1 locs1 → W p l e R s m args below meth c H1 locs1 (cells + mc) (slots + ms) Q (F0 m (pc + 3) ls (.float r :: rest))) : W p l e R s m args below meth c H locs cells slots Q (F0 m pc ls st0) := by
  intro T hT X
  rcases hr T hT X with ⟨v, st₀, t, T', L, h0, X', hL, e1, e2, ⟨⟨r, u, hv, hp, hb⟩, hF⟩, st⟩ | ⟨q, st₀, t, T', L, E, ce, h0, X', hL, e1, e2, ⟨u, hp, hb, hF⟩, hce, hcv, hcl, st⟩
  · cases hv
    obtain ⟨k1, k2, k3⟩ := vx_keep h0 e1 hS hA hf hL hF
    obtain ⟨t2, a1, b1⟩ := kk r u t T'.heap (locs ++ L) e1.symm (by rw [← e2]; exact X'.warmed.alike) hp hb k1 k2 k3 T' rfl X'
    exact ⟨t2, st t2 a1, b1⟩
  · obtain ⟨k1, k2, k3⟩ := vx_keep h0 e1 hS hAX hf hL hF
    obtain ⟨t2, a1, b1⟩ := kx E ce q u t T'.heap (locs ++ L) e1.symm (by rw [← e2]; exact X'.warmed.alike) hp hb k1 k2 k3 (by rw [e1]; exact hce) hcv hcl T' rfl X'
    exact ⟨t2, st.trans a1, b1⟩
theorem vx_calld {S SX : Type} {post : UInt64 → S → Prop} {px : SX → Prop} {B : S → State → Prop} {BX : String → SX → State → Prop} {AX : Nat → Prop} (hr : vx_Run p l e R s m args below meth c H locs cells slots mc ms (F0 m pc ls st0) rest (va_Qd post B A1 a) (vx_X px BX AX) free) (hS : va_S A0 H0 H locs) (hA : ∀ q, q < H.size → A1 q → A0 q) (hf : ∀ q, free q → A0 q) (hAX : ∀ q, q < H.size → AX q → A0 q)
    (kx : ∀ (E : String) (ce : Cell) (q9 : Addr) (u : SX) (t : State) (H1 : Heap) (locs1 : List Loc), t.heap = H1 → s.vm.Alike t.vm → px u → BX E u t → H.size ≤ H1.size → (∀ q : Nat, q < H.size → ¬ AX q → H1[q]? = H[q]?) → va_S A0 H0 H1 locs1 → H1[q9]? = some ce → ce.vm = .none → s.vm.findClass E = some ce.cls → vx_W p l e R s m args below meth c H1 locs1 (cells + mc) (slots + ms) Q (F0 m pc ls rest) q9)
    (kk : ∀ (r : UInt64) (u : S) (t : State) (H1 : Heap) (locs1 : List Loc), t.heap = H1 → s.vm.Alike t.vm → post r u → B u t → H.size ≤ H1.size → (∀ q : Nat, q < H.size → ¬ A1 q → H1[q]? = H[q]?) → va_S A0 H0 H1 locs1 → W p l e R s m args below meth c H1 locs1 (cells + mc) (slots + ms) Q (F0 m (pc + 3) ls (.double r :: rest))) : W p l e R s m args below meth c H locs cells slots Q (F0 m pc ls st0) := by
  intro T hT X
  rcases hr T hT X with ⟨v, st₀, t, T', L, h0, X', hL, e1, e2, ⟨⟨r, u, hv, hp, hb⟩, hF⟩, st⟩ | ⟨q, st₀, t, T', L, E, ce, h0, X', hL, e1, e2, ⟨u, hp, hb, hF⟩, hce, hcv, hcl, st⟩
  · cases hv
    obtain ⟨k1, k2, k3⟩ := vx_keep h0 e1 hS hA hf hL hF
    obtain ⟨t2, a1, b1⟩ := kk r u t T'.heap (locs ++ L) e1.symm (by rw [← e2]; exact X'.warmed.alike) hp hb k1 k2 k3 T' rfl X'
    exact ⟨t2, st t2 a1, b1⟩
  · obtain ⟨k1, k2, k3⟩ := vx_keep h0 e1 hS hAX hf hL hF
    obtain ⟨t2, a1, b1⟩ := kx E ce q u t T'.heap (locs ++ L) e1.symm (by rw [← e2]; exact X'.warmed.alike) hp hb k1 k2 k3 (by rw [e1]; exact hce) hcv hcl T' rfl X'
    exact ⟨t2, st.trans a1, b1⟩
theorem vx_callv {S SX : Type} {post : S → Prop} {px : SX → Prop} {B : S → State → Prop} {BX : String → SX → State → Prop} {AX : Nat → Prop} (hr : vx_Run p l e R s m args below meth c H locs cells slots mc ms (F0 m pc ls st0) rest (va_Qv post B A1 a) (vx_X px BX AX) free) (hS : va_S A0 H0 H locs) (hA : ∀ q, q < H.size → A1 q → A0 q) (hf : ∀ q, free q → A0 q) (hAX : ∀ q, q < H.size → AX q → A0 q)
    (kx : ∀ (E : String) (ce : Cell) (q9 : Addr) (u : SX) (t : State) (H1 : Heap) (locs1 : List Loc), t.heap = H1 → s.vm.Alike t.vm → px u → BX E u t → H.size ≤ H1.size → (∀ q : Nat, q < H.size → ¬ AX q → H1[q]? = H[q]?) → va_S A0 H0 H1 locs1 → H1[q9]? = some ce → ce.vm = .none → s.vm.findClass E = some ce.cls → vx_W p l e R s m args below meth c H1 locs1 (cells + mc) (slots + ms) Q (F0 m pc ls rest) q9)
    (kk : ∀ (u : S) (t : State) (H1 : Heap) (locs1 : List Loc), t.heap = H1 → s.vm.Alike t.vm → post u → B u t → H.size ≤ H1.size → (∀ q : Nat, q < H.size → ¬ A1 q → H1[q]? = H[q]?) → va_S A0 H0 H1 locs1 → W p l e R s m args below meth c H1 locs1 (cells + mc) (slots + ms) Q (F0 m (pc + 3) ls (rest))) : W p l e R s m args below meth c H locs cells slots Q (F0 m pc ls st0) := by
  intro T hT X
  rcases hr T hT X with ⟨v, st₀, t, T', L, h0, X', hL, e1, e2, ⟨⟨u, hv, hp, hb⟩, hF⟩, st⟩ | ⟨q, st₀, t, T', L, E, ce, h0, X', hL, e1, e2, ⟨u, hp, hb, hF⟩, hce, hcv, hcl, st⟩
  · cases hv
    obtain ⟨k1, k2, k3⟩ := vx_keep h0 e1 hS hA hf hL hF
    obtain ⟨t2, a1, b1⟩ := kk u t T'.heap (locs ++ L) e1.symm (by rw [← e2]; exact X'.warmed.alike) hp hb k1 k2 k3 T' rfl X'
    exact ⟨t2, st t2 a1, b1⟩
  · obtain ⟨k1, k2, k3⟩ := vx_keep h0 e1 hS hAX hf hL hF
    obtain ⟨t2, a1, b1⟩ := kx E ce q u t T'.heap (locs ++ L) e1.symm (by rw [← e2]; exact X'.warmed.alike) hp hb k1 k2 k3 (by rw [e1]; exact hce) hcv hcl T' rfl X'
    exact ⟨t2, st.trans a1, b1⟩
/-- caught by the row x of this method's table; the rows ahead don't take it -/
theorem vx_catch {own name : String} {E : String} {ce : Cell} {q : Addr} (hown : s.vm.findClass own = some m.cls) (pre : List ExceptionTableEntry) (x : ExceptionTableEntry) (suf : List ExceptionTableEntry) (hsplit : c.exceptionTable.toList = pre ++ x :: suf)
    (hpass : ∀ z ∈ pre, covers z pc = false ∨ (z.catchType ≠ 0 ∧ ∃ nm : String, (Cond.classLink own z.catchType nm).before args s = true ∧ va_Nc E nm s)) (hx : covers x pc = true) (h0 : x.catchType ≠ 0)
    (hlink : (Cond.classLink own x.catchType name).before args s = true) (hcast : (Cond.castable E name).before args s = true) (hcell : H[q]? = some ce) (hv : ce.vm = .none) (hcl : s.vm.findClass E = some ce.cls)
    (kk : W p l e R s m args below meth c H locs cells slots Q (F0 m x.handlerPc ls [.ref q])) : vx_W p l e R s m args below meth c H locs cells slots Q (F0 m pc ls rest) q := by
  intro T hT X
  have hpl : e.platform.magicAccessors = ({} : Platform).magicAccessors := by rw [X.admits.platform]
  obtain ⟨c3, c4, hc3, hc4, hasg⟩ := Cond.castable_spec hcast
  cases Option.some.inj (hc3.symm.trans hcl)
  obtain ⟨c5, hc5, hcl5⟩ := Cond.classLink_spec hown hlink e.platform hpl
  cases Option.some.inj (hc4.symm.trans hc5)
  obtain ⟨vm', X', st⟩ := Stand.thenCaughtThrough X q (g := F0 m pc ls rest) rfl (Steps.refl _) (by rw [hT]; exact hcell) (by rw [hv]; rfl) (by obtain ⟨k9, h9, -⟩ := Vm.findClass_spec hcl; exact ⟨k9, h9⟩) pre x suf hsplit
    (fun z hz => by
      rcases hpass z hz with h | ⟨hz0, nm, hl1, hn1⟩
      · exact Or.inl h
      · obtain ⟨c6, hc6, hcl6⟩ := Cond.classLink_spec hown hl1 e.platform hpl
        obtain ⟨a8, b8, h1, h2, h3⟩ := hn1
        cases Option.some.inj (h1.symm.trans hcl)
        cases Option.some.inj (h2.symm.trans hc6)
        exact Or.inr ⟨hz0, _, hcl6, h3⟩) hx (Or.inr ⟨h0, c4, hcl5, hasg⟩)
  obtain ⟨t, a1, b1⟩ := kk (T.setVm vm') hT X'
  exact ⟨t, st.trans a1, b1⟩
end Rows
section Ends
variable {p : Program} {l : Launch} {e : Env} {R : Room} {s : State} {m : MethodId} {args : Array Value} {below : List Frame} {meth : Method} {c : Code} {H : Heap} {locs : List Loc} {cells slots : Nat} {Q : State → Prop}
variable {mc ms : Nat} {free : Addr → Prop} {A0 A1 : Nat → Prop} {H0 : Heap} {a : Array Value} {ls : Array Slot} {st0 rest : List Value}
variable {Qc : Array Value → State → Outcome → State → Prop} {XC : String → State → State → Prop}
/-- what a body that may throw owes at its end -/
def vx_MQ (below : List Frame) (Qc : Array Value → State → Outcome → State → Prop) (XC : String → State → State → Prop) (a : Array Value) (s : State) (mc ms : Nat) (free : Addr → Prop) : State → Prop := fun t =>
  ∃ o, t.status = .running ∧ Ended t below o ∧ vx_Q Qc XC mc ms free a s o t
theorem vx_ret {g : JFrame} {mc ms : Nat} (k : W p l e R s m args below meth c H locs cells slots (MQ below Qc args s mc ms free) g) : W p l e R s m args below meth c H locs cells slots (vx_MQ below Qc XC args s mc ms free) g := by
  intro T hT X
  obtain ⟨t, a1, o, b1, b2, b3, b4⟩ := k T hT X
  exact ⟨t, a1, o, b1, b2, Or.inl ⟨b3, b4⟩⟩
/-- not caught here: it goes on to the caller -/
theorem vx_widen {g : JFrame} {q : Addr} {k n : Nat} (h1 : cells ≤ k) (h2 : slots ≤ n) (kk : vx_W p l e R s m args below meth c H locs k n Q g q) : vx_W p l e R s m args below meth c H locs cells slots Q g q := fun T hT X => kk T hT (stand_widen X h1 h2)
theorem vx_out {pc : Nat} {E : String} {ce : Cell} {q : Addr} {mc ms : Nat} (hout : ∀ x ∈ c.exceptionTable.toList, covers x pc = false) (hlocks : meth.locks = false) (hcell : H[q]? = some ce) (hv : ce.vm = .none) (hcl : s.vm.findClass E = some ce.cls)
    (hx : ∀ t : State, t.heap = H → s.vm.Alike t.vm → XC E s t) (hf : ∀ z ∈ locs, free z.base) (hc : cells ≤ mc) (hs : slots ≤ ms) :
    vx_W p l e R s m args below meth c H locs cells slots (vx_MQ below Qc XC args s mc ms free) (F0 m pc ls rest) q := by
  intro T hT X
  obtain ⟨st1, hrun, hend, hW, hsm⟩ := X.leaveThrown q (g := F0 m pc ls rest) rfl rfl rfl hout hlocks
  have hcell9 : (T.setFrames (.throwing q :: below)).heap[q]? = some ce := by
    show T.heap[q]? = some ce
    rw [hT]; exact hcell
  exact ⟨_, st1, .threw q, hrun, hend, Or.inr ⟨q, rfl, E, ce, locs, hx _ hT hW.alike, hcell9, hv, hcl, hW, hsm.mono hc hs, hf⟩⟩
theorem vx_frame {U : State} {k n : Nat} (h : s.sameButNew ({ U with vm := s.vm } : State) locs k n) : s.heap.size ≤ U.heap.size ∧ ∀ q : Nat, q < s.heap.size → (∀ z ∈ locs, z.base ≠ q) → U.heap[q]? = s.heap[q]? := by
  obtain ⟨-, h2, -, -, -, h6⟩ := h
  refine ⟨h2, fun q hq hz => ?_⟩
  obtain ⟨c9, e1, e2, e3, e4⟩ := h6 q _ (Array.getElem?_eq_getElem hq)
  have hs : c9.slots = (s.heap[q]).slots := Array.ext_getElem? fun i => e4 i fun hm => hz _ hm rfl
  have h9 : c9 = s.heap[q] := by
    rw [hs] at e2
    exact e2
  have e5 : U.heap[q]? = some c9 := e1
  rw [e5, h9, Array.getElem?_eq_getElem hq]
/-- the words of a throw but the four that speak of the heap -/
def vx_no (w : Cond) : Bool := decide (w ≠ .isRef (.static Bundle.tN "UNASSIGNED_STACK" Bundle.steD)) && decide (w ≠ .isRef (.static Bundle.tN "SUPPRESSED_SENTINEL" Bundle.listD)) && decide (w ≠ .laysStatic Bundle.tN "UNASSIGNED_STACK" Bundle.steD) && decide (w ≠ .laysStatic Bundle.tN "SUPPRESSED_SENTINEL" Bundle.listD)
def vx_at0 (own : String) (ic : Nat) (X : String) (names : List String) : List Cond := (Bundle.ownAtoms0 own ic X names).filter vx_no
def vx_atS (own : String) (ic : Nat) (X : String) (names : List String) : List Cond := (Bundle.ownAtoms own ic X names).filter vx_no
/-- a word that the tables alone decide, or a good one -/
def vx_ot (w : Cond) : Bool := w.onTables || goodWord w
theorem vx_ot_at {args a' : Array Value} {s U : State} {w : Cond} (hW : s.WarmedH U.vm) (hvm : s.vm = U.vm) (hg : vx_ot w = true) (h : w.before args s = true) : w.before a' U = true := by
  simp only [vx_ot, Bool.or_eq_true] at hg
  rcases hg with hg | hg
  · exact va_tabs hg hvm h
  · exact word_at hW (good_of_word hg) h
/-- a list's words: the good ones out of the method's own list, the others by premises of their own -/
theorem vx_hat {args : Array Value} {s : State} {L B : List Cond} (h1 : ∀ w ∈ L.filter goodWord, w.before args s = true) (h2 : ∀ w ∈ L.filter (fun w => !goodWord w), w ∈ B) (h3 : ∀ w ∈ B, w.before args s = true) : ∀ w ∈ L, w.before args s = true := by
  intro w hw
  by_cases g : goodWord w = true
  · exact h1 w (List.mem_filter.mpr ⟨hw, g⟩)
  · refine h3 w (h2 w (List.mem_filter.mpr ⟨hw, ?_⟩))
    show (!goodWord w) = true
    cases hgw : goodWord w
    · rfl
    · exact absurd hgw g
theorem vx_c {args : Array Value} {s : State} {w : Cond} {B : List Cond} (h : w.before args s = true) (t : ∀ w ∈ B, w.before args s = true) : ∀ w' ∈ w :: B, w'.before args s = true := fun w' h' => (List.mem_cons.mp h').elim (fun e => by rw [e]; exact h) (t w')
theorem vx_n {args : Array Value} {s : State} : ∀ w ∈ ([] : List Cond), w.before args s = true := fun _ h => nomatch h
theorem vx_own {args : Array Value} {s : State} {L : List Cond} (h1 : ∀ w ∈ L.filter vx_no, w.before args s = true)
    (hU : (Cond.isRef (.static Bundle.tN "UNASSIGNED_STACK" Bundle.steD)).before args s = true) (hN : (Cond.isRef (.static Bundle.tN "SUPPRESSED_SENTINEL" Bundle.listD)).before args s = true)
    (lU : (Cond.laysStatic Bundle.tN "UNASSIGNED_STACK" Bundle.steD).before args s = true) (lN : (Cond.laysStatic Bundle.tN "SUPPRESSED_SENTINEL" Bundle.listD).before args s = true) : ∀ w ∈ L, w.before args s = true := by
  intro w hw
  by_cases e1 : w = .isRef (.static Bundle.tN "UNASSIGNED_STACK" Bundle.steD)
  · rw [e1]; exact hU
  · by_cases e2 : w = .isRef (.static Bundle.tN "SUPPRESSED_SENTINEL" Bundle.listD)
    · rw [e2]; exact hN
    · by_cases e3 : w = .laysStatic Bundle.tN "UNASSIGNED_STACK" Bundle.steD
      · rw [e3]; exact lU
      · by_cases e4 : w = .laysStatic Bundle.tN "SUPPRESSED_SENTINEL" Bundle.listD
        · rw [e4]; exact lN
        · exact h1 w (List.mem_filter.mpr ⟨hw, by unfold vx_no; rw [decide_eq_true e1, decide_eq_true e2, decide_eq_true e3, decide_eq_true e4]; rfl⟩)
/-- where a static field lies, its class's statics cell in H -/
def vx_L (C n d : String) (A : Nat → Prop) (U : State) (H : Heap) : Prop := ∃ (c : ClassId) (k : Class) (i : Nat) (f : Field) (a : Nat) (cell : Cell), U.vm.findClass C = some c ∧ U.fieldFound? C n d = some (c, k, i, f) ∧ f.isStatic = true ∧ k.statics = some a ∧ H[a]? = some cell ∧ cell.vm.isStatics = true ∧ cell.cls = c ∧ f.slot < cell.slots.size ∧ k.staticTypes[f.slot]? = some f.type ∧ ¬ A a
theorem vx_L.moved {C n d : String} {A : Nat → Prop} {u U : State} {H : Heap} (hvm : u.vm.Alike U.vm) (h : vx_L C n d A u H) : vx_L C n d A U H := by
  obtain ⟨c, k, i, f, a, cell, h1, h2, h3, h4, h5, h6, h7, h8, h9, h10⟩ := h
  obtain ⟨k', hi', he⟩ := State.fieldFound?_setVm hvm h2
  exact ⟨c, k', i, f, a, cell, by rw [hvm.findClass]; exact h1, hi', h3, by rw [he]; exact h4, h5, h6, h7, h8, by rw [he]; exact h9, h10⟩
theorem vx_L.kept {C n d : String} {A : Nat → Prop} {U : State} {H H1 : Heap} (h : vx_L C n d A U H) (hq : ∀ a : Nat, a < H.size → ¬ A a → H1[a]? = H[a]?) : vx_L C n d A U H1 := by
  obtain ⟨c, k, i, f, a, cell, h1, h2, h3, h4, h5, h6, h7, h8, h9, h10⟩ := h
  exact ⟨c, k, i, f, a, cell, h1, h2, h3, h4, by rw [hq a (Array.getElem?_eq_some_iff.mp h5).1 h10]; exact h5, h6, h7, h8, h9, h10⟩
theorem vx_L.narrow {C n d : String} {A B : Nat → Prop} {U : State} {H : Heap} (h : vx_L C n d A U H) (hAB : ∀ q, B q → A q) : vx_L C n d B U H := by
  obtain ⟨c, k, i, f, a, cell, h1, h2, h3, h4, h5, h6, h7, h8, h9, h10⟩ := h
  exact ⟨c, k, i, f, a, cell, h1, h2, h3, h4, h5, h6, h7, h8, h9, fun z => h10 (hAB _ z)⟩
theorem vx_L.word {C n d : String} {A : Nat → Prop} {s : State} {args : Array Value} (h : vx_L C n d A s s.heap) : (Cond.laysStatic C n d).before args s = true := by
  obtain ⟨c, k, i, f, a, cell, h1, h2, h3, h4, h5, h6, h7, h8, h9, -⟩ := h
  show (Cond.laysStatic C n d).holds args s none s [] = true
  exact Cond.laysStatic_of h1 h2 h3 h4 h5 h6 h7 h8 h9
/-- .. and what it holds: null or some reference -/
def vx_Zq (C n d : String) (A : Nat → Prop) (U : State) (H : Heap) : Prop := va_Zq C n d A U H ∧ vx_L C n d A U H
theorem vx_Zq.moved {C n d : String} {A : Nat → Prop} {u U : State} {H : Heap} (hvm : u.vm.Alike U.vm) (h : vx_Zq C n d A u H) : vx_Zq C n d A U H := ⟨va_Zq.moved hvm h.1, vx_L.moved hvm h.2⟩
theorem vx_Zq.kept {C n d : String} {A : Nat → Prop} {U : State} {H H1 : Heap} (h : vx_Zq C n d A U H) (hq : ∀ a : Nat, a < H.size → ¬ A a → H1[a]? = H[a]?) : vx_Zq C n d A U H1 := ⟨va_Zq.kept h.1 hq, vx_L.kept h.2 hq⟩
theorem vx_Zq.narrow {C n d : String} {A B : Nat → Prop} {U : State} {H : Heap} (h : vx_Zq C n d A U H) (hAB : ∀ q, B q → A q) : vx_Zq C n d B U H := ⟨va_Zq.narrow h.1 hAB, vx_L.narrow h.2 hAB⟩
theorem vx_Zqof {args : Array Value} {s : State} {C n d : String} {A : Nat → Prop} (hl : (Cond.laysStatic C n d).before args s = true) (hini : (Cond.initialized C).before args s = true) (h : (Cond.isRef (.static C n d)).before args s = true) (hA : ∀ a : Nat, a < s.heap.size → ¬ A a) : vx_Zq C n d A s s.heap := by
  refine ⟨va_Zqof hl hini h hA, ?_⟩
  obtain ⟨c, k, i, f, a, cell, h1, h2, h3, h4, h5, h6, h7, h8, h9⟩ := Cond.laysStatic_spec hl
  exact ⟨c, k, i, f, a, cell, h1, h2, h3, h4, h5, h6, h7, h8, h9, hA a (Array.getElem?_eq_some_iff.mp h5).1⟩
theorem vx_isRef {C n d : String} {v : Value} {A : Nat → Prop} {s : State} {args : Array Value} (h : va_Z C n d v A s s.heap) (hv : v.isRef = true) : (Cond.isRef (.static C n d)).before args s = true := by
  obtain ⟨cf, kf, fi, f, a, cell, h1, h2, h3, h4, h5, h6, h7, -⟩ := h
  have he : (Term.static C n d).eval args s none [] s = some v := by
    simp [Term.eval, State.fieldNamed?, h1, h2, h4, h5, h6, h7]
  simp only [Cond.before, Cond.holds, Cond.value, he]
  cases v <;> simp_all [Value.isRef]
theorem vx_isRefq {C n d : String} {A : Nat → Prop} {s : State} {args : Array Value} (h : va_Zq C n d A s s.heap) : (Cond.isRef (.static C n d)).before args s = true := by
  rcases h with h | ⟨t, h⟩
  · exact vx_isRef h rfl
  · exact vx_isRef h rfl
/-- the same frame, seen from here: as if the method were called anew in this heap -/
theorem vx_rebase {T : State} (X : Stand p l e R s m args below meth c T locs cells slots) {R' : Room} (hf : R'.frames ≤ R.frames) (hl : R'.locals ≤ R.locals) (hc : cells + R'.cells ≤ R.cells) (hs : slots + R'.slots ≤ R.slots) :
    Stand p l e R' ((T.setVm s.vm).setFrames (.invoking m args :: below)) m args below meth c T [] 0 0 := by
  have htop : (T.setVm s.vm).topJava?.isSome := X.here.top
  have hF : ((T.setVm s.vm).setFrames (.invoking m args :: below)).frames = .invoking m args :: below := State.frames_setFrames _ (State.cur_lt_of_top htop)
  obtain ⟨g₀, hg0⟩ := Option.isSome_iff_exists.mp htop
  obtain ⟨r, hr⟩ := State.topJava?_eq_some.mp hg0
  have hl9 : e.platform.stackLimits (T.setVm s.vm).me = e.platform.stackLimits s.me := X.limits
  have hb9 : (T.setVm s.vm).me.stackBytes = s.me.stackBytes := X.bytes
  refine ⟨X.admits, X.cas, X.clock, hF, ?_, X.hears, X.method, X.code, X.here, X.tail, X.warmed, ?_, ?_, ?_⟩
  · have h := X.room
    have hU : ((T.setVm s.vm).setFrames (.invoking m args :: below)).localsInUse = s.localsInUse := by
      rw [State.localsInUse_invoking hF (meth := meth) (c := c) X.method X.code, State.localsInUse_invoking X.frames X.method X.code]
    simp only [State.hasRoom, Bool.and_eq_true, decide_eq_true_eq] at h ⊢
    obtain ⟨⟨⟨⟨h1, h2, h3, h4, h5, h6⟩, h7⟩, h8⟩, h9⟩ := h
    rw [X.frames, List.length_cons] at h2 h3
    have q1 := X.heapSize
    have q2 := X.used
    simp only [hF, hU, List.length_cons, State.stackLimits_setFrames, State.stackBytes_setFrames, hl9, hb9]
    refine ⟨⟨⟨⟨by omega, by omega, by omega, by omega, by omega, h6⟩, ?_⟩, ?_⟩, X.book⟩
    · show T.heap.size + R'.cells ≤ e.platform.maxCells
      omega
    · show T.slotsUsed + R'.slots ≤ e.platform.maxSlots
      omega
  · rw [State.stackLimits_setFrames]; rfl
  · rw [State.stackBytes_setFrames]; rfl
  · refine ⟨?_, Nat.le_refl _, Nat.le_refl _, ?_, ?_, fun a c9 h9 => ⟨c9, h9, rfl, rfl, fun _ _ => rfl⟩⟩
    · obtain ⟨t, ht, -⟩ := State.frames_cons hr
      show T.setVm s.vm = { ((T.setVm s.vm).setFrames (.invoking m args :: below)).setFrames (T.setVm s.vm).frames with heap := T.heap, slotsUsed := T.slotsUsed }
      rw [State.setFrames_setFrames, State.setFrames_self ht]
      rfl
    · show T.slotsUsed = T.slotsUsed + ((T.heap.toList.drop T.heap.size).map (·.slots.size)).sum
      rw [List.drop_eq_nil_of_le (Nat.le_of_eq Array.length_toList)]
      rfl
    · show ((T.heap.toList.drop T.heap.size).map (·.slots.size)).sum ≤ 0
      rw [List.drop_eq_nil_of_le (Nat.le_of_eq Array.length_toList)]
      exact Nat.le_refl _
end Ends
section Bodies
variable {l : Launch}
theorem vx_ofW {y : MethodName} {ws ws' : List Cond} {rm : Room} {Pc : Array Value → State → Prop} {Qc : Array Value → State → Outcome → State → Prop} {XC : String → State → State → Prop} {mc ms : Nat} {free : Addr → Prop} {cc : ByteArray} {maxL : Nat} {ret : Option FieldType}
    (hy : plainName y.cls = true) (hw : ws = Cond.code y cc maxL ret :: ws')
    (body : ∀ p e s m args below meth c s₁, BodyLoose p l y (headSpec ws rm) cc maxL ret e s m args below meth c s₁ → c.maxLocals = maxL → (∀ x ∈ c.exceptionTable.toList, False) → Pc args s →
      W p l e (headSpec ws rm).room s m args below meth c s.heap [] 0 0 (vx_MQ below Qc XC args s mc ms free) (entryFrame m args maxL)) : vx_Met l y ws rm Pc Qc XC mc ms free := by
  refine MetFree.of_bodyS (code := cc) (maxLocals := maxL) (ret := ret) hy ?_ ?_
  · intro args s m h hn
    obtain ⟨meth, c, h1, h2, h3, h4, h5, h6, -, -⟩ := Cond.code_spec hn (atoms_spec (ws := ws) h _ (by rw [hw]; exact List.mem_cons_self))
    exact ⟨meth, c, h1, h2, h3, h4, h5, h6⟩
  · intro p e s m args below meth c s₁ B hml hP _
    have hh0 : s₁.heap = s.heap := by rw [B.state]; rfl
    have ht : ∀ x ∈ c.exceptionTable.toList, False := by
      obtain ⟨meth9, c9, h1, h2, -, -, -, -, h7, -⟩ := Cond.code_spec B.named (atoms_spec (ws := ws) B.pre _ (by rw [hw]; exact List.mem_cons_self))
      cases Option.some.inj (h1.symm.trans B.method)
      cases Option.some.inj (h2.symm.trans (Stand.of_body B).code)
      intro x hx
      rw [Array.isEmpty_iff.mp h7] at hx
      cases hx
    obtain ⟨t, a1, o, b1, b2, b3⟩ := body p e s m args below meth c s₁ B hml ht hP s₁ hh0 (Stand.of_body B)
    exact ⟨t, o, a1, b1, b2, b3⟩
/-- the table of a body with handlers -/
theorem vx_table {p : Program} {x y : MethodName} {S : Spec} {cc bytes : ByteArray} {maxL maxL' : Nat} {ret ret' : Option FieldType} {e : Env} {s s₁ : State} {m : MethodId} {args : Array Value} {below : List Frame} {meth : Method} {c : Code} {hh : List (Nat × Nat × Nat × Nat)}
    (B : BodyLoose p l y S cc maxL ret e s m args below meth c s₁) (h : (Cond.codeWith y bytes maxL' ret' hh).before args s = true) : c.exceptionTable.toList = tableOf hh := by
  obtain ⟨m9, meth9, c9, hn9, h1, h2, -, -, h6, -⟩ := Cond.codeWith_spec h
  cases Option.some.inj (hn9.symm.trans B.named)
  cases Option.some.inj (h1.symm.trans B.method)
  cases Option.some.inj (h2.symm.trans (Stand.of_body B).code)
  rw [← h6, table_eq]
end Bodies
end VXA
/-! ===== END ===== -/
/-! ===== BEGIN a static call of a method with an exception table ===== -/
section VXS
variable {p : Program} {l : Launch} {e : Env} {R : Room} {s : State} {m : MethodId} {args : Array Value} {below : List Frame} {meth : Method} {c : Code} {T : State} {H : Heap} {locs : List Loc} {cells slots : Nat}
abbrev vx_CSW (R : Room) (s : State) (args : Array Value) (own : String) (index : Nat) (y : MethodName) (bytes : ByteArray) (maxL : Nat) (ret : Option FieldType) (hh : List (Nat × Nat × Nat × Nat)) (ws : List Cond) (rm : Room) (mc ms n : Nat) : Prop :=
  (rm.cells = mc ∧ rm.slots = ms ∧ rm.frames + 1 ≤ R.frames ∧ 8 + (maxL + 11) + rm.locals ≤ R.locals ∧ (∀ w ∈ ws, ∀ (a' : Array Value) (U : State), s.WarmedH U.vm → w.before a' U = true) ∧ Cond.codeWith y bytes maxL ret hh ∈ ws) ∧
  (Cond.codeWith y bytes maxL ret hh).before args s = true ∧ (Cond.initialized y.cls).before args s = true ∧ (y.cls ≠ "java/lang/invoke/MethodHandle" ∧ y.cls ≠ "java/lang/invoke/VarHandle") ∧
  (∀ sig, parseMethodDescriptor y.desc = some sig → n = sig.parameters.length) ∧ (Cond.methodLink own index y).before args s = true ∧ (Cond.static y).before args s = true
theorem vx_cwSW {own : String} {index maxL mc ms : Nat} {y : MethodName} {bytes : ByteArray} {ret : Option FieldType} {hh : List (Nat × Nat × Nat × Nat)} {Ts ws ws' : List Cond} {rm : Room} (n : Nat) (ht : ∀ w ∈ Ts, w.before args s = true) (hT : GoodIn Ts (va_wsS own index y ws)) (hw : ws = Cond.codeWith y bytes maxL ret hh :: ws') (hrc : rm.cells = mc) (hrs : rm.slots = ms)
    (hd : y.cls ≠ "java/lang/invoke/MethodHandle" ∧ y.cls ≠ "java/lang/invoke/VarHandle" ∧ (parseMethodDescriptor y.desc).map (fun d => d.parameters.length) = some n) (hR : rm.frames + 1 ≤ R.frames ∧ 8 + (maxL + 11) + rm.locals ≤ R.locals) :
    vx_CSW R s args own index y bytes maxL ret hh ws rm mc ms n := by
  have ok : ∀ w ∈ va_wsS own index y ws, w.before args s = true := fun w h => ht w (hT w h).1
  have hG : GoodIn Ts ws := fun w h => hT w (by unfold va_wsS; exact List.mem_append_right _ h)
  have hc : Cond.codeWith y bytes maxL ret hh ∈ ws := by rw [hw]; exact List.mem_cons_self
  refine ⟨⟨hrc, hrs, hR.1, hR.2, pay_in ht hG, hc⟩, ht _ (hG _ hc).1, ok _ (by simp [va_wsS]), ⟨hd.1, hd.2.1⟩, fun sig h => ?_, ok _ (by simp [va_wsS]), ok _ (by simp [va_wsS])⟩
  have h2 := hd.2.2
  rw [h] at h2
  exact (Option.some.inj h2).symm
theorem vx_callSW (X : Stand p l e R s m args below meth c T locs cells slots) (hexec : p.tables.exec = Jvm.exec) {own : String} {index : Nat} {y : MethodName} {bytes : ByteArray} {maxL : Nat} {ret : Option FieldType} {hh : List (Nat × Nat × Nat × Nat)}
    (hown : s.vm.findClass own = some m.cls) (hlink : (Cond.methodLink own index y).before args s = true) (hstat : (Cond.static y).before args s = true) (hinit : (Cond.initialized y.cls).before args s = true)
    (hcode : (Cond.codeWith y bytes maxL ret hh).before args s = true) (hy : y.cls ≠ "java/lang/invoke/MethodHandle" ∧ y.cls ≠ "java/lang/invoke/VarHandle")
    {W9 : Nat} {Pre : Pt → Array Value → Prop} {Post : Pt → Array Value → Option Value → Pt → Prop} (hK : Back l R p e below s args y 3 W9 Pre Post)
    {g : JFrame} (hg : g.method = m) (hsize : g.locals.size = c.maxLocals) {argsL rest : List Value} (hlen : ∀ sig, parseMethodDescriptor y.desc = some sig → argsL.length = sig.parameters.length)
    (hstack : g.stack = argsL.reverse ++ rest) (hW : 2 * g.monitorRoom + (rest.map fun v => v.category).sum ≤ W9) (hdg : decode c.code g.pc = .ok (.invokestatic index, 3))
    (hpre : ∀ vm₁, s.WarmedH vm₁ → Pre ⟨T.setVm vm₁, locs, cells, slots⟩ argsL.toArray) :
    ∃ (v : Option Value) (vm₁ : Vm) (B : Pt), s.WarmedH vm₁ ∧ Stand p l e R s m args below meth c B.U B.locs B.cells B.slots ∧ Post ⟨T.setVm vm₁, locs, cells, slots⟩ argsL.toArray v B ∧
      ∀ target, Steps p.tables e below (B.U.setTop { g with pc := g.pc + 3, stack := v.toList ++ rest }) target → Steps p.tables e below (T.setTop g) target := by
  obtain ⟨mk, methM, cM, hnamed, hmethM, -, -, -, -, -, -, hsigM⟩ := Cond.codeWith_spec hcode
  have hstatic : methM.isStatic = true := Cond.static_spec hnamed hmethM hstat
  obtain ⟨kP, hkP, -⟩ := className_of_methodNamed hnamed
  have hinitP : kP.init = .initialized := Cond.initialized_spec (findClass_of_methodNamed hnamed) hkP hinit
  obtain ⟨vm₁, X₁, hstep₁⟩ := X.invokestatic hexec hown hlink hnamed hmethM hstatic hkP hinitP hy (g := g) hg (argsL := argsL) (rest := rest) (hlen _ hsigM) hstack hdg
  obtain ⟨v, B, X', hpost, hsteps⟩ := hK m meth c ⟨T.setVm vm₁, locs, cells, slots⟩ { g with stack := rest } (.invokestatic index) mk argsL.toArray X₁ hg hsize hdg hW (X₁.named hnamed) (hpre vm₁ X₁.warmed)
  exact ⟨v, vm₁, B, X₁.warmed, X', hpost, fun target h => hstep₁ _ fun acts => by rw [doInvoke_state]; exact hsteps.trans h⟩
theorem vx_runSW {y : MethodName} {bytes cc : ByteArray} {maxL nL mc ms n index : Nat} {ret : Option FieldType} {hh : List (Nat × Nat × Nat × Nat)} {ws : List Cond} {rm : Room} {Pc : Array Value → State → Prop} {Qc : Array Value → State → Outcome → State → Prop} {free : Addr → Prop} {Ts : List Cond} {own : String} {As rest : List Value} {g : JFrame}
    (S : CallFix p m c cc nL s args Ts own) (hM : Met l y ws rm Pc Qc mc ms free) (cw : vx_CSW R s args own index y bytes maxL ret hh ws rm mc ms n) (hp : PreS s H Pc As)
    (hg : g.method = m) (hn : As.length = n) (hsize : g.locals.size = nL) (hstack : g.stack = As.reverse ++ rest) (hW : 2 * g.monitorRoom + (rest.map fun v => v.category).sum ≤ 8) (hdg : decode cc g.pc = .ok (.invokestatic index, 3)) (hf : cells + mc ≤ R.cells ∧ slots + ms ≤ R.slots) :
    va_Run p l e R s m args below meth c H locs cells slots mc ms g rest (Qc As.toArray) (free) := by
  obtain ⟨⟨hrc, hrs, hfr, hlo, hws, hcw⟩, hcode, hini, hy, hlen, hl, hstt⟩ := cw
  have hK : Back l R p e below s args y 3 8 (PreOf R mc ms Pc) (PostOf Qc mc ms free) := va_backW (hh := hh) (bytes := bytes) (maxL := maxL) (ret := ret) hM hp.1 hrc hrs hfr hlo hws hcw (fun a' U hW => word_at hW (Or.inl (by first | rfl | simp [Cond.onTables, Cond.keeps, Cond.steady])) hini)
  obtain ⟨hx, hb, hml, ho, -⟩ := S
  intro T hT X
  obtain ⟨v, vm₁, ⟨U', l2, c2, s2⟩, hW₁, X', ⟨g', mk, t, L, e1, e2, hq, h1, hL, h2, h3⟩, st⟩ := vx_callSW X hx (hh := hh) (bytes := bytes) (maxL := maxL) (ret := ret) ho hl hstt hini hcode hy hK hg (hsize.trans hml.symm) (argsL := As) (rest := rest) (fun sig h => hn.trans (hlen sig h)) hstack hW (by rw [hb]; exact hdg)
    (fun vm₁ hW₁ => ⟨hf.1, hf.2, hp.2 (T.setVm vm₁) hT hW₁⟩)
  dsimp only [Pt.U, Pt.locs, Pt.cells, Pt.slots] at X' e1 e2 h1 h2 h3 st
  subst h1; subst h2; subst h3
  exact ⟨v, (T.setVm vm₁).calling g' mk As.toArray, t, U', L, hT, X', hL, e1, e2, hq, st⟩
/-- a thing of a world lies in the heap -/
theorem vx_lt {D : va_G} {cl : List vw_C} {ws : va_W} {H1 : Heap} (h : va_P D cl ws H1) {k : Nat} {q : Nat × va_E} (hk : ws[k]? = some q) : q.1 < H1.size := (h k q hk).lt
end VXS
/-! ===== END ===== -/
/-! ===== BEGIN methods with a table of their own: called by a name, returning or throwing ===== -/
section VXH
/-! vx_backW, vx_callVX, vx_callSX, vx_callVW, vx_runVW, vx_runVX, vx_runSX, vx_ofWH follow the same proofs as their sisters above (Free/Laws.lean, Shelf42/LK1.lean); vx_outP calls Shelf42/NT130.lean (outThrough). -/
section
variable {l : Launch} {R : Room} {p : Program} {e : Env} {below : List Frame} {s : State} {sargs : Array Value} {y : MethodName} {len W9 : Nat}
theorem vx_backW {ws : List Cond} {rm : Room} {Pc : Array Value → State → Prop} {Qc : Array Value → State → Outcome → State → Prop} {XC : String → State → State → Prop} {mc ms : Nat} {free : Addr → Prop} {bytes : ByteArray} {maxL : Nat} {ret : Option FieldType} {hh : List (Nat × Nat × Nat × Nat)}
    (hM : vx_Met l y ws rm Pc Qc XC mc ms free) (hblind : FrameBlind Pc) (hrc : rm.cells = mc) (hrs : rm.slots = ms)
    (hframes : rm.frames + 1 ≤ R.frames) (hlocals : W9 + (maxL + 11) + rm.locals ≤ R.locals)
    (hws : ∀ w ∈ ws, ∀ a' U, s.WarmedH U.vm → w.before a' U = true) (hcode : Cond.codeWith y bytes maxL ret hh ∈ ws) (hinit : ∀ a' U, s.WarmedH U.vm → (Cond.initialized y.cls).before a' U = true) :
    vx_Back l R p e below s sargs y len W9 (PreOf R mc ms Pc) (PostOf Qc mc ms free) (vx_Post XC mc ms free) := by
  intro m meth c A g ig mk a X hg hsize hdg hW hn hp
  have h1 : (headSpec ws rm).pre.before a A.U = true := atoms_intro fun w hw => hws w hw _ _ X.warmed
  have h2 : (Cond.codeWith y bytes maxL ret hh).before a A.U = true := hws _ hcode _ _ X.warmed
  have h3 : (Cond.initialized y.cls).before a A.U = true := hinit _ _ X.warmed
  have h4 : A.cells + (headSpec ws rm).room.cells ≤ R.cells := by rw [show (headSpec ws rm).room.cells = mc from hrc]; exact hp.1
  have h5 : A.slots + (headSpec ws rm).room.slots ≤ R.slots := by rw [show (headSpec ws rm).room.slots = ms from hrs]; exact hp.2.1
  have hPc : Pc a (A.U.calling g mk a) := hblind _ _ _ _ hp.2.2
  obtain ⟨U, Ls, c0, s0⟩ := A
  dsimp only [Pt.U, Pt.locs, Pt.cells, Pt.slots] at h1 h2 h3 h4 h5 X hn hPc ⊢
  obtain ⟨m9, methY, cY, hn9, hmY, hcY, -, hlY, -⟩ := Cond.codeWith_spec h2
  cases Option.some.inj (hn9.symm.trans hn)
  obtain ⟨kY, hkY, -⟩ := className_of_methodNamed hn
  have hinitY : kY.init = .initialized := Cond.initialized_spec (findClass_of_methodNamed hn) hkY h3
  have h : At U g.method c below := by rw [hg]; exact X.here
  have hlocals9 : W9 + (maxL + 11) + (headSpec ws rm).room.locals ≤ R.locals := hlocals
  have happ : (headSpec ws rm).appliesLoose y e.platform (U.calling g mk a) = true :=
    Spec.appliesLoose_calling (g := g) h hdg hn hkY hinitY
      (X.room_calling (g := g) (R' := (headSpec ws rm).room) hsize hmY hcY hframes (by rw [hlY]; omega) h4 h5) h1
  obtain ⟨mid, hmid⟩ := h.above
  have hfr : (U.setTop g).frames = (.java g :: mid) ++ below := by rw [State.frames_setTop' g h.top, hmid]; rfl
  obtain ⟨o, s₂, hsteps, -, hend, hq⟩ := Steps.callFree hM p X.admits X.cas X.clock (acts := []) hfr happ hPc trivial
  have hq' : vx_Q Qc XC mc ms free a (U.calling g mk a) o s₂ := hq
  rw [State.frames_setTop' g h.top] at hend
  obtain ⟨g₀, hg0⟩ := Option.isSome_iff_exists.mp h.top
  obtain ⟨r, hr⟩ := State.topJava?_eq_some.mp hg0
  have hr' : (({ U with heap := s₂.heap, slotsUsed := s₂.slotsUsed } : State).setVm s₂.vm).frames = .java g₀ :: r := hr
  rcases hq' with ⟨hqc, L, hfe, hL⟩ | ⟨q, rfl, E, ce, L, hx, hce, hcv, hcl, hW₂, hsm, hL⟩
  · obtain ⟨⟨v, rfl⟩, hW₂, e2, q2, q3, q4, q5, q6⟩ := id hfe
    have e3 : s₂ = ({ (U.calling g mk a).setFrames s₂.frames with heap := s₂.heap, slotsUsed := s₂.slotsUsed } : State).setVm s₂.vm := by
      have : s₂ = ({ s₂ with vm := (U.calling g mk a).vm } : State).setVm s₂.vm := rfl
      rw [e2] at this
      exact this
    obtain ⟨c₂, i₂, len₂, hc₂, hd₂, hf₂⟩ := hend
    have hW' : U.WarmedH s₂.vm := hW₂
    have hcc : c₂ = c := by
      have h1 : s₂.code? g.method = U.code? g.method := by
        rw [State.code?_eq, State.code?_eq, hW'.alike.method?]
      exact Option.some.inj (hc₂.symm.trans (h1.trans h.code))
    subst hcc
    have hlen : len₂ = len := by rw [hdg] at hd₂; cases hd₂; rfl
    subst hlen
    have hs₂ : s₂ = (({ U with heap := s₂.heap, slotsUsed := s₂.slotsUsed } : State).setVm s₂.vm).setTop { g with pc := g.pc + len₂, stack := v.toList ++ g.stack } := by
      refine e3.trans ?_
      rw [hf₂, State.calling_eq h.top, State.setFrames_setFrames, State.setTop_of_frames _ hr', hr]
      rfl
    have hsame : U.sameButNew ({ U with heap := s₂.heap, slotsUsed := s₂.slotsUsed } : State) L mc ms := by
      refine ⟨?_, q2, q3, q4, q5, q6⟩
      obtain ⟨t, ht, -⟩ := State.frames_cons hr
      show ({ U with heap := s₂.heap, slotsUsed := s₂.slotsUsed } : State) = { U.setFrames U.frames with heap := s₂.heap, slotsUsed := s₂.slotsUsed }
      rw [State.setFrames_self ht]
    subst hg
    refine Or.inl ⟨v, ⟨(({ U with heap := s₂.heap, slotsUsed := s₂.slotsUsed } : State).setVm s₂.vm), Ls ++ L, c0 + mc, s0 + ms⟩,
      ⟨X.admits, X.cas, X.clock, X.frames, X.room, X.hears, X.method, X.code, (X.here.setHeapUsed s₂.heap s₂.slotsUsed).setVm hW'.alike, X.tail, State.WarmedH.trans X.warmed hW', X.limits, X.bytes, X.same.trans (hsame.setVm s.vm)⟩,
      ⟨g, mk, s₂, L, rfl, rfl, hqc, rfl, hL, rfl, rfl⟩, ?_⟩
    show Steps p.tables e below _ ((({ U with heap := s₂.heap, slotsUsed := s₂.slotsUsed } : State).setVm s₂.vm).setTop { g with pc := g.pc + len₂, stack := v.toList ++ g.stack })
    rw [← hs₂]
    exact hsteps
  · obtain ⟨e2, q2, q3, q4, q5, q6⟩ := id hsm
    have e3 : s₂ = ({ (U.calling g mk a).setFrames s₂.frames with heap := s₂.heap, slotsUsed := s₂.slotsUsed } : State).setVm s₂.vm := by
      have : s₂ = ({ s₂ with vm := (U.calling g mk a).vm } : State).setVm s₂.vm := rfl
      rw [e2] at this
      exact this
    have hf₂ : s₂.frames = .throwing q :: .java g :: U.frames.tail := hend
    have hW' : U.WarmedH s₂.vm := hW₂
    have hs₂ : s₂ = ((({ U with heap := s₂.heap, slotsUsed := s₂.slotsUsed } : State).setVm s₂.vm).setTop g).pushFrame (.throwing q) := by
      refine e3.trans ?_
      rw [hf₂, State.calling_eq h.top, State.setFrames_setFrames, State.pushFrame, State.frames_setTop _ hr', State.setTop_of_frames _ hr', State.setFrames_setFrames, hr]
      rfl
    have hsame : U.sameButNew ({ U with heap := s₂.heap, slotsUsed := s₂.slotsUsed } : State) L mc ms := by
      refine ⟨?_, q2, q3, q4, q5, q6⟩
      obtain ⟨t, ht, -⟩ := State.frames_cons hr
      show ({ U with heap := s₂.heap, slotsUsed := s₂.slotsUsed } : State) = { U.setFrames U.frames with heap := s₂.heap, slotsUsed := s₂.slotsUsed }
      rw [State.setFrames_self ht]
    subst hg
    refine Or.inr ⟨q, ⟨(({ U with heap := s₂.heap, slotsUsed := s₂.slotsUsed } : State).setVm s₂.vm), Ls ++ L, c0 + mc, s0 + ms⟩,
      ⟨X.admits, X.cas, X.clock, X.frames, X.room, X.hears, X.method, X.code, (X.here.setHeapUsed s₂.heap s₂.slotsUsed).setVm hW'.alike, X.tail, State.WarmedH.trans X.warmed hW', X.limits, X.bytes, X.same.trans (hsame.setVm s.vm)⟩,
      ⟨g, mk, s₂, L, E, ce, rfl, rfl, hx, hce, hcv, hcl, rfl, hL, rfl, rfl⟩, ?_⟩
    show Steps p.tables e below _ (((({ U with heap := s₂.heap, slotsUsed := s₂.slotsUsed } : State).setVm s₂.vm).setTop g).pushFrame (.throwing q))
    rw [← hs₂]
    exact hsteps
end
variable {p : Program} {l : Launch} {e : Env} {R : Room} {s : State} {m : MethodId} {args : Array Value} {below : List Frame} {meth : Method} {c : Code} {T : State} {H : Heap} {locs : List Loc} {cells slots : Nat}
theorem vx_callVX (X : Stand p l e R s m args below meth c T locs cells slots) (hexec : p.tables.exec = Jvm.exec) {own C : String} {index : Nat} {y : MethodName} {bytes : ByteArray} {maxL : Nat} {ret : Option FieldType} {hh : List (Nat × Nat × Nat × Nat)}
    (hown : s.vm.findClass own = some m.cls) (hlink : (Cond.methodLink own index y).before args s = true) (hinst : (Cond.instanceMethod y).before args s = true) (hsel : (Cond.selects C y y).before args s = true)
    (hcode : (Cond.codeWith y bytes maxL ret hh).before args s = true) (hy : y.cls ≠ "java/lang/invoke/MethodHandle" ∧ y.cls ≠ "java/lang/invoke/VarHandle")
    {W9 : Nat} {Pre : Pt → Array Value → Prop} {Post : Pt → Array Value → Option Value → Pt → Prop} {PostX : Pt → Array Value → Addr → Pt → Prop} (hK : vx_Back l R p e below s args y 3 W9 Pre Post PostX)
    {b : Addr} {cellB : Cell} (hcell : T.heap[b]? = some cellB) (hobj : cellB.vm.isStatics = false) (hcls : s.vm.findClass C = some cellB.cls)
    {g : JFrame} (hg : g.method = m) (hsize : g.locals.size = c.maxLocals) {argsL rest : List Value} (hlen : ∀ sig, parseMethodDescriptor y.desc = some sig → argsL.length = sig.parameters.length)
    (hstack : g.stack = argsL.reverse ++ .ref b :: rest) (hW : 2 * g.monitorRoom + (rest.map fun v => v.category).sum ≤ W9) (hdg : decode c.code g.pc = .ok (.invokevirtual index, 3))
    (hpre : ∀ vm₁, s.WarmedH vm₁ → Pre ⟨T.setVm vm₁, locs, cells, slots⟩ (Value.ref b :: argsL).toArray) :
    (∃ (v : Option Value) (vm₁ : Vm) (B : Pt), s.WarmedH vm₁ ∧ Stand p l e R s m args below meth c B.U B.locs B.cells B.slots ∧ Post ⟨T.setVm vm₁, locs, cells, slots⟩ (Value.ref b :: argsL).toArray v B ∧
      ∀ target, Steps p.tables e below (B.U.setTop { g with pc := g.pc + 3, stack := v.toList ++ rest }) target → Steps p.tables e below (T.setTop g) target) ∨
    (∃ (q : Addr) (vm₁ : Vm) (B : Pt), s.WarmedH vm₁ ∧ Stand p l e R s m args below meth c B.U B.locs B.cells B.slots ∧ PostX ⟨T.setVm vm₁, locs, cells, slots⟩ (Value.ref b :: argsL).toArray q B ∧
      Steps p.tables e below (T.setTop g) ((B.U.setTop { g with stack := rest }).pushFrame (.throwing q))) := by
  obtain ⟨mk, methM, hnamed, hmethM, hstM, habM⟩ := Cond.instanceMethod_spec hinst
  obtain ⟨m8, methM', cM, hn8, hmethM', -, -, -, -, -, -, hsigM⟩ := Cond.codeWith_spec hcode
  cases Option.some.inj (hn8.symm.trans hnamed)
  cases hmethM.symm.trans hmethM'
  obtain ⟨c2, r2, m2, q1, q2, q3, q4, kP, hkP, hkPi⟩ := Cond.selects_spec hsel
  cases hcls.symm.trans q1
  cases (State.methodFound?_of_named hnamed hy).symm.trans q2
  cases hnamed.symm.trans q3
  have hselP : selectMethod e.platform s.vm cellB.cls mk = .method mk := by rw [Launch.admits_selectMethod X.admits]; exact q4
  obtain ⟨vm₁, X₁, hstep₁⟩ := X.invokevirtual hexec hown hlink hnamed hmethM hstM hkP hkPi hy (a := b) (cell := cellB) hcell
    (fun z h => by rw [h] at hobj; cases hobj) hselP hmethM habM hkP hkPi (g := g) hg (argsL := argsL) (rest := rest) (hlen _ hsigM) hstack hdg
  rcases hK m meth c ⟨T.setVm vm₁, locs, cells, slots⟩ { g with stack := rest } (.invokevirtual index) mk (Value.ref b :: argsL).toArray X₁ hg hsize hdg hW (X₁.named hnamed) (hpre vm₁ X₁.warmed) with ⟨v, B, X', hpost, hsteps⟩ | ⟨q, B, X', hpost, hsteps⟩
  · exact Or.inl ⟨v, vm₁, B, X₁.warmed, X', hpost, fun target h => hstep₁ _ fun acts => by rw [doInvoke_state]; exact hsteps.trans h⟩
  · exact Or.inr ⟨q, vm₁, B, X₁.warmed, X', hpost, hstep₁ _ fun acts => by rw [doInvoke_state]; exact hsteps⟩
theorem vx_callSX (X : Stand p l e R s m args below meth c T locs cells slots) (hexec : p.tables.exec = Jvm.exec) {own : String} {index : Nat} {y : MethodName} {bytes : ByteArray} {maxL : Nat} {ret : Option FieldType} {hh : List (Nat × Nat × Nat × Nat)}
    (hown : s.vm.findClass own = some m.cls) (hlink : (Cond.methodLink own index y).before args s = true) (hstat : (Cond.static y).before args s = true) (hinit : (Cond.initialized y.cls).before args s = true)
    (hcode : (Cond.codeWith y bytes maxL ret hh).before args s = true) (hy : y.cls ≠ "java/lang/invoke/MethodHandle" ∧ y.cls ≠ "java/lang/invoke/VarHandle")
    {W9 : Nat} {Pre : Pt → Array Value → Prop} {Post : Pt → Array Value → Option Value → Pt → Prop} {PostX : Pt → Array Value → Addr → Pt → Prop} (hK : vx_Back l R p e below s args y 3 W9 Pre Post PostX)
    {g : JFrame} (hg : g.method = m) (hsize : g.locals.size = c.maxLocals) {argsL rest : List Value} (hlen : ∀ sig, parseMethodDescriptor y.desc = some sig → argsL.length = sig.parameters.length)
    (hstack : g.stack = argsL.reverse ++ rest) (hW : 2 * g.monitorRoom + (rest.map fun v => v.category).sum ≤ W9) (hdg : decode c.code g.pc = .ok (.invokestatic index, 3))
    (hpre : ∀ vm₁, s.WarmedH vm₁ → Pre ⟨T.setVm vm₁, locs, cells, slots⟩ argsL.toArray) :
    (∃ (v : Option Value) (vm₁ : Vm) (B : Pt), s.WarmedH vm₁ ∧ Stand p l e R s m args below meth c B.U B.locs B.cells B.slots ∧ Post ⟨T.setVm vm₁, locs, cells, slots⟩ argsL.toArray v B ∧
      ∀ target, Steps p.tables e below (B.U.setTop { g with pc := g.pc + 3, stack := v.toList ++ rest }) target → Steps p.tables e below (T.setTop g) target) ∨
    (∃ (q : Addr) (vm₁ : Vm) (B : Pt), s.WarmedH vm₁ ∧ Stand p l e R s m args below meth c B.U B.locs B.cells B.slots ∧ PostX ⟨T.setVm vm₁, locs, cells, slots⟩ argsL.toArray q B ∧
      Steps p.tables e below (T.setTop g) ((B.U.setTop { g with stack := rest }).pushFrame (.throwing q))) := by
  obtain ⟨mk, methM, cM, hnamed, hmethM, -, -, -, -, -, -, hsigM⟩ := Cond.codeWith_spec hcode
  have hstatic : methM.isStatic = true := Cond.static_spec hnamed hmethM hstat
  obtain ⟨kP, hkP, -⟩ := className_of_methodNamed hnamed
  have hinitP : kP.init = .initialized := Cond.initialized_spec (findClass_of_methodNamed hnamed) hkP hinit
  obtain ⟨vm₁, X₁, hstep₁⟩ := X.invokestatic hexec hown hlink hnamed hmethM hstatic hkP hinitP hy (g := g) hg (argsL := argsL) (rest := rest) (hlen _ hsigM) hstack hdg
  rcases hK m meth c ⟨T.setVm vm₁, locs, cells, slots⟩ { g with stack := rest } (.invokestatic index) mk argsL.toArray X₁ hg hsize hdg hW (X₁.named hnamed) (hpre vm₁ X₁.warmed) with ⟨v, B, X', hpost, hsteps⟩ | ⟨q, B, X', hpost, hsteps⟩
  · exact Or.inl ⟨v, vm₁, B, X₁.warmed, X', hpost, fun target h => hstep₁ _ fun acts => by rw [doInvoke_state]; exact hsteps.trans h⟩
  · exact Or.inr ⟨q, vm₁, B, X₁.warmed, X', hpost, hstep₁ _ fun acts => by rw [doInvoke_state]; exact hsteps⟩
theorem vx_callVW (X : Stand p l e R s m args below meth c T locs cells slots) (hexec : p.tables.exec = Jvm.exec) {own C : String} {index : Nat} {y : MethodName} {bytes : ByteArray} {maxL : Nat} {ret : Option FieldType} {hh : List (Nat × Nat × Nat × Nat)}
    (hown : s.vm.findClass own = some m.cls) (hlink : (Cond.methodLink own index y).before args s = true) (hinst : (Cond.instanceMethod y).before args s = true) (hsel : (Cond.selects C y y).before args s = true)
    (hcode : (Cond.codeWith y bytes maxL ret hh).before args s = true) (hy : y.cls ≠ "java/lang/invoke/MethodHandle" ∧ y.cls ≠ "java/lang/invoke/VarHandle")
    {W9 : Nat} {Pre : Pt → Array Value → Prop} {Post : Pt → Array Value → Option Value → Pt → Prop} (hK : Back l R p e below s args y 3 W9 Pre Post)
    {b : Addr} {cellB : Cell} (hcell : T.heap[b]? = some cellB) (hobj : cellB.vm.isStatics = false) (hcls : s.vm.findClass C = some cellB.cls)
    {g : JFrame} (hg : g.method = m) (hsize : g.locals.size = c.maxLocals) {argsL rest : List Value} (hlen : ∀ sig, parseMethodDescriptor y.desc = some sig → argsL.length = sig.parameters.length)
    (hstack : g.stack = argsL.reverse ++ .ref b :: rest) (hW : 2 * g.monitorRoom + (rest.map fun v => v.category).sum ≤ W9) (hdg : decode c.code g.pc = .ok (.invokevirtual index, 3))
    (hpre : ∀ vm₁, s.WarmedH vm₁ → Pre ⟨T.setVm vm₁, locs, cells, slots⟩ (Value.ref b :: argsL).toArray) :
    ∃ (v : Option Value) (vm₁ : Vm) (B : Pt), s.WarmedH vm₁ ∧ Stand p l e R s m args below meth c B.U B.locs B.cells B.slots ∧ Post ⟨T.setVm vm₁, locs, cells, slots⟩ (Value.ref b :: argsL).toArray v B ∧
      ∀ target, Steps p.tables e below (B.U.setTop { g with pc := g.pc + 3, stack := v.toList ++ rest }) target → Steps p.tables e below (T.setTop g) target := by
  obtain ⟨mk, methM, hnamed, hmethM, hstM, habM⟩ := Cond.instanceMethod_spec hinst
  obtain ⟨m8, methM', cM, hn8, hmethM', -, -, -, -, -, -, hsigM⟩ := Cond.codeWith_spec hcode
  cases Option.some.inj (hn8.symm.trans hnamed)
  cases hmethM.symm.trans hmethM'
  obtain ⟨c2, r2, m2, q1, q2, q3, q4, kP, hkP, hkPi⟩ := Cond.selects_spec hsel
  cases hcls.symm.trans q1
  cases (State.methodFound?_of_named hnamed hy).symm.trans q2
  cases hnamed.symm.trans q3
  have hselP : selectMethod e.platform s.vm cellB.cls mk = .method mk := by rw [Launch.admits_selectMethod X.admits]; exact q4
  obtain ⟨vm₁, X₁, hstep₁⟩ := X.invokevirtual hexec hown hlink hnamed hmethM hstM hkP hkPi hy (a := b) (cell := cellB) hcell
    (fun z h => by rw [h] at hobj; cases hobj) hselP hmethM habM hkP hkPi (g := g) hg (argsL := argsL) (rest := rest) (hlen _ hsigM) hstack hdg
  obtain ⟨v, B, X', hpost, hsteps⟩ := hK m meth c ⟨T.setVm vm₁, locs, cells, slots⟩ { g with stack := rest } (.invokevirtual index) mk (Value.ref b :: argsL).toArray X₁ hg hsize hdg hW (X₁.named hnamed) (hpre vm₁ X₁.warmed)
  exact ⟨v, vm₁, B, X₁.warmed, X', hpost, fun target h => hstep₁ _ fun acts => by rw [doInvoke_state]; exact hsteps.trans h⟩
abbrev vx_CVW (R : Room) (s : State) (args : Array Value) (own C : String) (index : Nat) (y : MethodName) (bytes : ByteArray) (maxL : Nat) (ret : Option FieldType) (hh : List (Nat × Nat × Nat × Nat)) (ws : List Cond) (rm : Room) (mc ms n : Nat) : Prop :=
  (rm.cells = mc ∧ rm.slots = ms ∧ rm.frames + 1 ≤ R.frames ∧ 8 + (maxL + 11) + rm.locals ≤ R.locals ∧ (∀ w ∈ ws, ∀ (a' : Array Value) (U : State), s.WarmedH U.vm → w.before a' U = true) ∧ Cond.codeWith y bytes maxL ret hh ∈ ws) ∧
  (Cond.codeWith y bytes maxL ret hh).before args s = true ∧ (Cond.initialized y.cls).before args s = true ∧ (y.cls ≠ "java/lang/invoke/MethodHandle" ∧ y.cls ≠ "java/lang/invoke/VarHandle") ∧
  (∀ sig, parseMethodDescriptor y.desc = some sig → n = sig.parameters.length) ∧ (Cond.methodLink own index y).before args s = true ∧ (Cond.instanceMethod y).before args s = true ∧ (Cond.selects C y y).before args s = true
theorem vx_cwVW {own C : String} {index maxL mc ms : Nat} {y : MethodName} {bytes : ByteArray} {ret : Option FieldType} {hh : List (Nat × Nat × Nat × Nat)} {Ts ws ws' : List Cond} {rm : Room} (n : Nat) (ht : ∀ w ∈ Ts, w.before args s = true) (hT : GoodIn Ts (wsV own index C y ws)) (hw : ws = Cond.codeWith y bytes maxL ret hh :: ws') (hrc : rm.cells = mc) (hrs : rm.slots = ms)
    (hd : y.cls = C ∧ y.cls ≠ "java/lang/invoke/MethodHandle" ∧ y.cls ≠ "java/lang/invoke/VarHandle" ∧ (parseMethodDescriptor y.desc).map (fun d => d.parameters.length) = some n) (hR : rm.frames + 1 ≤ R.frames ∧ 8 + (maxL + 11) + rm.locals ≤ R.locals) :
    vx_CVW R s args own C index y bytes maxL ret hh ws rm mc ms n := by
  obtain ⟨hC, hd⟩ := hd
  subst hC
  have ok : ∀ w ∈ wsV own index y.cls y ws, w.before args s = true := fun w h => ht w (hT w h).1
  have hG : GoodIn Ts ws := fun w h => hT w (by unfold wsV; exact List.mem_append_right _ h)
  have hc : Cond.codeWith y bytes maxL ret hh ∈ ws := by rw [hw]; exact List.mem_cons_self
  refine ⟨⟨hrc, hrs, hR.1, hR.2, pay_in ht hG, hc⟩, ht _ (hG _ hc).1, ok _ (by simp [wsV]), ⟨hd.1, hd.2.1⟩, fun sig h => ?_, ok _ (by simp [wsV]), ok _ (by simp [wsV]), ok _ (by simp [wsV])⟩
  have h2 := hd.2.2
  rw [h] at h2
  exact (Option.some.inj h2).symm
theorem vx_runVW {y : MethodName} {bytes cc : ByteArray} {maxL nL mc ms n index : Nat} {ret : Option FieldType} {hh : List (Nat × Nat × Nat × Nat)} {ws : List Cond} {rm : Room} {Pc : Array Value → State → Prop} {Qc : Array Value → State → Outcome → State → Prop} {free : Addr → Prop} {Ts : List Cond} {own C : String} {b : Addr} {As rest : List Value} {g : JFrame}
    (S : CallFix p m c cc nL s args Ts own) (hM : Met l y ws rm Pc Qc mc ms free) (cw : vx_CVW R s args own C index y bytes maxL ret hh ws rm mc ms n) (hp : PreV s H C b Pc As)
    (hg : g.method = m) (hn : As.length = n) (hsize : g.locals.size = nL) (hstack : g.stack = As.reverse ++ .ref b :: rest) (hW : 2 * g.monitorRoom + (rest.map fun v => v.category).sum ≤ 8) (hdg : decode cc g.pc = .ok (.invokevirtual index, 3)) (hf : cells + mc ≤ R.cells ∧ slots + ms ≤ R.slots) :
    va_Run p l e R s m args below meth c H locs cells slots mc ms g rest (Qc (Value.ref b :: As).toArray) free := by
  obtain ⟨⟨hrc, hrs, hfr, hlo, hws, hcw⟩, hcode, hini, hy, hlen, hl, hin, hse⟩ := cw
  have hK : Back l R p e below s args y 3 8 (PreOf R mc ms Pc) (PostOf Qc mc ms free) := va_backW (hh := hh) (bytes := bytes) (maxL := maxL) (ret := ret) hM hp.1 hrc hrs hfr hlo hws hcw (fun a' U hW => word_at hW (Or.inl (by first | rfl | simp [Cond.onTables, Cond.keeps, Cond.steady])) hini)
  obtain ⟨hx, hb, hml, ho, -⟩ := S
  obtain ⟨-, ⟨cellB, hcB, hoB, hclB⟩, hPc⟩ := hp
  intro T hT X
  obtain ⟨v, vm₁, ⟨U', l2, c2, s2⟩, hW₁, X', ⟨g', mk, t, L, e1, e2, hq, h1, hL, h2, h3⟩, st⟩ := vx_callVW X hx (C := C) (hh := hh) (bytes := bytes) (maxL := maxL) (ret := ret) ho hl hin hse hcode hy hK (by rw [hT]; exact hcB) hoB hclB hg (hsize.trans hml.symm) (argsL := As) (rest := rest) (fun sig h => hn.trans (hlen sig h)) hstack hW (by rw [hb]; exact hdg)
    (fun vm₁ hW₁ => ⟨hf.1, hf.2, hPc (T.setVm vm₁) hT hW₁⟩)
  dsimp only [Pt.U, Pt.locs, Pt.cells, Pt.slots] at X' e1 e2 h1 h2 h3 st
  subst h1; subst h2; subst h3
  exact ⟨v, (T.setVm vm₁).calling g' mk (Value.ref b :: As).toArray, t, U', L, hT, X', hL, e1, e2, hq, st⟩
section
variable {y : MethodName} {bytes cc : ByteArray} {maxL nL mc ms n index : Nat} {ret : Option FieldType} {ws : List Cond} {rm : Room} {Pc : Array Value → State → Prop} {Qc : Array Value → State → Outcome → State → Prop} {XC : String → State → State → Prop} {free : Addr → Prop} {Ts : List Cond} {own C : String} {b : Addr} {As rest : List Value} {g : JFrame}
theorem vx_runVX {hh : List (Nat × Nat × Nat × Nat)} (S : CallFix p m c cc nL s args Ts own) (hM : vx_Met l y ws rm Pc Qc XC mc ms free) (cw : vx_CVW R s args own C index y bytes maxL ret hh ws rm mc ms n) (hp : PreV s H C b Pc As)
    (hg : g.method = m) (hn : As.length = n) (hsize : g.locals.size = nL) (hstack : g.stack = As.reverse ++ .ref b :: rest) (hW : 2 * g.monitorRoom + (rest.map fun v => v.category).sum ≤ 8) (hdg : decode cc g.pc = .ok (.invokevirtual index, 3)) (hf : cells + mc ≤ R.cells ∧ slots + ms ≤ R.slots) :
    vx_Run p l e R s m args below meth c H locs cells slots mc ms g rest (Qc (Value.ref b :: As).toArray) XC free := by
  obtain ⟨⟨hrc, hrs, hfr, hlo, hws, hcw⟩, hcode, hini, hy, hlen, hl, hin, hse⟩ := cw
  have hK : vx_Back l R p e below s args y 3 8 (PreOf R mc ms Pc) (PostOf Qc mc ms free) (vx_Post XC mc ms free) := vx_backW (hh := hh) (bytes := bytes) (maxL := maxL) (ret := ret) hM hp.1 hrc hrs hfr hlo hws hcw (fun a' U hW => word_at hW (Or.inl (by first | rfl | simp [Cond.onTables, Cond.keeps, Cond.steady])) hini)
  obtain ⟨hx, hb, hml, ho, -⟩ := S
  obtain ⟨-, ⟨cellB, hcB, hoB, hclB⟩, hPc⟩ := hp
  intro T hT X
  rcases vx_callVX X hx (C := C) (hh := hh) (bytes := bytes) (maxL := maxL) (ret := ret) ho hl hin hse hcode hy hK (by rw [hT]; exact hcB) hoB hclB hg (hsize.trans hml.symm) (argsL := As) (rest := rest) (fun sig h => hn.trans (hlen sig h)) hstack hW (by rw [hb]; exact hdg)
    (fun vm₁ hW₁ => ⟨hf.1, hf.2, hPc (T.setVm vm₁) hT hW₁⟩) with ⟨v, vm₁, ⟨U', l2, c2, s2⟩, hW₁, X', ⟨g', mk, t, L, e1, e2, hq, h1, hL, h2, h3⟩, st⟩ | ⟨q, vm₁, ⟨U', l2, c2, s2⟩, hW₁, X', ⟨g', mk, t, L, E, ce, e1, e2, hq, hce, hcv, hcl, h1, hL, h2, h3⟩, st⟩
  · dsimp only [Pt.U, Pt.locs, Pt.cells, Pt.slots] at X' e1 e2 h1 h2 h3 st
    subst h1; subst h2; subst h3
    exact Or.inl ⟨v, (T.setVm vm₁).calling g' mk (Value.ref b :: As).toArray, t, U', L, hT, X', hL, e1, e2, hq, st⟩
  · dsimp only [Pt.U, Pt.locs, Pt.cells, Pt.slots] at X' e1 e2 h1 h2 h3 st hcl
    subst h1; subst h2; subst h3
    exact Or.inr ⟨q, (T.setVm vm₁).calling g' mk (Value.ref b :: As).toArray, t, U', L, E, ce, hT, X', hL, e1, e2, hq, hce, hcv, vx_cls hW₁ hcl, st⟩
theorem vx_runSX {hh : List (Nat × Nat × Nat × Nat)} (S : CallFix p m c cc nL s args Ts own) (hM : vx_Met l y ws rm Pc Qc XC mc ms free) (cw : vx_CSW R s args own index y bytes maxL ret hh ws rm mc ms n) (hp : PreS s H Pc As)
    (hg : g.method = m) (hn : As.length = n) (hsize : g.locals.size = nL) (hstack : g.stack = As.reverse ++ rest) (hW : 2 * g.monitorRoom + (rest.map fun v => v.category).sum ≤ 8) (hdg : decode cc g.pc = .ok (.invokestatic index, 3)) (hf : cells + mc ≤ R.cells ∧ slots + ms ≤ R.slots) :
    vx_Run p l e R s m args below meth c H locs cells slots mc ms g rest (Qc As.toArray) XC free := by
  obtain ⟨⟨hrc, hrs, hfr, hlo, hws, hcw⟩, hcode, hini, hy, hlen, hl, hstt⟩ := cw
  have hK : vx_Back l R p e below s args y 3 8 (PreOf R mc ms Pc) (PostOf Qc mc ms free) (vx_Post XC mc ms free) := vx_backW (hh := hh) (bytes := bytes) (maxL := maxL) (ret := ret) hM hp.1 hrc hrs hfr hlo hws hcw (fun a' U hW => word_at hW (Or.inl (by first | rfl | simp [Cond.onTables, Cond.keeps, Cond.steady])) hini)
  obtain ⟨hx, hb, hml, ho, -⟩ := S
  intro T hT X
  rcases vx_callSX X hx (hh := hh) (bytes := bytes) (maxL := maxL) (ret := ret) ho hl hstt hini hcode hy hK hg (hsize.trans hml.symm) (argsL := As) (rest := rest) (fun sig h => hn.trans (hlen sig h)) hstack hW (by rw [hb]; exact hdg)
    (fun vm₁ hW₁ => ⟨hf.1, hf.2, hp.2 (T.setVm vm₁) hT hW₁⟩) with ⟨v, vm₁, ⟨U', l2, c2, s2⟩, hW₁, X', ⟨g', mk, t, L, e1, e2, hq, h1, hL, h2, h3⟩, st⟩ | ⟨q, vm₁, ⟨U', l2, c2, s2⟩, hW₁, X', ⟨g', mk, t, L, E, ce, e1, e2, hq, hce, hcv, hcl, h1, hL, h2, h3⟩, st⟩
  · dsimp only [Pt.U, Pt.locs, Pt.cells, Pt.slots] at X' e1 e2 h1 h2 h3 st
    subst h1; subst h2; subst h3
    exact Or.inl ⟨v, (T.setVm vm₁).calling g' mk As.toArray, t, U', L, hT, X', hL, e1, e2, hq, st⟩
  · dsimp only [Pt.U, Pt.locs, Pt.cells, Pt.slots] at X' e1 e2 h1 h2 h3 st hcl
    subst h1; subst h2; subst h3
    exact Or.inr ⟨q, (T.setVm vm₁).calling g' mk As.toArray, t, U', L, E, ce, hT, X', hL, e1, e2, hq, hce, hcv, vx_cls hW₁ hcl, st⟩
end
end VXH
theorem vx_ofWH {l : Launch} {y : MethodName} {ws ws' : List Cond} {rm : Room} {Pc : Array Value → State → Prop} {Qc : Array Value → State → Outcome → State → Prop} {XC : String → State → State → Prop} {mc ms : Nat} {free : Addr → Prop} {cc : ByteArray} {maxL : Nat} {ret : Option FieldType} {hh : List (Nat × Nat × Nat × Nat)}
    (hy : plainName y.cls = true) (hw : ws = Cond.codeWith y cc maxL ret hh :: ws')
    (body : ∀ p e s m args below meth c s₁, BodyLoose p l y (headSpec ws rm) cc maxL ret e s m args below meth c s₁ → c.maxLocals = maxL → Pc args s →
      W p l e (headSpec ws rm).room s m args below meth c s.heap [] 0 0 (vx_MQ below Qc XC args s mc ms free) (entryFrame m args maxL)) : vx_Met l y ws rm Pc Qc XC mc ms free := by
  refine MetFree.of_bodyS (code := cc) (maxLocals := maxL) (ret := ret) hy ?_ ?_
  · intro args s m h hn
    obtain ⟨m9, meth, c, hn9, h1, h2, h3, h4, -, h5, h6, -⟩ := Cond.codeWith_spec (atoms_spec (ws := ws) h _ (by rw [hw]; exact List.mem_cons_self))
    cases hn.symm.trans hn9
    exact ⟨meth, c, h1, h2, h3, h4, h5, h6⟩
  · intro p e s m args below meth c s₁ B hml hP _
    have hh0 : s₁.heap = s.heap := by rw [B.state]; rfl
    obtain ⟨t, a1, o, b1, b2, b3⟩ := body p e s m args below meth c s₁ B hml hP s₁ hh0 (Stand.of_body B)
    exact ⟨t, o, a1, b1, b2, b3⟩
/-! ===== END ===== -/
section STP
variable {p : Program} {l : Launch} {e : Env} {R : Room} {s : State} {m₀ : MethodId} {args : Array Value} {below : List Frame} {meth : Method} {c : Code} {W : State} {locs : List Loc} {cells slots : Nat}
set_option maxHeartbeats 1000000 in
/-- 'new E()' that isn't thrown: the constructor's run (it follows the library's proof of a throw, without the throw) -/
theorem sx_ctor (X : Stand p l e R s m₀ args below meth c W locs cells slots) (hexec : p.tables.exec = Jvm.exec) (htr : e.platform.stackTraces = false) {own cls : String} {names : List String} {ic : Nat}
    (hown : s.vm.findClass own = some m₀.cls) (hcls : Bundle.fit cls = true) (hnames : ∀ n ∈ names, Bundle.fit n = true)
    (h : ∀ a ∈ Bundle.ownAtoms0 own ic cls names, a.before args s = true)
    (hlocs : ∀ x ∈ locs, ∀ cell, s.heap[x.base]? = some cell → cell.vm.isStatics = false)
    {a : Addr} {cX : ClassId} {kX : Class} (hfoundX : s.vm.findClass cls = some cX) (hkX : s.vm.classes[cX]? = some kX) (hcell : W.heap[a]? = some (freshCell cX kX)) (hnew : s.heap.size ≤ a)
    {g : JFrame} (hg : g.method = m₀) (hsize : g.locals.size = c.maxLocals) {rest : List Value} (hstack : g.stack = .ref a :: .ref a :: rest)
    (hd6 : decode c.code g.pc = .ok (.invokespecial ic, 3))
    (hRframes : names.length + 3 < R.frames) (hRlocals : 2 * g.monitorRoom + ((Value.ref a :: rest).map fun v => v.category).sum + (13 * (names.length + 1) + 41) ≤ R.locals) :
    ∃ (vm' : Vm) (ce : Cell) (L : List Loc), (∀ x ∈ L, x.base = a) ∧ ce.vm = .none ∧ ce.cls = cX ∧ Stand p l e R s m₀ args below meth c ((W.setVm vm').setCell a ce) (locs ++ L) cells slots ∧
      ∀ target, Steps p.tables e below (((W.setVm vm').setCell a ce).setTop { g with pc := g.pc + 3, stack := .ref a :: rest }) target → Steps p.tables e below (W.setTop g) target := by
  have howns : e.platform.frameOwnsMonitors = true := by rw [X.admits.platform]
  have hfin : e.platform.finalization = false := by rw [X.admits.platform]
  have hpl : e.platform.magicAccessors = ({} : Platform).magicAccessors := by rw [X.admits.platform]
  have a' : ∀ x, x ∈ Bundle.ownAtoms0 own ic cls names → x.holds args s none s [] = true := fun x hx => h x hx
  obtain ⟨T, Z, L, LZ, Y⟩ := ThrowableC.of_atoms (args := args) howns hfin hpl (fun x hx => h x (by simp [Bundle.ownAtoms0, hx]))
  obtain ⟨P1, Ps, hlen, L1, hL, hP1m, hlink1, hlink⟩ := Bundle.chain0 (args := args) hpl Y.init0 names cls hcls hnames (fun x hx => h x (by simp [Bundle.ownAtoms0, hx]))
  have hfound : s.vm.findClass cls = some P1.m.cls := findClass_of_methodNamed hP1m
  cases Option.some.inj (hfoundX.symm.trans hfound)
  obtain ⟨c1, kX', hc1, hk, hord, -, -, hn6⟩ := Cond.instantiable_spec (a' (.instantiable cls 6) (by simp [Bundle.ownAtoms0]))
  cases Option.some.inj (hc1.symm.trans hfound)
  cases Option.some.inj (hkX.symm.trans hk)
  have hsel0 : selectMethod e.platform s.vm P1.m.cls T.fill0 = .method T.fill0 := by
    obtain ⟨c2, r2, m2, q1, q2, q3, q4, -⟩ := Cond.selects_spec (a' (.selects cls Bundle.tFill0 Bundle.tFill0) (by simp [Bundle.ownAtoms0]))
    cases Option.some.inj (q1.symm.trans hfound)
    cases Option.some.inj (q2.symm.trans (State.methodFound?_of_named Y.fill0 (by decide)))
    cases Option.some.inj (q3.symm.trans Y.fill0)
    rw [Launch.admits_selectMethod X.admits]; exact q4
  have hselF : selectMethod e.platform s.vm P1.m.cls T.fill = .method T.fill := by
    obtain ⟨c2, r2, m2, q1, q2, q3, q4, -⟩ := Cond.selects_spec (a' (.selects cls Bundle.tFill Bundle.tFill) (by simp [Bundle.ownAtoms0]))
    cases Option.some.inj (q1.symm.trans hfound)
    cases Option.some.inj (q2.symm.trans (State.methodFound?_of_named Y.fill (by decide)))
    cases Option.some.inj (q3.symm.trans Y.fill)
    rw [Launch.admits_selectMethod X.admits]; exact q4
  obtain ⟨cellS0, hcS0, hiss⟩ := Y.statics
  obtain ⟨u0, hu0⟩ := Cond.staticRefV Y.unassigned L.unassignedStatic L.statics hcS0 hiss (a' (.isRef (.static Bundle.tN "UNASSIGNED_STACK" Bundle.steD)) (by simp [Bundle.ownAtoms0]))
  obtain ⟨sen, hsen⟩ := Cond.staticRefV Y.sentinel L.sentinelStatic L.statics hcS0 hiss (a' (.isRef (.static Bundle.tN "SUPPRESSED_SENTINEL" Bundle.listD)) (by simp [Bundle.ownAtoms0]))
  obtain ⟨ci198, i198, fB, hk198, hg198, ha198, hsB, -, hnB, htB, hffB⟩ := Cond.ownField (t := .object "java/lang/Object") Y.found L.cls (by decide +kernel) (a' (.fieldLink Bundle.tN 198 Bundle.tN "backtrace" "Ljava/lang/Object;") (by simp [Bundle.ownAtoms0])) (a' (.lays Bundle.tN Bundle.tN "backtrace" "Ljava/lang/Object;") (by simp [Bundle.ownAtoms0])) e.platform hpl
  obtain ⟨cellS, hcS', heS, -, hkeep⟩ := X.same.2.2.2.2.2 T.aS cellS0 hcS0
  have hcellS : W.heap[T.aS]? = some cellS := hcS'
  have hout' : ∀ i, (⟨T.aS, i⟩ : Loc) ∉ locs := fun i hmem => by
    have := hlocs _ hmem cellS0 hcS0
    rw [hiss] at this; cases this
  have hknownS : cellS.vm ≠ .unknown := by
    rw [heS]; intro hu
    rw [show cellS0.vm = .unknown from hu] at hiss
    cases hiss
  have hneS : T.aS ≠ a := Nat.ne_of_lt (Nat.lt_of_lt_of_le (Array.getElem?_eq_some_iff.mp hcS0).1 hnew)
  obtain ⟨tyC, dC, hdC, hdnC⟩ := Cond.laysAt hfound hk Y.cause (a' (.lays cls Bundle.tN "cause" "Ljava/lang/Throwable;") (by simp [Bundle.ownAtoms0]))
  obtain ⟨tyS, dS, hdS, hdnS⟩ := Cond.laysAt hfound hk Y.stack (a' (.lays cls Bundle.tN "stackTrace" Bundle.steD) (by simp [Bundle.ownAtoms0]))
  obtain ⟨tyP, dP, hdP, hdnP⟩ := Cond.laysAt hfound hk Y.supp (a' (.lays cls Bundle.tN "suppressedExceptions" Bundle.listD) (by simp [Bundle.ownAtoms0]))
  obtain ⟨tyB, dB, hdB, hdnB⟩ := Cond.laysAt hfound hk hffB (a' (.lays cls Bundle.tN "backtrace" "Ljava/lang/Object;") (by simp [Bundle.ownAtoms0]))
  have bC := Cond.laysApart hdB hdC hdnB hdnC (by rw [hnB, Y.causeName]; decide)
  have bS := Cond.laysApart hdB hdS hdnB hdnS (by rw [hnB, Y.stackName]; decide)
  have bP := Cond.laysApart hdB hdP hdnB hdnP (by rw [hnB, Y.suppName]; decide)
  have hskip : SkipFacts T e.platform s (fun u => u) u0 ((preparedCellV T.toThrowableT (freshCell P1.m.cls kX) a u0 sen).withEntry W.cur) :=
    ⟨{ ci198 := ci198, i198 := i198, fBack := fB }, ⟨hk198, hg198, ha198, hsB⟩, by
      have := fresh_default (c := P1.m.cls) tyB
      rw [htB] at this
      simpa [preparedCellV, Cell.setSlot, Cell.withEntry, Array.getElem?_setIfInBounds, bC, bS, bP, bC.symm, bS.symm, bP.symm, defaultValue] using this, fun _ _ => rfl⟩
  obtain ⟨tm, methC, cdC, kC, vm₁, hnC, -, -, -, -, -, -, -, hW₁, st1⟩ := Steps.initCold (tb := p.tables) (e := e) (below := below) (s := s) (U := W) X.here hexec X.warmed hpl hown (t := Bundle.init0 cls) rfl rfl (Bundle.fit_spec hcls).2
    (a' (.methodLink own ic (Bundle.init0 cls)) (by simp [Bundle.ownAtoms0])) (h (.instanceMethod (Bundle.init0 cls)) (by cases names <;> simp [Bundle.ownAtoms0, Bundle.chain0Atoms, Bundle.passAtoms])) (bytes := Bundle.five) (maxL := 1) (h (.code (Bundle.init0 cls) Bundle.five 1 none) (by cases names <;> simp [Bundle.ownAtoms0, Bundle.chain0Atoms, Bundle.passAtoms]))
    (f := g) hg (a := a) (rest := .ref a :: rest) hstack hd6
  cases Option.some.inj (hnC.symm.trans hP1m)
  have X₁ := X.noted hW₁
  obtain ⟨vm₂, X₂, st2⟩ := X₁.ctorPlainOffV hexec (g := { g with stack := .ref a :: rest }) hg hsize T L Z LZ (P1 :: Ps)
    (fun P hP => by rcases List.mem_cons.mp hP with rfl | hP; exact L1; exact hL P hP) ⟨hlink1, hlink⟩ (u0 := u0) (sen := sen) (self := a) (cell := freshCell P1.m.cls kX) (cellS := cellS)
    hcell (fun _ => by simp) (by simp) rfl rfl hsel0 hselF hcellS hneS hknownS (by rw [hkeep _ (hout' _)]; exact hu0) (by rw [hkeep _ (hout' _)]; exact hsen)
    (Takes.of_laid hk hord tyC (by rw [Y.causeType]; rfl)) (Takes.of_laid hk hord tyS (by rw [Y.stackType]; exact fits_refV_array _ u0)) (Takes.of_laid hk hord tyP (by rw [Y.suppType]; exact fits_refV_object _ sen)) Y.objLocals hskip htr [] hd6
    (by simp only [List.length_cons, hlen]; omega) (by simp only [List.length_cons, hlen]; exact hRlocals)
  refine ⟨vm₂, _, _, ?_, ?_, ?_, X₂, fun target hst => st1 _ (fun acts => ?_)⟩
  · intro x hx
    simp only [List.mem_cons, List.not_mem_nil, or_false] at hx
    rcases hx with rfl | rfl | rfl | rfl <;> rfl
  · rfl
  · rfl
  · rw [doInvoke_state]
    exact st2 _ hst
end STP
section STW
variable {p : Program} {l : Launch} {e : Env} {R : Room} {s : State} {m : MethodId} {args : Array Value} {below : List Frame} {meth : Method} {c : Code} {H : Heap} {locs : List Loc} {cells slots : Nat} {Q : State → Prop} {pc : Nat} {ls : Array Slot} {rest : List Value}
/-- a throw of a thing that is there -/
theorem sx_athrow {cc : ByteArray} {q : Addr} (hexec : p.tables.exec = Jvm.exec) (hb : c.code = cc) (hdg : decode cc pc = .ok (.athrow, 1)) (kx : vx_W p l e R s m args below meth c H locs cells slots Q (F0 m pc ls rest) q) : W p l e R s m args below meth c H locs cells slots Q (F0 m pc ls (.ref q :: rest)) := by
  intro T hT X
  obtain ⟨t, a1, b1⟩ := kx T hT X
  refine ⟨t, ?_, b1⟩
  subst hb
  jvm_step X.here [X.here.top, hexec, hdg, athrow.wp_sem]
  exact a1
set_option maxHeartbeats 1000000 in
/-- 'new E()' whose thing is kept: new; dup; invokespecial -/
theorem sx_new {cc : ByteArray} (hexec : p.tables.exec = Jvm.exec) (hb : c.code = cc) (hl : l.stackTraces = false) {own cls : String} {names : List String} {ik ic : Nat} {A : Nat → Prop}
    (hown : s.vm.findClass own = some m.cls) (hcls : Bundle.fit cls = true) (hnames : ∀ n ∈ names, Bundle.fit n = true)
    (hk : (Cond.classLink own ik cls).before args s = true) (hini : (Cond.initialized cls).before args s = true) (h : ∀ w ∈ Bundle.ownAtoms0 own ic cls names, w.before args s = true)
    (hlocs : ∀ q : Nat, A q → ∀ cell, s.heap[q]? = some cell → cell.vm.isStatics = false)
    {D : va_G} {cl : List vw_C} {tys : List (ClassId × FieldType)} {ws : va_W} {ci : Nat} {T0 : u_T} (hK : va_K D cl tys s) (hP : va_P D cl ws H) (hD : va_D A ws) (hS : va_S A s.heap H locs) (hA : ∀ q, s.heap.size ≤ q → A q) (hc : cl[ci]? = some (cls, T0, 0)) (hsize : ls.size = c.maxLocals)
    (d0 : decode cc pc = .ok (.new ik, 3)) (d3 : decode cc (pc + 3) = .ok (.dup, 1)) (d4 : decode cc (pc + 4) = .ok (.invokespecial ic, 3))
    (hRframes : names.length + 3 < R.frames) (hRlocals : (rest.map fun v => v.category).sum + (13 * (names.length + 1) + 42) ≤ R.locals) (hRcells : cells + 1 ≤ R.cells) (hRslots : slots + 6 ≤ R.slots)
    (kk : ∀ (q : Nat) (H1 : Heap) (locs1 : List Loc), va_P D cl (ws ++ [(q, .inr (ci, []))]) H1 → va_D A (ws ++ [(q, .inr (ci, []))]) → va_S A s.heap H1 locs1 → W p l e R s m args below meth c H1 locs1 (cells + 1) (slots + 6) Q (F0 m (pc + 7) ls (.ref q :: rest))) :
    W p l e R s m args below meth c H locs cells slots Q (F0 m pc ls rest) := by
  intro T hT X
  have htr : e.platform.stackTraces = false := (show e.platform.stackTraces = l.stackTraces by rw [X.admits.platform]).trans hl
  have hins : (Cond.instantiable cls 6).before args s = true := h _ (by simp [Bundle.ownAtoms0])
  obtain ⟨vm₁, cX, kX, hfX, hkX, -, -, X₁, st1⟩ := X.newCold hexec (own := own) (C := cls) (index := ik) (n := 6) hown hk hins hini
    (g := F0 m pc ls rest) rfl (by rw [hb]; exact d0) hRcells hRslots
  have hpush : ∀ q : Nat, q < T.heap.size → ((T.setVm vm₁).pushCell { cls := cX, slots := kX.instanceTypes.map defaultValue, vm := .none }).heap[q]? = T.heap[q]? := fun q hq => by
    show (T.heap.push _)[q]? = T.heap[q]?
    rw [Array.getElem?_push_lt hq, Array.getElem?_eq_getElem hq]
  have hsz1 : ((T.setVm vm₁).pushCell { cls := cX, slots := kX.instanceTypes.map defaultValue, vm := .none }).heap.size = T.heap.size + 1 := Array.size_push _
  have hcellA : ((T.setVm vm₁).pushCell { cls := cX, slots := kX.instanceTypes.map defaultValue, vm := .none }).heap[T.heap.size]? = some (freshCell cX kX) := State.heap_pushCell_size _ _
  generalize hT1 : (T.setVm vm₁).pushCell { cls := cX, slots := kX.instanceTypes.map defaultValue, vm := .none } = T1 at X₁ st1 hpush hsz1 hcellA
  have hcat : (Value.ref T.heap.size).category = 1 := rfl
  have d3' : decode c.code (pc + 3) = .ok (.dup, 1) := by rw [hb]; exact d3
  obtain ⟨vm', ce, L, hLb, hcv, hcc, X2, st2⟩ := sx_ctor X₁ hexec htr (own := own) (cls := cls) (names := names) (ic := ic) hown hcls hnames h (fun x hx => hlocs _ (hS.2.2 x hx)) hfX hkX hcellA (by rw [hT]; exact hS.1)
    (g := { method := m, pc := pc + 4, locals := ls, stack := .ref T.heap.size :: .ref T.heap.size :: rest, locked := none }) rfl hsize (rest := rest) rfl
    (by rw [hb]; exact d4) hRframes (by simp only [List.map_cons, List.sum_cons, hcat]; omega)
  have hlt : T.heap.size < (T1.setVm vm').heap.size := by show T.heap.size < T1.heap.size; omega
  have hself : ((T1.setVm vm').setCell T.heap.size ce).heap[T.heap.size]? = some ce := heapAt_setCell_self ce hlt
  have hoth : ∀ q : Nat, q < T.heap.size → ((T1.setVm vm').setCell T.heap.size ce).heap[q]? = H[q]? := fun q hq => by
    rw [heapAt_setCell_ne ce (Nat.ne_of_gt hq)]
    show T1.heap[q]? = H[q]?
    rw [hpush q hq, hT]
  have hsz2 : ((T1.setVm vm').setCell T.heap.size ce).heap.size = T.heap.size + 1 := by
    show (T1.heap.setIfInBounds T.heap.size ce).size = _
    rw [Array.size_setIfInBounds]; exact hsz1
  rw [hT] at hself hoth hsz2 hLb
  have hcx : D.1 ci = cX := Option.some.inj ((hK.1 ci _ hc).2.1.symm.trans hfX)
  have hP' : va_P D cl (ws ++ [(H.size, .inr (ci, []))]) ((T1.setVm vm').setCell H.size ce).heap := by
    refine (hP.kept (fun k x hx => ?_)).app (fun k x hx => ?_)
    · exact hoth x.1 (hP k x hx).lt
    · have hz : k < 1 := (List.getElem?_eq_some_iff.mp hx).1
      rw [show k = 0 by omega] at hx
      cases hx
      exact ⟨_, hc, ce, hself, by rw [hcx]; exact hcc, hcv, fun k hk => absurd hk (Nat.not_lt_zero _)⟩
  have hS' : va_S A s.heap ((T1.setVm vm').setCell H.size ce).heap (locs ++ L) := by
    refine ⟨by rw [hsz2]; have := hS.1; omega, fun q h1 h2 => ?_, fun x hx => ?_⟩
    · rw [hoth q (Nat.lt_of_lt_of_le h1 hS.1)]; exact hS.2.1 q h1 h2
    · rcases List.mem_append.mp hx with h1 | h1
      · exact hS.2.2 x h1
      · rw [hLb x h1]; exact hA _ hS.1
  rw [hT] at X2 st2
  obtain ⟨t, a1, b1⟩ := kk H.size ((T1.setVm vm').setCell H.size ce).heap (locs ++ L) hP' (hD.push hP rfl (hA _ hS.1)) hS' ((T1.setVm vm').setCell H.size ce) rfl X2
  refine ⟨t, ?_, b1⟩
  refine st1 _ ?_
  show Steps p.tables e below (T1.setTop { method := m, pc := pc + 3, locals := ls, stack := .ref T.heap.size :: rest, locked := none }) _
  jvm_step X₁.here [X₁.here.top, hexec, d3', Value.category]
  rw [hT]
  exact st2 _ a1
end STW
/-- the two statics of Throwable that a new exception reads -/
def exq (A : Nat → Prop) (U : State) (H : Heap) : Prop := vx_Zq Bundle.tN "UNASSIGNED_STACK" Bundle.steD A U H ∧ vx_Zq Bundle.tN "SUPPRESSED_SENTINEL" Bundle.listD A U H
theorem exq_pass {A B : Nat → Prop} {s U : State} {H : Heap} {locs : List Loc} (h : exq A s s.heap) (hS : va_S A s.heap H locs) (hF : ∀ q, B q → A q) (hU : U.heap = H) (hW : s.WarmedH U.vm) : exq B U U.heap := by
  rw [hU]
  exact ⟨((h.1.kept hS.2.1).narrow hF).moved hW.alike, ((h.2.kept hS.2.1).narrow hF).moved hW.alike⟩
theorem exq_calling {A : Nat → Prop} {U : State} {g : JFrame} {mk : MethodId} {a : Array Value} (h : exq A U U.heap) : exq A (U.calling g mk a) (U.calling g mk a).heap := ⟨vx_Zq.moved (u := U) (Vm.Alike.refl U.vm) h.1, vx_Zq.moved (u := U) (Vm.Alike.refl U.vm) h.2⟩
/-- the class's own table of eight numbers -/
def mg (A : Nat → Prop) (U : State) (H : Heap) : Prop := ∃ t : Nat, va_Z "CodeFoundry" "MAGIC" "[I" (.ref t) A U H ∧ va_T .int t 8 (fun j => .int (([202, 254, 186, 190, 0, 0, 0, 49] : List Int32).getD j 0)) A U H
theorem mg_pass {A B : Nat → Prop} {s U : State} {H : Heap} {locs : List Loc} (h : mg A s s.heap) (hS : va_S A s.heap H locs) (hF : ∀ q, B q → A q) (hU : U.heap = H) (hW : s.WarmedH U.vm) : mg B U U.heap := by
  rw [hU]
  obtain ⟨t, h1, h2⟩ := h
  exact ⟨t, ((h1.kept hS.2.1).narrow hF).moved hW.alike, ((h2.kept hS.2.1).narrow hF).moved hW.alike⟩
theorem mg_calling {A : Nat → Prop} {U : State} {g : JFrame} {mk : MethodId} {a : Array Value} (h : mg A U U.heap) : mg A (U.calling g mk a) (U.calling g mk a).heap := by
  obtain ⟨t, h1, h2⟩ := h
  exact ⟨t, va_Z.moved (u := U) (Vm.Alike.refl U.vm) h1, va_T.moved (u := U) (Vm.Alike.refl U.vm) h2⟩
def st_E (E : (Nat → Prop) → State → Heap → Prop) (dC : Nat → ClassId) (dI : Nat → Nat → Nat) (sz : Nat) (ws : va_W) (tys : List (ClassId × FieldType)) (U : State) : Prop := st_U dC dI sz ws tys U ∧ E (va_A ws sz) U U.heap
theorem st_blindE {E : (Nat → Prop) → State → Heap → Prop} (hE : ∀ {A : Nat → Prop} {U : State} {g : JFrame} {mk : MethodId} {a : Array Value}, E A U U.heap → E A (U.calling g mk a) (U.calling g mk a).heap) {av : List Value} {dC : Nat → ClassId} {dI : Nat → Nat → Nat} {sz : Nat} {ws : va_W} {tys : List (ClassId × FieldType)} : FrameBlind (va_Pc av (st_E E dC dI sz ws tys)) := fun a U g mk q => by
  obtain ⟨q0, q1, q2⟩ := q
  exact ⟨q0, (st_blind (av := av) a U g mk ⟨q0, q1⟩).2, hE q2⟩
theorem st_mkE {E : (Nat → Prop) → State → Heap → Prop} {av : List Value} {dC : Nat → ClassId} {dI : Nat → Nat → Nat} {ws : va_W} {tys : List (ClassId × FieldType)} {s U : State} {H : Heap} {A : Nat → Prop} (hU : U.heap = H) (hW : s.WarmedH U.vm) (hP : va_P (dC, dI) cl0 ws H) (hK : va_K (dC, dI) cl0 tys s) (hD : va_D A ws) (hex : ex s) (hE : E (va_A ws H.size) U U.heap) : va_Pc av (st_E E dC dI H.size ws tys) av.toArray U :=
  ⟨rfl, (st_mk (av := av) hU hW hP hK hD hex).2, hE⟩
theorem sx_locs {D : va_G} {cl : List vw_C} {ws : va_W} {H : Heap} {sz : Nat} (hP : va_P D cl ws H) (hsz : H.size ≤ sz) (ho : ∀ (k : Nat) (q : Nat × va_E), ws[k]? = some q → ∃ o, q.2 = .inr o) : ∀ q : Nat, va_A ws sz q → ∀ cell, H[q]? = some cell → cell.vm.isStatics = false := by
  intro q h cell hc
  rcases h with ⟨k, e, hk⟩ | h
  · obtain ⟨o, ho⟩ := ho k _ hk
    have h1 := hP k _ hk
    dsimp only at ho
    subst ho
    obtain ⟨r, -, ce, h2, -, h3, -⟩ := h1
    cases Option.some.inj (hc.symm.trans h2)
    rw [h3]; rfl
  · have := (Array.getElem?_eq_some_iff.mp hc).1
    omega
theorem sx_cell {s : State} {H : Heap} {D : va_G} {cl : List vw_C} {a q0 ci : Nat} {q : vw_C} {fs : List Value} {ws : va_W} {tys : List (ClassId × FieldType)} (hK : va_K D cl tys s) (hP : va_P D cl ws H) (hc : cl[ci]? = some q) (he : ws[q0]? = some (a, .inr (ci, fs))) : ∃ ce : Cell, H[a]? = some ce ∧ ce.vm = .none ∧ s.vm.findClass q.1 = some ce.cls := by
  obtain ⟨r, h1, ce, h2, h3, h4, -⟩ := hP q0 _ he
  exact ⟨ce, h2, h4, by rw [h3]; exact (hK.1 ci _ hc).2.1⟩
/-- the words of a new IllegalStateException -/
theorem sx_words {args : Array Value} {s : State} {A : Nat → Prop} (hts : ∀ w ∈ tb, w.before args s = true) (hex : ex s) (hE : exq A s s.heap) : ∀ w ∈ Bundle.ownAtoms0 RX14 21 RJxb5711 nmL, w.before args s = true :=
  vx_hat (B := [.isRef (.static Bundle.tN "UNASSIGNED_STACK" Bundle.steD), .isRef (.static Bundle.tN "SUPPRESSED_SENTINEL" Bundle.listD), .laysStatic Bundle.tN "UNASSIGNED_STACK" Bundle.steD, .laysStatic Bundle.tN "SUPPRESSED_SENTINEL" Bundle.listD, .declares (Bundle.init0 "java/lang/RuntimeException"), .declares (Bundle.init0 "java/lang/Exception"), .declares (Bundle.init0 Bundle.tN), .castable RJxb5711 RJxb5711])
    (fun w h => hts w (tbsi w h)) (by decide +kernel)
    (vx_c (vx_isRefq hE.1.1) (vx_c (vx_isRefq hE.2.1) (vx_c hE.1.2.word (vx_c hE.2.2.word (vx_c (va_Nw.use rfl (nw_of nn_d1 hex)) (vx_c (va_Nw.use rfl (nw_of nn_d2 hex)) (vx_c (va_Nw.use rfl (nw_of nn_d3 hex)) (vx_c (va_Nw.use rfl (nw_of nn_cast hex)) vx_n))))))))
section SXC
variable {p : Program} {l : Launch} {e : Env} {R : Room} {s : State} {m : MethodId} {args : Array Value} {below : List Frame} {meth : Method} {c : Code} {H : Heap} {locs : List Loc} {cells slots : Nat} {Q : State → Prop}
variable {mc ms : Nat} {free : Addr → Prop} {A0 : Nat → Prop} {H0 : Heap} {pc : Nat} {ls : Array Slot} {st0 rest : List Value}
/-- a call that only throws -/
theorem sx_callX {SX : Type} {px : SX → Prop} {BX : String → SX → State → Prop} {AX : Nat → Prop} {Qa : State → Outcome → State → Prop} (hr : vx_Run p l e R s m args below meth c H locs cells slots mc ms (F0 m pc ls st0) rest Qa (vx_X px BX AX) free) (hno : ∀ st o t, Qa st o t → False) (hS : va_S A0 H0 H locs) (hf : ∀ q, free q → A0 q) (hAX : ∀ q, q < H.size → AX q → A0 q)
    (kx : ∀ (E : String) (ce : Cell) (q9 : Addr) (u : SX) (t : State) (H1 : Heap) (locs1 : List Loc), t.heap = H1 → s.vm.Alike t.vm → px u → BX E u t → H.size ≤ H1.size → (∀ q : Nat, q < H.size → ¬ AX q → H1[q]? = H[q]?) → va_S A0 H0 H1 locs1 → H1[q9]? = some ce → ce.vm = .none → s.vm.findClass E = some ce.cls → vx_W p l e R s m args below meth c H1 locs1 (cells + mc) (slots + ms) Q (F0 m pc ls rest) q9) : W p l e R s m args below meth c H locs cells slots Q (F0 m pc ls st0) := by
  intro T hT X
  rcases hr T hT X with ⟨v, st₀, t, T', L, h0, X', hL, e1, e2, hq, st⟩ | ⟨q, st₀, t, T', L, E, ce, h0, X', hL, e1, e2, ⟨u, hp, hb, hF⟩, hce, hcv, hcl, st⟩
  · exact (hno _ _ _ hq).elim
  · obtain ⟨k1, k2, k3⟩ := vx_keep h0 e1 hS hAX hf hL hF
    obtain ⟨t2, a1, b1⟩ := kx E ce q u t T'.heap (locs ++ L) e1.symm (by rw [← e2]; exact X'.warmed.alike) hp hb k1 k2 k3 (by rw [e1]; exact hce) hcv hcl T' rfl X'
    exact ⟨t2, st.trans a1, b1⟩
end SXC
end
section
set_option maxHeartbeats 4000000 in
set_option maxRecDepth 100000 in
theorem m_X0_init (l : Launch) (dC : Nat → ClassId) (dI : Nat → Nat → Nat) (sz : Nat) (h0 : Nat)  : Met l yX0_init (wt yX0_init cX0_init 1 none) ({ frames := 1, cells := 1, slots := 64, locals := 12 }) (va_Pc [.ref h0] (st_U dC dI sz [(h0, .inr (0, dfX0))] [])) (va_Qv (fun _ : Unit => True) (fun (_ : Unit) (t : State) => ∃ (fs1 : List Value), ∃ (hd : Nat), ∃ (cB : ClassId), (fs1.length = 2) ∧ (fs1[0]? = some (.ref hd)) ∧ (fs1[1]? = some (.int 0)) ∧ va_P (dC, dI) cl0 [(h0, .inr (0, fs1)), (hd, .inl (cB, 64, .inl (fun _ => 0)))] t.heap ∧ va_K (dC, dI) cl0 [(cB, .byte)] t ∧ va_D (va_A [(h0, .inr (0, dfX0))] sz) [(h0, .inr (0, fs1)), (hd, .inl (cB, 64, .inl (fun _ => 0)))]) (va_A [(h0, .inr (0, dfX0))] sz)) 1 64 (va_A [(h0, .inr (0, dfX0))] sz) := by
  refine Met.ofW (cc := cX0_init) (maxL := 1) (ret := none) (by decide) rfl ?_
  intro p e s m args below meth c s₁ B hml hv
  obtain ⟨rfl, hsz, hP, hK, hD0, hex⟩ := hv
  have hx := B.exec
  have hb := B.bytes
  have hr := B.returns
  have hts0 := atoms_spec (ws := wt yX0_init cX0_init 1 none) B.pre
  have hts : ∀ w ∈ tb, w.before _ s = true := fun w h => hts0 w (List.mem_cons_of_mem _ h)
  have hown : s.vm.findClass RX0 = some m.cls := findClass_of_methodNamed B.named
  have hlocks := B.notSynchronized
  have hin : meth.name = "<init>" := (name_of_methodNamed B.named B.method).1
  subst hsz
  have hD := hD0.self (sz := s.heap.size)
  generalize hAe : va_A [(h0, .inr (0, dfX0))] s.heap.size = A at hD ⊢
  have hA : ∀ q : Nat, s.heap.size ≤ q → A q := fun q h => by rw [← hAe]; exact Or.inr h
  have hS : va_S A s.heap s.heap [] := va_S.rf
  have hl := lv_entry ([.ref h0]) (n := 1) (Nat.le_of_ble_eq_true rfl)
  rw [lg_entry_eq]
  generalize (lg_sl ([.ref h0]) ++ List.replicate (1 - (lg_sl ([.ref h0])).length) Slot.unset).toArray = ls at hl ⊢
  have hl : lv_has ls 1 [(0, .ref h0)] := hl
  refine lv_aload_n hx hb dX0_init_0 rfl (lv_at hl 0 rfl) ?_
  refine W.objInit hx hb hown (hts _ kw_0) (hts _ kw_1) (hts _ kw_2) rfl (by rw [hml]; exact hl.1) rfl dX0_init_1 (Nat.le_of_ble_eq_true rfl) (Nat.le_of_ble_eq_true rfl) ?_
  refine W.eq (g2 := F0 m 4 ls []) rfl ?_
  refine lv_aload_n hx hb dX0_init_4 rfl (lv_at hl 0 rfl) ?_
  refine lv_bipush (v := 64) hx hb dX0_init_5 (by decide) ?_
  refine va_newa (atype := .byte) (ty := .byte) (a0 := (64, .inl (fun _ => 0))) (N' := 64) hx hb (hts (.arrayClass .byte) kw_3) rfl hK hP hD hS hA (fun _ => rfl) (by decide) (by decide) (by decide) (Nat.le_of_ble_eq_true rfl) (Nat.le_of_ble_eq_true rfl) dX0_init_7 (fun q_1 cA_2 H hK hP hD hS => ?_)
  have hP : va_P (dC, dI) cl0 [(h0, .inr (0, dfX0)), (q_1, .inl (cA_2, 64, .inl (fun _ => 0)))] H := hP
  have hD : va_D A [(h0, .inr (0, dfX0)), (q_1, .inl (cA_2, 64, .inl (fun _ => 0)))] := hD
  have hK : va_K (dC, dI) cl0 [(cA_2, .byte)] s := hK
  refine W.widen (k := 1) (n := 64) (Nat.le_of_ble_eq_true rfl) (Nat.le_of_ble_eq_true rfl) ?_
  refine va_put (D := (dC, dI)) (ci := 0) (v := .ref q_1) (ty := (.array .byte)) (C := RX0) (T := TX0) (N := 2) hx hb hts inX0 tyX0 tyX0_ok nmX0 hown hK hP hD hS 0 rfl rfl 0 (by decide) (hts _ kw_4) (fun _ h9 => h9) rfl (by decide +kernel) rfl rfl (by rw [L_dfX0]; decide) dX0_init_9 (fun H locs hP hD hS => ?_)
  obtain ⟨dfX0_3, e_dfX0_3⟩ : ∃ z, z = dfX0.set 0 (.ref q_1) := ⟨_, rfl⟩
  have hP : va_P (dC, dI) cl0 [(h0, .inr (0, dfX0_3)), (q_1, .inl (cA_2, 64, .inl (fun _ => 0)))] H := by rw [e_dfX0_3]; exact hP
  have hD : va_D A [(h0, .inr (0, dfX0_3)), (q_1, .inl (cA_2, 64, .inl (fun _ => 0)))] := by rw [e_dfX0_3]; exact hD
  have L_dfX0_3 : dfX0_3.length = 2 := fx_len e_dfX0_3 L_dfX0
  have g_dfX0_3_1 := fx_ne (j := 1) e_dfX0_3 g_dfX0_1 (by decide)
  have g_dfX0_3_0 := fx_self e_dfX0_3 (by rw [L_dfX0]; decide)
  refine W.widen (k := 1) (n := 64) (Nat.le_of_ble_eq_true rfl) (Nat.le_of_ble_eq_true rfl) ?_
  have hP9 := hP.sub (ws' := [(h0, .inr (0, dfX0_3)), (q_1, .inl (cA_2, 64, .inl (fun _ => 0)))]) [0, 1] rfl
  have hD9 := hD.sub (ws' := [(h0, .inr (0, dfX0_3)), (q_1, .inl (cA_2, 64, .inl (fun _ => 0)))]) [0, 1] (by decide) rfl
  have hK9 := hK.sub (tys' := [(cA_2, .byte)]) [0] rfl
  exact W.vret hx hb hr (fun t9 ht9 hW9 => ⟨⟨(), rfl, trivial, dfX0_3, q_1, cA_2, L_dfX0_3, g_dfX0_3_0, g_dfX0_3_1, by rw [ht9]; exact hP9, va_K.moved hW9.alike hK9, hD9⟩, hS.F ht9⟩) hS.2.2 dX0_init_12
set_option maxHeartbeats 4000000 in
set_option maxRecDepth 100000 in
theorem m_X4_init (l : Launch) (dC : Nat → ClassId) (dI : Nat → Nat → Nat) (sz : Nat) (h0 : Nat)  : Met l yX4_init (wt yX4_init cX4_init 1 none) ({ frames := 1, cells := 3, slots := 0, locals := 12 }) (va_Pc [.ref h0] (st_U dC dI sz [(h0, .inr (4, dfX4))] [])) (va_Qv (fun _ : Unit => True) (fun (_ : Unit) (_ : State) => True) (va_A [(h0, .inr (4, dfX4))] sz)) 3 0 (va_A [(h0, .inr (4, dfX4))] sz) := by
  refine Met.ofW (cc := cX4_init) (maxL := 1) (ret := none) (by decide) rfl ?_
  intro p e s m args below meth c s₁ B hml hv
  obtain ⟨rfl, hsz, hP, hK, hD0, hex⟩ := hv
  have hx := B.exec
  have hb := B.bytes
  have hr := B.returns
  have hts0 := atoms_spec (ws := wt yX4_init cX4_init 1 none) B.pre
  have hts : ∀ w ∈ tb, w.before _ s = true := fun w h => hts0 w (List.mem_cons_of_mem _ h)
  have hown : s.vm.findClass RX4 = some m.cls := findClass_of_methodNamed B.named
  have hlocks := B.notSynchronized
  have hin : meth.name = "<init>" := (name_of_methodNamed B.named B.method).1
  subst hsz
  have hD := hD0.self (sz := s.heap.size)
  generalize hAe : va_A [(h0, .inr (4, dfX4))] s.heap.size = A at hD ⊢
  have hA : ∀ q : Nat, s.heap.size ≤ q → A q := fun q h => by rw [← hAe]; exact Or.inr h
  have hS : va_S A s.heap s.heap [] := va_S.rf
  have hl := lv_entry ([.ref h0]) (n := 1) (Nat.le_of_ble_eq_true rfl)
  rw [lg_entry_eq]
  generalize (lg_sl ([.ref h0]) ++ List.replicate (1 - (lg_sl ([.ref h0])).length) Slot.unset).toArray = ls at hl ⊢
  have hl : lv_has ls 1 [(0, .ref h0)] := hl
  refine lv_aload_n hx hb dX4_init_0 rfl (lv_at hl 0 rfl) ?_
  refine W.objInit hx hb hown (hts _ kw_5) (hts _ kw_1) (hts _ kw_2) rfl (by rw [hml]; exact hl.1) rfl dX4_init_1 (Nat.le_of_ble_eq_true rfl) (Nat.le_of_ble_eq_true rfl) ?_
  refine W.eq (g2 := F0 m 4 ls []) rfl ?_
  refine lv_aload_n hx hb dX4_init_4 rfl (lv_at hl 0 rfl) ?_
  refine lv_iconst (v := 0) hx hb dX4_init_5 (by decide) ?_
  refine va_newa (atype := .int) (ty := .int) (a0 := (0, .inl (fun _ => 0))) (N' := 0) hx hb (hts (.arrayClass .int) kw_6) rfl hK hP hD hS hA (fun _ => rfl) (by decide) (by decide) (by decide) (Nat.le_of_ble_eq_true rfl) (Nat.le_of_ble_eq_true rfl) dX4_init_6 (fun q_1 cA_2 H hK hP hD hS => ?_)
  have hP := hP.sub (ws' := [(h0, .inr (4, dfX4))]) [0] rfl
  have hD := hD.sub (ws' := [(h0, .inr (4, dfX4))]) [0] (by decide) rfl
  have hK := hK.sub (tys' := []) [] rfl
  refine W.widen (k := 1) (n := 0) (Nat.le_of_ble_eq_true rfl) (Nat.le_of_ble_eq_true rfl) ?_
  refine va_put (D := (dC, dI)) (ci := 4) (v := .ref q_1) (ty := (.array .int)) (C := RX4) (T := TX4) (N := 8) hx hb hts inX4 tyX4 tyX4_ok nmX4 hown hK hP hD hS 0 rfl rfl 0 (by decide) (hts _ kw_7) (fun _ h9 => h9) rfl (by decide +kernel) rfl rfl (by rw [L_dfX4]; decide) dX4_init_8 (fun H locs hP hD hS => ?_)
  obtain ⟨dfX4_3, e_dfX4_3⟩ : ∃ z, z = dfX4.set 0 (.ref q_1) := ⟨_, rfl⟩
  have hP : va_P (dC, dI) cl0 [(h0, .inr (4, dfX4_3))] H := by rw [e_dfX4_3]; exact hP
  have hD : va_D A [(h0, .inr (4, dfX4_3))] := by rw [e_dfX4_3]; exact hD
  have L_dfX4_3 : dfX4_3.length = 8 := fx_len e_dfX4_3 L_dfX4
  refine lv_aload_n hx hb dX4_init_11 rfl (lv_at hl 0 rfl) ?_
  refine lv_iconst (v := 0) hx hb dX4_init_12 (by decide) ?_
  refine va_newa (atype := .int) (ty := .int) (a0 := (0, .inl (fun _ => 0))) (N' := 0) hx hb (hts (.arrayClass .int) kw_6) rfl hK hP hD hS hA (fun _ => rfl) (by decide) (by decide) (by decide) (Nat.le_of_ble_eq_true rfl) (Nat.le_of_ble_eq_true rfl) dX4_init_13 (fun q_4 cA_5 H hK hP hD hS => ?_)
  have hP := hP.sub (ws' := [(h0, .inr (4, dfX4_3))]) [0] rfl
  have hD := hD.sub (ws' := [(h0, .inr (4, dfX4_3))]) [0] (by decide) rfl
  have hK := hK.sub (tys' := []) [] rfl
  refine W.widen (k := 2) (n := 0) (Nat.le_of_ble_eq_true rfl) (Nat.le_of_ble_eq_true rfl) ?_
  refine va_put (D := (dC, dI)) (ci := 4) (v := .ref q_4) (ty := (.array .int)) (C := RX4) (T := TX4) (N := 8) hx hb hts inX4 tyX4 tyX4_ok nmX4 hown hK hP hD hS 0 rfl rfl 1 (by decide) (hts _ kw_8) (fun _ h9 => h9) rfl (by decide +kernel) rfl rfl (by rw [L_dfX4_3]; decide) dX4_init_15 (fun H locs hP hD hS => ?_)
  obtain ⟨dfX4_6, e_dfX4_6⟩ : ∃ z, z = dfX4_3.set 1 (.ref q_4) := ⟨_, rfl⟩
  have hP : va_P (dC, dI) cl0 [(h0, .inr (4, dfX4_6))] H := by rw [e_dfX4_6]; exact hP
  have hD : va_D A [(h0, .inr (4, dfX4_6))] := by rw [e_dfX4_6]; exact hD
  have L_dfX4_6 : dfX4_6.length = 8 := fx_len e_dfX4_6 L_dfX4_3
  refine lv_aload_n hx hb dX4_init_18 rfl (lv_at hl 0 rfl) ?_
  refine lv_iconst (v := 0) hx hb dX4_init_19 (by decide) ?_
  refine va_newa (atype := .boolean) (ty := .boolean) (a0 := (0, .inl (fun _ => 0))) (N' := 0) hx hb (hts (.arrayClass .boolean) kw_9) rfl hK hP hD hS hA (fun _ => rfl) (by decide) (by decide) (by decide) (Nat.le_of_ble_eq_true rfl) (Nat.le_of_ble_eq_true rfl) dX4_init_20 (fun q_7 cA_8 H hK hP hD hS => ?_)
  have hP := hP.sub (ws' := [(h0, .inr (4, dfX4_6))]) [0] rfl
  have hD := hD.sub (ws' := [(h0, .inr (4, dfX4_6))]) [0] (by decide) rfl
  have hK := hK.sub (tys' := []) [] rfl
  refine W.widen (k := 3) (n := 0) (Nat.le_of_ble_eq_true rfl) (Nat.le_of_ble_eq_true rfl) ?_
  refine va_put (D := (dC, dI)) (ci := 4) (v := .ref q_7) (ty := (.array .boolean)) (C := RX4) (T := TX4) (N := 8) hx hb hts inX4 tyX4 tyX4_ok nmX4 hown hK hP hD hS 0 rfl rfl 2 (by decide) (hts _ kw_10) (fun _ h9 => h9) rfl (by decide +kernel) rfl rfl (by rw [L_dfX4_6]; decide) dX4_init_22 (fun H locs hP hD hS => ?_)
  obtain ⟨dfX4_9, e_dfX4_9⟩ : ∃ z, z = dfX4_6.set 2 (.ref q_7) := ⟨_, rfl⟩
  have hP : va_P (dC, dI) cl0 [(h0, .inr (4, dfX4_9))] H := by rw [e_dfX4_9]; exact hP
  have hD : va_D A [(h0, .inr (4, dfX4_9))] := by rw [e_dfX4_9]; exact hD
  have L_dfX4_9 : dfX4_9.length = 8 := fx_len e_dfX4_9 L_dfX4_6
  refine W.widen (k := 3) (n := 0) (Nat.le_of_ble_eq_true rfl) (Nat.le_of_ble_eq_true rfl) ?_
  exact W.vret hx hb hr (fun t9 ht9 hW9 => ⟨⟨(), rfl, trivial, trivial⟩, hS.F ht9⟩) hS.2.2 dX4_init_25
set_option maxHeartbeats 4000000 in
set_option maxRecDepth 100000 in
theorem m_X8_init (l : Launch) (dC : Nat → ClassId) (dI : Nat → Nat → Nat) (sz : Nat) (h0 : Nat)  : Met l yX8_init (wt yX8_init cX8_init 4 none) ({ frames := 1, cells := 7, slots := 0, locals := 12 }) (va_Pc [.ref h0, .int 0, .int 0, .int 0] (st_U dC dI sz [(h0, .inr (7, dfX8))] [])) (va_Qv (fun _ : Unit => True) (fun (_ : Unit) (_ : State) => True) (va_A [(h0, .inr (7, dfX8))] sz)) 7 0 (va_A [(h0, .inr (7, dfX8))] sz) := by
  refine Met.ofW (cc := cX8_init) (maxL := 4) (ret := none) (by decide) rfl ?_
  intro p e s m args below meth c s₁ B hml hv
  obtain ⟨rfl, hsz, hP, hK, hD0, hex⟩ := hv
  have hx := B.exec
  have hb := B.bytes
  have hr := B.returns
  have hts0 := atoms_spec (ws := wt yX8_init cX8_init 4 none) B.pre
  have hts : ∀ w ∈ tb, w.before _ s = true := fun w h => hts0 w (List.mem_cons_of_mem _ h)
  have hown : s.vm.findClass RX8 = some m.cls := findClass_of_methodNamed B.named
  have hlocks := B.notSynchronized
  have hin : meth.name = "<init>" := (name_of_methodNamed B.named B.method).1
  subst hsz
  have hD := hD0.self (sz := s.heap.size)
  generalize hAe : va_A [(h0, .inr (7, dfX8))] s.heap.size = A at hD ⊢
  have hA : ∀ q : Nat, s.heap.size ≤ q → A q := fun q h => by rw [← hAe]; exact Or.inr h
  have hS : va_S A s.heap s.heap [] := va_S.rf
  have hl := lv_entry ([.ref h0, .int 0, .int 0, .int 0]) (n := 4) (Nat.le_of_ble_eq_true rfl)
  rw [lg_entry_eq]
  generalize (lg_sl ([.ref h0, .int 0, .int 0, .int 0]) ++ List.replicate (4 - (lg_sl ([.ref h0, .int 0, .int 0, .int 0])).length) Slot.unset).toArray = ls at hl ⊢
  have hl : lv_has ls 4 [(0, .ref h0), (1, .int 0), (2, .int 0), (3, .int 0)] := hl
  refine lv_aload_n hx hb dX8_init_0 rfl (lv_at hl 0 rfl) ?_
  refine W.objInit hx hb hown (hts _ kw_11) (hts _ kw_1) (hts _ kw_2) rfl (by rw [hml]; exact hl.1) rfl dX8_init_1 (Nat.le_of_ble_eq_true rfl) (Nat.le_of_ble_eq_true rfl) ?_
  refine W.eq (g2 := F0 m 4 ls []) rfl ?_
  refine lv_aload_n hx hb dX8_init_4 rfl (lv_at hl 0 rfl) ?_
  refine lv_iload_n hx hb dX8_init_5 rfl (lv_at hl 1 rfl) ?_
  refine va_newa (atype := .int) (ty := .int) (a0 := (0, .inl (fun _ => 0))) (N' := 0) hx hb (hts (.arrayClass .int) kw_6) rfl hK hP hD hS hA (fun _ => rfl) (by decide) (by decide) (by decide) (Nat.le_of_ble_eq_true rfl) (Nat.le_of_ble_eq_true rfl) dX8_init_6 (fun q_1 cA_2 H hK hP hD hS => ?_)
  have hP := hP.sub (ws' := [(h0, .inr (7, dfX8))]) [0] rfl
  have hD := hD.sub (ws' := [(h0, .inr (7, dfX8))]) [0] (by decide) rfl
  have hK := hK.sub (tys' := []) [] rfl
  refine W.widen (k := 1) (n := 0) (Nat.le_of_ble_eq_true rfl) (Nat.le_of_ble_eq_true rfl) ?_
  refine va_put (D := (dC, dI)) (ci := 7) (v := .ref q_1) (ty := (.array .int)) (C := RX8) (T := TX8) (N := 15) hx hb hts inX8 tyX8 tyX8_ok nmX8 hown hK hP hD hS 0 rfl rfl 0 (by decide) (hts _ kw_12) (fun _ h9 => h9) rfl (by decide +kernel) rfl rfl (by rw [L_dfX8]; decide) dX8_init_8 (fun H locs hP hD hS => ?_)
  obtain ⟨dfX8_3, e_dfX8_3⟩ : ∃ z, z = dfX8.set 0 (.ref q_1) := ⟨_, rfl⟩
  have hP : va_P (dC, dI) cl0 [(h0, .inr (7, dfX8_3))] H := by rw [e_dfX8_3]; exact hP
  have hD : va_D A [(h0, .inr (7, dfX8_3))] := by rw [e_dfX8_3]; exact hD
  have L_dfX8_3 : dfX8_3.length = 15 := fx_len e_dfX8_3 L_dfX8
  refine lv_aload_n hx hb dX8_init_11 rfl (lv_at hl 0 rfl) ?_
  refine lv_iload_n hx hb dX8_init_12 rfl (lv_at hl 1 rfl) ?_
  refine va_newa (atype := .long) (ty := .long) (a0 := (0, .inr (.inl (fun _ => 0)))) (N' := 0) hx hb (hts (.arrayClass .long) kw_13) rfl hK hP hD hS hA (fun _ => rfl) (by decide) (by decide) (by decide) (Nat.le_of_ble_eq_true rfl) (Nat.le_of_ble_eq_true rfl) dX8_init_13 (fun q_4 cA_5 H hK hP hD hS => ?_)
  have hP := hP.sub (ws' := [(h0, .inr (7, dfX8_3))]) [0] rfl
  have hD := hD.sub (ws' := [(h0, .inr (7, dfX8_3))]) [0] (by decide) rfl
  have hK := hK.sub (tys' := []) [] rfl
  refine W.widen (k := 2) (n := 0) (Nat.le_of_ble_eq_true rfl) (Nat.le_of_ble_eq_true rfl) ?_
  refine va_put (D := (dC, dI)) (ci := 7) (v := .ref q_4) (ty := (.array .long)) (C := RX8) (T := TX8) (N := 15) hx hb hts inX8 tyX8 tyX8_ok nmX8 hown hK hP hD hS 0 rfl rfl 1 (by decide) (hts _ kw_14) (fun _ h9 => h9) rfl (by decide +kernel) rfl rfl (by rw [L_dfX8_3]; decide) dX8_init_15 (fun H locs hP hD hS => ?_)
  obtain ⟨dfX8_6, e_dfX8_6⟩ : ∃ z, z = dfX8_3.set 1 (.ref q_4) := ⟨_, rfl⟩
  have hP : va_P (dC, dI) cl0 [(h0, .inr (7, dfX8_6))] H := by rw [e_dfX8_6]; exact hP
  have hD : va_D A [(h0, .inr (7, dfX8_6))] := by rw [e_dfX8_6]; exact hD
  have L_dfX8_6 : dfX8_6.length = 15 := fx_len e_dfX8_6 L_dfX8_3
  refine lv_aload_n hx hb dX8_init_18 rfl (lv_at hl 0 rfl) ?_
  refine lv_iload_n hx hb dX8_init_19 rfl (lv_at hl 2 rfl) ?_
  refine va_newa (atype := .int) (ty := .int) (a0 := (0, .inl (fun _ => 0))) (N' := 0) hx hb (hts (.arrayClass .int) kw_6) rfl hK hP hD hS hA (fun _ => rfl) (by decide) (by decide) (by decide) (Nat.le_of_ble_eq_true rfl) (Nat.le_of_ble_eq_true rfl) dX8_init_20 (fun q_7 cA_8 H hK hP hD hS => ?_)
  have hP := hP.sub (ws' := [(h0, .inr (7, dfX8_6))]) [0] rfl
  have hD := hD.sub (ws' := [(h0, .inr (7, dfX8_6))]) [0] (by decide) rfl
  have hK := hK.sub (tys' := []) [] rfl
  refine W.widen (k := 3) (n := 0) (Nat.le_of_ble_eq_true rfl) (Nat.le_of_ble_eq_true rfl) ?_
  refine va_put (D := (dC, dI)) (ci := 7) (v := .ref q_7) (ty := (.array .int)) (C := RX8) (T := TX8) (N := 15) hx hb hts inX8 tyX8 tyX8_ok nmX8 hown hK hP hD hS 0 rfl rfl 3 (by decide) (hts _ kw_15) (fun _ h9 => h9) rfl (by decide +kernel) rfl rfl (by rw [L_dfX8_6]; decide) dX8_init_22 (fun H locs hP hD hS => ?_)
  obtain ⟨dfX8_9, e_dfX8_9⟩ : ∃ z, z = dfX8_6.set 3 (.ref q_7) := ⟨_, rfl⟩
  have hP : va_P (dC, dI) cl0 [(h0, .inr (7, dfX8_9))] H := by rw [e_dfX8_9]; exact hP
  have hD : va_D A [(h0, .inr (7, dfX8_9))] := by rw [e_dfX8_9]; exact hD
  have L_dfX8_9 : dfX8_9.length = 15 := fx_len e_dfX8_9 L_dfX8_6
  refine lv_aload_n hx hb dX8_init_25 rfl (lv_at hl 0 rfl) ?_
  refine lv_iload_n hx hb dX8_init_26 rfl (lv_at hl 3 rfl) ?_
  refine va_newa (atype := .int) (ty := .int) (a0 := (0, .inl (fun _ => 0))) (N' := 0) hx hb (hts (.arrayClass .int) kw_6) rfl hK hP hD hS hA (fun _ => rfl) (by decide) (by decide) (by decide) (Nat.le_of_ble_eq_true rfl) (Nat.le_of_ble_eq_true rfl) dX8_init_27 (fun q_10 cA_11 H hK hP hD hS => ?_)
  have hP := hP.sub (ws' := [(h0, .inr (7, dfX8_9))]) [0] rfl
  have hD := hD.sub (ws' := [(h0, .inr (7, dfX8_9))]) [0] (by decide) rfl
  have hK := hK.sub (tys' := []) [] rfl
  refine W.widen (k := 4) (n := 0) (Nat.le_of_ble_eq_true rfl) (Nat.le_of_ble_eq_true rfl) ?_
  refine va_put (D := (dC, dI)) (ci := 7) (v := .ref q_10) (ty := (.array .int)) (C := RX8) (T := TX8) (N := 15) hx hb hts inX8 tyX8 tyX8_ok nmX8 hown hK hP hD hS 0 rfl rfl 5 (by decide) (hts _ kw_16) (fun _ h9 => h9) rfl (by decide +kernel) rfl rfl (by rw [L_dfX8_9]; decide) dX8_init_29 (fun H locs hP hD hS => ?_)
  obtain ⟨dfX8_12, e_dfX8_12⟩ : ∃ z, z = dfX8_9.set 5 (.ref q_10) := ⟨_, rfl⟩
  have hP : va_P (dC, dI) cl0 [(h0, .inr (7, dfX8_12))] H := by rw [e_dfX8_12]; exact hP
  have hD : va_D A [(h0, .inr (7, dfX8_12))] := by rw [e_dfX8_12]; exact hD
  have L_dfX8_12 : dfX8_12.length = 15 := fx_len e_dfX8_12 L_dfX8_9
  refine lv_aload_n hx hb dX8_init_32 rfl (lv_at hl 0 rfl) ?_
  refine lv_iload_n hx hb dX8_init_33 rfl (lv_at hl 3 rfl) ?_
  refine va_newa (atype := .int) (ty := .int) (a0 := (0, .inl (fun _ => 0))) (N' := 0) hx hb (hts (.arrayClass .int) kw_6) rfl hK hP hD hS hA (fun _ => rfl) (by decide) (by decide) (by decide) (Nat.le_of_ble_eq_true rfl) (Nat.le_of_ble_eq_true rfl) dX8_init_34 (fun q_13 cA_14 H hK hP hD hS => ?_)
  have hP := hP.sub (ws' := [(h0, .inr (7, dfX8_12))]) [0] rfl
  have hD := hD.sub (ws' := [(h0, .inr (7, dfX8_12))]) [0] (by decide) rfl
  have hK := hK.sub (tys' := []) [] rfl
  refine W.widen (k := 5) (n := 0) (Nat.le_of_ble_eq_true rfl) (Nat.le_of_ble_eq_true rfl) ?_
  refine va_put (D := (dC, dI)) (ci := 7) (v := .ref q_13) (ty := (.array .int)) (C := RX8) (T := TX8) (N := 15) hx hb hts inX8 tyX8 tyX8_ok nmX8 hown hK hP hD hS 0 rfl rfl 6 (by decide) (hts _ kw_17) (fun _ h9 => h9) rfl (by decide +kernel) rfl rfl (by rw [L_dfX8_12]; decide) dX8_init_36 (fun H locs hP hD hS => ?_)
  obtain ⟨dfX8_15, e_dfX8_15⟩ : ∃ z, z = dfX8_12.set 6 (.ref q_13) := ⟨_, rfl⟩
  have hP : va_P (dC, dI) cl0 [(h0, .inr (7, dfX8_15))] H := by rw [e_dfX8_15]; exact hP
  have hD : va_D A [(h0, .inr (7, dfX8_15))] := by rw [e_dfX8_15]; exact hD
  have L_dfX8_15 : dfX8_15.length = 15 := fx_len e_dfX8_15 L_dfX8_12
  refine lv_aload_n hx hb dX8_init_39 rfl (lv_at hl 0 rfl) ?_
  refine lv_iload_n hx hb dX8_init_40 rfl (lv_at hl 3 rfl) ?_
  refine va_newa (atype := .int) (ty := .int) (a0 := (0, .inl (fun _ => 0))) (N' := 0) hx hb (hts (.arrayClass .int) kw_6) rfl hK hP hD hS hA (fun _ => rfl) (by decide) (by decide) (by decide) (Nat.le_of_ble_eq_true rfl) (Nat.le_of_ble_eq_true rfl) dX8_init_41 (fun q_16 cA_17 H hK hP hD hS => ?_)
  have hP := hP.sub (ws' := [(h0, .inr (7, dfX8_15))]) [0] rfl
  have hD := hD.sub (ws' := [(h0, .inr (7, dfX8_15))]) [0] (by decide) rfl
  have hK := hK.sub (tys' := []) [] rfl
  refine W.widen (k := 6) (n := 0) (Nat.le_of_ble_eq_true rfl) (Nat.le_of_ble_eq_true rfl) ?_
  refine va_put (D := (dC, dI)) (ci := 7) (v := .ref q_16) (ty := (.array .int)) (C := RX8) (T := TX8) (N := 15) hx hb hts inX8 tyX8 tyX8_ok nmX8 hown hK hP hD hS 0 rfl rfl 7 (by decide) (hts _ kw_18) (fun _ h9 => h9) rfl (by decide +kernel) rfl rfl (by rw [L_dfX8_15]; decide) dX8_init_43 (fun H locs hP hD hS => ?_)
  obtain ⟨dfX8_18, e_dfX8_18⟩ : ∃ z, z = dfX8_15.set 7 (.ref q_16) := ⟨_, rfl⟩
  have hP : va_P (dC, dI) cl0 [(h0, .inr (7, dfX8_18))] H := by rw [e_dfX8_18]; exact hP
  have hD : va_D A [(h0, .inr (7, dfX8_18))] := by rw [e_dfX8_18]; exact hD
  have L_dfX8_18 : dfX8_18.length = 15 := fx_len e_dfX8_18 L_dfX8_15
  refine lv_aload_n hx hb dX8_init_46 rfl (lv_at hl 0 rfl) ?_
  refine lv_iload_n hx hb dX8_init_47 rfl (lv_at hl 3 rfl) ?_
  refine va_newa (atype := .int) (ty := .int) (a0 := (0, .inl (fun _ => 0))) (N' := 0) hx hb (hts (.arrayClass .int) kw_6) rfl hK hP hD hS hA (fun _ => rfl) (by decide) (by decide) (by decide) (Nat.le_of_ble_eq_true rfl) (Nat.le_of_ble_eq_true rfl) dX8_init_48 (fun q_19 cA_20 H hK hP hD hS => ?_)
  have hP := hP.sub (ws' := [(h0, .inr (7, dfX8_18))]) [0] rfl
  have hD := hD.sub (ws' := [(h0, .inr (7, dfX8_18))]) [0] (by decide) rfl
  have hK := hK.sub (tys' := []) [] rfl
  refine W.widen (k := 7) (n := 0) (Nat.le_of_ble_eq_true rfl) (Nat.le_of_ble_eq_true rfl) ?_
  refine va_put (D := (dC, dI)) (ci := 7) (v := .ref q_19) (ty := (.array .int)) (C := RX8) (T := TX8) (N := 15) hx hb hts inX8 tyX8 tyX8_ok nmX8 hown hK hP hD hS 0 rfl rfl 8 (by decide) (hts _ kw_19) (fun _ h9 => h9) rfl (by decide +kernel) rfl rfl (by rw [L_dfX8_18]; decide) dX8_init_50 (fun H locs hP hD hS => ?_)
  obtain ⟨dfX8_21, e_dfX8_21⟩ : ∃ z, z = dfX8_18.set 8 (.ref q_19) := ⟨_, rfl⟩
  have hP : va_P (dC, dI) cl0 [(h0, .inr (7, dfX8_21))] H := by rw [e_dfX8_21]; exact hP
  have hD : va_D A [(h0, .inr (7, dfX8_21))] := by rw [e_dfX8_21]; exact hD
  have L_dfX8_21 : dfX8_21.length = 15 := fx_len e_dfX8_21 L_dfX8_18
  refine W.widen (k := 7) (n := 0) (Nat.le_of_ble_eq_true rfl) (Nat.le_of_ble_eq_true rfl) ?_
  exact W.vret hx hb hr (fun t9 ht9 hW9 => ⟨⟨(), rfl, trivial, trivial⟩, hS.F ht9⟩) hS.2.2 dX8_init_53
set_option maxHeartbeats 4000000 in
set_option maxRecDepth 100000 in
theorem m_X1_init (l : Launch) (dC : Nat → ClassId) (dI : Nat → Nat → Nat) (sz : Nat) (h0 : Nat)  : Met l yX1_init (wt yX1_init cX1_init 1 none) ({ frames := 2, cells := 8, slots := 56, locals := 32 }) (va_Pc [.ref h0] (st_U dC dI sz [(h0, .inr (1, dfX1))] [])) (va_Qv (fun _ : Unit => True) (fun (_ : Unit) (_ : State) => True) (va_A [(h0, .inr (1, dfX1))] sz)) 8 56 (va_A [(h0, .inr (1, dfX1))] sz) := by
  refine Met.ofW (cc := cX1_init) (maxL := 1) (ret := none) (by decide) rfl ?_
  intro p e s m args below meth c s₁ B hml hv
  obtain ⟨rfl, hsz, hP, hK, hD0, hex⟩ := hv
  have hx := B.exec
  have hb := B.bytes
  have hr := B.returns
  have hts0 := atoms_spec (ws := wt yX1_init cX1_init 1 none) B.pre
  have hts : ∀ w ∈ tb, w.before _ s = true := fun w h => hts0 w (List.mem_cons_of_mem _ h)
  have hown : s.vm.findClass RX1 = some m.cls := findClass_of_methodNamed B.named
  have hlocks := B.notSynchronized
  have hin : meth.name = "<init>" := (name_of_methodNamed B.named B.method).1
  subst hsz
  have hD := hD0.self (sz := s.heap.size)
  generalize hAe : va_A [(h0, .inr (1, dfX1))] s.heap.size = A at hD ⊢
  have hA : ∀ q : Nat, s.heap.size ≤ q → A q := fun q h => by rw [← hAe]; exact Or.inr h
  have hS : va_S A s.heap s.heap [] := va_S.rf
  have hl := lv_entry ([.ref h0]) (n := 1) (Nat.le_of_ble_eq_true rfl)
  rw [lg_entry_eq]
  generalize (lg_sl ([.ref h0]) ++ List.replicate (1 - (lg_sl ([.ref h0])).length) Slot.unset).toArray = ls at hl ⊢
  have hl : lv_has ls 1 [(0, .ref h0)] := hl
  refine lv_aload_n hx hb dX1_init_0 rfl (lv_at hl 0 rfl) ?_
  refine W.objInit hx hb hown (hts _ kw_20) (hts _ kw_1) (hts _ kw_2) rfl (by rw [hml]; exact hl.1) rfl dX1_init_1 (Nat.le_of_ble_eq_true rfl) (Nat.le_of_ble_eq_true rfl) ?_
  refine W.eq (g2 := F0 m 4 ls []) rfl ?_
  refine lv_aload_n hx hb dX1_init_4 rfl (lv_at hl 0 rfl) ?_
  refine va_new (ci := 4) (fs := dfX4) (C := RX4) (T := TX4) (N := 8) hx hb hts inX4 tyX4 tyX4_ok hown (hts _ kw_21) (hts _ kw_22) (hts _ kw_23) hK hP hD hS hA rfl dfX4_ok (Nat.le_of_ble_eq_true rfl) (Nat.le_of_ble_eq_true rfl) dX1_init_5 (fun q_1 H hP hD hS => ?_)
  have hP : va_P (dC, dI) cl0 [(h0, .inr (1, dfX1)), (q_1, .inr (4, dfX4))] H := hP
  have hD : va_D A [(h0, .inr (1, dfX1)), (q_1, .inr (4, dfX4))] := hD
  refine W.widen (k := 1) (n := 8) (Nat.le_of_ble_eq_true rfl) (Nat.le_of_ble_eq_true rfl) ?_
  refine lv_dup hx hb dX1_init_8 rfl ?_
  have hPc := hP.sub (ws' := [(q_1, .inr (4, dfX4))]) [1] rfl
  have hDc := hD.sub (ws' := [(q_1, .inr (4, dfX4))]) [1] (by decide) rfl
  have hKc := hK.sub (tys' := []) [] rfl
  have hFc := va_free (wc := [(q_1, .inr (4, dfX4))]) hD hS hA [1] rfl
  refine va_callv (va_runIN (As := []) (rest := [.ref q_1, .ref h0]) ⟨hx, hb, hml, hown, hts⟩ (m_X4_init l dC dI H.size q_1 ) ⟨va_cnB 0 hts (gd_I kw_24) rfl rfl rfl (nw_of (by exact nn_X1_11) hex) (hts _ kw_23) (by decide +kernel) ⟨Nat.le_of_ble_eq_true rfl, Nat.le_of_ble_eq_true rfl⟩, rfl, hts _ kw_25⟩ ⟨st_blind, fun U hU hW9 => st_mk hU hW9 hPc hKc hDc hex⟩ rfl rfl hl.1 rfl (lv_room (Nat.le_of_ble_eq_true rfl)) dX1_init_9 ⟨Nat.le_of_ble_eq_true rfl, Nat.le_of_ble_eq_true rfl⟩) hS (fun q _ h => hFc q h) hFc (fun  u9 t9 H1 locs ht9 hvm9 hw9 hB9 hz9 hk9 hS => ?_)
  have hP1 : va_P (dC, dI) cl0 [] H1 := fun k q h => by simp at h
  have hD1 : va_D (va_A [(q_1, .inr (4, dfX4))] H.size) [] := ⟨fun i j p q h => by simp at h, fun k q h => by simp at h⟩
  obtain ⟨hP, hD⟩ := va_join (wr := [(h0, .inr (1, dfX1))]) (w1 := []) hP hD [1] [0] rfl rfl (by decide) (by decide) hk9 hFc hP1 hD1
  generalize H1 = H at hP hS ⊢
  have hP : va_P (dC, dI) cl0 [(h0, .inr (1, dfX1))] H := hP
  have hD : va_D A [(h0, .inr (1, dfX1))] := hD
  refine W.widen (k := 4) (n := 8) (by omega) (by omega) ?_
  refine va_putF (D := (dC, dI)) (ci := 1) (v := .ref q_1) (ty := (.object "CodeFoundry$Heights")) (C := RX1) (T := TX1) (N := 10) hx hb hts inX1 tyX1 tyX1_ok nmX1 hown hK hP hD hS 0 rfl rfl 0 (by decide) (hts _ kw_26) (fun _ h9 => h9) rfl hin rfl (by decide +kernel) rfl rfl (by rw [L_dfX1]; decide) dX1_init_12 (fun H locs hP hD hS => ?_)
  obtain ⟨dfX1_2, e_dfX1_2⟩ : ∃ z, z = dfX1.set 0 (.ref q_1) := ⟨_, rfl⟩
  have hP : va_P (dC, dI) cl0 [(h0, .inr (1, dfX1_2))] H := by rw [e_dfX1_2]; exact hP
  have hD : va_D A [(h0, .inr (1, dfX1_2))] := by rw [e_dfX1_2]; exact hD
  have L_dfX1_2 : dfX1_2.length = 10 := fx_len e_dfX1_2 L_dfX1
  refine lv_aload_n hx hb dX1_init_15 rfl (lv_at hl 0 rfl) ?_
  refine lv_iconst (v := 0) hx hb dX1_init_16 (by decide) ?_
  refine va_newa (atype := .byte) (ty := .byte) (a0 := (0, .inl (fun _ => 0))) (N' := 0) hx hb (hts (.arrayClass .byte) kw_3) rfl hK hP hD hS hA (fun _ => rfl) (by decide) (by decide) (by decide) (Nat.le_of_ble_eq_true rfl) (Nat.le_of_ble_eq_true rfl) dX1_init_17 (fun q_3 cA_4 H hK hP hD hS => ?_)
  have hP := hP.sub (ws' := [(h0, .inr (1, dfX1_2))]) [0] rfl
  have hD := hD.sub (ws' := [(h0, .inr (1, dfX1_2))]) [0] (by decide) rfl
  have hK := hK.sub (tys' := []) [] rfl
  refine W.widen (k := 5) (n := 8) (Nat.le_of_ble_eq_true rfl) (Nat.le_of_ble_eq_true rfl) ?_
  refine va_put (D := (dC, dI)) (ci := 1) (v := .ref q_3) (ty := (.array .byte)) (C := RX1) (T := TX1) (N := 10) hx hb hts inX1 tyX1 tyX1_ok nmX1 hown hK hP hD hS 0 rfl rfl 1 (by decide) (hts _ kw_27) (fun _ h9 => h9) rfl (by decide +kernel) rfl rfl (by rw [L_dfX1_2]; decide) dX1_init_19 (fun H locs hP hD hS => ?_)
  obtain ⟨dfX1_5, e_dfX1_5⟩ : ∃ z, z = dfX1_2.set 1 (.ref q_3) := ⟨_, rfl⟩
  have hP : va_P (dC, dI) cl0 [(h0, .inr (1, dfX1_5))] H := by rw [e_dfX1_5]; exact hP
  have hD : va_D A [(h0, .inr (1, dfX1_5))] := by rw [e_dfX1_5]; exact hD
  have L_dfX1_5 : dfX1_5.length = 10 := fx_len e_dfX1_5 L_dfX1_2
  refine lv_aload_n hx hb dX1_init_22 rfl (lv_at hl 0 rfl) ?_
  refine lv_iconst (v := 0) hx hb dX1_init_23 (by decide) ?_
  refine va_newa (atype := .boolean) (ty := .boolean) (a0 := (0, .inl (fun _ => 0))) (N' := 0) hx hb (hts (.arrayClass .boolean) kw_9) rfl hK hP hD hS hA (fun _ => rfl) (by decide) (by decide) (by decide) (Nat.le_of_ble_eq_true rfl) (Nat.le_of_ble_eq_true rfl) dX1_init_24 (fun q_6 cA_7 H hK hP hD hS => ?_)
  have hP := hP.sub (ws' := [(h0, .inr (1, dfX1_5))]) [0] rfl
  have hD := hD.sub (ws' := [(h0, .inr (1, dfX1_5))]) [0] (by decide) rfl
  have hK := hK.sub (tys' := []) [] rfl
  refine W.widen (k := 6) (n := 8) (Nat.le_of_ble_eq_true rfl) (Nat.le_of_ble_eq_true rfl) ?_
  refine va_put (D := (dC, dI)) (ci := 1) (v := .ref q_6) (ty := (.array .boolean)) (C := RX1) (T := TX1) (N := 10) hx hb hts inX1 tyX1 tyX1_ok nmX1 hown hK hP hD hS 0 rfl rfl 2 (by decide) (hts _ kw_28) (fun _ h9 => h9) rfl (by decide +kernel) rfl rfl (by rw [L_dfX1_5]; decide) dX1_init_26 (fun H locs hP hD hS => ?_)
  obtain ⟨dfX1_8, e_dfX1_8⟩ : ∃ z, z = dfX1_5.set 2 (.ref q_6) := ⟨_, rfl⟩
  have hP : va_P (dC, dI) cl0 [(h0, .inr (1, dfX1_8))] H := by rw [e_dfX1_8]; exact hP
  have hD : va_D A [(h0, .inr (1, dfX1_8))] := by rw [e_dfX1_8]; exact hD
  have L_dfX1_8 : dfX1_8.length = 10 := fx_len e_dfX1_8 L_dfX1_5
  refine lv_aload_n hx hb dX1_init_29 rfl (lv_at hl 0 rfl) ?_
  refine lv_iconst (v := 0) hx hb dX1_init_30 (by decide) ?_
  refine va_newa (atype := .boolean) (ty := .boolean) (a0 := (0, .inl (fun _ => 0))) (N' := 0) hx hb (hts (.arrayClass .boolean) kw_9) rfl hK hP hD hS hA (fun _ => rfl) (by decide) (by decide) (by decide) (Nat.le_of_ble_eq_true rfl) (Nat.le_of_ble_eq_true rfl) dX1_init_31 (fun q_9 cA_10 H hK hP hD hS => ?_)
  have hP := hP.sub (ws' := [(h0, .inr (1, dfX1_8))]) [0] rfl
  have hD := hD.sub (ws' := [(h0, .inr (1, dfX1_8))]) [0] (by decide) rfl
  have hK := hK.sub (tys' := []) [] rfl
  refine W.widen (k := 7) (n := 8) (Nat.le_of_ble_eq_true rfl) (Nat.le_of_ble_eq_true rfl) ?_
  refine va_put (D := (dC, dI)) (ci := 1) (v := .ref q_9) (ty := (.array .boolean)) (C := RX1) (T := TX1) (N := 10) hx hb hts inX1 tyX1 tyX1_ok nmX1 hown hK hP hD hS 0 rfl rfl 3 (by decide) (hts _ kw_29) (fun _ h9 => h9) rfl (by decide +kernel) rfl rfl (by rw [L_dfX1_8]; decide) dX1_init_33 (fun H locs hP hD hS => ?_)
  obtain ⟨dfX1_11, e_dfX1_11⟩ : ∃ z, z = dfX1_8.set 3 (.ref q_9) := ⟨_, rfl⟩
  have hP : va_P (dC, dI) cl0 [(h0, .inr (1, dfX1_11))] H := by rw [e_dfX1_11]; exact hP
  have hD : va_D A [(h0, .inr (1, dfX1_11))] := by rw [e_dfX1_11]; exact hD
  have L_dfX1_11 : dfX1_11.length = 10 := fx_len e_dfX1_11 L_dfX1_8
  refine lv_aload_n hx hb dX1_init_36 rfl (lv_at hl 0 rfl) ?_
  refine lv_bipush (v := 48) hx hb dX1_init_37 (by decide) ?_
  refine va_newa (atype := .byte) (ty := .byte) (a0 := (48, .inl (fun _ => 0))) (N' := 48) hx hb (hts (.arrayClass .byte) kw_3) rfl hK hP hD hS hA (fun _ => rfl) (by decide) (by decide) (by decide) (Nat.le_of_ble_eq_true rfl) (Nat.le_of_ble_eq_true rfl) dX1_init_39 (fun q_12 cA_13 H hK hP hD hS => ?_)
  have hP := hP.sub (ws' := [(h0, .inr (1, dfX1_11))]) [0] rfl
  have hD := hD.sub (ws' := [(h0, .inr (1, dfX1_11))]) [0] (by decide) rfl
  have hK := hK.sub (tys' := []) [] rfl
  refine W.widen (k := 8) (n := 56) (Nat.le_of_ble_eq_true rfl) (Nat.le_of_ble_eq_true rfl) ?_
  refine va_putF (D := (dC, dI)) (ci := 1) (v := .ref q_12) (ty := (.array .byte)) (C := RX1) (T := TX1) (N := 10) hx hb hts inX1 tyX1 tyX1_ok nmX1 hown hK hP hD hS 0 rfl rfl 4 (by decide) (hts _ kw_30) (fun _ h9 => h9) rfl hin rfl (by decide +kernel) rfl rfl (by rw [L_dfX1_11]; decide) dX1_init_41 (fun H locs hP hD hS => ?_)
  obtain ⟨dfX1_14, e_dfX1_14⟩ : ∃ z, z = dfX1_11.set 4 (.ref q_12) := ⟨_, rfl⟩
  have hP : va_P (dC, dI) cl0 [(h0, .inr (1, dfX1_14))] H := by rw [e_dfX1_14]; exact hP
  have hD : va_D A [(h0, .inr (1, dfX1_14))] := by rw [e_dfX1_14]; exact hD
  have L_dfX1_14 : dfX1_14.length = 10 := fx_len e_dfX1_14 L_dfX1_11
  refine W.widen (k := 8) (n := 56) (Nat.le_of_ble_eq_true rfl) (Nat.le_of_ble_eq_true rfl) ?_
  exact W.vret hx hb hr (fun t9 ht9 hW9 => ⟨⟨(), rfl, trivial, trivial⟩, hS.F ht9⟩) hS.2.2 dX1_init_44
set_option maxHeartbeats 4000000 in
set_option maxRecDepth 100000 in
theorem m_X7_init (l : Launch) (dC : Nat → ClassId) (dI : Nat → Nat → Nat) (sz : Nat) (h0 : Nat)  : Met l yX7_init (wt yX7_init cX7_init 1 none) ({ frames := 1, cells := 5, slots := 596, locals := 12 }) (va_Pc [.ref h0] (st_U dC dI sz [(h0, .inr (6, dfX7))] [])) (va_Qv (fun _ : Unit => True) (fun (_ : Unit) (t : State) => ∃ (fs1 : List Value), (fs1.length = 17) ∧ va_P (dC, dI) cl0 [(h0, .inr (6, fs1))] t.heap ∧ va_K (dC, dI) cl0 [] t ∧ va_D (va_A [(h0, .inr (6, dfX7))] sz) [(h0, .inr (6, fs1))]) (va_A [(h0, .inr (6, dfX7))] sz)) 5 596 (va_A [(h0, .inr (6, dfX7))] sz) := by
  refine Met.ofW (cc := cX7_init) (maxL := 1) (ret := none) (by decide) rfl ?_
  intro p e s m args below meth c s₁ B hml hv
  obtain ⟨rfl, hsz, hP, hK, hD0, hex⟩ := hv
  have hx := B.exec
  have hb := B.bytes
  have hr := B.returns
  have hts0 := atoms_spec (ws := wt yX7_init cX7_init 1 none) B.pre
  have hts : ∀ w ∈ tb, w.before _ s = true := fun w h => hts0 w (List.mem_cons_of_mem _ h)
  have hown : s.vm.findClass RX7 = some m.cls := findClass_of_methodNamed B.named
  have hlocks := B.notSynchronized
  have hin : meth.name = "<init>" := (name_of_methodNamed B.named B.method).1
  subst hsz
  have hD := hD0.self (sz := s.heap.size)
  generalize hAe : va_A [(h0, .inr (6, dfX7))] s.heap.size = A at hD ⊢
  have hA : ∀ q : Nat, s.heap.size ≤ q → A q := fun q h => by rw [← hAe]; exact Or.inr h
  have hS : va_S A s.heap s.heap [] := va_S.rf
  have hl := lv_entry ([.ref h0]) (n := 1) (Nat.le_of_ble_eq_true rfl)
  rw [lg_entry_eq]
  generalize (lg_sl ([.ref h0]) ++ List.replicate (1 - (lg_sl ([.ref h0])).length) Slot.unset).toArray = ls at hl ⊢
  have hl : lv_has ls 1 [(0, .ref h0)] := hl
  refine lv_aload_n hx hb dX7_init_0 rfl (lv_at hl 0 rfl) ?_
  refine W.objInit hx hb hown (hts _ kw_31) (hts _ kw_1) (hts _ kw_2) rfl (by rw [hml]; exact hl.1) rfl dX7_init_1 (Nat.le_of_ble_eq_true rfl) (Nat.le_of_ble_eq_true rfl) ?_
  refine W.eq (g2 := F0 m 4 ls []) rfl ?_
  refine lv_aload_n hx hb dX7_init_4 rfl (lv_at hl 0 rfl) ?_
  refine lv_iconst (v := 0) hx hb dX7_init_5 (by decide) ?_
  refine va_newa (atype := .byte) (ty := .byte) (a0 := (0, .inl (fun _ => 0))) (N' := 0) hx hb (hts (.arrayClass .byte) kw_3) rfl hK hP hD hS hA (fun _ => rfl) (by decide) (by decide) (by decide) (Nat.le_of_ble_eq_true rfl) (Nat.le_of_ble_eq_true rfl) dX7_init_6 (fun q_1 cA_2 H hK hP hD hS => ?_)
  have hP := hP.sub (ws' := [(h0, .inr (6, dfX7))]) [0] rfl
  have hD := hD.sub (ws' := [(h0, .inr (6, dfX7))]) [0] (by decide) rfl
  have hK := hK.sub (tys' := []) [] rfl
  refine W.widen (k := 1) (n := 0) (Nat.le_of_ble_eq_true rfl) (Nat.le_of_ble_eq_true rfl) ?_
  refine va_put (D := (dC, dI)) (ci := 6) (v := .ref q_1) (ty := (.array .byte)) (C := RX7) (T := TX7) (N := 17) hx hb hts inX7 tyX7 tyX7_ok nmX7 hown hK hP hD hS 0 rfl rfl 0 (by decide) (hts _ kw_32) (fun _ h9 => h9) rfl (by decide +kernel) rfl rfl (by rw [L_dfX7]; decide) dX7_init_8 (fun H locs hP hD hS => ?_)
  obtain ⟨dfX7_3, e_dfX7_3⟩ : ∃ z, z = dfX7.set 0 (.ref q_1) := ⟨_, rfl⟩
  have hP : va_P (dC, dI) cl0 [(h0, .inr (6, dfX7_3))] H := by rw [e_dfX7_3]; exact hP
  have hD : va_D A [(h0, .inr (6, dfX7_3))] := by rw [e_dfX7_3]; exact hD
  have L_dfX7_3 : dfX7_3.length = 17 := fx_len e_dfX7_3 L_dfX7
  refine lv_aload_n hx hb dX7_init_11 rfl (lv_at hl 0 rfl) ?_
  refine lv_iconst (v := (-1)) hx hb dX7_init_12 (by decide) ?_
  refine va_put (D := (dC, dI)) (ci := 6) (v := .int (-1)) (ty := .int) (C := RX7) (T := TX7) (N := 17) hx hb hts inX7 tyX7 tyX7_ok nmX7 hown hK hP hD hS 0 rfl rfl 3 (by decide) (hts _ kw_33) (fun _ h9 => h9) rfl (by decide +kernel) rfl rfl (by rw [L_dfX7_3]; decide) dX7_init_13 (fun H locs hP hD hS => ?_)
  obtain ⟨dfX7_4, e_dfX7_4⟩ : ∃ z, z = dfX7_3.set 3 (.int (-1)) := ⟨_, rfl⟩
  have hP : va_P (dC, dI) cl0 [(h0, .inr (6, dfX7_4))] H := by rw [e_dfX7_4]; exact hP
  have hD : va_D A [(h0, .inr (6, dfX7_4))] := by rw [e_dfX7_4]; exact hD
  have L_dfX7_4 : dfX7_4.length = 17 := fx_len e_dfX7_4 L_dfX7_3
  refine lv_aload_n hx hb dX7_init_16 rfl (lv_at hl 0 rfl) ?_
  refine lv_sipush (v := 500) hx hb dX7_init_17 (by decide) ?_
  refine va_newa (atype := .int) (ty := .int) (a0 := (500, .inl (fun _ => 0))) (N' := 500) hx hb (hts (.arrayClass .int) kw_6) rfl hK hP hD hS hA (fun _ => rfl) (by decide) (by decide) (by decide) (Nat.le_of_ble_eq_true rfl) (Nat.le_of_ble_eq_true rfl) dX7_init_20 (fun q_5 cA_6 H hK hP hD hS => ?_)
  have hP := hP.sub (ws' := [(h0, .inr (6, dfX7_4))]) [0] rfl
  have hD := hD.sub (ws' := [(h0, .inr (6, dfX7_4))]) [0] (by decide) rfl
  have hK := hK.sub (tys' := []) [] rfl
  refine W.widen (k := 2) (n := 500) (Nat.le_of_ble_eq_true rfl) (Nat.le_of_ble_eq_true rfl) ?_
  refine va_putF (D := (dC, dI)) (ci := 6) (v := .ref q_5) (ty := (.array .int)) (C := RX7) (T := TX7) (N := 17) hx hb hts inX7 tyX7 tyX7_ok nmX7 hown hK hP hD hS 0 rfl rfl 4 (by decide) (hts _ kw_34) (fun _ h9 => h9) rfl hin rfl (by decide +kernel) rfl rfl (by rw [L_dfX7_4]; decide) dX7_init_22 (fun H locs hP hD hS => ?_)
  obtain ⟨dfX7_7, e_dfX7_7⟩ : ∃ z, z = dfX7_4.set 4 (.ref q_5) := ⟨_, rfl⟩
  have hP : va_P (dC, dI) cl0 [(h0, .inr (6, dfX7_7))] H := by rw [e_dfX7_7]; exact hP
  have hD : va_D A [(h0, .inr (6, dfX7_7))] := by rw [e_dfX7_7]; exact hD
  have L_dfX7_7 : dfX7_7.length = 17 := fx_len e_dfX7_7 L_dfX7_4
  refine lv_aload_n hx hb dX7_init_25 rfl (lv_at hl 0 rfl) ?_
  refine lv_bipush (v := 48) hx hb dX7_init_26 (by decide) ?_
  refine va_newa (atype := .int) (ty := .int) (a0 := (48, .inl (fun _ => 0))) (N' := 48) hx hb (hts (.arrayClass .int) kw_6) rfl hK hP hD hS hA (fun _ => rfl) (by decide) (by decide) (by decide) (Nat.le_of_ble_eq_true rfl) (Nat.le_of_ble_eq_true rfl) dX7_init_28 (fun q_8 cA_9 H hK hP hD hS => ?_)
  have hP := hP.sub (ws' := [(h0, .inr (6, dfX7_7))]) [0] rfl
  have hD := hD.sub (ws' := [(h0, .inr (6, dfX7_7))]) [0] (by decide) rfl
  have hK := hK.sub (tys' := []) [] rfl
  refine W.widen (k := 3) (n := 548) (Nat.le_of_ble_eq_true rfl) (Nat.le_of_ble_eq_true rfl) ?_
  refine va_putF (D := (dC, dI)) (ci := 6) (v := .ref q_8) (ty := (.array .int)) (C := RX7) (T := TX7) (N := 17) hx hb hts inX7 tyX7 tyX7_ok nmX7 hown hK hP hD hS 0 rfl rfl 9 (by decide) (hts _ kw_35) (fun _ h9 => h9) rfl hin rfl (by decide +kernel) rfl rfl (by rw [L_dfX7_7]; decide) dX7_init_30 (fun H locs hP hD hS => ?_)
  obtain ⟨dfX7_10, e_dfX7_10⟩ : ∃ z, z = dfX7_7.set 9 (.ref q_8) := ⟨_, rfl⟩
  have hP : va_P (dC, dI) cl0 [(h0, .inr (6, dfX7_10))] H := by rw [e_dfX7_10]; exact hP
  have hD : va_D A [(h0, .inr (6, dfX7_10))] := by rw [e_dfX7_10]; exact hD
  have L_dfX7_10 : dfX7_10.length = 17 := fx_len e_dfX7_10 L_dfX7_7
  refine lv_aload_n hx hb dX7_init_33 rfl (lv_at hl 0 rfl) ?_
  refine lv_bipush (v := 24) hx hb dX7_init_34 (by decide) ?_
  refine va_newa (atype := .int) (ty := .int) (a0 := (24, .inl (fun _ => 0))) (N' := 24) hx hb (hts (.arrayClass .int) kw_6) rfl hK hP hD hS hA (fun _ => rfl) (by decide) (by decide) (by decide) (Nat.le_of_ble_eq_true rfl) (Nat.le_of_ble_eq_true rfl) dX7_init_36 (fun q_11 cA_12 H hK hP hD hS => ?_)
  have hP := hP.sub (ws' := [(h0, .inr (6, dfX7_10))]) [0] rfl
  have hD := hD.sub (ws' := [(h0, .inr (6, dfX7_10))]) [0] (by decide) rfl
  have hK := hK.sub (tys' := []) [] rfl
  refine W.widen (k := 4) (n := 572) (Nat.le_of_ble_eq_true rfl) (Nat.le_of_ble_eq_true rfl) ?_
  refine va_putF (D := (dC, dI)) (ci := 6) (v := .ref q_11) (ty := (.array .int)) (C := RX7) (T := TX7) (N := 17) hx hb hts inX7 tyX7 tyX7_ok nmX7 hown hK hP hD hS 0 rfl rfl 10 (by decide) (hts _ kw_36) (fun _ h9 => h9) rfl hin rfl (by decide +kernel) rfl rfl (by rw [L_dfX7_10]; decide) dX7_init_38 (fun H locs hP hD hS => ?_)
  obtain ⟨dfX7_13, e_dfX7_13⟩ : ∃ z, z = dfX7_10.set 10 (.ref q_11) := ⟨_, rfl⟩
  have hP : va_P (dC, dI) cl0 [(h0, .inr (6, dfX7_13))] H := by rw [e_dfX7_13]; exact hP
  have hD : va_D A [(h0, .inr (6, dfX7_13))] := by rw [e_dfX7_13]; exact hD
  have L_dfX7_13 : dfX7_13.length = 17 := fx_len e_dfX7_13 L_dfX7_10
  refine lv_aload_n hx hb dX7_init_41 rfl (lv_at hl 0 rfl) ?_
  refine lv_bipush (v := 24) hx hb dX7_init_42 (by decide) ?_
  refine va_newa (atype := .int) (ty := .int) (a0 := (24, .inl (fun _ => 0))) (N' := 24) hx hb (hts (.arrayClass .int) kw_6) rfl hK hP hD hS hA (fun _ => rfl) (by decide) (by decide) (by decide) (Nat.le_of_ble_eq_true rfl) (Nat.le_of_ble_eq_true rfl) dX7_init_44 (fun q_14 cA_15 H hK hP hD hS => ?_)
  have hP := hP.sub (ws' := [(h0, .inr (6, dfX7_13))]) [0] rfl
  have hD := hD.sub (ws' := [(h0, .inr (6, dfX7_13))]) [0] (by decide) rfl
  have hK := hK.sub (tys' := []) [] rfl
  refine W.widen (k := 5) (n := 596) (Nat.le_of_ble_eq_true rfl) (Nat.le_of_ble_eq_true rfl) ?_
  refine va_putF (D := (dC, dI)) (ci := 6) (v := .ref q_14) (ty := (.array .int)) (C := RX7) (T := TX7) (N := 17) hx hb hts inX7 tyX7 tyX7_ok nmX7 hown hK hP hD hS 0 rfl rfl 11 (by decide) (hts _ kw_37) (fun _ h9 => h9) rfl hin rfl (by decide +kernel) rfl rfl (by rw [L_dfX7_13]; decide) dX7_init_46 (fun H locs hP hD hS => ?_)
  obtain ⟨dfX7_16, e_dfX7_16⟩ : ∃ z, z = dfX7_13.set 11 (.ref q_14) := ⟨_, rfl⟩
  have hP : va_P (dC, dI) cl0 [(h0, .inr (6, dfX7_16))] H := by rw [e_dfX7_16]; exact hP
  have hD : va_D A [(h0, .inr (6, dfX7_16))] := by rw [e_dfX7_16]; exact hD
  have L_dfX7_16 : dfX7_16.length = 17 := fx_len e_dfX7_16 L_dfX7_13
  refine W.widen (k := 5) (n := 596) (Nat.le_of_ble_eq_true rfl) (Nat.le_of_ble_eq_true rfl) ?_
  have hP9 := hP.sub (ws' := [(h0, .inr (6, dfX7_16))]) [0] rfl
  have hD9 := hD.sub (ws' := [(h0, .inr (6, dfX7_16))]) [0] (by decide) rfl
  have hK9 := hK.sub (tys' := []) [] rfl
  exact W.vret hx hb hr (fun t9 ht9 hW9 => ⟨⟨(), rfl, trivial, dfX7_16, L_dfX7_16, by rw [ht9]; exact hP9, va_K.moved hW9.alike hK9, hD9⟩, hS.F ht9⟩) hS.2.2 dX7_init_49
set_option maxHeartbeats 4000000 in
set_option maxRecDepth 100000 in
theorem m_X2_init (l : Launch) (dC : Nat → ClassId) (dI : Nat → Nat → Nat) (sz : Nat) (h0 : Nat)  : Met l yX2_init (wt yX2_init cX2_init 1 none) ({ frames := 2, cells := 7, slots := 1814, locals := 32 }) (va_Pc [.ref h0] (st_U dC dI sz [(h0, .inr (2, dfX2))] [])) (va_Qv (fun _ : Unit => True) (fun (_ : Unit) (t : State) => ∃ (fs1 : List Value), ∃ (hr : Nat), ∃ (fs2 : List Value), (fs1.length = 12) ∧ (fs1[0]? = some (.ref hr)) ∧ (fs2.length = 17) ∧ va_P (dC, dI) cl0 [(h0, .inr (2, fs1)), (hr, .inr (6, fs2))] t.heap ∧ va_K (dC, dI) cl0 [] t ∧ va_D (va_A [(h0, .inr (2, dfX2))] sz) [(h0, .inr (2, fs1)), (hr, .inr (6, fs2))]) (va_A [(h0, .inr (2, dfX2))] sz)) 7 1814 (va_A [(h0, .inr (2, dfX2))] sz) := by
  refine Met.ofW (cc := cX2_init) (maxL := 1) (ret := none) (by decide) rfl ?_
  intro p e s m args below meth c s₁ B hml hv
  obtain ⟨rfl, hsz, hP, hK, hD0, hex⟩ := hv
  have hx := B.exec
  have hb := B.bytes
  have hr := B.returns
  have hts0 := atoms_spec (ws := wt yX2_init cX2_init 1 none) B.pre
  have hts : ∀ w ∈ tb, w.before _ s = true := fun w h => hts0 w (List.mem_cons_of_mem _ h)
  have hown : s.vm.findClass RX2 = some m.cls := findClass_of_methodNamed B.named
  have hlocks := B.notSynchronized
  have hin : meth.name = "<init>" := (name_of_methodNamed B.named B.method).1
  subst hsz
  have hD := hD0.self (sz := s.heap.size)
  generalize hAe : va_A [(h0, .inr (2, dfX2))] s.heap.size = A at hD ⊢
  have hA : ∀ q : Nat, s.heap.size ≤ q → A q := fun q h => by rw [← hAe]; exact Or.inr h
  have hS : va_S A s.heap s.heap [] := va_S.rf
  have hl := lv_entry ([.ref h0]) (n := 1) (Nat.le_of_ble_eq_true rfl)
  rw [lg_entry_eq]
  generalize (lg_sl ([.ref h0]) ++ List.replicate (1 - (lg_sl ([.ref h0])).length) Slot.unset).toArray = ls at hl ⊢
  have hl : lv_has ls 1 [(0, .ref h0)] := hl
  refine lv_aload_n hx hb dX2_init_0 rfl (lv_at hl 0 rfl) ?_
  refine W.objInit hx hb hown (hts _ kw_38) (hts _ kw_1) (hts _ kw_2) rfl (by rw [hml]; exact hl.1) rfl dX2_init_1 (Nat.le_of_ble_eq_true rfl) (Nat.le_of_ble_eq_true rfl) ?_
  refine W.eq (g2 := F0 m 4 ls []) rfl ?_
  refine lv_aload_n hx hb dX2_init_4 rfl (lv_at hl 0 rfl) ?_
  refine va_new (ci := 6) (fs := dfX7) (C := RX7) (T := TX7) (N := 17) hx hb hts inX7 tyX7 tyX7_ok hown (hts _ kw_39) (hts _ kw_40) (hts _ kw_41) hK hP hD hS hA rfl dfX7_ok (Nat.le_of_ble_eq_true rfl) (Nat.le_of_ble_eq_true rfl) dX2_init_5 (fun q_1 H hP hD hS => ?_)
  have hP : va_P (dC, dI) cl0 [(h0, .inr (2, dfX2)), (q_1, .inr (6, dfX7))] H := hP
  have hD : va_D A [(h0, .inr (2, dfX2)), (q_1, .inr (6, dfX7))] := hD
  refine W.widen (k := 1) (n := 17) (Nat.le_of_ble_eq_true rfl) (Nat.le_of_ble_eq_true rfl) ?_
  refine lv_dup hx hb dX2_init_8 rfl ?_
  have hPc := hP.sub (ws' := [(q_1, .inr (6, dfX7))]) [1] rfl
  have hDc := hD.sub (ws' := [(q_1, .inr (6, dfX7))]) [1] (by decide) rfl
  have hKc := hK.sub (tys' := []) [] rfl
  have hFc := va_free (wc := [(q_1, .inr (6, dfX7))]) hD hS hA [1] rfl
  refine va_callv (va_runIN (As := []) (rest := [.ref q_1, .ref h0]) ⟨hx, hb, hml, hown, hts⟩ (m_X7_init l dC dI H.size q_1 ) ⟨va_cnB 0 hts (gd_I kw_42) rfl rfl rfl (nw_of (by exact nn_X2_11) hex) (hts _ kw_41) (by decide +kernel) ⟨Nat.le_of_ble_eq_true rfl, Nat.le_of_ble_eq_true rfl⟩, rfl, hts _ kw_43⟩ ⟨st_blind, fun U hU hW9 => st_mk hU hW9 hPc hKc hDc hex⟩ rfl rfl hl.1 rfl (lv_room (Nat.le_of_ble_eq_true rfl)) dX2_init_9 ⟨Nat.le_of_ble_eq_true rfl, Nat.le_of_ble_eq_true rfl⟩) hS (fun q _ h => hFc q h) hFc (fun  u9 t9 H1 locs ht9 hvm9 hw9 hB9 hz9 hk9 hS => ?_)
  obtain ⟨fs1_2, L_fs1_2, hP1, hK1, hD1⟩ := hB9
  rw [ht9] at hP1
  have hK1 := va_K.moved hvm9.symm hK1
  obtain ⟨hP, hD⟩ := va_join (wr := [(h0, .inr (2, dfX2))]) (w1 := [(q_1, .inr (6, fs1_2))]) hP hD [1] [0] rfl rfl (by decide) (by decide) hk9 hFc hP1 hD1
  have hK := (hK.sub (tys' := []) [] rfl).app hK1
  generalize H1 = H at hP hS ⊢
  have hP : va_P (dC, dI) cl0 [(h0, .inr (2, dfX2)), (q_1, .inr (6, fs1_2))] H := hP
  have hD : va_D A [(h0, .inr (2, dfX2)), (q_1, .inr (6, fs1_2))] := hD
  have hK : va_K (dC, dI) cl0 [] s := hK
  refine W.widen (k := 6) (n := 613) (by omega) (by omega) ?_
  refine va_putF (D := (dC, dI)) (ci := 2) (v := .ref q_1) (ty := (.object "CodeFoundry$Reader")) (C := RX2) (T := TX2) (N := 12) hx hb hts inX2 tyX2 tyX2_ok nmX2 hown hK hP hD hS 0 rfl rfl 0 (by decide) (hts _ kw_44) (fun _ h9 => h9) rfl hin rfl (by decide +kernel) rfl rfl (by rw [L_dfX2]; decide) dX2_init_12 (fun H locs hP hD hS => ?_)
  obtain ⟨dfX2_3, e_dfX2_3⟩ : ∃ z, z = dfX2.set 0 (.ref q_1) := ⟨_, rfl⟩
  have hP : va_P (dC, dI) cl0 [(h0, .inr (2, dfX2_3)), (q_1, .inr (6, fs1_2))] H := by rw [e_dfX2_3]; exact hP
  have hD : va_D A [(h0, .inr (2, dfX2_3)), (q_1, .inr (6, fs1_2))] := by rw [e_dfX2_3]; exact hD
  have L_dfX2_3 : dfX2_3.length = 12 := fx_len e_dfX2_3 L_dfX2
  have g_dfX2_3_0 := fx_self e_dfX2_3 (by rw [L_dfX2]; decide)
  refine lv_aload_n hx hb dX2_init_15 rfl (lv_at hl 0 rfl) ?_
  refine lv_sipush (v := 1201) hx hb dX2_init_16 (by decide) ?_
  refine va_newa (atype := .int) (ty := .int) (a0 := (1201, .inl (fun _ => 0))) (N' := 1201) hx hb (hts (.arrayClass .int) kw_6) rfl hK hP hD hS hA (fun _ => rfl) (by decide) (by decide) (by decide) (Nat.le_of_ble_eq_true rfl) (Nat.le_of_ble_eq_true rfl) dX2_init_19 (fun q_4 cA_5 H hK hP hD hS => ?_)
  have hP := hP.sub (ws' := [(h0, .inr (2, dfX2_3)), (q_1, .inr (6, fs1_2))]) [0, 1] rfl
  have hD := hD.sub (ws' := [(h0, .inr (2, dfX2_3)), (q_1, .inr (6, fs1_2))]) [0, 1] (by decide) rfl
  have hK := hK.sub (tys' := []) [] rfl
  refine W.widen (k := 7) (n := 1814) (Nat.le_of_ble_eq_true rfl) (Nat.le_of_ble_eq_true rfl) ?_
  refine va_putF (D := (dC, dI)) (ci := 2) (v := .ref q_4) (ty := (.array .int)) (C := RX2) (T := TX2) (N := 12) hx hb hts inX2 tyX2 tyX2_ok nmX2 hown hK hP hD hS 0 rfl rfl 7 (by decide) (hts _ kw_45) (fun _ h9 => h9) rfl hin rfl (by decide +kernel) rfl rfl (by rw [L_dfX2_3]; decide) dX2_init_21 (fun H locs hP hD hS => ?_)
  obtain ⟨dfX2_6, e_dfX2_6⟩ : ∃ z, z = dfX2_3.set 7 (.ref q_4) := ⟨_, rfl⟩
  have hP : va_P (dC, dI) cl0 [(h0, .inr (2, dfX2_6)), (q_1, .inr (6, fs1_2))] H := by rw [e_dfX2_6]; exact hP
  have hD : va_D A [(h0, .inr (2, dfX2_6)), (q_1, .inr (6, fs1_2))] := by rw [e_dfX2_6]; exact hD
  have L_dfX2_6 : dfX2_6.length = 12 := fx_len e_dfX2_6 L_dfX2_3
  have g_dfX2_6_0 := fx_ne (j := 0) e_dfX2_6 g_dfX2_3_0 (by decide)
  refine W.widen (k := 7) (n := 1814) (Nat.le_of_ble_eq_true rfl) (Nat.le_of_ble_eq_true rfl) ?_
  have hP9 := hP.sub (ws' := [(h0, .inr (2, dfX2_6)), (q_1, .inr (6, fs1_2))]) [0, 1] rfl
  have hD9 := hD.sub (ws' := [(h0, .inr (2, dfX2_6)), (q_1, .inr (6, fs1_2))]) [0, 1] (by decide) rfl
  have hK9 := hK.sub (tys' := []) [] rfl
  exact W.vret hx hb hr (fun t9 ht9 hW9 => ⟨⟨(), rfl, trivial, dfX2_6, q_1, fs1_2, L_dfX2_6, g_dfX2_6_0, L_fs1_2, by rw [ht9]; exact hP9, va_K.moved hW9.alike hK9, hD9⟩, hS.F ht9⟩) hS.2.2 dX2_init_24
set_option maxHeartbeats 4000000 in
set_option maxRecDepth 100000 in
theorem m_X11_init (l : Launch) (dC : Nat → ClassId) (dI : Nat → Nat → Nat) (sz : Nat) (h0 : Nat)  : Met l yX11_init (wt yX11_init cX11_init 1 none) ({ frames := 2, cells := 18, slots := 1302, locals := 32 }) (va_Pc [.ref h0] (st_U dC dI sz [(h0, .inr (9, dfX11))] [])) (va_Qv (fun _ : Unit => True) (fun (_ : Unit) (_ : State) => True) (va_A [(h0, .inr (9, dfX11))] sz)) 18 1302 (va_A [(h0, .inr (9, dfX11))] sz) := by
  refine Met.ofW (cc := cX11_init) (maxL := 1) (ret := none) (by decide) rfl ?_
  intro p e s m args below meth c s₁ B hml hv
  obtain ⟨rfl, hsz, hP, hK, hD0, hex⟩ := hv
  have hx := B.exec
  have hb := B.bytes
  have hr := B.returns
  have hts0 := atoms_spec (ws := wt yX11_init cX11_init 1 none) B.pre
  have hts : ∀ w ∈ tb, w.before _ s = true := fun w h => hts0 w (List.mem_cons_of_mem _ h)
  have hown : s.vm.findClass RX11 = some m.cls := findClass_of_methodNamed B.named
  have hlocks := B.notSynchronized
  have hin : meth.name = "<init>" := (name_of_methodNamed B.named B.method).1
  subst hsz
  have hD := hD0.self (sz := s.heap.size)
  generalize hAe : va_A [(h0, .inr (9, dfX11))] s.heap.size = A at hD ⊢
  have hA : ∀ q : Nat, s.heap.size ≤ q → A q := fun q h => by rw [← hAe]; exact Or.inr h
  have hS : va_S A s.heap s.heap [] := va_S.rf
  have hl := lv_entry ([.ref h0]) (n := 1) (Nat.le_of_ble_eq_true rfl)
  rw [lg_entry_eq]
  generalize (lg_sl ([.ref h0]) ++ List.replicate (1 - (lg_sl ([.ref h0])).length) Slot.unset).toArray = ls at hl ⊢
  have hl : lv_has ls 1 [(0, .ref h0)] := hl
  refine lv_aload_n hx hb dX11_init_0 rfl (lv_at hl 0 rfl) ?_
  refine W.objInit hx hb hown (hts _ kw_46) (hts _ kw_1) (hts _ kw_2) rfl (by rw [hml]; exact hl.1) rfl dX11_init_1 (Nat.le_of_ble_eq_true rfl) (Nat.le_of_ble_eq_true rfl) ?_
  refine W.eq (g2 := F0 m 4 ls []) rfl ?_
  refine lv_aload_n hx hb dX11_init_4 rfl (lv_at hl 0 rfl) ?_
  refine va_new (ci := 0) (fs := dfX0) (C := RX0) (T := TX0) (N := 2) hx hb hts inX0 tyX0 tyX0_ok hown (hts _ kw_47) (hts _ kw_48) (hts _ kw_49) hK hP hD hS hA rfl dfX0_ok (Nat.le_of_ble_eq_true rfl) (Nat.le_of_ble_eq_true rfl) dX11_init_5 (fun q_1 H hP hD hS => ?_)
  have hP : va_P (dC, dI) cl0 [(h0, .inr (9, dfX11)), (q_1, .inr (0, dfX0))] H := hP
  have hD : va_D A [(h0, .inr (9, dfX11)), (q_1, .inr (0, dfX0))] := hD
  refine W.widen (k := 1) (n := 2) (Nat.le_of_ble_eq_true rfl) (Nat.le_of_ble_eq_true rfl) ?_
  refine lv_dup hx hb dX11_init_8 rfl ?_
  have hPc := hP.sub (ws' := [(q_1, .inr (0, dfX0))]) [1] rfl
  have hDc := hD.sub (ws' := [(q_1, .inr (0, dfX0))]) [1] (by decide) rfl
  have hKc := hK.sub (tys' := []) [] rfl
  have hFc := va_free (wc := [(q_1, .inr (0, dfX0))]) hD hS hA [1] rfl
  refine va_callv (va_runIN (As := []) (rest := [.ref q_1, .ref h0]) ⟨hx, hb, hml, hown, hts⟩ (m_X0_init l dC dI H.size q_1 ) ⟨va_cnB 0 hts (gd_I kw_50) rfl rfl rfl (nw_of (by exact nn_X11_11) hex) (hts _ kw_49) (by decide +kernel) ⟨Nat.le_of_ble_eq_true rfl, Nat.le_of_ble_eq_true rfl⟩, rfl, hts _ kw_51⟩ ⟨st_blind, fun U hU hW9 => st_mk hU hW9 hPc hKc hDc hex⟩ rfl rfl hl.1 rfl (lv_room (Nat.le_of_ble_eq_true rfl)) dX11_init_9 ⟨Nat.le_of_ble_eq_true rfl, Nat.le_of_ble_eq_true rfl⟩) hS (fun q _ h => hFc q h) hFc (fun  u9 t9 H1 locs ht9 hvm9 hw9 hB9 hz9 hk9 hS => ?_)
  obtain ⟨fs1_2, hd_3, cB_4, L_fs1_2, g_fs1_2_0, g_fs1_2_1, hP1, hK1, hD1⟩ := hB9
  rw [ht9] at hP1
  have hK1 := va_K.moved hvm9.symm hK1
  obtain ⟨hP, hD⟩ := va_join (wr := [(h0, .inr (9, dfX11))]) (w1 := [(q_1, .inr (0, fs1_2)), (hd_3, .inl (cB_4, 64, .inl (fun _ => 0)))]) hP hD [1] [0] rfl rfl (by decide) (by decide) hk9 hFc hP1 hD1
  have hK := (hK.sub (tys' := []) [] rfl).app hK1
  generalize H1 = H at hP hS ⊢
  have hP : va_P (dC, dI) cl0 [(h0, .inr (9, dfX11)), (q_1, .inr (0, fs1_2)), (hd_3, .inl (cB_4, 64, .inl (fun _ => 0)))] H := hP
  have hD : va_D A [(h0, .inr (9, dfX11)), (q_1, .inr (0, fs1_2)), (hd_3, .inl (cB_4, 64, .inl (fun _ => 0)))] := hD
  have hK : va_K (dC, dI) cl0 [(cB_4, .byte)] s := hK
  refine W.widen (k := 2) (n := 66) (by omega) (by omega) ?_
  refine va_putF (D := (dC, dI)) (ci := 9) (v := .ref q_1) (ty := (.object "CodeFoundry$Bytes")) (C := RX11) (T := TX11) (N := 18) hx hb hts inX11 tyX11 tyX11_ok nmX11 hown hK hP hD hS 0 rfl rfl 0 (by decide) (hts _ kw_52) (fun _ h9 => h9) rfl hin rfl (by decide +kernel) rfl rfl (by rw [L_dfX11]; decide) dX11_init_12 (fun H locs hP hD hS => ?_)
  obtain ⟨dfX11_5, e_dfX11_5⟩ : ∃ z, z = dfX11.set 0 (.ref q_1) := ⟨_, rfl⟩
  have hP : va_P (dC, dI) cl0 [(h0, .inr (9, dfX11_5)), (q_1, .inr (0, fs1_2)), (hd_3, .inl (cB_4, 64, .inl (fun _ => 0)))] H := by rw [e_dfX11_5]; exact hP
  have hD : va_D A [(h0, .inr (9, dfX11_5)), (q_1, .inr (0, fs1_2)), (hd_3, .inl (cB_4, 64, .inl (fun _ => 0)))] := by rw [e_dfX11_5]; exact hD
  have L_dfX11_5 : dfX11_5.length = 18 := fx_len e_dfX11_5 L_dfX11
  refine lv_aload_n hx hb dX11_init_15 rfl (lv_at hl 0 rfl) ?_
  refine va_new (ci := 0) (fs := dfX0) (C := RX0) (T := TX0) (N := 2) hx hb hts inX0 tyX0 tyX0_ok hown (hts _ kw_47) (hts _ kw_48) (hts _ kw_49) hK hP hD hS hA rfl dfX0_ok (Nat.le_of_ble_eq_true rfl) (Nat.le_of_ble_eq_true rfl) dX11_init_16 (fun q_6 H hP hD hS => ?_)
  have hP : va_P (dC, dI) cl0 [(h0, .inr (9, dfX11_5)), (q_1, .inr (0, fs1_2)), (hd_3, .inl (cB_4, 64, .inl (fun _ => 0))), (q_6, .inr (0, dfX0))] H := hP
  have hD : va_D A [(h0, .inr (9, dfX11_5)), (q_1, .inr (0, fs1_2)), (hd_3, .inl (cB_4, 64, .inl (fun _ => 0))), (q_6, .inr (0, dfX0))] := hD
  refine W.widen (k := 3) (n := 68) (Nat.le_of_ble_eq_true rfl) (Nat.le_of_ble_eq_true rfl) ?_
  refine lv_dup hx hb dX11_init_19 rfl ?_
  have hPc := hP.sub (ws' := [(q_6, .inr (0, dfX0))]) [3] rfl
  have hDc := hD.sub (ws' := [(q_6, .inr (0, dfX0))]) [3] (by decide) rfl
  have hKc := hK.sub (tys' := []) [] rfl
  have hFc := va_free (wc := [(q_6, .inr (0, dfX0))]) hD hS hA [3] rfl
  refine va_callv (va_runIN (As := []) (rest := [.ref q_6, .ref h0]) ⟨hx, hb, hml, hown, hts⟩ (m_X0_init l dC dI H.size q_6 ) ⟨va_cnB 0 hts (gd_I kw_50) rfl rfl rfl (nw_of (by exact nn_X11_11) hex) (hts _ kw_49) (by decide +kernel) ⟨Nat.le_of_ble_eq_true rfl, Nat.le_of_ble_eq_true rfl⟩, rfl, hts _ kw_51⟩ ⟨st_blind, fun U hU hW9 => st_mk hU hW9 hPc hKc hDc hex⟩ rfl rfl hl.1 rfl (lv_room (Nat.le_of_ble_eq_true rfl)) dX11_init_20 ⟨Nat.le_of_ble_eq_true rfl, Nat.le_of_ble_eq_true rfl⟩) hS (fun q _ h => hFc q h) hFc (fun  u9 t9 H1 locs ht9 hvm9 hw9 hB9 hz9 hk9 hS => ?_)
  obtain ⟨fs1_7, hd_8, cB_9, L_fs1_7, g_fs1_7_0, g_fs1_7_1, hP1, hK1, hD1⟩ := hB9
  rw [ht9] at hP1
  have hK1 := va_K.moved hvm9.symm hK1
  obtain ⟨hP, hD⟩ := va_join (wr := [(h0, .inr (9, dfX11_5)), (q_1, .inr (0, fs1_2)), (hd_3, .inl (cB_4, 64, .inl (fun _ => 0)))]) (w1 := [(q_6, .inr (0, fs1_7)), (hd_8, .inl (cB_9, 64, .inl (fun _ => 0)))]) hP hD [3] [0, 1, 2] rfl rfl (by decide) (by decide) hk9 hFc hP1 hD1
  have hK := (hK.sub (tys' := [(cB_4, .byte)]) [0] rfl).app hK1
  generalize H1 = H at hP hS ⊢
  have hP : va_P (dC, dI) cl0 [(h0, .inr (9, dfX11_5)), (q_1, .inr (0, fs1_2)), (hd_3, .inl (cB_4, 64, .inl (fun _ => 0))), (q_6, .inr (0, fs1_7)), (hd_8, .inl (cB_9, 64, .inl (fun _ => 0)))] H := hP
  have hD : va_D A [(h0, .inr (9, dfX11_5)), (q_1, .inr (0, fs1_2)), (hd_3, .inl (cB_4, 64, .inl (fun _ => 0))), (q_6, .inr (0, fs1_7)), (hd_8, .inl (cB_9, 64, .inl (fun _ => 0)))] := hD
  have hK : va_K (dC, dI) cl0 [(cB_4, .byte), (cB_9, .byte)] s := hK
  refine W.widen (k := 4) (n := 132) (by omega) (by omega) ?_
  refine va_putF (D := (dC, dI)) (ci := 9) (v := .ref q_6) (ty := (.object "CodeFoundry$Bytes")) (C := RX11) (T := TX11) (N := 18) hx hb hts inX11 tyX11 tyX11_ok nmX11 hown hK hP hD hS 0 rfl rfl 1 (by decide) (hts _ kw_53) (fun _ h9 => h9) rfl hin rfl (by decide +kernel) rfl rfl (by rw [L_dfX11_5]; decide) dX11_init_23 (fun H locs hP hD hS => ?_)
  obtain ⟨dfX11_10, e_dfX11_10⟩ : ∃ z, z = dfX11_5.set 1 (.ref q_6) := ⟨_, rfl⟩
  have hP : va_P (dC, dI) cl0 [(h0, .inr (9, dfX11_10)), (q_1, .inr (0, fs1_2)), (hd_3, .inl (cB_4, 64, .inl (fun _ => 0))), (q_6, .inr (0, fs1_7)), (hd_8, .inl (cB_9, 64, .inl (fun _ => 0)))] H := by rw [e_dfX11_10]; exact hP
  have hD : va_D A [(h0, .inr (9, dfX11_10)), (q_1, .inr (0, fs1_2)), (hd_3, .inl (cB_4, 64, .inl (fun _ => 0))), (q_6, .inr (0, fs1_7)), (hd_8, .inl (cB_9, 64, .inl (fun _ => 0)))] := by rw [e_dfX11_10]; exact hD
  have L_dfX11_10 : dfX11_10.length = 18 := fx_len e_dfX11_10 L_dfX11_5
  refine lv_aload_n hx hb dX11_init_26 rfl (lv_at hl 0 rfl) ?_
  refine va_new (ci := 0) (fs := dfX0) (C := RX0) (T := TX0) (N := 2) hx hb hts inX0 tyX0 tyX0_ok hown (hts _ kw_47) (hts _ kw_48) (hts _ kw_49) hK hP hD hS hA rfl dfX0_ok (Nat.le_of_ble_eq_true rfl) (Nat.le_of_ble_eq_true rfl) dX11_init_27 (fun q_11 H hP hD hS => ?_)
  have hP : va_P (dC, dI) cl0 [(h0, .inr (9, dfX11_10)), (q_1, .inr (0, fs1_2)), (hd_3, .inl (cB_4, 64, .inl (fun _ => 0))), (q_6, .inr (0, fs1_7)), (hd_8, .inl (cB_9, 64, .inl (fun _ => 0))), (q_11, .inr (0, dfX0))] H := hP
  have hD : va_D A [(h0, .inr (9, dfX11_10)), (q_1, .inr (0, fs1_2)), (hd_3, .inl (cB_4, 64, .inl (fun _ => 0))), (q_6, .inr (0, fs1_7)), (hd_8, .inl (cB_9, 64, .inl (fun _ => 0))), (q_11, .inr (0, dfX0))] := hD
  refine W.widen (k := 5) (n := 134) (Nat.le_of_ble_eq_true rfl) (Nat.le_of_ble_eq_true rfl) ?_
  refine lv_dup hx hb dX11_init_30 rfl ?_
  have hPc := hP.sub (ws' := [(q_11, .inr (0, dfX0))]) [5] rfl
  have hDc := hD.sub (ws' := [(q_11, .inr (0, dfX0))]) [5] (by decide) rfl
  have hKc := hK.sub (tys' := []) [] rfl
  have hFc := va_free (wc := [(q_11, .inr (0, dfX0))]) hD hS hA [5] rfl
  refine va_callv (va_runIN (As := []) (rest := [.ref q_11, .ref h0]) ⟨hx, hb, hml, hown, hts⟩ (m_X0_init l dC dI H.size q_11 ) ⟨va_cnB 0 hts (gd_I kw_50) rfl rfl rfl (nw_of (by exact nn_X11_11) hex) (hts _ kw_49) (by decide +kernel) ⟨Nat.le_of_ble_eq_true rfl, Nat.le_of_ble_eq_true rfl⟩, rfl, hts _ kw_51⟩ ⟨st_blind, fun U hU hW9 => st_mk hU hW9 hPc hKc hDc hex⟩ rfl rfl hl.1 rfl (lv_room (Nat.le_of_ble_eq_true rfl)) dX11_init_31 ⟨Nat.le_of_ble_eq_true rfl, Nat.le_of_ble_eq_true rfl⟩) hS (fun q _ h => hFc q h) hFc (fun  u9 t9 H1 locs ht9 hvm9 hw9 hB9 hz9 hk9 hS => ?_)
  obtain ⟨fs1_12, hd_13, cB_14, L_fs1_12, g_fs1_12_0, g_fs1_12_1, hP1, hK1, hD1⟩ := hB9
  rw [ht9] at hP1
  have hK1 := va_K.moved hvm9.symm hK1
  obtain ⟨hP, hD⟩ := va_join (wr := [(h0, .inr (9, dfX11_10)), (q_1, .inr (0, fs1_2)), (hd_3, .inl (cB_4, 64, .inl (fun _ => 0))), (q_6, .inr (0, fs1_7)), (hd_8, .inl (cB_9, 64, .inl (fun _ => 0)))]) (w1 := [(q_11, .inr (0, fs1_12)), (hd_13, .inl (cB_14, 64, .inl (fun _ => 0)))]) hP hD [5] [0, 1, 2, 3, 4] rfl rfl (by decide) (by decide) hk9 hFc hP1 hD1
  have hK := (hK.sub (tys' := [(cB_4, .byte), (cB_9, .byte)]) [0, 1] rfl).app hK1
  generalize H1 = H at hP hS ⊢
  have hP : va_P (dC, dI) cl0 [(h0, .inr (9, dfX11_10)), (q_1, .inr (0, fs1_2)), (hd_3, .inl (cB_4, 64, .inl (fun _ => 0))), (q_6, .inr (0, fs1_7)), (hd_8, .inl (cB_9, 64, .inl (fun _ => 0))), (q_11, .inr (0, fs1_12)), (hd_13, .inl (cB_14, 64, .inl (fun _ => 0)))] H := hP
  have hD : va_D A [(h0, .inr (9, dfX11_10)), (q_1, .inr (0, fs1_2)), (hd_3, .inl (cB_4, 64, .inl (fun _ => 0))), (q_6, .inr (0, fs1_7)), (hd_8, .inl (cB_9, 64, .inl (fun _ => 0))), (q_11, .inr (0, fs1_12)), (hd_13, .inl (cB_14, 64, .inl (fun _ => 0)))] := hD
  have hK : va_K (dC, dI) cl0 [(cB_4, .byte), (cB_9, .byte), (cB_14, .byte)] s := hK
  refine W.widen (k := 6) (n := 198) (by omega) (by omega) ?_
  refine va_putF (D := (dC, dI)) (ci := 9) (v := .ref q_11) (ty := (.object "CodeFoundry$Bytes")) (C := RX11) (T := TX11) (N := 18) hx hb hts inX11 tyX11 tyX11_ok nmX11 hown hK hP hD hS 0 rfl rfl 2 (by decide) (hts _ kw_54) (fun _ h9 => h9) rfl hin rfl (by decide +kernel) rfl rfl (by rw [L_dfX11_10]; decide) dX11_init_34 (fun H locs hP hD hS => ?_)
  obtain ⟨dfX11_15, e_dfX11_15⟩ : ∃ z, z = dfX11_10.set 2 (.ref q_11) := ⟨_, rfl⟩
  have hP : va_P (dC, dI) cl0 [(h0, .inr (9, dfX11_15)), (q_1, .inr (0, fs1_2)), (hd_3, .inl (cB_4, 64, .inl (fun _ => 0))), (q_6, .inr (0, fs1_7)), (hd_8, .inl (cB_9, 64, .inl (fun _ => 0))), (q_11, .inr (0, fs1_12)), (hd_13, .inl (cB_14, 64, .inl (fun _ => 0)))] H := by rw [e_dfX11_15]; exact hP
  have hD : va_D A [(h0, .inr (9, dfX11_15)), (q_1, .inr (0, fs1_2)), (hd_3, .inl (cB_4, 64, .inl (fun _ => 0))), (q_6, .inr (0, fs1_7)), (hd_8, .inl (cB_9, 64, .inl (fun _ => 0))), (q_11, .inr (0, fs1_12)), (hd_13, .inl (cB_14, 64, .inl (fun _ => 0)))] := by rw [e_dfX11_15]; exact hD
  have L_dfX11_15 : dfX11_15.length = 18 := fx_len e_dfX11_15 L_dfX11_10
  refine lv_aload_n hx hb dX11_init_37 rfl (lv_at hl 0 rfl) ?_
  refine lv_sipush (v := 500) hx hb dX11_init_38 (by decide) ?_
  refine va_newa (atype := .int) (ty := .int) (a0 := (500, .inl (fun _ => 0))) (N' := 500) hx hb (hts (.arrayClass .int) kw_6) rfl hK hP hD hS hA (fun _ => rfl) (by decide) (by decide) (by decide) (Nat.le_of_ble_eq_true rfl) (Nat.le_of_ble_eq_true rfl) dX11_init_41 (fun q_16 cA_17 H hK hP hD hS => ?_)
  have hP := hP.sub (ws' := [(h0, .inr (9, dfX11_15)), (q_1, .inr (0, fs1_2)), (hd_3, .inl (cB_4, 64, .inl (fun _ => 0))), (q_6, .inr (0, fs1_7)), (hd_8, .inl (cB_9, 64, .inl (fun _ => 0))), (q_11, .inr (0, fs1_12)), (hd_13, .inl (cB_14, 64, .inl (fun _ => 0)))]) [0, 1, 2, 3, 4, 5, 6] rfl
  have hD := hD.sub (ws' := [(h0, .inr (9, dfX11_15)), (q_1, .inr (0, fs1_2)), (hd_3, .inl (cB_4, 64, .inl (fun _ => 0))), (q_6, .inr (0, fs1_7)), (hd_8, .inl (cB_9, 64, .inl (fun _ => 0))), (q_11, .inr (0, fs1_12)), (hd_13, .inl (cB_14, 64, .inl (fun _ => 0)))]) [0, 1, 2, 3, 4, 5, 6] (by decide) rfl
  have hK := hK.sub (tys' := [(cB_4, .byte), (cB_9, .byte), (cB_14, .byte)]) [0, 1, 2] rfl
  refine W.widen (k := 7) (n := 698) (Nat.le_of_ble_eq_true rfl) (Nat.le_of_ble_eq_true rfl) ?_
  refine va_putF (D := (dC, dI)) (ci := 9) (v := .ref q_16) (ty := (.array .int)) (C := RX11) (T := TX11) (N := 18) hx hb hts inX11 tyX11 tyX11_ok nmX11 hown hK hP hD hS 0 rfl rfl 3 (by decide) (hts _ kw_55) (fun _ h9 => h9) rfl hin rfl (by decide +kernel) rfl rfl (by rw [L_dfX11_15]; decide) dX11_init_43 (fun H locs hP hD hS => ?_)
  obtain ⟨dfX11_18, e_dfX11_18⟩ : ∃ z, z = dfX11_15.set 3 (.ref q_16) := ⟨_, rfl⟩
  have hP : va_P (dC, dI) cl0 [(h0, .inr (9, dfX11_18)), (q_1, .inr (0, fs1_2)), (hd_3, .inl (cB_4, 64, .inl (fun _ => 0))), (q_6, .inr (0, fs1_7)), (hd_8, .inl (cB_9, 64, .inl (fun _ => 0))), (q_11, .inr (0, fs1_12)), (hd_13, .inl (cB_14, 64, .inl (fun _ => 0)))] H := by rw [e_dfX11_18]; exact hP
  have hD : va_D A [(h0, .inr (9, dfX11_18)), (q_1, .inr (0, fs1_2)), (hd_3, .inl (cB_4, 64, .inl (fun _ => 0))), (q_6, .inr (0, fs1_7)), (hd_8, .inl (cB_9, 64, .inl (fun _ => 0))), (q_11, .inr (0, fs1_12)), (hd_13, .inl (cB_14, 64, .inl (fun _ => 0)))] := by rw [e_dfX11_18]; exact hD
  have L_dfX11_18 : dfX11_18.length = 18 := fx_len e_dfX11_18 L_dfX11_15
  refine lv_aload_n hx hb dX11_init_46 rfl (lv_at hl 0 rfl) ?_
  refine lv_sipush (v := 500) hx hb dX11_init_47 (by decide) ?_
  refine va_newa (atype := .int) (ty := .int) (a0 := (500, .inl (fun _ => 0))) (N' := 500) hx hb (hts (.arrayClass .int) kw_6) rfl hK hP hD hS hA (fun _ => rfl) (by decide) (by decide) (by decide) (Nat.le_of_ble_eq_true rfl) (Nat.le_of_ble_eq_true rfl) dX11_init_50 (fun q_19 cA_20 H hK hP hD hS => ?_)
  have hP := hP.sub (ws' := [(h0, .inr (9, dfX11_18)), (q_1, .inr (0, fs1_2)), (hd_3, .inl (cB_4, 64, .inl (fun _ => 0))), (q_6, .inr (0, fs1_7)), (hd_8, .inl (cB_9, 64, .inl (fun _ => 0))), (q_11, .inr (0, fs1_12)), (hd_13, .inl (cB_14, 64, .inl (fun _ => 0)))]) [0, 1, 2, 3, 4, 5, 6] rfl
  have hD := hD.sub (ws' := [(h0, .inr (9, dfX11_18)), (q_1, .inr (0, fs1_2)), (hd_3, .inl (cB_4, 64, .inl (fun _ => 0))), (q_6, .inr (0, fs1_7)), (hd_8, .inl (cB_9, 64, .inl (fun _ => 0))), (q_11, .inr (0, fs1_12)), (hd_13, .inl (cB_14, 64, .inl (fun _ => 0)))]) [0, 1, 2, 3, 4, 5, 6] (by decide) rfl
  have hK := hK.sub (tys' := [(cB_4, .byte), (cB_9, .byte), (cB_14, .byte)]) [0, 1, 2] rfl
  refine W.widen (k := 8) (n := 1198) (Nat.le_of_ble_eq_true rfl) (Nat.le_of_ble_eq_true rfl) ?_
  refine va_putF (D := (dC, dI)) (ci := 9) (v := .ref q_19) (ty := (.array .int)) (C := RX11) (T := TX11) (N := 18) hx hb hts inX11 tyX11 tyX11_ok nmX11 hown hK hP hD hS 0 rfl rfl 4 (by decide) (hts _ kw_56) (fun _ h9 => h9) rfl hin rfl (by decide +kernel) rfl rfl (by rw [L_dfX11_18]; decide) dX11_init_52 (fun H locs hP hD hS => ?_)
  obtain ⟨dfX11_21, e_dfX11_21⟩ : ∃ z, z = dfX11_18.set 4 (.ref q_19) := ⟨_, rfl⟩
  have hP : va_P (dC, dI) cl0 [(h0, .inr (9, dfX11_21)), (q_1, .inr (0, fs1_2)), (hd_3, .inl (cB_4, 64, .inl (fun _ => 0))), (q_6, .inr (0, fs1_7)), (hd_8, .inl (cB_9, 64, .inl (fun _ => 0))), (q_11, .inr (0, fs1_12)), (hd_13, .inl (cB_14, 64, .inl (fun _ => 0)))] H := by rw [e_dfX11_21]; exact hP
  have hD : va_D A [(h0, .inr (9, dfX11_21)), (q_1, .inr (0, fs1_2)), (hd_3, .inl (cB_4, 64, .inl (fun _ => 0))), (q_6, .inr (0, fs1_7)), (hd_8, .inl (cB_9, 64, .inl (fun _ => 0))), (q_11, .inr (0, fs1_12)), (hd_13, .inl (cB_14, 64, .inl (fun _ => 0)))] := by rw [e_dfX11_21]; exact hD
  have L_dfX11_21 : dfX11_21.length = 18 := fx_len e_dfX11_21 L_dfX11_18
  refine lv_aload_n hx hb dX11_init_55 rfl (lv_at hl 0 rfl) ?_
  refine lv_bipush (v := 24) hx hb dX11_init_56 (by decide) ?_
  refine va_newa (atype := .int) (ty := .int) (a0 := (24, .inl (fun _ => 0))) (N' := 24) hx hb (hts (.arrayClass .int) kw_6) rfl hK hP hD hS hA (fun _ => rfl) (by decide) (by decide) (by decide) (Nat.le_of_ble_eq_true rfl) (Nat.le_of_ble_eq_true rfl) dX11_init_58 (fun q_22 cA_23 H hK hP hD hS => ?_)
  have hP := hP.sub (ws' := [(h0, .inr (9, dfX11_21)), (q_1, .inr (0, fs1_2)), (hd_3, .inl (cB_4, 64, .inl (fun _ => 0))), (q_6, .inr (0, fs1_7)), (hd_8, .inl (cB_9, 64, .inl (fun _ => 0))), (q_11, .inr (0, fs1_12)), (hd_13, .inl (cB_14, 64, .inl (fun _ => 0)))]) [0, 1, 2, 3, 4, 5, 6] rfl
  have hD := hD.sub (ws' := [(h0, .inr (9, dfX11_21)), (q_1, .inr (0, fs1_2)), (hd_3, .inl (cB_4, 64, .inl (fun _ => 0))), (q_6, .inr (0, fs1_7)), (hd_8, .inl (cB_9, 64, .inl (fun _ => 0))), (q_11, .inr (0, fs1_12)), (hd_13, .inl (cB_14, 64, .inl (fun _ => 0)))]) [0, 1, 2, 3, 4, 5, 6] (by decide) rfl
  have hK := hK.sub (tys' := [(cB_4, .byte), (cB_9, .byte), (cB_14, .byte)]) [0, 1, 2] rfl
  refine W.widen (k := 9) (n := 1222) (Nat.le_of_ble_eq_true rfl) (Nat.le_of_ble_eq_true rfl) ?_
  refine va_putF (D := (dC, dI)) (ci := 9) (v := .ref q_22) (ty := (.array .int)) (C := RX11) (T := TX11) (N := 18) hx hb hts inX11 tyX11 tyX11_ok nmX11 hown hK hP hD hS 0 rfl rfl 10 (by decide) (hts _ kw_57) (fun _ h9 => h9) rfl hin rfl (by decide +kernel) rfl rfl (by rw [L_dfX11_21]; decide) dX11_init_60 (fun H locs hP hD hS => ?_)
  obtain ⟨dfX11_24, e_dfX11_24⟩ : ∃ z, z = dfX11_21.set 10 (.ref q_22) := ⟨_, rfl⟩
  have hP : va_P (dC, dI) cl0 [(h0, .inr (9, dfX11_24)), (q_1, .inr (0, fs1_2)), (hd_3, .inl (cB_4, 64, .inl (fun _ => 0))), (q_6, .inr (0, fs1_7)), (hd_8, .inl (cB_9, 64, .inl (fun _ => 0))), (q_11, .inr (0, fs1_12)), (hd_13, .inl (cB_14, 64, .inl (fun _ => 0)))] H := by rw [e_dfX11_24]; exact hP
  have hD : va_D A [(h0, .inr (9, dfX11_24)), (q_1, .inr (0, fs1_2)), (hd_3, .inl (cB_4, 64, .inl (fun _ => 0))), (q_6, .inr (0, fs1_7)), (hd_8, .inl (cB_9, 64, .inl (fun _ => 0))), (q_11, .inr (0, fs1_12)), (hd_13, .inl (cB_14, 64, .inl (fun _ => 0)))] := by rw [e_dfX11_24]; exact hD
  have L_dfX11_24 : dfX11_24.length = 18 := fx_len e_dfX11_24 L_dfX11_21
  refine lv_aload_n hx hb dX11_init_63 rfl (lv_at hl 0 rfl) ?_
  refine lv_bipush (v := 24) hx hb dX11_init_64 (by decide) ?_
  refine va_newa (atype := .int) (ty := .int) (a0 := (24, .inl (fun _ => 0))) (N' := 24) hx hb (hts (.arrayClass .int) kw_6) rfl hK hP hD hS hA (fun _ => rfl) (by decide) (by decide) (by decide) (Nat.le_of_ble_eq_true rfl) (Nat.le_of_ble_eq_true rfl) dX11_init_66 (fun q_25 cA_26 H hK hP hD hS => ?_)
  have hP := hP.sub (ws' := [(h0, .inr (9, dfX11_24)), (q_1, .inr (0, fs1_2)), (hd_3, .inl (cB_4, 64, .inl (fun _ => 0))), (q_6, .inr (0, fs1_7)), (hd_8, .inl (cB_9, 64, .inl (fun _ => 0))), (q_11, .inr (0, fs1_12)), (hd_13, .inl (cB_14, 64, .inl (fun _ => 0)))]) [0, 1, 2, 3, 4, 5, 6] rfl
  have hD := hD.sub (ws' := [(h0, .inr (9, dfX11_24)), (q_1, .inr (0, fs1_2)), (hd_3, .inl (cB_4, 64, .inl (fun _ => 0))), (q_6, .inr (0, fs1_7)), (hd_8, .inl (cB_9, 64, .inl (fun _ => 0))), (q_11, .inr (0, fs1_12)), (hd_13, .inl (cB_14, 64, .inl (fun _ => 0)))]) [0, 1, 2, 3, 4, 5, 6] (by decide) rfl
  have hK := hK.sub (tys' := [(cB_4, .byte), (cB_9, .byte), (cB_14, .byte)]) [0, 1, 2] rfl
  refine W.widen (k := 10) (n := 1246) (Nat.le_of_ble_eq_true rfl) (Nat.le_of_ble_eq_true rfl) ?_
  refine va_putF (D := (dC, dI)) (ci := 9) (v := .ref q_25) (ty := (.array .int)) (C := RX11) (T := TX11) (N := 18) hx hb hts inX11 tyX11 tyX11_ok nmX11 hown hK hP hD hS 0 rfl rfl 11 (by decide) (hts _ kw_58) (fun _ h9 => h9) rfl hin rfl (by decide +kernel) rfl rfl (by rw [L_dfX11_24]; decide) dX11_init_68 (fun H locs hP hD hS => ?_)
  obtain ⟨dfX11_27, e_dfX11_27⟩ : ∃ z, z = dfX11_24.set 11 (.ref q_25) := ⟨_, rfl⟩
  have hP : va_P (dC, dI) cl0 [(h0, .inr (9, dfX11_27)), (q_1, .inr (0, fs1_2)), (hd_3, .inl (cB_4, 64, .inl (fun _ => 0))), (q_6, .inr (0, fs1_7)), (hd_8, .inl (cB_9, 64, .inl (fun _ => 0))), (q_11, .inr (0, fs1_12)), (hd_13, .inl (cB_14, 64, .inl (fun _ => 0)))] H := by rw [e_dfX11_27]; exact hP
  have hD : va_D A [(h0, .inr (9, dfX11_27)), (q_1, .inr (0, fs1_2)), (hd_3, .inl (cB_4, 64, .inl (fun _ => 0))), (q_6, .inr (0, fs1_7)), (hd_8, .inl (cB_9, 64, .inl (fun _ => 0))), (q_11, .inr (0, fs1_12)), (hd_13, .inl (cB_14, 64, .inl (fun _ => 0)))] := by rw [e_dfX11_27]; exact hD
  have L_dfX11_27 : dfX11_27.length = 18 := fx_len e_dfX11_27 L_dfX11_24
  refine lv_aload_n hx hb dX11_init_71 rfl (lv_at hl 0 rfl) ?_
  refine lv_bipush (v := 24) hx hb dX11_init_72 (by decide) ?_
  refine va_newa (atype := .int) (ty := .int) (a0 := (24, .inl (fun _ => 0))) (N' := 24) hx hb (hts (.arrayClass .int) kw_6) rfl hK hP hD hS hA (fun _ => rfl) (by decide) (by decide) (by decide) (Nat.le_of_ble_eq_true rfl) (Nat.le_of_ble_eq_true rfl) dX11_init_74 (fun q_28 cA_29 H hK hP hD hS => ?_)
  have hP := hP.sub (ws' := [(h0, .inr (9, dfX11_27)), (q_1, .inr (0, fs1_2)), (hd_3, .inl (cB_4, 64, .inl (fun _ => 0))), (q_6, .inr (0, fs1_7)), (hd_8, .inl (cB_9, 64, .inl (fun _ => 0))), (q_11, .inr (0, fs1_12)), (hd_13, .inl (cB_14, 64, .inl (fun _ => 0)))]) [0, 1, 2, 3, 4, 5, 6] rfl
  have hD := hD.sub (ws' := [(h0, .inr (9, dfX11_27)), (q_1, .inr (0, fs1_2)), (hd_3, .inl (cB_4, 64, .inl (fun _ => 0))), (q_6, .inr (0, fs1_7)), (hd_8, .inl (cB_9, 64, .inl (fun _ => 0))), (q_11, .inr (0, fs1_12)), (hd_13, .inl (cB_14, 64, .inl (fun _ => 0)))]) [0, 1, 2, 3, 4, 5, 6] (by decide) rfl
  have hK := hK.sub (tys' := [(cB_4, .byte), (cB_9, .byte), (cB_14, .byte)]) [0, 1, 2] rfl
  refine W.widen (k := 11) (n := 1270) (Nat.le_of_ble_eq_true rfl) (Nat.le_of_ble_eq_true rfl) ?_
  refine va_putF (D := (dC, dI)) (ci := 9) (v := .ref q_28) (ty := (.array .int)) (C := RX11) (T := TX11) (N := 18) hx hb hts inX11 tyX11 tyX11_ok nmX11 hown hK hP hD hS 0 rfl rfl 12 (by decide) (hts _ kw_59) (fun _ h9 => h9) rfl hin rfl (by decide +kernel) rfl rfl (by rw [L_dfX11_27]; decide) dX11_init_76 (fun H locs hP hD hS => ?_)
  obtain ⟨dfX11_30, e_dfX11_30⟩ : ∃ z, z = dfX11_27.set 12 (.ref q_28) := ⟨_, rfl⟩
  have hP : va_P (dC, dI) cl0 [(h0, .inr (9, dfX11_30)), (q_1, .inr (0, fs1_2)), (hd_3, .inl (cB_4, 64, .inl (fun _ => 0))), (q_6, .inr (0, fs1_7)), (hd_8, .inl (cB_9, 64, .inl (fun _ => 0))), (q_11, .inr (0, fs1_12)), (hd_13, .inl (cB_14, 64, .inl (fun _ => 0)))] H := by rw [e_dfX11_30]; exact hP
  have hD : va_D A [(h0, .inr (9, dfX11_30)), (q_1, .inr (0, fs1_2)), (hd_3, .inl (cB_4, 64, .inl (fun _ => 0))), (q_6, .inr (0, fs1_7)), (hd_8, .inl (cB_9, 64, .inl (fun _ => 0))), (q_11, .inr (0, fs1_12)), (hd_13, .inl (cB_14, 64, .inl (fun _ => 0)))] := by rw [e_dfX11_30]; exact hD
  have L_dfX11_30 : dfX11_30.length = 18 := fx_len e_dfX11_30 L_dfX11_27
  refine lv_aload_n hx hb dX11_init_79 rfl (lv_at hl 0 rfl) ?_
  refine lv_bipush (v := 24) hx hb dX11_init_80 (by decide) ?_
  refine va_newa (atype := .int) (ty := .int) (a0 := (24, .inl (fun _ => 0))) (N' := 24) hx hb (hts (.arrayClass .int) kw_6) rfl hK hP hD hS hA (fun _ => rfl) (by decide) (by decide) (by decide) (Nat.le_of_ble_eq_true rfl) (Nat.le_of_ble_eq_true rfl) dX11_init_82 (fun q_31 cA_32 H hK hP hD hS => ?_)
  have hP := hP.sub (ws' := [(h0, .inr (9, dfX11_30)), (q_1, .inr (0, fs1_2)), (hd_3, .inl (cB_4, 64, .inl (fun _ => 0))), (q_6, .inr (0, fs1_7)), (hd_8, .inl (cB_9, 64, .inl (fun _ => 0))), (q_11, .inr (0, fs1_12)), (hd_13, .inl (cB_14, 64, .inl (fun _ => 0)))]) [0, 1, 2, 3, 4, 5, 6] rfl
  have hD := hD.sub (ws' := [(h0, .inr (9, dfX11_30)), (q_1, .inr (0, fs1_2)), (hd_3, .inl (cB_4, 64, .inl (fun _ => 0))), (q_6, .inr (0, fs1_7)), (hd_8, .inl (cB_9, 64, .inl (fun _ => 0))), (q_11, .inr (0, fs1_12)), (hd_13, .inl (cB_14, 64, .inl (fun _ => 0)))]) [0, 1, 2, 3, 4, 5, 6] (by decide) rfl
  have hK := hK.sub (tys' := [(cB_4, .byte), (cB_9, .byte), (cB_14, .byte)]) [0, 1, 2] rfl
  refine W.widen (k := 12) (n := 1294) (Nat.le_of_ble_eq_true rfl) (Nat.le_of_ble_eq_true rfl) ?_
  refine va_putF (D := (dC, dI)) (ci := 9) (v := .ref q_31) (ty := (.array .int)) (C := RX11) (T := TX11) (N := 18) hx hb hts inX11 tyX11 tyX11_ok nmX11 hown hK hP hD hS 0 rfl rfl 13 (by decide) (hts _ kw_60) (fun _ h9 => h9) rfl hin rfl (by decide +kernel) rfl rfl (by rw [L_dfX11_30]; decide) dX11_init_84 (fun H locs hP hD hS => ?_)
  obtain ⟨dfX11_33, e_dfX11_33⟩ : ∃ z, z = dfX11_30.set 13 (.ref q_31) := ⟨_, rfl⟩
  have hP : va_P (dC, dI) cl0 [(h0, .inr (9, dfX11_33)), (q_1, .inr (0, fs1_2)), (hd_3, .inl (cB_4, 64, .inl (fun _ => 0))), (q_6, .inr (0, fs1_7)), (hd_8, .inl (cB_9, 64, .inl (fun _ => 0))), (q_11, .inr (0, fs1_12)), (hd_13, .inl (cB_14, 64, .inl (fun _ => 0)))] H := by rw [e_dfX11_33]; exact hP
  have hD : va_D A [(h0, .inr (9, dfX11_33)), (q_1, .inr (0, fs1_2)), (hd_3, .inl (cB_4, 64, .inl (fun _ => 0))), (q_6, .inr (0, fs1_7)), (hd_8, .inl (cB_9, 64, .inl (fun _ => 0))), (q_11, .inr (0, fs1_12)), (hd_13, .inl (cB_14, 64, .inl (fun _ => 0)))] := by rw [e_dfX11_33]; exact hD
  have L_dfX11_33 : dfX11_33.length = 18 := fx_len e_dfX11_33 L_dfX11_30
  refine lv_aload_n hx hb dX11_init_87 rfl (lv_at hl 0 rfl) ?_
  refine va_new (ci := 4) (fs := dfX4) (C := RX4) (T := TX4) (N := 8) hx hb hts inX4 tyX4 tyX4_ok hown (hts _ kw_61) (hts _ kw_22) (hts _ kw_23) hK hP hD hS hA rfl dfX4_ok (Nat.le_of_ble_eq_true rfl) (Nat.le_of_ble_eq_true rfl) dX11_init_88 (fun q_34 H hP hD hS => ?_)
  have hP : va_P (dC, dI) cl0 [(h0, .inr (9, dfX11_33)), (q_1, .inr (0, fs1_2)), (hd_3, .inl (cB_4, 64, .inl (fun _ => 0))), (q_6, .inr (0, fs1_7)), (hd_8, .inl (cB_9, 64, .inl (fun _ => 0))), (q_11, .inr (0, fs1_12)), (hd_13, .inl (cB_14, 64, .inl (fun _ => 0))), (q_34, .inr (4, dfX4))] H := hP
  have hD : va_D A [(h0, .inr (9, dfX11_33)), (q_1, .inr (0, fs1_2)), (hd_3, .inl (cB_4, 64, .inl (fun _ => 0))), (q_6, .inr (0, fs1_7)), (hd_8, .inl (cB_9, 64, .inl (fun _ => 0))), (q_11, .inr (0, fs1_12)), (hd_13, .inl (cB_14, 64, .inl (fun _ => 0))), (q_34, .inr (4, dfX4))] := hD
  refine W.widen (k := 13) (n := 1302) (Nat.le_of_ble_eq_true rfl) (Nat.le_of_ble_eq_true rfl) ?_
  refine lv_dup hx hb dX11_init_91 rfl ?_
  have hPc := hP.sub (ws' := [(q_34, .inr (4, dfX4))]) [7] rfl
  have hDc := hD.sub (ws' := [(q_34, .inr (4, dfX4))]) [7] (by decide) rfl
  have hKc := hK.sub (tys' := []) [] rfl
  have hFc := va_free (wc := [(q_34, .inr (4, dfX4))]) hD hS hA [7] rfl
  refine va_callv (va_runIN (As := []) (rest := [.ref q_34, .ref h0]) ⟨hx, hb, hml, hown, hts⟩ (m_X4_init l dC dI H.size q_34 ) ⟨va_cnB 0 hts (gd_I kw_24) rfl rfl rfl (nw_of (by exact nn_X11_45) hex) (hts _ kw_23) (by decide +kernel) ⟨Nat.le_of_ble_eq_true rfl, Nat.le_of_ble_eq_true rfl⟩, rfl, hts _ kw_25⟩ ⟨st_blind, fun U hU hW9 => st_mk hU hW9 hPc hKc hDc hex⟩ rfl rfl hl.1 rfl (lv_room (Nat.le_of_ble_eq_true rfl)) dX11_init_92 ⟨Nat.le_of_ble_eq_true rfl, Nat.le_of_ble_eq_true rfl⟩) hS (fun q _ h => hFc q h) hFc (fun  u9 t9 H1 locs ht9 hvm9 hw9 hB9 hz9 hk9 hS => ?_)
  have hP1 : va_P (dC, dI) cl0 [] H1 := fun k q h => by simp at h
  have hD1 : va_D (va_A [(q_34, .inr (4, dfX4))] H.size) [] := ⟨fun i j p q h => by simp at h, fun k q h => by simp at h⟩
  obtain ⟨hP, hD⟩ := va_join (wr := [(h0, .inr (9, dfX11_33)), (q_1, .inr (0, fs1_2)), (hd_3, .inl (cB_4, 64, .inl (fun _ => 0))), (q_6, .inr (0, fs1_7)), (hd_8, .inl (cB_9, 64, .inl (fun _ => 0))), (q_11, .inr (0, fs1_12)), (hd_13, .inl (cB_14, 64, .inl (fun _ => 0)))]) (w1 := []) hP hD [7] [0, 1, 2, 3, 4, 5, 6] rfl rfl (by decide) (by decide) hk9 hFc hP1 hD1
  generalize H1 = H at hP hS ⊢
  have hP : va_P (dC, dI) cl0 [(h0, .inr (9, dfX11_33)), (q_1, .inr (0, fs1_2)), (hd_3, .inl (cB_4, 64, .inl (fun _ => 0))), (q_6, .inr (0, fs1_7)), (hd_8, .inl (cB_9, 64, .inl (fun _ => 0))), (q_11, .inr (0, fs1_12)), (hd_13, .inl (cB_14, 64, .inl (fun _ => 0)))] H := hP
  have hD : va_D A [(h0, .inr (9, dfX11_33)), (q_1, .inr (0, fs1_2)), (hd_3, .inl (cB_4, 64, .inl (fun _ => 0))), (q_6, .inr (0, fs1_7)), (hd_8, .inl (cB_9, 64, .inl (fun _ => 0))), (q_11, .inr (0, fs1_12)), (hd_13, .inl (cB_14, 64, .inl (fun _ => 0)))] := hD
  refine W.widen (k := 16) (n := 1302) (by omega) (by omega) ?_
  refine va_putF (D := (dC, dI)) (ci := 9) (v := .ref q_34) (ty := (.object "CodeFoundry$Heights")) (C := RX11) (T := TX11) (N := 18) hx hb hts inX11 tyX11 tyX11_ok nmX11 hown hK hP hD hS 0 rfl rfl 14 (by decide) (hts _ kw_62) (fun _ h9 => h9) rfl hin rfl (by decide +kernel) rfl rfl (by rw [L_dfX11_33]; decide) dX11_init_95 (fun H locs hP hD hS => ?_)
  obtain ⟨dfX11_35, e_dfX11_35⟩ : ∃ z, z = dfX11_33.set 14 (.ref q_34) := ⟨_, rfl⟩
  have hP : va_P (dC, dI) cl0 [(h0, .inr (9, dfX11_35)), (q_1, .inr (0, fs1_2)), (hd_3, .inl (cB_4, 64, .inl (fun _ => 0))), (q_6, .inr (0, fs1_7)), (hd_8, .inl (cB_9, 64, .inl (fun _ => 0))), (q_11, .inr (0, fs1_12)), (hd_13, .inl (cB_14, 64, .inl (fun _ => 0)))] H := by rw [e_dfX11_35]; exact hP
  have hD : va_D A [(h0, .inr (9, dfX11_35)), (q_1, .inr (0, fs1_2)), (hd_3, .inl (cB_4, 64, .inl (fun _ => 0))), (q_6, .inr (0, fs1_7)), (hd_8, .inl (cB_9, 64, .inl (fun _ => 0))), (q_11, .inr (0, fs1_12)), (hd_13, .inl (cB_14, 64, .inl (fun _ => 0)))] := by rw [e_dfX11_35]; exact hD
  have L_dfX11_35 : dfX11_35.length = 18 := fx_len e_dfX11_35 L_dfX11_33
  refine lv_aload_n hx hb dX11_init_98 rfl (lv_at hl 0 rfl) ?_
  refine lv_iconst (v := 0) hx hb dX11_init_99 (by decide) ?_
  refine va_newa (atype := .int) (ty := .int) (a0 := (0, .inl (fun _ => 0))) (N' := 0) hx hb (hts (.arrayClass .int) kw_6) rfl hK hP hD hS hA (fun _ => rfl) (by decide) (by decide) (by decide) (Nat.le_of_ble_eq_true rfl) (Nat.le_of_ble_eq_true rfl) dX11_init_100 (fun q_36 cA_37 H hK hP hD hS => ?_)
  have hP := hP.sub (ws' := [(h0, .inr (9, dfX11_35)), (q_1, .inr (0, fs1_2)), (hd_3, .inl (cB_4, 64, .inl (fun _ => 0))), (q_6, .inr (0, fs1_7)), (hd_8, .inl (cB_9, 64, .inl (fun _ => 0))), (q_11, .inr (0, fs1_12)), (hd_13, .inl (cB_14, 64, .inl (fun _ => 0)))]) [0, 1, 2, 3, 4, 5, 6] rfl
  have hD := hD.sub (ws' := [(h0, .inr (9, dfX11_35)), (q_1, .inr (0, fs1_2)), (hd_3, .inl (cB_4, 64, .inl (fun _ => 0))), (q_6, .inr (0, fs1_7)), (hd_8, .inl (cB_9, 64, .inl (fun _ => 0))), (q_11, .inr (0, fs1_12)), (hd_13, .inl (cB_14, 64, .inl (fun _ => 0)))]) [0, 1, 2, 3, 4, 5, 6] (by decide) rfl
  have hK := hK.sub (tys' := [(cB_4, .byte), (cB_9, .byte), (cB_14, .byte)]) [0, 1, 2] rfl
  refine W.widen (k := 17) (n := 1302) (Nat.le_of_ble_eq_true rfl) (Nat.le_of_ble_eq_true rfl) ?_
  refine va_put (D := (dC, dI)) (ci := 9) (v := .ref q_36) (ty := (.array .int)) (C := RX11) (T := TX11) (N := 18) hx hb hts inX11 tyX11 tyX11_ok nmX11 hown hK hP hD hS 0 rfl rfl 16 (by decide) (hts _ kw_63) (fun _ h9 => h9) rfl (by decide +kernel) rfl rfl (by rw [L_dfX11_35]; decide) dX11_init_102 (fun H locs hP hD hS => ?_)
  obtain ⟨dfX11_38, e_dfX11_38⟩ : ∃ z, z = dfX11_35.set 16 (.ref q_36) := ⟨_, rfl⟩
  have hP : va_P (dC, dI) cl0 [(h0, .inr (9, dfX11_38)), (q_1, .inr (0, fs1_2)), (hd_3, .inl (cB_4, 64, .inl (fun _ => 0))), (q_6, .inr (0, fs1_7)), (hd_8, .inl (cB_9, 64, .inl (fun _ => 0))), (q_11, .inr (0, fs1_12)), (hd_13, .inl (cB_14, 64, .inl (fun _ => 0)))] H := by rw [e_dfX11_38]; exact hP
  have hD : va_D A [(h0, .inr (9, dfX11_38)), (q_1, .inr (0, fs1_2)), (hd_3, .inl (cB_4, 64, .inl (fun _ => 0))), (q_6, .inr (0, fs1_7)), (hd_8, .inl (cB_9, 64, .inl (fun _ => 0))), (q_11, .inr (0, fs1_12)), (hd_13, .inl (cB_14, 64, .inl (fun _ => 0)))] := by rw [e_dfX11_38]; exact hD
  have L_dfX11_38 : dfX11_38.length = 18 := fx_len e_dfX11_38 L_dfX11_35
  refine lv_aload_n hx hb dX11_init_105 rfl (lv_at hl 0 rfl) ?_
  refine lv_iconst (v := 0) hx hb dX11_init_106 (by decide) ?_
  refine va_newa (atype := .int) (ty := .int) (a0 := (0, .inl (fun _ => 0))) (N' := 0) hx hb (hts (.arrayClass .int) kw_6) rfl hK hP hD hS hA (fun _ => rfl) (by decide) (by decide) (by decide) (Nat.le_of_ble_eq_true rfl) (Nat.le_of_ble_eq_true rfl) dX11_init_107 (fun q_39 cA_40 H hK hP hD hS => ?_)
  have hP := hP.sub (ws' := [(h0, .inr (9, dfX11_38)), (q_1, .inr (0, fs1_2)), (hd_3, .inl (cB_4, 64, .inl (fun _ => 0))), (q_6, .inr (0, fs1_7)), (hd_8, .inl (cB_9, 64, .inl (fun _ => 0))), (q_11, .inr (0, fs1_12)), (hd_13, .inl (cB_14, 64, .inl (fun _ => 0)))]) [0, 1, 2, 3, 4, 5, 6] rfl
  have hD := hD.sub (ws' := [(h0, .inr (9, dfX11_38)), (q_1, .inr (0, fs1_2)), (hd_3, .inl (cB_4, 64, .inl (fun _ => 0))), (q_6, .inr (0, fs1_7)), (hd_8, .inl (cB_9, 64, .inl (fun _ => 0))), (q_11, .inr (0, fs1_12)), (hd_13, .inl (cB_14, 64, .inl (fun _ => 0)))]) [0, 1, 2, 3, 4, 5, 6] (by decide) rfl
  have hK := hK.sub (tys' := [(cB_4, .byte), (cB_9, .byte), (cB_14, .byte)]) [0, 1, 2] rfl
  refine W.widen (k := 18) (n := 1302) (Nat.le_of_ble_eq_true rfl) (Nat.le_of_ble_eq_true rfl) ?_
  refine va_put (D := (dC, dI)) (ci := 9) (v := .ref q_39) (ty := (.array .int)) (C := RX11) (T := TX11) (N := 18) hx hb hts inX11 tyX11 tyX11_ok nmX11 hown hK hP hD hS 0 rfl rfl 17 (by decide) (hts _ kw_64) (fun _ h9 => h9) rfl (by decide +kernel) rfl rfl (by rw [L_dfX11_38]; decide) dX11_init_109 (fun H locs hP hD hS => ?_)
  obtain ⟨dfX11_41, e_dfX11_41⟩ : ∃ z, z = dfX11_38.set 17 (.ref q_39) := ⟨_, rfl⟩
  have hP : va_P (dC, dI) cl0 [(h0, .inr (9, dfX11_41)), (q_1, .inr (0, fs1_2)), (hd_3, .inl (cB_4, 64, .inl (fun _ => 0))), (q_6, .inr (0, fs1_7)), (hd_8, .inl (cB_9, 64, .inl (fun _ => 0))), (q_11, .inr (0, fs1_12)), (hd_13, .inl (cB_14, 64, .inl (fun _ => 0)))] H := by rw [e_dfX11_41]; exact hP
  have hD : va_D A [(h0, .inr (9, dfX11_41)), (q_1, .inr (0, fs1_2)), (hd_3, .inl (cB_4, 64, .inl (fun _ => 0))), (q_6, .inr (0, fs1_7)), (hd_8, .inl (cB_9, 64, .inl (fun _ => 0))), (q_11, .inr (0, fs1_12)), (hd_13, .inl (cB_14, 64, .inl (fun _ => 0)))] := by rw [e_dfX11_41]; exact hD
  have L_dfX11_41 : dfX11_41.length = 18 := fx_len e_dfX11_41 L_dfX11_38
  refine W.widen (k := 18) (n := 1302) (Nat.le_of_ble_eq_true rfl) (Nat.le_of_ble_eq_true rfl) ?_
  exact W.vret hx hb hr (fun t9 ht9 hW9 => ⟨⟨(), rfl, trivial, trivial⟩, hS.F ht9⟩) hS.2.2 dX11_init_112
set_option maxHeartbeats 4000000 in
set_option maxRecDepth 100000 in
theorem m_X5_init (l : Launch) (dC : Nat → ClassId) (dI : Nat → Nat → Nat) (sz : Nat) (h0 : Nat)  : Met l yX5_init (wt yX5_init cX5_init 1 none) ({ frames := 1, cells := 7, slots := 220, locals := 12 }) (va_Pc [.ref h0] (st_U dC dI sz [(h0, .inr (5, dfX5))] [])) (va_Qv (fun _ : Unit => True) (fun (_ : Unit) (t : State) => ∃ (fs1 : List Value), ∃ (ha : Nat), ∃ (cJ : ClassId), (fs1.length = 20) ∧ (fs1[0]? = some (.null)) ∧ (fs1[5]? = some (.int 0)) ∧ (fs1[6]? = some (.ref ha)) ∧ (fs1[7]? = some (.int 0)) ∧ (fs1[16]? = some (.long 0)) ∧ (fs1[17]? = some (.int (-1))) ∧ (fs1[18]? = some (.int 0)) ∧ (fs1[19]? = some (.int 0)) ∧ va_P (dC, dI) cl0 [(h0, .inr (5, fs1)), (ha, .inl (cJ, 8, .inr (.inl (fun _ => 0))))] t.heap ∧ va_K (dC, dI) cl0 [(cJ, .long)] t ∧ va_D (va_A [(h0, .inr (5, dfX5))] sz) [(h0, .inr (5, fs1)), (ha, .inl (cJ, 8, .inr (.inl (fun _ => 0))))]) (va_A [(h0, .inr (5, dfX5))] sz)) 7 220 (va_A [(h0, .inr (5, dfX5))] sz) := by
  refine Met.ofW (cc := cX5_init) (maxL := 1) (ret := none) (by decide) rfl ?_
  intro p e s m args below meth c s₁ B hml hv
  obtain ⟨rfl, hsz, hP, hK, hD0, hex⟩ := hv
  have hx := B.exec
  have hb := B.bytes
  have hr := B.returns
  have hts0 := atoms_spec (ws := wt yX5_init cX5_init 1 none) B.pre
  have hts : ∀ w ∈ tb, w.before _ s = true := fun w h => hts0 w (List.mem_cons_of_mem _ h)
  have hown : s.vm.findClass RX5 = some m.cls := findClass_of_methodNamed B.named
  have hlocks := B.notSynchronized
  have hin : meth.name = "<init>" := (name_of_methodNamed B.named B.method).1
  subst hsz
  have hD := hD0.self (sz := s.heap.size)
  generalize hAe : va_A [(h0, .inr (5, dfX5))] s.heap.size = A at hD ⊢
  have hA : ∀ q : Nat, s.heap.size ≤ q → A q := fun q h => by rw [← hAe]; exact Or.inr h
  have hS : va_S A s.heap s.heap [] := va_S.rf
  have hl := lv_entry ([.ref h0]) (n := 1) (Nat.le_of_ble_eq_true rfl)
  rw [lg_entry_eq]
  generalize (lg_sl ([.ref h0]) ++ List.replicate (1 - (lg_sl ([.ref h0])).length) Slot.unset).toArray = ls at hl ⊢
  have hl : lv_has ls 1 [(0, .ref h0)] := hl
  refine lv_aload_n hx hb dX5_init_0 rfl (lv_at hl 0 rfl) ?_
  refine W.objInit hx hb hown (hts _ kw_65) (hts _ kw_1) (hts _ kw_2) rfl (by rw [hml]; exact hl.1) rfl dX5_init_1 (Nat.le_of_ble_eq_true rfl) (Nat.le_of_ble_eq_true rfl) ?_
  refine W.eq (g2 := F0 m 4 ls []) rfl ?_
  refine lv_aload_n hx hb dX5_init_4 rfl (lv_at hl 0 rfl) ?_
  refine lv_bipush (v := 24) hx hb dX5_init_5 (by decide) ?_
  refine va_newa (atype := .long) (ty := .long) (a0 := (24, .inr (.inl (fun _ => 0)))) (N' := 24) hx hb (hts (.arrayClass .long) kw_13) rfl hK hP hD hS hA (fun _ => rfl) (by decide) (by decide) (by decide) (Nat.le_of_ble_eq_true rfl) (Nat.le_of_ble_eq_true rfl) dX5_init_7 (fun q_1 cA_2 H hK hP hD hS => ?_)
  have hP := hP.sub (ws' := [(h0, .inr (5, dfX5))]) [0] rfl
  have hD := hD.sub (ws' := [(h0, .inr (5, dfX5))]) [0] (by decide) rfl
  have hK := hK.sub (tys' := []) [] rfl
  refine W.widen (k := 1) (n := 24) (Nat.le_of_ble_eq_true rfl) (Nat.le_of_ble_eq_true rfl) ?_
  refine va_putF (D := (dC, dI)) (ci := 5) (v := .ref q_1) (ty := (.array .long)) (C := RX5) (T := TX5) (N := 20) hx hb hts inX5 tyX5 tyX5_ok nmX5 hown hK hP hD hS 0 rfl rfl 1 (by decide) (hts _ kw_66) (fun _ h9 => h9) rfl hin rfl (by decide +kernel) rfl rfl (by rw [L_dfX5]; decide) dX5_init_9 (fun H locs hP hD hS => ?_)
  obtain ⟨dfX5_3, e_dfX5_3⟩ : ∃ z, z = dfX5.set 1 (.ref q_1) := ⟨_, rfl⟩
  have hP : va_P (dC, dI) cl0 [(h0, .inr (5, dfX5_3))] H := by rw [e_dfX5_3]; exact hP
  have hD : va_D A [(h0, .inr (5, dfX5_3))] := by rw [e_dfX5_3]; exact hD
  have L_dfX5_3 : dfX5_3.length = 20 := fx_len e_dfX5_3 L_dfX5
  have g_dfX5_3_0 := fx_ne (j := 0) e_dfX5_3 g_dfX5_0 (by decide)
  have g_dfX5_3_5 := fx_ne (j := 5) e_dfX5_3 g_dfX5_5 (by decide)
  have g_dfX5_3_7 := fx_ne (j := 7) e_dfX5_3 g_dfX5_7 (by decide)
  have g_dfX5_3_16 := fx_ne (j := 16) e_dfX5_3 g_dfX5_16 (by decide)
  have g_dfX5_3_18 := fx_ne (j := 18) e_dfX5_3 g_dfX5_18 (by decide)
  have g_dfX5_3_19 := fx_ne (j := 19) e_dfX5_3 g_dfX5_19 (by decide)
  refine lv_aload_n hx hb dX5_init_12 rfl (lv_at hl 0 rfl) ?_
  refine lv_iconst (v := 0) hx hb dX5_init_13 (by decide) ?_
  refine va_newa (atype := .int) (ty := .int) (a0 := (0, .inl (fun _ => 0))) (N' := 0) hx hb (hts (.arrayClass .int) kw_6) rfl hK hP hD hS hA (fun _ => rfl) (by decide) (by decide) (by decide) (Nat.le_of_ble_eq_true rfl) (Nat.le_of_ble_eq_true rfl) dX5_init_14 (fun q_4 cA_5 H hK hP hD hS => ?_)
  have hP := hP.sub (ws' := [(h0, .inr (5, dfX5_3))]) [0] rfl
  have hD := hD.sub (ws' := [(h0, .inr (5, dfX5_3))]) [0] (by decide) rfl
  have hK := hK.sub (tys' := []) [] rfl
  refine W.widen (k := 2) (n := 24) (Nat.le_of_ble_eq_true rfl) (Nat.le_of_ble_eq_true rfl) ?_
  refine va_put (D := (dC, dI)) (ci := 5) (v := .ref q_4) (ty := (.array .int)) (C := RX5) (T := TX5) (N := 20) hx hb hts inX5 tyX5 tyX5_ok nmX5 hown hK hP hD hS 0 rfl rfl 2 (by decide) (hts _ kw_67) (fun _ h9 => h9) rfl (by decide +kernel) rfl rfl (by rw [L_dfX5_3]; decide) dX5_init_16 (fun H locs hP hD hS => ?_)
  obtain ⟨dfX5_6, e_dfX5_6⟩ : ∃ z, z = dfX5_3.set 2 (.ref q_4) := ⟨_, rfl⟩
  have hP : va_P (dC, dI) cl0 [(h0, .inr (5, dfX5_6))] H := by rw [e_dfX5_6]; exact hP
  have hD : va_D A [(h0, .inr (5, dfX5_6))] := by rw [e_dfX5_6]; exact hD
  have L_dfX5_6 : dfX5_6.length = 20 := fx_len e_dfX5_6 L_dfX5_3
  have g_dfX5_6_0 := fx_ne (j := 0) e_dfX5_6 g_dfX5_3_0 (by decide)
  have g_dfX5_6_5 := fx_ne (j := 5) e_dfX5_6 g_dfX5_3_5 (by decide)
  have g_dfX5_6_7 := fx_ne (j := 7) e_dfX5_6 g_dfX5_3_7 (by decide)
  have g_dfX5_6_16 := fx_ne (j := 16) e_dfX5_6 g_dfX5_3_16 (by decide)
  have g_dfX5_6_18 := fx_ne (j := 18) e_dfX5_6 g_dfX5_3_18 (by decide)
  have g_dfX5_6_19 := fx_ne (j := 19) e_dfX5_6 g_dfX5_3_19 (by decide)
  refine lv_aload_n hx hb dX5_init_19 rfl (lv_at hl 0 rfl) ?_
  refine lv_bipush (v := 8) hx hb dX5_init_20 (by decide) ?_
  refine va_newa (atype := .int) (ty := .int) (a0 := (8, .inl (fun _ => 0))) (N' := 8) hx hb (hts (.arrayClass .int) kw_6) rfl hK hP hD hS hA (fun _ => rfl) (by decide) (by decide) (by decide) (Nat.le_of_ble_eq_true rfl) (Nat.le_of_ble_eq_true rfl) dX5_init_22 (fun q_7 cA_8 H hK hP hD hS => ?_)
  have hP := hP.sub (ws' := [(h0, .inr (5, dfX5_6))]) [0] rfl
  have hD := hD.sub (ws' := [(h0, .inr (5, dfX5_6))]) [0] (by decide) rfl
  have hK := hK.sub (tys' := []) [] rfl
  refine W.widen (k := 3) (n := 32) (Nat.le_of_ble_eq_true rfl) (Nat.le_of_ble_eq_true rfl) ?_
  refine va_put (D := (dC, dI)) (ci := 5) (v := .ref q_7) (ty := (.array .int)) (C := RX5) (T := TX5) (N := 20) hx hb hts inX5 tyX5 tyX5_ok nmX5 hown hK hP hD hS 0 rfl rfl 4 (by decide) (hts _ kw_68) (fun _ h9 => h9) rfl (by decide +kernel) rfl rfl (by rw [L_dfX5_6]; decide) dX5_init_24 (fun H locs hP hD hS => ?_)
  obtain ⟨dfX5_9, e_dfX5_9⟩ : ∃ z, z = dfX5_6.set 4 (.ref q_7) := ⟨_, rfl⟩
  have hP : va_P (dC, dI) cl0 [(h0, .inr (5, dfX5_9))] H := by rw [e_dfX5_9]; exact hP
  have hD : va_D A [(h0, .inr (5, dfX5_9))] := by rw [e_dfX5_9]; exact hD
  have L_dfX5_9 : dfX5_9.length = 20 := fx_len e_dfX5_9 L_dfX5_6
  have g_dfX5_9_0 := fx_ne (j := 0) e_dfX5_9 g_dfX5_6_0 (by decide)
  have g_dfX5_9_5 := fx_ne (j := 5) e_dfX5_9 g_dfX5_6_5 (by decide)
  have g_dfX5_9_7 := fx_ne (j := 7) e_dfX5_9 g_dfX5_6_7 (by decide)
  have g_dfX5_9_16 := fx_ne (j := 16) e_dfX5_9 g_dfX5_6_16 (by decide)
  have g_dfX5_9_18 := fx_ne (j := 18) e_dfX5_9 g_dfX5_6_18 (by decide)
  have g_dfX5_9_19 := fx_ne (j := 19) e_dfX5_9 g_dfX5_6_19 (by decide)
  refine lv_aload_n hx hb dX5_init_27 rfl (lv_at hl 0 rfl) ?_
  refine lv_bipush (v := 8) hx hb dX5_init_28 (by decide) ?_
  refine va_newa (atype := .long) (ty := .long) (a0 := (8, .inr (.inl (fun _ => 0)))) (N' := 8) hx hb (hts (.arrayClass .long) kw_13) rfl hK hP hD hS hA (fun _ => rfl) (by decide) (by decide) (by decide) (Nat.le_of_ble_eq_true rfl) (Nat.le_of_ble_eq_true rfl) dX5_init_30 (fun q_10 cA_11 H hK hP hD hS => ?_)
  have hP : va_P (dC, dI) cl0 [(h0, .inr (5, dfX5_9)), (q_10, .inl (cA_11, 8, .inr (.inl (fun _ => 0))))] H := hP
  have hD : va_D A [(h0, .inr (5, dfX5_9)), (q_10, .inl (cA_11, 8, .inr (.inl (fun _ => 0))))] := hD
  have hK : va_K (dC, dI) cl0 [(cA_11, .long)] s := hK
  refine W.widen (k := 4) (n := 40) (Nat.le_of_ble_eq_true rfl) (Nat.le_of_ble_eq_true rfl) ?_
  refine va_putF (D := (dC, dI)) (ci := 5) (v := .ref q_10) (ty := (.array .long)) (C := RX5) (T := TX5) (N := 20) hx hb hts inX5 tyX5 tyX5_ok nmX5 hown hK hP hD hS 0 rfl rfl 6 (by decide) (hts _ kw_69) (fun _ h9 => h9) rfl hin rfl (by decide +kernel) rfl rfl (by rw [L_dfX5_9]; decide) dX5_init_32 (fun H locs hP hD hS => ?_)
  obtain ⟨dfX5_12, e_dfX5_12⟩ : ∃ z, z = dfX5_9.set 6 (.ref q_10) := ⟨_, rfl⟩
  have hP : va_P (dC, dI) cl0 [(h0, .inr (5, dfX5_12)), (q_10, .inl (cA_11, 8, .inr (.inl (fun _ => 0))))] H := by rw [e_dfX5_12]; exact hP
  have hD : va_D A [(h0, .inr (5, dfX5_12)), (q_10, .inl (cA_11, 8, .inr (.inl (fun _ => 0))))] := by rw [e_dfX5_12]; exact hD
  have L_dfX5_12 : dfX5_12.length = 20 := fx_len e_dfX5_12 L_dfX5_9
  have g_dfX5_12_0 := fx_ne (j := 0) e_dfX5_12 g_dfX5_9_0 (by decide)
  have g_dfX5_12_5 := fx_ne (j := 5) e_dfX5_12 g_dfX5_9_5 (by decide)
  have g_dfX5_12_7 := fx_ne (j := 7) e_dfX5_12 g_dfX5_9_7 (by decide)
  have g_dfX5_12_16 := fx_ne (j := 16) e_dfX5_12 g_dfX5_9_16 (by decide)
  have g_dfX5_12_18 := fx_ne (j := 18) e_dfX5_12 g_dfX5_9_18 (by decide)
  have g_dfX5_12_19 := fx_ne (j := 19) e_dfX5_12 g_dfX5_9_19 (by decide)
  have g_dfX5_12_6 := fx_self e_dfX5_12 (by rw [L_dfX5_9]; decide)
  refine lv_aload_n hx hb dX5_init_35 rfl (lv_at hl 0 rfl) ?_
  refine lv_iconst (v := 0) hx hb dX5_init_36 (by decide) ?_
  refine va_newa (atype := .long) (ty := .long) (a0 := (0, .inr (.inl (fun _ => 0)))) (N' := 0) hx hb (hts (.arrayClass .long) kw_13) rfl hK hP hD hS hA (fun _ => rfl) (by decide) (by decide) (by decide) (Nat.le_of_ble_eq_true rfl) (Nat.le_of_ble_eq_true rfl) dX5_init_37 (fun q_13 cA_14 H hK hP hD hS => ?_)
  have hP := hP.sub (ws' := [(h0, .inr (5, dfX5_12)), (q_10, .inl (cA_11, 8, .inr (.inl (fun _ => 0))))]) [0, 1] rfl
  have hD := hD.sub (ws' := [(h0, .inr (5, dfX5_12)), (q_10, .inl (cA_11, 8, .inr (.inl (fun _ => 0))))]) [0, 1] (by decide) rfl
  have hK := hK.sub (tys' := [(cA_11, .long)]) [0] rfl
  refine W.widen (k := 5) (n := 40) (Nat.le_of_ble_eq_true rfl) (Nat.le_of_ble_eq_true rfl) ?_
  refine va_put (D := (dC, dI)) (ci := 5) (v := .ref q_13) (ty := (.array .long)) (C := RX5) (T := TX5) (N := 20) hx hb hts inX5 tyX5 tyX5_ok nmX5 hown hK hP hD hS 0 rfl rfl 8 (by decide) (hts _ kw_70) (fun _ h9 => h9) rfl (by decide +kernel) rfl rfl (by rw [L_dfX5_12]; decide) dX5_init_39 (fun H locs hP hD hS => ?_)
  obtain ⟨dfX5_15, e_dfX5_15⟩ : ∃ z, z = dfX5_12.set 8 (.ref q_13) := ⟨_, rfl⟩
  have hP : va_P (dC, dI) cl0 [(h0, .inr (5, dfX5_15)), (q_10, .inl (cA_11, 8, .inr (.inl (fun _ => 0))))] H := by rw [e_dfX5_15]; exact hP
  have hD : va_D A [(h0, .inr (5, dfX5_15)), (q_10, .inl (cA_11, 8, .inr (.inl (fun _ => 0))))] := by rw [e_dfX5_15]; exact hD
  have L_dfX5_15 : dfX5_15.length = 20 := fx_len e_dfX5_15 L_dfX5_12
  have g_dfX5_15_0 := fx_ne (j := 0) e_dfX5_15 g_dfX5_12_0 (by decide)
  have g_dfX5_15_5 := fx_ne (j := 5) e_dfX5_15 g_dfX5_12_5 (by decide)
  have g_dfX5_15_7 := fx_ne (j := 7) e_dfX5_15 g_dfX5_12_7 (by decide)
  have g_dfX5_15_16 := fx_ne (j := 16) e_dfX5_15 g_dfX5_12_16 (by decide)
  have g_dfX5_15_18 := fx_ne (j := 18) e_dfX5_15 g_dfX5_12_18 (by decide)
  have g_dfX5_15_19 := fx_ne (j := 19) e_dfX5_15 g_dfX5_12_19 (by decide)
  have g_dfX5_15_6 := fx_ne (j := 6) e_dfX5_15 g_dfX5_12_6 (by decide)
  refine lv_aload_n hx hb dX5_init_42 rfl (lv_at hl 0 rfl) ?_
  refine lv_iconst (v := 0) hx hb dX5_init_43 (by decide) ?_
  refine va_newa (atype := .long) (ty := .long) (a0 := (0, .inr (.inl (fun _ => 0)))) (N' := 0) hx hb (hts (.arrayClass .long) kw_13) rfl hK hP hD hS hA (fun _ => rfl) (by decide) (by decide) (by decide) (Nat.le_of_ble_eq_true rfl) (Nat.le_of_ble_eq_true rfl) dX5_init_44 (fun q_16 cA_17 H hK hP hD hS => ?_)
  have hP := hP.sub (ws' := [(h0, .inr (5, dfX5_15)), (q_10, .inl (cA_11, 8, .inr (.inl (fun _ => 0))))]) [0, 1] rfl
  have hD := hD.sub (ws' := [(h0, .inr (5, dfX5_15)), (q_10, .inl (cA_11, 8, .inr (.inl (fun _ => 0))))]) [0, 1] (by decide) rfl
  have hK := hK.sub (tys' := [(cA_11, .long)]) [0] rfl
  refine W.widen (k := 6) (n := 40) (Nat.le_of_ble_eq_true rfl) (Nat.le_of_ble_eq_true rfl) ?_
  refine va_put (D := (dC, dI)) (ci := 5) (v := .ref q_16) (ty := (.array .long)) (C := RX5) (T := TX5) (N := 20) hx hb hts inX5 tyX5 tyX5_ok nmX5 hown hK hP hD hS 0 rfl rfl 9 (by decide) (hts _ kw_71) (fun _ h9 => h9) rfl (by decide +kernel) rfl rfl (by rw [L_dfX5_15]; decide) dX5_init_46 (fun H locs hP hD hS => ?_)
  obtain ⟨dfX5_18, e_dfX5_18⟩ : ∃ z, z = dfX5_15.set 9 (.ref q_16) := ⟨_, rfl⟩
  have hP : va_P (dC, dI) cl0 [(h0, .inr (5, dfX5_18)), (q_10, .inl (cA_11, 8, .inr (.inl (fun _ => 0))))] H := by rw [e_dfX5_18]; exact hP
  have hD : va_D A [(h0, .inr (5, dfX5_18)), (q_10, .inl (cA_11, 8, .inr (.inl (fun _ => 0))))] := by rw [e_dfX5_18]; exact hD
  have L_dfX5_18 : dfX5_18.length = 20 := fx_len e_dfX5_18 L_dfX5_15
  have g_dfX5_18_0 := fx_ne (j := 0) e_dfX5_18 g_dfX5_15_0 (by decide)
  have g_dfX5_18_5 := fx_ne (j := 5) e_dfX5_18 g_dfX5_15_5 (by decide)
  have g_dfX5_18_7 := fx_ne (j := 7) e_dfX5_18 g_dfX5_15_7 (by decide)
  have g_dfX5_18_16 := fx_ne (j := 16) e_dfX5_18 g_dfX5_15_16 (by decide)
  have g_dfX5_18_18 := fx_ne (j := 18) e_dfX5_18 g_dfX5_15_18 (by decide)
  have g_dfX5_18_19 := fx_ne (j := 19) e_dfX5_18 g_dfX5_15_19 (by decide)
  have g_dfX5_18_6 := fx_ne (j := 6) e_dfX5_18 g_dfX5_15_6 (by decide)
  refine lv_aload_n hx hb dX5_init_49 rfl (lv_at hl 0 rfl) ?_
  refine lv_sipush (v := 180) hx hb dX5_init_50 (by decide) ?_
  refine va_newa (atype := .int) (ty := .int) (a0 := (180, .inl (fun _ => 0))) (N' := 180) hx hb (hts (.arrayClass .int) kw_6) rfl hK hP hD hS hA (fun _ => rfl) (by decide) (by decide) (by decide) (Nat.le_of_ble_eq_true rfl) (Nat.le_of_ble_eq_true rfl) dX5_init_53 (fun q_19 cA_20 H hK hP hD hS => ?_)
  have hP := hP.sub (ws' := [(h0, .inr (5, dfX5_18)), (q_10, .inl (cA_11, 8, .inr (.inl (fun _ => 0))))]) [0, 1] rfl
  have hD := hD.sub (ws' := [(h0, .inr (5, dfX5_18)), (q_10, .inl (cA_11, 8, .inr (.inl (fun _ => 0))))]) [0, 1] (by decide) rfl
  have hK := hK.sub (tys' := [(cA_11, .long)]) [0] rfl
  refine W.widen (k := 7) (n := 220) (Nat.le_of_ble_eq_true rfl) (Nat.le_of_ble_eq_true rfl) ?_
  refine va_putF (D := (dC, dI)) (ci := 5) (v := .ref q_19) (ty := (.array .int)) (C := RX5) (T := TX5) (N := 20) hx hb hts inX5 tyX5 tyX5_ok nmX5 hown hK hP hD hS 0 rfl rfl 10 (by decide) (hts _ kw_72) (fun _ h9 => h9) rfl hin rfl (by decide +kernel) rfl rfl (by rw [L_dfX5_18]; decide) dX5_init_55 (fun H locs hP hD hS => ?_)
  obtain ⟨dfX5_21, e_dfX5_21⟩ : ∃ z, z = dfX5_18.set 10 (.ref q_19) := ⟨_, rfl⟩
  have hP : va_P (dC, dI) cl0 [(h0, .inr (5, dfX5_21)), (q_10, .inl (cA_11, 8, .inr (.inl (fun _ => 0))))] H := by rw [e_dfX5_21]; exact hP
  have hD : va_D A [(h0, .inr (5, dfX5_21)), (q_10, .inl (cA_11, 8, .inr (.inl (fun _ => 0))))] := by rw [e_dfX5_21]; exact hD
  have L_dfX5_21 : dfX5_21.length = 20 := fx_len e_dfX5_21 L_dfX5_18
  have g_dfX5_21_0 := fx_ne (j := 0) e_dfX5_21 g_dfX5_18_0 (by decide)
  have g_dfX5_21_5 := fx_ne (j := 5) e_dfX5_21 g_dfX5_18_5 (by decide)
  have g_dfX5_21_7 := fx_ne (j := 7) e_dfX5_21 g_dfX5_18_7 (by decide)
  have g_dfX5_21_16 := fx_ne (j := 16) e_dfX5_21 g_dfX5_18_16 (by decide)
  have g_dfX5_21_18 := fx_ne (j := 18) e_dfX5_21 g_dfX5_18_18 (by decide)
  have g_dfX5_21_19 := fx_ne (j := 19) e_dfX5_21 g_dfX5_18_19 (by decide)
  have g_dfX5_21_6 := fx_ne (j := 6) e_dfX5_21 g_dfX5_18_6 (by decide)
  refine lv_aload_n hx hb dX5_init_58 rfl (lv_at hl 0 rfl) ?_
  refine lv_iconst (v := (-1)) hx hb dX5_init_59 (by decide) ?_
  refine va_put (D := (dC, dI)) (ci := 5) (v := .int (-1)) (ty := .int) (C := RX5) (T := TX5) (N := 20) hx hb hts inX5 tyX5 tyX5_ok nmX5 hown hK hP hD hS 0 rfl rfl 17 (by decide) (hts _ kw_73) (fun _ h9 => h9) rfl (by decide +kernel) rfl rfl (by rw [L_dfX5_21]; decide) dX5_init_60 (fun H locs hP hD hS => ?_)
  obtain ⟨dfX5_22, e_dfX5_22⟩ : ∃ z, z = dfX5_21.set 17 (.int (-1)) := ⟨_, rfl⟩
  have hP : va_P (dC, dI) cl0 [(h0, .inr (5, dfX5_22)), (q_10, .inl (cA_11, 8, .inr (.inl (fun _ => 0))))] H := by rw [e_dfX5_22]; exact hP
  have hD : va_D A [(h0, .inr (5, dfX5_22)), (q_10, .inl (cA_11, 8, .inr (.inl (fun _ => 0))))] := by rw [e_dfX5_22]; exact hD
  have L_dfX5_22 : dfX5_22.length = 20 := fx_len e_dfX5_22 L_dfX5_21
  have g_dfX5_22_0 := fx_ne (j := 0) e_dfX5_22 g_dfX5_21_0 (by decide)
  have g_dfX5_22_5 := fx_ne (j := 5) e_dfX5_22 g_dfX5_21_5 (by decide)
  have g_dfX5_22_7 := fx_ne (j := 7) e_dfX5_22 g_dfX5_21_7 (by decide)
  have g_dfX5_22_16 := fx_ne (j := 16) e_dfX5_22 g_dfX5_21_16 (by decide)
  have g_dfX5_22_18 := fx_ne (j := 18) e_dfX5_22 g_dfX5_21_18 (by decide)
  have g_dfX5_22_19 := fx_ne (j := 19) e_dfX5_22 g_dfX5_21_19 (by decide)
  have g_dfX5_22_6 := fx_ne (j := 6) e_dfX5_22 g_dfX5_21_6 (by decide)
  have g_dfX5_22_17 := fx_self e_dfX5_22 (by rw [L_dfX5_21]; decide)
  refine W.widen (k := 7) (n := 220) (Nat.le_of_ble_eq_true rfl) (Nat.le_of_ble_eq_true rfl) ?_
  have hP9 := hP.sub (ws' := [(h0, .inr (5, dfX5_22)), (q_10, .inl (cA_11, 8, .inr (.inl (fun _ => 0))))]) [0, 1] rfl
  have hD9 := hD.sub (ws' := [(h0, .inr (5, dfX5_22)), (q_10, .inl (cA_11, 8, .inr (.inl (fun _ => 0))))]) [0, 1] (by decide) rfl
  have hK9 := hK.sub (tys' := [(cA_11, .long)]) [0] rfl
  exact W.vret hx hb hr (fun t9 ht9 hW9 => ⟨⟨(), rfl, trivial, dfX5_22, q_10, cA_11, L_dfX5_22, g_dfX5_22_0, g_dfX5_22_5, g_dfX5_22_6, g_dfX5_22_7, g_dfX5_22_16, g_dfX5_22_17, g_dfX5_22_18, g_dfX5_22_19, by rw [ht9]; exact hP9, va_K.moved hW9.alike hK9, hD9⟩, hS.F ht9⟩) hS.2.2 dX5_init_63
set_option maxHeartbeats 4000000 in
set_option maxRecDepth 100000 in
theorem m_X3_init (l : Launch) (dC : Nat → ClassId) (dI : Nat → Nat → Nat) (sz : Nat) (h0 : Nat)  : Met l yX3_init (wt yX3_init cX3_init 1 none) ({ frames := 1, cells := 13, slots := 16, locals := 12 }) (va_Pc [.ref h0] (st_U dC dI sz [(h0, .inr (3, dfX3))] [])) (va_Qv (fun _ : Unit => True) (fun (_ : Unit) (_ : State) => True) (va_A [(h0, .inr (3, dfX3))] sz)) 13 16 (va_A [(h0, .inr (3, dfX3))] sz) := by
  refine Met.ofW (cc := cX3_init) (maxL := 1) (ret := none) (by decide) rfl ?_
  intro p e s m args below meth c s₁ B hml hv
  obtain ⟨rfl, hsz, hP, hK, hD0, hex⟩ := hv
  have hx := B.exec
  have hb := B.bytes
  have hr := B.returns
  have hts0 := atoms_spec (ws := wt yX3_init cX3_init 1 none) B.pre
  have hts : ∀ w ∈ tb, w.before _ s = true := fun w h => hts0 w (List.mem_cons_of_mem _ h)
  have hown : s.vm.findClass RX3 = some m.cls := findClass_of_methodNamed B.named
  have hlocks := B.notSynchronized
  have hin : meth.name = "<init>" := (name_of_methodNamed B.named B.method).1
  subst hsz
  have hD := hD0.self (sz := s.heap.size)
  generalize hAe : va_A [(h0, .inr (3, dfX3))] s.heap.size = A at hD ⊢
  have hA : ∀ q : Nat, s.heap.size ≤ q → A q := fun q h => by rw [← hAe]; exact Or.inr h
  have hS : va_S A s.heap s.heap [] := va_S.rf
  have hl := lv_entry ([.ref h0]) (n := 1) (Nat.le_of_ble_eq_true rfl)
  rw [lg_entry_eq]
  generalize (lg_sl ([.ref h0]) ++ List.replicate (1 - (lg_sl ([.ref h0])).length) Slot.unset).toArray = ls at hl ⊢
  have hl : lv_has ls 1 [(0, .ref h0)] := hl
  refine lv_aload_n hx hb dX3_init_0 rfl (lv_at hl 0 rfl) ?_
  refine W.objInit hx hb hown (hts _ kw_74) (hts _ kw_1) (hts _ kw_2) rfl (by rw [hml]; exact hl.1) rfl dX3_init_1 (Nat.le_of_ble_eq_true rfl) (Nat.le_of_ble_eq_true rfl) ?_
  refine W.eq (g2 := F0 m 4 ls []) rfl ?_
  refine lv_aload_n hx hb dX3_init_4 rfl (lv_at hl 0 rfl) ?_
  refine lv_iconst (v := 0) hx hb dX3_init_5 (by decide) ?_
  refine va_newa (atype := .int) (ty := .int) (a0 := (0, .inl (fun _ => 0))) (N' := 0) hx hb (hts (.arrayClass .int) kw_6) rfl hK hP hD hS hA (fun _ => rfl) (by decide) (by decide) (by decide) (Nat.le_of_ble_eq_true rfl) (Nat.le_of_ble_eq_true rfl) dX3_init_6 (fun q_1 cA_2 H hK hP hD hS => ?_)
  have hP := hP.sub (ws' := [(h0, .inr (3, dfX3))]) [0] rfl
  have hD := hD.sub (ws' := [(h0, .inr (3, dfX3))]) [0] (by decide) rfl
  have hK := hK.sub (tys' := []) [] rfl
  refine W.widen (k := 1) (n := 0) (Nat.le_of_ble_eq_true rfl) (Nat.le_of_ble_eq_true rfl) ?_
  refine va_put (D := (dC, dI)) (ci := 3) (v := .ref q_1) (ty := (.array .int)) (C := RX3) (T := TX3) (N := 16) hx hb hts inX3 tyX3 tyX3_ok nmX3 hown hK hP hD hS 0 rfl rfl 2 (by decide) (hts _ kw_75) (fun _ h9 => h9) rfl (by decide +kernel) rfl rfl (by rw [L_dfX3]; decide) dX3_init_8 (fun H locs hP hD hS => ?_)
  obtain ⟨dfX3_3, e_dfX3_3⟩ : ∃ z, z = dfX3.set 2 (.ref q_1) := ⟨_, rfl⟩
  have hP : va_P (dC, dI) cl0 [(h0, .inr (3, dfX3_3))] H := by rw [e_dfX3_3]; exact hP
  have hD : va_D A [(h0, .inr (3, dfX3_3))] := by rw [e_dfX3_3]; exact hD
  have L_dfX3_3 : dfX3_3.length = 16 := fx_len e_dfX3_3 L_dfX3
  refine lv_aload_n hx hb dX3_init_11 rfl (lv_at hl 0 rfl) ?_
  refine lv_iconst (v := 0) hx hb dX3_init_12 (by decide) ?_
  refine va_newa (atype := .int) (ty := .int) (a0 := (0, .inl (fun _ => 0))) (N' := 0) hx hb (hts (.arrayClass .int) kw_6) rfl hK hP hD hS hA (fun _ => rfl) (by decide) (by decide) (by decide) (Nat.le_of_ble_eq_true rfl) (Nat.le_of_ble_eq_true rfl) dX3_init_13 (fun q_4 cA_5 H hK hP hD hS => ?_)
  have hP := hP.sub (ws' := [(h0, .inr (3, dfX3_3))]) [0] rfl
  have hD := hD.sub (ws' := [(h0, .inr (3, dfX3_3))]) [0] (by decide) rfl
  have hK := hK.sub (tys' := []) [] rfl
  refine W.widen (k := 2) (n := 0) (Nat.le_of_ble_eq_true rfl) (Nat.le_of_ble_eq_true rfl) ?_
  refine va_put (D := (dC, dI)) (ci := 3) (v := .ref q_4) (ty := (.array .int)) (C := RX3) (T := TX3) (N := 16) hx hb hts inX3 tyX3 tyX3_ok nmX3 hown hK hP hD hS 0 rfl rfl 3 (by decide) (hts _ kw_76) (fun _ h9 => h9) rfl (by decide +kernel) rfl rfl (by rw [L_dfX3_3]; decide) dX3_init_15 (fun H locs hP hD hS => ?_)
  obtain ⟨dfX3_6, e_dfX3_6⟩ : ∃ z, z = dfX3_3.set 3 (.ref q_4) := ⟨_, rfl⟩
  have hP : va_P (dC, dI) cl0 [(h0, .inr (3, dfX3_6))] H := by rw [e_dfX3_6]; exact hP
  have hD : va_D A [(h0, .inr (3, dfX3_6))] := by rw [e_dfX3_6]; exact hD
  have L_dfX3_6 : dfX3_6.length = 16 := fx_len e_dfX3_6 L_dfX3_3
  refine lv_aload_n hx hb dX3_init_18 rfl (lv_at hl 0 rfl) ?_
  refine lv_iconst (v := 0) hx hb dX3_init_19 (by decide) ?_
  refine va_newa (atype := .int) (ty := .int) (a0 := (0, .inl (fun _ => 0))) (N' := 0) hx hb (hts (.arrayClass .int) kw_6) rfl hK hP hD hS hA (fun _ => rfl) (by decide) (by decide) (by decide) (Nat.le_of_ble_eq_true rfl) (Nat.le_of_ble_eq_true rfl) dX3_init_20 (fun q_7 cA_8 H hK hP hD hS => ?_)
  have hP := hP.sub (ws' := [(h0, .inr (3, dfX3_6))]) [0] rfl
  have hD := hD.sub (ws' := [(h0, .inr (3, dfX3_6))]) [0] (by decide) rfl
  have hK := hK.sub (tys' := []) [] rfl
  refine W.widen (k := 3) (n := 0) (Nat.le_of_ble_eq_true rfl) (Nat.le_of_ble_eq_true rfl) ?_
  refine va_put (D := (dC, dI)) (ci := 3) (v := .ref q_7) (ty := (.array .int)) (C := RX3) (T := TX3) (N := 16) hx hb hts inX3 tyX3 tyX3_ok nmX3 hown hK hP hD hS 0 rfl rfl 4 (by decide) (hts _ kw_77) (fun _ h9 => h9) rfl (by decide +kernel) rfl rfl (by rw [L_dfX3_6]; decide) dX3_init_22 (fun H locs hP hD hS => ?_)
  obtain ⟨dfX3_9, e_dfX3_9⟩ : ∃ z, z = dfX3_6.set 4 (.ref q_7) := ⟨_, rfl⟩
  have hP : va_P (dC, dI) cl0 [(h0, .inr (3, dfX3_9))] H := by rw [e_dfX3_9]; exact hP
  have hD : va_D A [(h0, .inr (3, dfX3_9))] := by rw [e_dfX3_9]; exact hD
  have L_dfX3_9 : dfX3_9.length = 16 := fx_len e_dfX3_9 L_dfX3_6
  refine lv_aload_n hx hb dX3_init_25 rfl (lv_at hl 0 rfl) ?_
  refine lv_bipush (v := 16) hx hb dX3_init_26 (by decide) ?_
  refine va_newa (atype := .int) (ty := .int) (a0 := (16, .inl (fun _ => 0))) (N' := 16) hx hb (hts (.arrayClass .int) kw_6) rfl hK hP hD hS hA (fun _ => rfl) (by decide) (by decide) (by decide) (Nat.le_of_ble_eq_true rfl) (Nat.le_of_ble_eq_true rfl) dX3_init_28 (fun q_10 cA_11 H hK hP hD hS => ?_)
  have hP := hP.sub (ws' := [(h0, .inr (3, dfX3_9))]) [0] rfl
  have hD := hD.sub (ws' := [(h0, .inr (3, dfX3_9))]) [0] (by decide) rfl
  have hK := hK.sub (tys' := []) [] rfl
  refine W.widen (k := 4) (n := 16) (Nat.le_of_ble_eq_true rfl) (Nat.le_of_ble_eq_true rfl) ?_
  refine va_put (D := (dC, dI)) (ci := 3) (v := .ref q_10) (ty := (.array .int)) (C := RX3) (T := TX3) (N := 16) hx hb hts inX3 tyX3 tyX3_ok nmX3 hown hK hP hD hS 0 rfl rfl 5 (by decide) (hts _ kw_78) (fun _ h9 => h9) rfl (by decide +kernel) rfl rfl (by rw [L_dfX3_9]; decide) dX3_init_30 (fun H locs hP hD hS => ?_)
  obtain ⟨dfX3_12, e_dfX3_12⟩ : ∃ z, z = dfX3_9.set 5 (.ref q_10) := ⟨_, rfl⟩
  have hP : va_P (dC, dI) cl0 [(h0, .inr (3, dfX3_12))] H := by rw [e_dfX3_12]; exact hP
  have hD : va_D A [(h0, .inr (3, dfX3_12))] := by rw [e_dfX3_12]; exact hD
  have L_dfX3_12 : dfX3_12.length = 16 := fx_len e_dfX3_12 L_dfX3_9
  refine lv_aload_n hx hb dX3_init_33 rfl (lv_at hl 0 rfl) ?_
  refine lv_iconst (v := 0) hx hb dX3_init_34 (by decide) ?_
  refine va_newa (atype := .int) (ty := .int) (a0 := (0, .inl (fun _ => 0))) (N' := 0) hx hb (hts (.arrayClass .int) kw_6) rfl hK hP hD hS hA (fun _ => rfl) (by decide) (by decide) (by decide) (Nat.le_of_ble_eq_true rfl) (Nat.le_of_ble_eq_true rfl) dX3_init_35 (fun q_13 cA_14 H hK hP hD hS => ?_)
  have hP := hP.sub (ws' := [(h0, .inr (3, dfX3_12))]) [0] rfl
  have hD := hD.sub (ws' := [(h0, .inr (3, dfX3_12))]) [0] (by decide) rfl
  have hK := hK.sub (tys' := []) [] rfl
  refine W.widen (k := 5) (n := 16) (Nat.le_of_ble_eq_true rfl) (Nat.le_of_ble_eq_true rfl) ?_
  refine va_put (D := (dC, dI)) (ci := 3) (v := .ref q_13) (ty := (.array .int)) (C := RX3) (T := TX3) (N := 16) hx hb hts inX3 tyX3 tyX3_ok nmX3 hown hK hP hD hS 0 rfl rfl 6 (by decide) (hts _ kw_79) (fun _ h9 => h9) rfl (by decide +kernel) rfl rfl (by rw [L_dfX3_12]; decide) dX3_init_37 (fun H locs hP hD hS => ?_)
  obtain ⟨dfX3_15, e_dfX3_15⟩ : ∃ z, z = dfX3_12.set 6 (.ref q_13) := ⟨_, rfl⟩
  have hP : va_P (dC, dI) cl0 [(h0, .inr (3, dfX3_15))] H := by rw [e_dfX3_15]; exact hP
  have hD : va_D A [(h0, .inr (3, dfX3_15))] := by rw [e_dfX3_15]; exact hD
  have L_dfX3_15 : dfX3_15.length = 16 := fx_len e_dfX3_15 L_dfX3_12
  refine lv_aload_n hx hb dX3_init_40 rfl (lv_at hl 0 rfl) ?_
  refine lv_iconst (v := 0) hx hb dX3_init_41 (by decide) ?_
  refine va_newa (atype := .int) (ty := .int) (a0 := (0, .inl (fun _ => 0))) (N' := 0) hx hb (hts (.arrayClass .int) kw_6) rfl hK hP hD hS hA (fun _ => rfl) (by decide) (by decide) (by decide) (Nat.le_of_ble_eq_true rfl) (Nat.le_of_ble_eq_true rfl) dX3_init_42 (fun q_16 cA_17 H hK hP hD hS => ?_)
  have hP := hP.sub (ws' := [(h0, .inr (3, dfX3_15))]) [0] rfl
  have hD := hD.sub (ws' := [(h0, .inr (3, dfX3_15))]) [0] (by decide) rfl
  have hK := hK.sub (tys' := []) [] rfl
  refine W.widen (k := 6) (n := 16) (Nat.le_of_ble_eq_true rfl) (Nat.le_of_ble_eq_true rfl) ?_
  refine va_put (D := (dC, dI)) (ci := 3) (v := .ref q_16) (ty := (.array .int)) (C := RX3) (T := TX3) (N := 16) hx hb hts inX3 tyX3 tyX3_ok nmX3 hown hK hP hD hS 0 rfl rfl 7 (by decide) (hts _ kw_80) (fun _ h9 => h9) rfl (by decide +kernel) rfl rfl (by rw [L_dfX3_15]; decide) dX3_init_44 (fun H locs hP hD hS => ?_)
  obtain ⟨dfX3_18, e_dfX3_18⟩ : ∃ z, z = dfX3_15.set 7 (.ref q_16) := ⟨_, rfl⟩
  have hP : va_P (dC, dI) cl0 [(h0, .inr (3, dfX3_18))] H := by rw [e_dfX3_18]; exact hP
  have hD : va_D A [(h0, .inr (3, dfX3_18))] := by rw [e_dfX3_18]; exact hD
  have L_dfX3_18 : dfX3_18.length = 16 := fx_len e_dfX3_18 L_dfX3_15
  refine lv_aload_n hx hb dX3_init_47 rfl (lv_at hl 0 rfl) ?_
  refine lv_iconst (v := 0) hx hb dX3_init_48 (by decide) ?_
  refine va_newa (atype := .boolean) (ty := .boolean) (a0 := (0, .inl (fun _ => 0))) (N' := 0) hx hb (hts (.arrayClass .boolean) kw_9) rfl hK hP hD hS hA (fun _ => rfl) (by decide) (by decide) (by decide) (Nat.le_of_ble_eq_true rfl) (Nat.le_of_ble_eq_true rfl) dX3_init_49 (fun q_19 cA_20 H hK hP hD hS => ?_)
  have hP := hP.sub (ws' := [(h0, .inr (3, dfX3_18))]) [0] rfl
  have hD := hD.sub (ws' := [(h0, .inr (3, dfX3_18))]) [0] (by decide) rfl
  have hK := hK.sub (tys' := []) [] rfl
  refine W.widen (k := 7) (n := 16) (Nat.le_of_ble_eq_true rfl) (Nat.le_of_ble_eq_true rfl) ?_
  refine va_put (D := (dC, dI)) (ci := 3) (v := .ref q_19) (ty := (.array .boolean)) (C := RX3) (T := TX3) (N := 16) hx hb hts inX3 tyX3 tyX3_ok nmX3 hown hK hP hD hS 0 rfl rfl 8 (by decide) (hts _ kw_81) (fun _ h9 => h9) rfl (by decide +kernel) rfl rfl (by rw [L_dfX3_18]; decide) dX3_init_51 (fun H locs hP hD hS => ?_)
  obtain ⟨dfX3_21, e_dfX3_21⟩ : ∃ z, z = dfX3_18.set 8 (.ref q_19) := ⟨_, rfl⟩
  have hP : va_P (dC, dI) cl0 [(h0, .inr (3, dfX3_21))] H := by rw [e_dfX3_21]; exact hP
  have hD : va_D A [(h0, .inr (3, dfX3_21))] := by rw [e_dfX3_21]; exact hD
  have L_dfX3_21 : dfX3_21.length = 16 := fx_len e_dfX3_21 L_dfX3_18
  refine lv_aload_n hx hb dX3_init_54 rfl (lv_at hl 0 rfl) ?_
  refine lv_iconst (v := 0) hx hb dX3_init_55 (by decide) ?_
  refine va_newa (atype := .long) (ty := .long) (a0 := (0, .inr (.inl (fun _ => 0)))) (N' := 0) hx hb (hts (.arrayClass .long) kw_13) rfl hK hP hD hS hA (fun _ => rfl) (by decide) (by decide) (by decide) (Nat.le_of_ble_eq_true rfl) (Nat.le_of_ble_eq_true rfl) dX3_init_56 (fun q_22 cA_23 H hK hP hD hS => ?_)
  have hP := hP.sub (ws' := [(h0, .inr (3, dfX3_21))]) [0] rfl
  have hD := hD.sub (ws' := [(h0, .inr (3, dfX3_21))]) [0] (by decide) rfl
  have hK := hK.sub (tys' := []) [] rfl
  refine W.widen (k := 8) (n := 16) (Nat.le_of_ble_eq_true rfl) (Nat.le_of_ble_eq_true rfl) ?_
  refine va_put (D := (dC, dI)) (ci := 3) (v := .ref q_22) (ty := (.array .long)) (C := RX3) (T := TX3) (N := 16) hx hb hts inX3 tyX3 tyX3_ok nmX3 hown hK hP hD hS 0 rfl rfl 9 (by decide) (hts _ kw_82) (fun _ h9 => h9) rfl (by decide +kernel) rfl rfl (by rw [L_dfX3_21]; decide) dX3_init_58 (fun H locs hP hD hS => ?_)
  obtain ⟨dfX3_24, e_dfX3_24⟩ : ∃ z, z = dfX3_21.set 9 (.ref q_22) := ⟨_, rfl⟩
  have hP : va_P (dC, dI) cl0 [(h0, .inr (3, dfX3_24))] H := by rw [e_dfX3_24]; exact hP
  have hD : va_D A [(h0, .inr (3, dfX3_24))] := by rw [e_dfX3_24]; exact hD
  have L_dfX3_24 : dfX3_24.length = 16 := fx_len e_dfX3_24 L_dfX3_21
  refine lv_aload_n hx hb dX3_init_61 rfl (lv_at hl 0 rfl) ?_
  refine lv_iconst (v := 0) hx hb dX3_init_62 (by decide) ?_
  refine va_newa (atype := .int) (ty := .int) (a0 := (0, .inl (fun _ => 0))) (N' := 0) hx hb (hts (.arrayClass .int) kw_6) rfl hK hP hD hS hA (fun _ => rfl) (by decide) (by decide) (by decide) (Nat.le_of_ble_eq_true rfl) (Nat.le_of_ble_eq_true rfl) dX3_init_63 (fun q_25 cA_26 H hK hP hD hS => ?_)
  have hP := hP.sub (ws' := [(h0, .inr (3, dfX3_24))]) [0] rfl
  have hD := hD.sub (ws' := [(h0, .inr (3, dfX3_24))]) [0] (by decide) rfl
  have hK := hK.sub (tys' := []) [] rfl
  refine W.widen (k := 9) (n := 16) (Nat.le_of_ble_eq_true rfl) (Nat.le_of_ble_eq_true rfl) ?_
  refine va_put (D := (dC, dI)) (ci := 3) (v := .ref q_25) (ty := (.array .int)) (C := RX3) (T := TX3) (N := 16) hx hb hts inX3 tyX3 tyX3_ok nmX3 hown hK hP hD hS 0 rfl rfl 11 (by decide) (hts _ kw_83) (fun _ h9 => h9) rfl (by decide +kernel) rfl rfl (by rw [L_dfX3_24]; decide) dX3_init_65 (fun H locs hP hD hS => ?_)
  obtain ⟨dfX3_27, e_dfX3_27⟩ : ∃ z, z = dfX3_24.set 11 (.ref q_25) := ⟨_, rfl⟩
  have hP : va_P (dC, dI) cl0 [(h0, .inr (3, dfX3_27))] H := by rw [e_dfX3_27]; exact hP
  have hD : va_D A [(h0, .inr (3, dfX3_27))] := by rw [e_dfX3_27]; exact hD
  have L_dfX3_27 : dfX3_27.length = 16 := fx_len e_dfX3_27 L_dfX3_24
  refine lv_aload_n hx hb dX3_init_68 rfl (lv_at hl 0 rfl) ?_
  refine lv_iconst (v := 0) hx hb dX3_init_69 (by decide) ?_
  refine va_newa (atype := .int) (ty := .int) (a0 := (0, .inl (fun _ => 0))) (N' := 0) hx hb (hts (.arrayClass .int) kw_6) rfl hK hP hD hS hA (fun _ => rfl) (by decide) (by decide) (by decide) (Nat.le_of_ble_eq_true rfl) (Nat.le_of_ble_eq_true rfl) dX3_init_70 (fun q_28 cA_29 H hK hP hD hS => ?_)
  have hP := hP.sub (ws' := [(h0, .inr (3, dfX3_27))]) [0] rfl
  have hD := hD.sub (ws' := [(h0, .inr (3, dfX3_27))]) [0] (by decide) rfl
  have hK := hK.sub (tys' := []) [] rfl
  refine W.widen (k := 10) (n := 16) (Nat.le_of_ble_eq_true rfl) (Nat.le_of_ble_eq_true rfl) ?_
  refine va_put (D := (dC, dI)) (ci := 3) (v := .ref q_28) (ty := (.array .int)) (C := RX3) (T := TX3) (N := 16) hx hb hts inX3 tyX3 tyX3_ok nmX3 hown hK hP hD hS 0 rfl rfl 12 (by decide) (hts _ kw_84) (fun _ h9 => h9) rfl (by decide +kernel) rfl rfl (by rw [L_dfX3_27]; decide) dX3_init_72 (fun H locs hP hD hS => ?_)
  obtain ⟨dfX3_30, e_dfX3_30⟩ : ∃ z, z = dfX3_27.set 12 (.ref q_28) := ⟨_, rfl⟩
  have hP : va_P (dC, dI) cl0 [(h0, .inr (3, dfX3_30))] H := by rw [e_dfX3_30]; exact hP
  have hD : va_D A [(h0, .inr (3, dfX3_30))] := by rw [e_dfX3_30]; exact hD
  have L_dfX3_30 : dfX3_30.length = 16 := fx_len e_dfX3_30 L_dfX3_27
  refine lv_aload_n hx hb dX3_init_75 rfl (lv_at hl 0 rfl) ?_
  refine lv_iconst (v := 0) hx hb dX3_init_76 (by decide) ?_
  refine va_newa (atype := .int) (ty := .int) (a0 := (0, .inl (fun _ => 0))) (N' := 0) hx hb (hts (.arrayClass .int) kw_6) rfl hK hP hD hS hA (fun _ => rfl) (by decide) (by decide) (by decide) (Nat.le_of_ble_eq_true rfl) (Nat.le_of_ble_eq_true rfl) dX3_init_77 (fun q_31 cA_32 H hK hP hD hS => ?_)
  have hP := hP.sub (ws' := [(h0, .inr (3, dfX3_30))]) [0] rfl
  have hD := hD.sub (ws' := [(h0, .inr (3, dfX3_30))]) [0] (by decide) rfl
  have hK := hK.sub (tys' := []) [] rfl
  refine W.widen (k := 11) (n := 16) (Nat.le_of_ble_eq_true rfl) (Nat.le_of_ble_eq_true rfl) ?_
  refine va_put (D := (dC, dI)) (ci := 3) (v := .ref q_31) (ty := (.array .int)) (C := RX3) (T := TX3) (N := 16) hx hb hts inX3 tyX3 tyX3_ok nmX3 hown hK hP hD hS 0 rfl rfl 13 (by decide) (hts _ kw_85) (fun _ h9 => h9) rfl (by decide +kernel) rfl rfl (by rw [L_dfX3_30]; decide) dX3_init_79 (fun H locs hP hD hS => ?_)
  obtain ⟨dfX3_33, e_dfX3_33⟩ : ∃ z, z = dfX3_30.set 13 (.ref q_31) := ⟨_, rfl⟩
  have hP : va_P (dC, dI) cl0 [(h0, .inr (3, dfX3_33))] H := by rw [e_dfX3_33]; exact hP
  have hD : va_D A [(h0, .inr (3, dfX3_33))] := by rw [e_dfX3_33]; exact hD
  have L_dfX3_33 : dfX3_33.length = 16 := fx_len e_dfX3_33 L_dfX3_30
  refine lv_aload_n hx hb dX3_init_82 rfl (lv_at hl 0 rfl) ?_
  refine lv_iconst (v := 0) hx hb dX3_init_83 (by decide) ?_
  refine va_newa (atype := .int) (ty := .int) (a0 := (0, .inl (fun _ => 0))) (N' := 0) hx hb (hts (.arrayClass .int) kw_6) rfl hK hP hD hS hA (fun _ => rfl) (by decide) (by decide) (by decide) (Nat.le_of_ble_eq_true rfl) (Nat.le_of_ble_eq_true rfl) dX3_init_84 (fun q_34 cA_35 H hK hP hD hS => ?_)
  have hP := hP.sub (ws' := [(h0, .inr (3, dfX3_33))]) [0] rfl
  have hD := hD.sub (ws' := [(h0, .inr (3, dfX3_33))]) [0] (by decide) rfl
  have hK := hK.sub (tys' := []) [] rfl
  refine W.widen (k := 12) (n := 16) (Nat.le_of_ble_eq_true rfl) (Nat.le_of_ble_eq_true rfl) ?_
  refine va_put (D := (dC, dI)) (ci := 3) (v := .ref q_34) (ty := (.array .int)) (C := RX3) (T := TX3) (N := 16) hx hb hts inX3 tyX3 tyX3_ok nmX3 hown hK hP hD hS 0 rfl rfl 14 (by decide) (hts _ kw_86) (fun _ h9 => h9) rfl (by decide +kernel) rfl rfl (by rw [L_dfX3_33]; decide) dX3_init_86 (fun H locs hP hD hS => ?_)
  obtain ⟨dfX3_36, e_dfX3_36⟩ : ∃ z, z = dfX3_33.set 14 (.ref q_34) := ⟨_, rfl⟩
  have hP : va_P (dC, dI) cl0 [(h0, .inr (3, dfX3_36))] H := by rw [e_dfX3_36]; exact hP
  have hD : va_D A [(h0, .inr (3, dfX3_36))] := by rw [e_dfX3_36]; exact hD
  have L_dfX3_36 : dfX3_36.length = 16 := fx_len e_dfX3_36 L_dfX3_33
  refine lv_aload_n hx hb dX3_init_89 rfl (lv_at hl 0 rfl) ?_
  refine lv_iconst (v := 0) hx hb dX3_init_90 (by decide) ?_
  refine va_newa (atype := .int) (ty := .int) (a0 := (0, .inl (fun _ => 0))) (N' := 0) hx hb (hts (.arrayClass .int) kw_6) rfl hK hP hD hS hA (fun _ => rfl) (by decide) (by decide) (by decide) (Nat.le_of_ble_eq_true rfl) (Nat.le_of_ble_eq_true rfl) dX3_init_91 (fun q_37 cA_38 H hK hP hD hS => ?_)
  have hP := hP.sub (ws' := [(h0, .inr (3, dfX3_36))]) [0] rfl
  have hD := hD.sub (ws' := [(h0, .inr (3, dfX3_36))]) [0] (by decide) rfl
  have hK := hK.sub (tys' := []) [] rfl
  refine W.widen (k := 13) (n := 16) (Nat.le_of_ble_eq_true rfl) (Nat.le_of_ble_eq_true rfl) ?_
  refine va_put (D := (dC, dI)) (ci := 3) (v := .ref q_37) (ty := (.array .int)) (C := RX3) (T := TX3) (N := 16) hx hb hts inX3 tyX3 tyX3_ok nmX3 hown hK hP hD hS 0 rfl rfl 15 (by decide) (hts _ kw_87) (fun _ h9 => h9) rfl (by decide +kernel) rfl rfl (by rw [L_dfX3_36]; decide) dX3_init_93 (fun H locs hP hD hS => ?_)
  obtain ⟨dfX3_39, e_dfX3_39⟩ : ∃ z, z = dfX3_36.set 15 (.ref q_37) := ⟨_, rfl⟩
  have hP : va_P (dC, dI) cl0 [(h0, .inr (3, dfX3_39))] H := by rw [e_dfX3_39]; exact hP
  have hD : va_D A [(h0, .inr (3, dfX3_39))] := by rw [e_dfX3_39]; exact hD
  have L_dfX3_39 : dfX3_39.length = 16 := fx_len e_dfX3_39 L_dfX3_36
  refine W.widen (k := 13) (n := 16) (Nat.le_of_ble_eq_true rfl) (Nat.le_of_ble_eq_true rfl) ?_
  exact W.vret hx hb hr (fun t9 ht9 hW9 => ⟨⟨(), rfl, trivial, trivial⟩, hS.F ht9⟩) hS.2.2 dX3_init_96
set_option maxHeartbeats 4000000 in
set_option maxRecDepth 100000 in
theorem m_X9_init (l : Launch) (dC : Nat → ClassId) (dI : Nat → Nat → Nat) (sz : Nat) (h0 : Nat)  : Met l yX9_init (wt yX9_init cX9_init 1 none) ({ frames := 2, cells := 13, slots := 27, locals := 35 }) (va_Pc [.ref h0] (st_U dC dI sz [(h0, .inr (8, dfX9))] [])) (va_Qv (fun _ : Unit => True) (fun (_ : Unit) (t : State) => ∃ (fs1 : List Value), ∃ (ha : Nat), ∃ (cI : ClassId), (fs1.length = 6) ∧ (fs1[1]? = some (.ref ha)) ∧ va_P (dC, dI) cl0 [(h0, .inr (8, fs1)), (ha, .inl (cI, 12, .inl (fun _ => 0)))] t.heap ∧ va_K (dC, dI) cl0 [(cI, .int)] t ∧ va_D (va_A [(h0, .inr (8, dfX9))] sz) [(h0, .inr (8, fs1)), (ha, .inl (cI, 12, .inl (fun _ => 0)))]) (va_A [(h0, .inr (8, dfX9))] sz)) 13 27 (va_A [(h0, .inr (8, dfX9))] sz) := by
  refine Met.ofW (cc := cX9_init) (maxL := 1) (ret := none) (by decide) rfl ?_
  intro p e s m args below meth c s₁ B hml hv
  obtain ⟨rfl, hsz, hP, hK, hD0, hex⟩ := hv
  have hx := B.exec
  have hb := B.bytes
  have hr := B.returns
  have hts0 := atoms_spec (ws := wt yX9_init cX9_init 1 none) B.pre
  have hts : ∀ w ∈ tb, w.before _ s = true := fun w h => hts0 w (List.mem_cons_of_mem _ h)
  have hown : s.vm.findClass RX9 = some m.cls := findClass_of_methodNamed B.named
  have hlocks := B.notSynchronized
  have hin : meth.name = "<init>" := (name_of_methodNamed B.named B.method).1
  subst hsz
  have hD := hD0.self (sz := s.heap.size)
  generalize hAe : va_A [(h0, .inr (8, dfX9))] s.heap.size = A at hD ⊢
  have hA : ∀ q : Nat, s.heap.size ≤ q → A q := fun q h => by rw [← hAe]; exact Or.inr h
  have hS : va_S A s.heap s.heap [] := va_S.rf
  have hl := lv_entry ([.ref h0]) (n := 1) (Nat.le_of_ble_eq_true rfl)
  rw [lg_entry_eq]
  generalize (lg_sl ([.ref h0]) ++ List.replicate (1 - (lg_sl ([.ref h0])).length) Slot.unset).toArray = ls at hl ⊢
  have hl : lv_has ls 1 [(0, .ref h0)] := hl
  refine lv_aload_n hx hb dX9_init_0 rfl (lv_at hl 0 rfl) ?_
  refine W.objInit hx hb hown (hts _ kw_88) (hts _ kw_1) (hts _ kw_2) rfl (by rw [hml]; exact hl.1) rfl dX9_init_1 (Nat.le_of_ble_eq_true rfl) (Nat.le_of_ble_eq_true rfl) ?_
  refine W.eq (g2 := F0 m 4 ls []) rfl ?_
  refine lv_aload_n hx hb dX9_init_4 rfl (lv_at hl 0 rfl) ?_
  refine va_new (ci := 7) (fs := dfX8) (C := RX8) (T := TX8) (N := 15) hx hb hts inX8 tyX8 tyX8_ok hown (hts _ kw_89) (hts _ kw_90) (hts _ kw_91) hK hP hD hS hA rfl dfX8_ok (Nat.le_of_ble_eq_true rfl) (Nat.le_of_ble_eq_true rfl) dX9_init_5 (fun q_1 H hP hD hS => ?_)
  have hP : va_P (dC, dI) cl0 [(h0, .inr (8, dfX9)), (q_1, .inr (7, dfX8))] H := hP
  have hD : va_D A [(h0, .inr (8, dfX9)), (q_1, .inr (7, dfX8))] := hD
  refine W.widen (k := 1) (n := 15) (Nat.le_of_ble_eq_true rfl) (Nat.le_of_ble_eq_true rfl) ?_
  refine lv_dup hx hb dX9_init_8 rfl ?_
  refine lv_iconst (v := 0) hx hb dX9_init_9 (by decide) ?_
  refine lv_iconst (v := 0) hx hb dX9_init_10 (by decide) ?_
  refine lv_iconst (v := 0) hx hb dX9_init_11 (by decide) ?_
  have hPc := hP.sub (ws' := [(q_1, .inr (7, dfX8))]) [1] rfl
  have hDc := hD.sub (ws' := [(q_1, .inr (7, dfX8))]) [1] (by decide) rfl
  have hKc := hK.sub (tys' := []) [] rfl
  have hFc := va_free (wc := [(q_1, .inr (7, dfX8))]) hD hS hA [1] rfl
  refine va_callv (va_runI (As := [.int 0, .int 0, .int 0]) (rest := [.ref q_1, .ref h0]) ⟨hx, hb, hml, hown, hts⟩ (m_X8_init l dC dI H.size q_1 ) (cwI 3 hts (gd_I kw_93) rfl rfl rfl (hts _ kw_91) (hts _ kw_92) (hts _ kw_94) rfl (by decide +kernel) ⟨Nat.le_of_ble_eq_true rfl, Nat.le_of_ble_eq_true rfl⟩) ⟨st_blind, fun U hU hW9 => st_mk hU hW9 hPc hKc hDc hex⟩ rfl rfl hl.1 rfl (lv_room (Nat.le_of_ble_eq_true rfl)) dX9_init_12 ⟨Nat.le_of_ble_eq_true rfl, Nat.le_of_ble_eq_true rfl⟩) hS (fun q _ h => hFc q h) hFc (fun  u9 t9 H1 locs ht9 hvm9 hw9 hB9 hz9 hk9 hS => ?_)
  have hP1 : va_P (dC, dI) cl0 [] H1 := fun k q h => by simp at h
  have hD1 : va_D (va_A [(q_1, .inr (7, dfX8))] H.size) [] := ⟨fun i j p q h => by simp at h, fun k q h => by simp at h⟩
  obtain ⟨hP, hD⟩ := va_join (wr := [(h0, .inr (8, dfX9))]) (w1 := []) hP hD [1] [0] rfl rfl (by decide) (by decide) hk9 hFc hP1 hD1
  generalize H1 = H at hP hS ⊢
  have hP : va_P (dC, dI) cl0 [(h0, .inr (8, dfX9))] H := hP
  have hD : va_D A [(h0, .inr (8, dfX9))] := hD
  refine W.widen (k := 8) (n := 15) (by omega) (by omega) ?_
  refine va_put (D := (dC, dI)) (ci := 8) (v := .ref q_1) (ty := (.object "CodeFoundry$Row")) (C := RX9) (T := TX9) (N := 6) hx hb hts inX9 tyX9 tyX9_ok nmX9 hown hK hP hD hS 0 rfl rfl 0 (by decide) (hts _ kw_95) (fun _ h9 => h9) rfl (by decide +kernel) rfl rfl (by rw [L_dfX9]; decide) dX9_init_15 (fun H locs hP hD hS => ?_)
  obtain ⟨dfX9_2, e_dfX9_2⟩ : ∃ z, z = dfX9.set 0 (.ref q_1) := ⟨_, rfl⟩
  have hP : va_P (dC, dI) cl0 [(h0, .inr (8, dfX9_2))] H := by rw [e_dfX9_2]; exact hP
  have hD : va_D A [(h0, .inr (8, dfX9_2))] := by rw [e_dfX9_2]; exact hD
  have L_dfX9_2 : dfX9_2.length = 6 := fx_len e_dfX9_2 L_dfX9
  refine lv_aload_n hx hb dX9_init_18 rfl (lv_at hl 0 rfl) ?_
  refine lv_bipush (v := 12) hx hb dX9_init_19 (by decide) ?_
  refine va_newa (atype := .int) (ty := .int) (a0 := (12, .inl (fun _ => 0))) (N' := 12) hx hb (hts (.arrayClass .int) kw_6) rfl hK hP hD hS hA (fun _ => rfl) (by decide) (by decide) (by decide) (Nat.le_of_ble_eq_true rfl) (Nat.le_of_ble_eq_true rfl) dX9_init_21 (fun q_3 cA_4 H hK hP hD hS => ?_)
  have hP : va_P (dC, dI) cl0 [(h0, .inr (8, dfX9_2)), (q_3, .inl (cA_4, 12, .inl (fun _ => 0)))] H := hP
  have hD : va_D A [(h0, .inr (8, dfX9_2)), (q_3, .inl (cA_4, 12, .inl (fun _ => 0)))] := hD
  have hK : va_K (dC, dI) cl0 [(cA_4, .int)] s := hK
  refine W.widen (k := 9) (n := 27) (Nat.le_of_ble_eq_true rfl) (Nat.le_of_ble_eq_true rfl) ?_
  refine va_putF (D := (dC, dI)) (ci := 8) (v := .ref q_3) (ty := (.array .int)) (C := RX9) (T := TX9) (N := 6) hx hb hts inX9 tyX9 tyX9_ok nmX9 hown hK hP hD hS 0 rfl rfl 1 (by decide) (hts _ kw_96) (fun _ h9 => h9) rfl hin rfl (by decide +kernel) rfl rfl (by rw [L_dfX9_2]; decide) dX9_init_23 (fun H locs hP hD hS => ?_)
  obtain ⟨dfX9_5, e_dfX9_5⟩ : ∃ z, z = dfX9_2.set 1 (.ref q_3) := ⟨_, rfl⟩
  have hP : va_P (dC, dI) cl0 [(h0, .inr (8, dfX9_5)), (q_3, .inl (cA_4, 12, .inl (fun _ => 0)))] H := by rw [e_dfX9_5]; exact hP
  have hD : va_D A [(h0, .inr (8, dfX9_5)), (q_3, .inl (cA_4, 12, .inl (fun _ => 0)))] := by rw [e_dfX9_5]; exact hD
  have L_dfX9_5 : dfX9_5.length = 6 := fx_len e_dfX9_5 L_dfX9_2
  have g_dfX9_5_1 := fx_self e_dfX9_5 (by rw [L_dfX9_2]; decide)
  refine lv_aload_n hx hb dX9_init_26 rfl (lv_at hl 0 rfl) ?_
  refine lv_iconst (v := 0) hx hb dX9_init_27 (by decide) ?_
  refine va_newa (atype := .boolean) (ty := .boolean) (a0 := (0, .inl (fun _ => 0))) (N' := 0) hx hb (hts (.arrayClass .boolean) kw_9) rfl hK hP hD hS hA (fun _ => rfl) (by decide) (by decide) (by decide) (Nat.le_of_ble_eq_true rfl) (Nat.le_of_ble_eq_true rfl) dX9_init_28 (fun q_6 cA_7 H hK hP hD hS => ?_)
  have hP := hP.sub (ws' := [(h0, .inr (8, dfX9_5)), (q_3, .inl (cA_4, 12, .inl (fun _ => 0)))]) [0, 1] rfl
  have hD := hD.sub (ws' := [(h0, .inr (8, dfX9_5)), (q_3, .inl (cA_4, 12, .inl (fun _ => 0)))]) [0, 1] (by decide) rfl
  have hK := hK.sub (tys' := [(cA_4, .int)]) [0] rfl
  refine W.widen (k := 10) (n := 27) (Nat.le_of_ble_eq_true rfl) (Nat.le_of_ble_eq_true rfl) ?_
  refine va_put (D := (dC, dI)) (ci := 8) (v := .ref q_6) (ty := (.array .boolean)) (C := RX9) (T := TX9) (N := 6) hx hb hts inX9 tyX9 tyX9_ok nmX9 hown hK hP hD hS 0 rfl rfl 2 (by decide) (hts _ kw_97) (fun _ h9 => h9) rfl (by decide +kernel) rfl rfl (by rw [L_dfX9_5]; decide) dX9_init_30 (fun H locs hP hD hS => ?_)
  obtain ⟨dfX9_8, e_dfX9_8⟩ : ∃ z, z = dfX9_5.set 2 (.ref q_6) := ⟨_, rfl⟩
  have hP : va_P (dC, dI) cl0 [(h0, .inr (8, dfX9_8)), (q_3, .inl (cA_4, 12, .inl (fun _ => 0)))] H := by rw [e_dfX9_8]; exact hP
  have hD : va_D A [(h0, .inr (8, dfX9_8)), (q_3, .inl (cA_4, 12, .inl (fun _ => 0)))] := by rw [e_dfX9_8]; exact hD
  have L_dfX9_8 : dfX9_8.length = 6 := fx_len e_dfX9_8 L_dfX9_5
  have g_dfX9_8_1 := fx_ne (j := 1) e_dfX9_8 g_dfX9_5_1 (by decide)
  refine lv_aload_n hx hb dX9_init_33 rfl (lv_at hl 0 rfl) ?_
  refine lv_iconst (v := 0) hx hb dX9_init_34 (by decide) ?_
  refine va_newa (atype := .boolean) (ty := .boolean) (a0 := (0, .inl (fun _ => 0))) (N' := 0) hx hb (hts (.arrayClass .boolean) kw_9) rfl hK hP hD hS hA (fun _ => rfl) (by decide) (by decide) (by decide) (Nat.le_of_ble_eq_true rfl) (Nat.le_of_ble_eq_true rfl) dX9_init_35 (fun q_9 cA_10 H hK hP hD hS => ?_)
  have hP := hP.sub (ws' := [(h0, .inr (8, dfX9_8)), (q_3, .inl (cA_4, 12, .inl (fun _ => 0)))]) [0, 1] rfl
  have hD := hD.sub (ws' := [(h0, .inr (8, dfX9_8)), (q_3, .inl (cA_4, 12, .inl (fun _ => 0)))]) [0, 1] (by decide) rfl
  have hK := hK.sub (tys' := [(cA_4, .int)]) [0] rfl
  refine W.widen (k := 11) (n := 27) (Nat.le_of_ble_eq_true rfl) (Nat.le_of_ble_eq_true rfl) ?_
  refine va_put (D := (dC, dI)) (ci := 8) (v := .ref q_9) (ty := (.array .boolean)) (C := RX9) (T := TX9) (N := 6) hx hb hts inX9 tyX9 tyX9_ok nmX9 hown hK hP hD hS 0 rfl rfl 3 (by decide) (hts _ kw_98) (fun _ h9 => h9) rfl (by decide +kernel) rfl rfl (by rw [L_dfX9_8]; decide) dX9_init_37 (fun H locs hP hD hS => ?_)
  obtain ⟨dfX9_11, e_dfX9_11⟩ : ∃ z, z = dfX9_8.set 3 (.ref q_9) := ⟨_, rfl⟩
  have hP : va_P (dC, dI) cl0 [(h0, .inr (8, dfX9_11)), (q_3, .inl (cA_4, 12, .inl (fun _ => 0)))] H := by rw [e_dfX9_11]; exact hP
  have hD : va_D A [(h0, .inr (8, dfX9_11)), (q_3, .inl (cA_4, 12, .inl (fun _ => 0)))] := by rw [e_dfX9_11]; exact hD
  have L_dfX9_11 : dfX9_11.length = 6 := fx_len e_dfX9_11 L_dfX9_8
  have g_dfX9_11_1 := fx_ne (j := 1) e_dfX9_11 g_dfX9_8_1 (by decide)
  refine lv_aload_n hx hb dX9_init_40 rfl (lv_at hl 0 rfl) ?_
  refine lv_iconst (v := 0) hx hb dX9_init_41 (by decide) ?_
  refine va_newa (atype := .int) (ty := .int) (a0 := (0, .inl (fun _ => 0))) (N' := 0) hx hb (hts (.arrayClass .int) kw_6) rfl hK hP hD hS hA (fun _ => rfl) (by decide) (by decide) (by decide) (Nat.le_of_ble_eq_true rfl) (Nat.le_of_ble_eq_true rfl) dX9_init_42 (fun q_12 cA_13 H hK hP hD hS => ?_)
  have hP := hP.sub (ws' := [(h0, .inr (8, dfX9_11)), (q_3, .inl (cA_4, 12, .inl (fun _ => 0)))]) [0, 1] rfl
  have hD := hD.sub (ws' := [(h0, .inr (8, dfX9_11)), (q_3, .inl (cA_4, 12, .inl (fun _ => 0)))]) [0, 1] (by decide) rfl
  have hK := hK.sub (tys' := [(cA_4, .int)]) [0] rfl
  refine W.widen (k := 12) (n := 27) (Nat.le_of_ble_eq_true rfl) (Nat.le_of_ble_eq_true rfl) ?_
  refine va_put (D := (dC, dI)) (ci := 8) (v := .ref q_12) (ty := (.array .int)) (C := RX9) (T := TX9) (N := 6) hx hb hts inX9 tyX9 tyX9_ok nmX9 hown hK hP hD hS 0 rfl rfl 4 (by decide) (hts _ kw_99) (fun _ h9 => h9) rfl (by decide +kernel) rfl rfl (by rw [L_dfX9_11]; decide) dX9_init_44 (fun H locs hP hD hS => ?_)
  obtain ⟨dfX9_14, e_dfX9_14⟩ : ∃ z, z = dfX9_11.set 4 (.ref q_12) := ⟨_, rfl⟩
  have hP : va_P (dC, dI) cl0 [(h0, .inr (8, dfX9_14)), (q_3, .inl (cA_4, 12, .inl (fun _ => 0)))] H := by rw [e_dfX9_14]; exact hP
  have hD : va_D A [(h0, .inr (8, dfX9_14)), (q_3, .inl (cA_4, 12, .inl (fun _ => 0)))] := by rw [e_dfX9_14]; exact hD
  have L_dfX9_14 : dfX9_14.length = 6 := fx_len e_dfX9_14 L_dfX9_11
  have g_dfX9_14_1 := fx_ne (j := 1) e_dfX9_14 g_dfX9_11_1 (by decide)
  refine lv_aload_n hx hb dX9_init_47 rfl (lv_at hl 0 rfl) ?_
  refine lv_iconst (v := 0) hx hb dX9_init_48 (by decide) ?_
  refine va_newa (atype := .int) (ty := .int) (a0 := (0, .inl (fun _ => 0))) (N' := 0) hx hb (hts (.arrayClass .int) kw_6) rfl hK hP hD hS hA (fun _ => rfl) (by decide) (by decide) (by decide) (Nat.le_of_ble_eq_true rfl) (Nat.le_of_ble_eq_true rfl) dX9_init_49 (fun q_15 cA_16 H hK hP hD hS => ?_)
  have hP := hP.sub (ws' := [(h0, .inr (8, dfX9_14)), (q_3, .inl (cA_4, 12, .inl (fun _ => 0)))]) [0, 1] rfl
  have hD := hD.sub (ws' := [(h0, .inr (8, dfX9_14)), (q_3, .inl (cA_4, 12, .inl (fun _ => 0)))]) [0, 1] (by decide) rfl
  have hK := hK.sub (tys' := [(cA_4, .int)]) [0] rfl
  refine W.widen (k := 13) (n := 27) (Nat.le_of_ble_eq_true rfl) (Nat.le_of_ble_eq_true rfl) ?_
  refine va_put (D := (dC, dI)) (ci := 8) (v := .ref q_15) (ty := (.array .int)) (C := RX9) (T := TX9) (N := 6) hx hb hts inX9 tyX9 tyX9_ok nmX9 hown hK hP hD hS 0 rfl rfl 5 (by decide) (hts _ kw_100) (fun _ h9 => h9) rfl (by decide +kernel) rfl rfl (by rw [L_dfX9_14]; decide) dX9_init_51 (fun H locs hP hD hS => ?_)
  obtain ⟨dfX9_17, e_dfX9_17⟩ : ∃ z, z = dfX9_14.set 5 (.ref q_15) := ⟨_, rfl⟩
  have hP : va_P (dC, dI) cl0 [(h0, .inr (8, dfX9_17)), (q_3, .inl (cA_4, 12, .inl (fun _ => 0)))] H := by rw [e_dfX9_17]; exact hP
  have hD : va_D A [(h0, .inr (8, dfX9_17)), (q_3, .inl (cA_4, 12, .inl (fun _ => 0)))] := by rw [e_dfX9_17]; exact hD
  have L_dfX9_17 : dfX9_17.length = 6 := fx_len e_dfX9_17 L_dfX9_14
  have g_dfX9_17_1 := fx_ne (j := 1) e_dfX9_17 g_dfX9_14_1 (by decide)
  refine W.widen (k := 13) (n := 27) (Nat.le_of_ble_eq_true rfl) (Nat.le_of_ble_eq_true rfl) ?_
  have hP9 := hP.sub (ws' := [(h0, .inr (8, dfX9_17)), (q_3, .inl (cA_4, 12, .inl (fun _ => 0)))]) [0, 1] rfl
  have hD9 := hD.sub (ws' := [(h0, .inr (8, dfX9_17)), (q_3, .inl (cA_4, 12, .inl (fun _ => 0)))]) [0, 1] (by decide) rfl
  have hK9 := hK.sub (tys' := [(cA_4, .int)]) [0] rfl
  exact W.vret hx hb hr (fun t9 ht9 hW9 => ⟨⟨(), rfl, trivial, dfX9_17, q_3, cA_4, L_dfX9_17, g_dfX9_17_1, by rw [ht9]; exact hP9, va_K.moved hW9.alike hK9, hD9⟩, hS.F ht9⟩) hS.2.2 dX9_init_54
end
section
set_option maxHeartbeats 4000000 in
set_option maxRecDepth 100000 in
theorem m_X12_init (l : Launch) (dC : Nat → ClassId) (dI : Nat → Nat → Nat) (sz : Nat) (h0 : Nat)  : Met l yX12_init (wt yX12_init cX12_init 1 none) ({ frames := 3, cells := 79, slots := 3727, locals := 55 }) (va_Pc [.ref h0] (st_U dC dI sz [(h0, .inr (10, dfX12))] [])) (va_Qv (fun _ : Unit => True) (fun (_ : Unit) (t : State) => ∃ (fx : List Value), ∃ (ht : Nat), ∃ (ft : List Value), ∃ (htd : Nat), ∃ (cB : ClassId), ∃ (hw : Nat), ∃ (fw : List Value), ∃ (hc : Nat), ∃ (fc : List Value), ∃ (hr : Nat), ∃ (fr : List Value), ∃ (hm : Nat), ∃ (fm : List Value), ∃ (hma : Nat), ∃ (cJ : ClassId), ∃ (hs : Nat), ∃ (fq : List Value), ∃ (hsa : Nat), ∃ (cI : ClassId), (fx.length = 18) ∧ (fx[0]? = some (.ref ht)) ∧ (fx[1]? = some (.ref hw)) ∧ (fx[4]? = some (.ref hc)) ∧ (fx[7]? = some (.ref hm)) ∧ (fx[9]? = some (.ref hs)) ∧ (fx[10]? = some (.int 0)) ∧ (fx[11]? = some (.int 0)) ∧ (fx[12]? = some (.int 0)) ∧ (fx[13]? = some (.int 0)) ∧ (fx[14]? = some (.int (-1))) ∧ (fx[15]? = some (.int (-1))) ∧ (fx[16]? = some (.int (-1))) ∧ (ft.length = 2) ∧ (ft[0]? = some (.ref htd)) ∧ (ft[1]? = some (.int 0)) ∧ (fw.length = 2) ∧ (fw[1]? = some (.int 0)) ∧ (fc.length = 12) ∧ (fc[0]? = some (.ref hr)) ∧ (fr.length = 17) ∧ (fm.length = 20) ∧ (fm[0]? = some (.null)) ∧ (fm[5]? = some (.int 0)) ∧ (fm[6]? = some (.ref hma)) ∧ (fm[7]? = some (.int 0)) ∧ (fm[16]? = some (.long 0)) ∧ (fm[17]? = some (.int (-1))) ∧ (fm[18]? = some (.int 0)) ∧ (fm[19]? = some (.int 0)) ∧ (fq.length = 6) ∧ (fq[1]? = some (.ref hsa)) ∧ va_P (dC, dI) cl0 [(h0, .inr (10, fx)), (ht, .inr (0, ft)), (htd, .inl (cB, 64, .inl (fun _ => 0))), (hw, .inr (0, fw)), (hc, .inr (2, fc)), (hr, .inr (6, fr)), (hm, .inr (5, fm)), (hma, .inl (cJ, 8, .inr (.inl (fun _ => 0)))), (hs, .inr (8, fq)), (hsa, .inl (cI, 12, .inl (fun _ => 0)))] t.heap ∧ va_K (dC, dI) cl0 [(cB, .byte), (cJ, .long), (cI, .int)] t ∧ va_D (va_A [(h0, .inr (10, dfX12))] sz) [(h0, .inr (10, fx)), (ht, .inr (0, ft)), (htd, .inl (cB, 64, .inl (fun _ => 0))), (hw, .inr (0, fw)), (hc, .inr (2, fc)), (hr, .inr (6, fr)), (hm, .inr (5, fm)), (hma, .inl (cJ, 8, .inr (.inl (fun _ => 0)))), (hs, .inr (8, fq)), (hsa, .inl (cI, 12, .inl (fun _ => 0)))]) (va_A [(h0, .inr (10, dfX12))] sz)) 79 3727 (va_A [(h0, .inr (10, dfX12))] sz) := by
  refine Met.ofW (cc := cX12_init) (maxL := 1) (ret := none) (by decide) rfl ?_
  intro p e s m args below meth c s₁ B hml hv
  obtain ⟨rfl, hsz, hP, hK, hD0, hex⟩ := hv
  have hx := B.exec
  have hb := B.bytes
  have hr := B.returns
  have hts0 := atoms_spec (ws := wt yX12_init cX12_init 1 none) B.pre
  have hts : ∀ w ∈ tb, w.before _ s = true := fun w h => hts0 w (List.mem_cons_of_mem _ h)
  have hown : s.vm.findClass RX12 = some m.cls := findClass_of_methodNamed B.named
  have hlocks := B.notSynchronized
  have hin : meth.name = "<init>" := (name_of_methodNamed B.named B.method).1
  subst hsz
  have hD := hD0.self (sz := s.heap.size)
  generalize hAe : va_A [(h0, .inr (10, dfX12))] s.heap.size = A at hD ⊢
  have hA : ∀ q : Nat, s.heap.size ≤ q → A q := fun q h => by rw [← hAe]; exact Or.inr h
  have hS : va_S A s.heap s.heap [] := va_S.rf
  have hl := lv_entry ([.ref h0]) (n := 1) (Nat.le_of_ble_eq_true rfl)
  rw [lg_entry_eq]
  generalize (lg_sl ([.ref h0]) ++ List.replicate (1 - (lg_sl ([.ref h0])).length) Slot.unset).toArray = ls at hl ⊢
  have hl : lv_has ls 1 [(0, .ref h0)] := hl
  refine lv_aload_n hx hb dX12_init_0 rfl (lv_at hl 0 rfl) ?_
  refine W.objInit hx hb hown (hts _ kw_101) (hts _ kw_1) (hts _ kw_2) rfl (by rw [hml]; exact hl.1) rfl dX12_init_1 (Nat.le_of_ble_eq_true rfl) (Nat.le_of_ble_eq_true rfl) ?_
  refine W.eq (g2 := F0 m 4 ls []) rfl ?_
  refine lv_aload_n hx hb dX12_init_4 rfl (lv_at hl 0 rfl) ?_
  refine va_new (ci := 0) (fs := dfX0) (C := RX0) (T := TX0) (N := 2) hx hb hts inX0 tyX0 tyX0_ok hown (hts _ kw_102) (hts _ kw_48) (hts _ kw_49) hK hP hD hS hA rfl dfX0_ok (Nat.le_of_ble_eq_true rfl) (Nat.le_of_ble_eq_true rfl) dX12_init_5 (fun q_1 H hP hD hS => ?_)
  have hP : va_P (dC, dI) cl0 [(h0, .inr (10, dfX12)), (q_1, .inr (0, dfX0))] H := hP
  have hD : va_D A [(h0, .inr (10, dfX12)), (q_1, .inr (0, dfX0))] := hD
  refine W.widen (k := 1) (n := 2) (Nat.le_of_ble_eq_true rfl) (Nat.le_of_ble_eq_true rfl) ?_
  refine lv_dup hx hb dX12_init_8 rfl ?_
  have hPc := hP.sub (ws' := [(q_1, .inr (0, dfX0))]) [1] rfl
  have hDc := hD.sub (ws' := [(q_1, .inr (0, dfX0))]) [1] (by decide) rfl
  have hKc := hK.sub (tys' := []) [] rfl
  have hFc := va_free (wc := [(q_1, .inr (0, dfX0))]) hD hS hA [1] rfl
  refine va_callv (va_runIN (As := []) (rest := [.ref q_1, .ref h0]) ⟨hx, hb, hml, hown, hts⟩ (m_X0_init l dC dI H.size q_1 ) ⟨va_cnB 0 hts (gd_I kw_50) rfl rfl rfl (nw_of (by exact nn_X12_9) hex) (hts _ kw_49) (by decide +kernel) ⟨Nat.le_of_ble_eq_true rfl, Nat.le_of_ble_eq_true rfl⟩, rfl, hts _ kw_51⟩ ⟨st_blind, fun U hU hW9 => st_mk hU hW9 hPc hKc hDc hex⟩ rfl rfl hl.1 rfl (lv_room (Nat.le_of_ble_eq_true rfl)) dX12_init_9 ⟨Nat.le_of_ble_eq_true rfl, Nat.le_of_ble_eq_true rfl⟩) hS (fun q _ h => hFc q h) hFc (fun  u9 t9 H1 locs ht9 hvm9 hw9 hB9 hz9 hk9 hS => ?_)
  obtain ⟨fs1_2, hd_3, cB_4, L_fs1_2, g_fs1_2_0, g_fs1_2_1, hP1, hK1, hD1⟩ := hB9
  rw [ht9] at hP1
  have hK1 := va_K.moved hvm9.symm hK1
  obtain ⟨hP, hD⟩ := va_join (wr := [(h0, .inr (10, dfX12))]) (w1 := [(q_1, .inr (0, fs1_2)), (hd_3, .inl (cB_4, 64, .inl (fun _ => 0)))]) hP hD [1] [0] rfl rfl (by decide) (by decide) hk9 hFc hP1 hD1
  have hK := (hK.sub (tys' := []) [] rfl).app hK1
  generalize H1 = H at hP hS ⊢
  have hP : va_P (dC, dI) cl0 [(h0, .inr (10, dfX12)), (q_1, .inr (0, fs1_2)), (hd_3, .inl (cB_4, 64, .inl (fun _ => 0)))] H := hP
  have hD : va_D A [(h0, .inr (10, dfX12)), (q_1, .inr (0, fs1_2)), (hd_3, .inl (cB_4, 64, .inl (fun _ => 0)))] := hD
  have hK : va_K (dC, dI) cl0 [(cB_4, .byte)] s := hK
  refine W.widen (k := 2) (n := 66) (by omega) (by omega) ?_
  refine va_putF (D := (dC, dI)) (ci := 10) (v := .ref q_1) (ty := (.object "CodeFoundry$Bytes")) (C := RX12) (T := TX12) (N := 18) hx hb hts inX12 tyX12 tyX12_ok nmX12 hown hK hP hD hS 0 rfl rfl 0 (by decide) (hts _ kw_103) (fun _ h9 => h9) rfl hin rfl (by decide +kernel) rfl rfl (by rw [L_dfX12]; decide) dX12_init_12 (fun H locs hP hD hS => ?_)
  obtain ⟨dfX12_5, e_dfX12_5⟩ : ∃ z, z = dfX12.set 0 (.ref q_1) := ⟨_, rfl⟩
  have hP : va_P (dC, dI) cl0 [(h0, .inr (10, dfX12_5)), (q_1, .inr (0, fs1_2)), (hd_3, .inl (cB_4, 64, .inl (fun _ => 0)))] H := by rw [e_dfX12_5]; exact hP
  have hD : va_D A [(h0, .inr (10, dfX12_5)), (q_1, .inr (0, fs1_2)), (hd_3, .inl (cB_4, 64, .inl (fun _ => 0)))] := by rw [e_dfX12_5]; exact hD
  have L_dfX12_5 : dfX12_5.length = 18 := fx_len e_dfX12_5 L_dfX12
  have g_dfX12_5_10 := fx_ne (j := 10) e_dfX12_5 g_dfX12_10 (by decide)
  have g_dfX12_5_11 := fx_ne (j := 11) e_dfX12_5 g_dfX12_11 (by decide)
  have g_dfX12_5_12 := fx_ne (j := 12) e_dfX12_5 g_dfX12_12 (by decide)
  have g_dfX12_5_13 := fx_ne (j := 13) e_dfX12_5 g_dfX12_13 (by decide)
  have g_dfX12_5_0 := fx_self e_dfX12_5 (by rw [L_dfX12]; decide)
  refine lv_aload_n hx hb dX12_init_15 rfl (lv_at hl 0 rfl) ?_
  refine va_new (ci := 0) (fs := dfX0) (C := RX0) (T := TX0) (N := 2) hx hb hts inX0 tyX0 tyX0_ok hown (hts _ kw_102) (hts _ kw_48) (hts _ kw_49) hK hP hD hS hA rfl dfX0_ok (Nat.le_of_ble_eq_true rfl) (Nat.le_of_ble_eq_true rfl) dX12_init_16 (fun q_6 H hP hD hS => ?_)
  have hP : va_P (dC, dI) cl0 [(h0, .inr (10, dfX12_5)), (q_1, .inr (0, fs1_2)), (hd_3, .inl (cB_4, 64, .inl (fun _ => 0))), (q_6, .inr (0, dfX0))] H := hP
  have hD : va_D A [(h0, .inr (10, dfX12_5)), (q_1, .inr (0, fs1_2)), (hd_3, .inl (cB_4, 64, .inl (fun _ => 0))), (q_6, .inr (0, dfX0))] := hD
  refine W.widen (k := 3) (n := 68) (Nat.le_of_ble_eq_true rfl) (Nat.le_of_ble_eq_true rfl) ?_
  refine lv_dup hx hb dX12_init_19 rfl ?_
  have hPc := hP.sub (ws' := [(q_6, .inr (0, dfX0))]) [3] rfl
  have hDc := hD.sub (ws' := [(q_6, .inr (0, dfX0))]) [3] (by decide) rfl
  have hKc := hK.sub (tys' := []) [] rfl
  have hFc := va_free (wc := [(q_6, .inr (0, dfX0))]) hD hS hA [3] rfl
  refine va_callv (va_runIN (As := []) (rest := [.ref q_6, .ref h0]) ⟨hx, hb, hml, hown, hts⟩ (m_X0_init l dC dI H.size q_6 ) ⟨va_cnB 0 hts (gd_I kw_50) rfl rfl rfl (nw_of (by exact nn_X12_9) hex) (hts _ kw_49) (by decide +kernel) ⟨Nat.le_of_ble_eq_true rfl, Nat.le_of_ble_eq_true rfl⟩, rfl, hts _ kw_51⟩ ⟨st_blind, fun U hU hW9 => st_mk hU hW9 hPc hKc hDc hex⟩ rfl rfl hl.1 rfl (lv_room (Nat.le_of_ble_eq_true rfl)) dX12_init_20 ⟨Nat.le_of_ble_eq_true rfl, Nat.le_of_ble_eq_true rfl⟩) hS (fun q _ h => hFc q h) hFc (fun  u9 t9 H1 locs ht9 hvm9 hw9 hB9 hz9 hk9 hS => ?_)
  obtain ⟨fs1_7, hd_8, cB_9, L_fs1_7, g_fs1_7_0, g_fs1_7_1, hP1, hK1, hD1⟩ := hB9
  rw [ht9] at hP1
  have hK1 := va_K.moved hvm9.symm hK1
  obtain ⟨hP, hD⟩ := va_join (wr := [(h0, .inr (10, dfX12_5)), (q_1, .inr (0, fs1_2)), (hd_3, .inl (cB_4, 64, .inl (fun _ => 0)))]) (w1 := [(q_6, .inr (0, fs1_7)), (hd_8, .inl (cB_9, 64, .inl (fun _ => 0)))]) hP hD [3] [0, 1, 2] rfl rfl (by decide) (by decide) hk9 hFc hP1 hD1
  have hK := (hK.sub (tys' := [(cB_4, .byte)]) [0] rfl).app hK1
  generalize H1 = H at hP hS ⊢
  have hP : va_P (dC, dI) cl0 [(h0, .inr (10, dfX12_5)), (q_1, .inr (0, fs1_2)), (hd_3, .inl (cB_4, 64, .inl (fun _ => 0))), (q_6, .inr (0, fs1_7)), (hd_8, .inl (cB_9, 64, .inl (fun _ => 0)))] H := hP
  have hD : va_D A [(h0, .inr (10, dfX12_5)), (q_1, .inr (0, fs1_2)), (hd_3, .inl (cB_4, 64, .inl (fun _ => 0))), (q_6, .inr (0, fs1_7)), (hd_8, .inl (cB_9, 64, .inl (fun _ => 0)))] := hD
  have hK : va_K (dC, dI) cl0 [(cB_4, .byte), (cB_9, .byte)] s := hK
  refine W.widen (k := 4) (n := 132) (by omega) (by omega) ?_
  refine va_putF (D := (dC, dI)) (ci := 10) (v := .ref q_6) (ty := (.object "CodeFoundry$Bytes")) (C := RX12) (T := TX12) (N := 18) hx hb hts inX12 tyX12 tyX12_ok nmX12 hown hK hP hD hS 0 rfl rfl 1 (by decide) (hts _ kw_104) (fun _ h9 => h9) rfl hin rfl (by decide +kernel) rfl rfl (by rw [L_dfX12_5]; decide) dX12_init_23 (fun H locs hP hD hS => ?_)
  obtain ⟨dfX12_10, e_dfX12_10⟩ : ∃ z, z = dfX12_5.set 1 (.ref q_6) := ⟨_, rfl⟩
  have hP : va_P (dC, dI) cl0 [(h0, .inr (10, dfX12_10)), (q_1, .inr (0, fs1_2)), (hd_3, .inl (cB_4, 64, .inl (fun _ => 0))), (q_6, .inr (0, fs1_7)), (hd_8, .inl (cB_9, 64, .inl (fun _ => 0)))] H := by rw [e_dfX12_10]; exact hP
  have hD : va_D A [(h0, .inr (10, dfX12_10)), (q_1, .inr (0, fs1_2)), (hd_3, .inl (cB_4, 64, .inl (fun _ => 0))), (q_6, .inr (0, fs1_7)), (hd_8, .inl (cB_9, 64, .inl (fun _ => 0)))] := by rw [e_dfX12_10]; exact hD
  have L_dfX12_10 : dfX12_10.length = 18 := fx_len e_dfX12_10 L_dfX12_5
  have g_dfX12_10_10 := fx_ne (j := 10) e_dfX12_10 g_dfX12_5_10 (by decide)
  have g_dfX12_10_11 := fx_ne (j := 11) e_dfX12_10 g_dfX12_5_11 (by decide)
  have g_dfX12_10_12 := fx_ne (j := 12) e_dfX12_10 g_dfX12_5_12 (by decide)
  have g_dfX12_10_13 := fx_ne (j := 13) e_dfX12_10 g_dfX12_5_13 (by decide)
  have g_dfX12_10_0 := fx_ne (j := 0) e_dfX12_10 g_dfX12_5_0 (by decide)
  have g_dfX12_10_1 := fx_self e_dfX12_10 (by rw [L_dfX12_5]; decide)
  refine lv_aload_n hx hb dX12_init_26 rfl (lv_at hl 0 rfl) ?_
  refine va_new (ci := 0) (fs := dfX0) (C := RX0) (T := TX0) (N := 2) hx hb hts inX0 tyX0 tyX0_ok hown (hts _ kw_102) (hts _ kw_48) (hts _ kw_49) hK hP hD hS hA rfl dfX0_ok (Nat.le_of_ble_eq_true rfl) (Nat.le_of_ble_eq_true rfl) dX12_init_27 (fun q_11 H hP hD hS => ?_)
  have hP : va_P (dC, dI) cl0 [(h0, .inr (10, dfX12_10)), (q_1, .inr (0, fs1_2)), (hd_3, .inl (cB_4, 64, .inl (fun _ => 0))), (q_6, .inr (0, fs1_7)), (hd_8, .inl (cB_9, 64, .inl (fun _ => 0))), (q_11, .inr (0, dfX0))] H := hP
  have hD : va_D A [(h0, .inr (10, dfX12_10)), (q_1, .inr (0, fs1_2)), (hd_3, .inl (cB_4, 64, .inl (fun _ => 0))), (q_6, .inr (0, fs1_7)), (hd_8, .inl (cB_9, 64, .inl (fun _ => 0))), (q_11, .inr (0, dfX0))] := hD
  refine W.widen (k := 5) (n := 134) (Nat.le_of_ble_eq_true rfl) (Nat.le_of_ble_eq_true rfl) ?_
  refine lv_dup hx hb dX12_init_30 rfl ?_
  have hPc := hP.sub (ws' := [(q_11, .inr (0, dfX0))]) [5] rfl
  have hDc := hD.sub (ws' := [(q_11, .inr (0, dfX0))]) [5] (by decide) rfl
  have hKc := hK.sub (tys' := []) [] rfl
  have hFc := va_free (wc := [(q_11, .inr (0, dfX0))]) hD hS hA [5] rfl
  refine va_callv (va_runIN (As := []) (rest := [.ref q_11, .ref h0]) ⟨hx, hb, hml, hown, hts⟩ (m_X0_init l dC dI H.size q_11 ) ⟨va_cnB 0 hts (gd_I kw_50) rfl rfl rfl (nw_of (by exact nn_X12_9) hex) (hts _ kw_49) (by decide +kernel) ⟨Nat.le_of_ble_eq_true rfl, Nat.le_of_ble_eq_true rfl⟩, rfl, hts _ kw_51⟩ ⟨st_blind, fun U hU hW9 => st_mk hU hW9 hPc hKc hDc hex⟩ rfl rfl hl.1 rfl (lv_room (Nat.le_of_ble_eq_true rfl)) dX12_init_31 ⟨Nat.le_of_ble_eq_true rfl, Nat.le_of_ble_eq_true rfl⟩) hS (fun q _ h => hFc q h) hFc (fun  u9 t9 H1 locs ht9 hvm9 hw9 hB9 hz9 hk9 hS => ?_)
  obtain ⟨fs1_12, hd_13, cB_14, L_fs1_12, g_fs1_12_0, g_fs1_12_1, hP1, hK1, hD1⟩ := hB9
  rw [ht9] at hP1
  have hK1 := va_K.moved hvm9.symm hK1
  obtain ⟨hP, hD⟩ := va_join (wr := [(h0, .inr (10, dfX12_10)), (q_1, .inr (0, fs1_2)), (hd_3, .inl (cB_4, 64, .inl (fun _ => 0))), (q_6, .inr (0, fs1_7)), (hd_8, .inl (cB_9, 64, .inl (fun _ => 0)))]) (w1 := [(q_11, .inr (0, fs1_12)), (hd_13, .inl (cB_14, 64, .inl (fun _ => 0)))]) hP hD [5] [0, 1, 2, 3, 4] rfl rfl (by decide) (by decide) hk9 hFc hP1 hD1
  have hK := (hK.sub (tys' := [(cB_4, .byte), (cB_9, .byte)]) [0, 1] rfl).app hK1
  generalize H1 = H at hP hS ⊢
  have hP : va_P (dC, dI) cl0 [(h0, .inr (10, dfX12_10)), (q_1, .inr (0, fs1_2)), (hd_3, .inl (cB_4, 64, .inl (fun _ => 0))), (q_6, .inr (0, fs1_7)), (hd_8, .inl (cB_9, 64, .inl (fun _ => 0))), (q_11, .inr (0, fs1_12)), (hd_13, .inl (cB_14, 64, .inl (fun _ => 0)))] H := hP
  have hD : va_D A [(h0, .inr (10, dfX12_10)), (q_1, .inr (0, fs1_2)), (hd_3, .inl (cB_4, 64, .inl (fun _ => 0))), (q_6, .inr (0, fs1_7)), (hd_8, .inl (cB_9, 64, .inl (fun _ => 0))), (q_11, .inr (0, fs1_12)), (hd_13, .inl (cB_14, 64, .inl (fun _ => 0)))] := hD
  have hK : va_K (dC, dI) cl0 [(cB_4, .byte), (cB_9, .byte), (cB_14, .byte)] s := hK
  refine W.widen (k := 6) (n := 198) (by omega) (by omega) ?_
  refine va_putF (D := (dC, dI)) (ci := 10) (v := .ref q_11) (ty := (.object "CodeFoundry$Bytes")) (C := RX12) (T := TX12) (N := 18) hx hb hts inX12 tyX12 tyX12_ok nmX12 hown hK hP hD hS 0 rfl rfl 2 (by decide) (hts _ kw_105) (fun _ h9 => h9) rfl hin rfl (by decide +kernel) rfl rfl (by rw [L_dfX12_10]; decide) dX12_init_34 (fun H locs hP hD hS => ?_)
  obtain ⟨dfX12_15, e_dfX12_15⟩ : ∃ z, z = dfX12_10.set 2 (.ref q_11) := ⟨_, rfl⟩
  have hP : va_P (dC, dI) cl0 [(h0, .inr (10, dfX12_15)), (q_1, .inr (0, fs1_2)), (hd_3, .inl (cB_4, 64, .inl (fun _ => 0))), (q_6, .inr (0, fs1_7)), (hd_8, .inl (cB_9, 64, .inl (fun _ => 0))), (q_11, .inr (0, fs1_12)), (hd_13, .inl (cB_14, 64, .inl (fun _ => 0)))] H := by rw [e_dfX12_15]; exact hP
  have hD : va_D A [(h0, .inr (10, dfX12_15)), (q_1, .inr (0, fs1_2)), (hd_3, .inl (cB_4, 64, .inl (fun _ => 0))), (q_6, .inr (0, fs1_7)), (hd_8, .inl (cB_9, 64, .inl (fun _ => 0))), (q_11, .inr (0, fs1_12)), (hd_13, .inl (cB_14, 64, .inl (fun _ => 0)))] := by rw [e_dfX12_15]; exact hD
  have L_dfX12_15 : dfX12_15.length = 18 := fx_len e_dfX12_15 L_dfX12_10
  have g_dfX12_15_10 := fx_ne (j := 10) e_dfX12_15 g_dfX12_10_10 (by decide)
  have g_dfX12_15_11 := fx_ne (j := 11) e_dfX12_15 g_dfX12_10_11 (by decide)
  have g_dfX12_15_12 := fx_ne (j := 12) e_dfX12_15 g_dfX12_10_12 (by decide)
  have g_dfX12_15_13 := fx_ne (j := 13) e_dfX12_15 g_dfX12_10_13 (by decide)
  have g_dfX12_15_0 := fx_ne (j := 0) e_dfX12_15 g_dfX12_10_0 (by decide)
  have g_dfX12_15_1 := fx_ne (j := 1) e_dfX12_15 g_dfX12_10_1 (by decide)
  refine lv_aload_n hx hb dX12_init_37 rfl (lv_at hl 0 rfl) ?_
  refine lv_bipush (v := 12) hx hb dX12_init_38 (by decide) ?_
  refine va_newq (C := "CodeFoundry$Unit") (N' := 12) hx hb hown (hts _ kw_106) (ao_of (by exact ao_CodeFoundry_Unit) hex) hK hP hD hS hA (by decide) (by decide) (by decide) (Nat.le_of_ble_eq_true rfl) (Nat.le_of_ble_eq_true rfl) dX12_init_40 (fun q_16 cA_17 H hK hP hD hS => ?_)
  have hP := hP.sub (ws' := [(h0, .inr (10, dfX12_15)), (q_1, .inr (0, fs1_2)), (hd_3, .inl (cB_4, 64, .inl (fun _ => 0))), (q_6, .inr (0, fs1_7)), (hd_8, .inl (cB_9, 64, .inl (fun _ => 0))), (q_11, .inr (0, fs1_12)), (hd_13, .inl (cB_14, 64, .inl (fun _ => 0)))]) [0, 1, 2, 3, 4, 5, 6] rfl
  have hD := hD.sub (ws' := [(h0, .inr (10, dfX12_15)), (q_1, .inr (0, fs1_2)), (hd_3, .inl (cB_4, 64, .inl (fun _ => 0))), (q_6, .inr (0, fs1_7)), (hd_8, .inl (cB_9, 64, .inl (fun _ => 0))), (q_11, .inr (0, fs1_12)), (hd_13, .inl (cB_14, 64, .inl (fun _ => 0)))]) [0, 1, 2, 3, 4, 5, 6] (by decide) rfl
  have hK := hK.sub (tys' := [(cB_4, .byte), (cB_9, .byte), (cB_14, .byte)]) [0, 1, 2] rfl
  refine W.widen (k := 7) (n := 210) (Nat.le_of_ble_eq_true rfl) (Nat.le_of_ble_eq_true rfl) ?_
  refine va_putF (D := (dC, dI)) (ci := 10) (v := .ref q_16) (ty := (.array (.object "CodeFoundry$Unit"))) (C := RX12) (T := TX12) (N := 18) hx hb hts inX12 tyX12 tyX12_ok nmX12 hown hK hP hD hS 0 rfl rfl 3 (by decide) (hts _ kw_107) (fun _ h9 => h9) rfl hin rfl (by decide +kernel) rfl rfl (by rw [L_dfX12_15]; decide) dX12_init_43 (fun H locs hP hD hS => ?_)
  obtain ⟨dfX12_18, e_dfX12_18⟩ : ∃ z, z = dfX12_15.set 3 (.ref q_16) := ⟨_, rfl⟩
  have hP : va_P (dC, dI) cl0 [(h0, .inr (10, dfX12_18)), (q_1, .inr (0, fs1_2)), (hd_3, .inl (cB_4, 64, .inl (fun _ => 0))), (q_6, .inr (0, fs1_7)), (hd_8, .inl (cB_9, 64, .inl (fun _ => 0))), (q_11, .inr (0, fs1_12)), (hd_13, .inl (cB_14, 64, .inl (fun _ => 0)))] H := by rw [e_dfX12_18]; exact hP
  have hD : va_D A [(h0, .inr (10, dfX12_18)), (q_1, .inr (0, fs1_2)), (hd_3, .inl (cB_4, 64, .inl (fun _ => 0))), (q_6, .inr (0, fs1_7)), (hd_8, .inl (cB_9, 64, .inl (fun _ => 0))), (q_11, .inr (0, fs1_12)), (hd_13, .inl (cB_14, 64, .inl (fun _ => 0)))] := by rw [e_dfX12_18]; exact hD
  have L_dfX12_18 : dfX12_18.length = 18 := fx_len e_dfX12_18 L_dfX12_15
  have g_dfX12_18_10 := fx_ne (j := 10) e_dfX12_18 g_dfX12_15_10 (by decide)
  have g_dfX12_18_11 := fx_ne (j := 11) e_dfX12_18 g_dfX12_15_11 (by decide)
  have g_dfX12_18_12 := fx_ne (j := 12) e_dfX12_18 g_dfX12_15_12 (by decide)
  have g_dfX12_18_13 := fx_ne (j := 13) e_dfX12_18 g_dfX12_15_13 (by decide)
  have g_dfX12_18_0 := fx_ne (j := 0) e_dfX12_18 g_dfX12_15_0 (by decide)
  have g_dfX12_18_1 := fx_ne (j := 1) e_dfX12_18 g_dfX12_15_1 (by decide)
  refine lv_aload_n hx hb dX12_init_46 rfl (lv_at hl 0 rfl) ?_
  refine va_new (ci := 2) (fs := dfX2) (C := RX2) (T := TX2) (N := 12) hx hb hts inX2 tyX2 tyX2_ok hown (hts _ kw_108) (hts _ kw_109) (hts _ kw_110) hK hP hD hS hA rfl dfX2_ok (Nat.le_of_ble_eq_true rfl) (Nat.le_of_ble_eq_true rfl) dX12_init_47 (fun q_19 H hP hD hS => ?_)
  have hP : va_P (dC, dI) cl0 [(h0, .inr (10, dfX12_18)), (q_1, .inr (0, fs1_2)), (hd_3, .inl (cB_4, 64, .inl (fun _ => 0))), (q_6, .inr (0, fs1_7)), (hd_8, .inl (cB_9, 64, .inl (fun _ => 0))), (q_11, .inr (0, fs1_12)), (hd_13, .inl (cB_14, 64, .inl (fun _ => 0))), (q_19, .inr (2, dfX2))] H := hP
  have hD : va_D A [(h0, .inr (10, dfX12_18)), (q_1, .inr (0, fs1_2)), (hd_3, .inl (cB_4, 64, .inl (fun _ => 0))), (q_6, .inr (0, fs1_7)), (hd_8, .inl (cB_9, 64, .inl (fun _ => 0))), (q_11, .inr (0, fs1_12)), (hd_13, .inl (cB_14, 64, .inl (fun _ => 0))), (q_19, .inr (2, dfX2))] := hD
  refine W.widen (k := 8) (n := 222) (Nat.le_of_ble_eq_true rfl) (Nat.le_of_ble_eq_true rfl) ?_
  refine lv_dup hx hb dX12_init_50 rfl ?_
  have hPc := hP.sub (ws' := [(q_19, .inr (2, dfX2))]) [7] rfl
  have hDc := hD.sub (ws' := [(q_19, .inr (2, dfX2))]) [7] (by decide) rfl
  have hKc := hK.sub (tys' := []) [] rfl
  have hFc := va_free (wc := [(q_19, .inr (2, dfX2))]) hD hS hA [7] rfl
  refine va_callv (va_runIN (As := []) (rest := [.ref q_19, .ref h0]) ⟨hx, hb, hml, hown, hts⟩ (m_X2_init l dC dI H.size q_19 ) ⟨va_cnB 0 hts (gd_I kw_111) rfl rfl rfl (nw_of (by exact nn_X12_30) hex) (hts _ kw_110) (by decide +kernel) ⟨Nat.le_of_ble_eq_true rfl, Nat.le_of_ble_eq_true rfl⟩, rfl, hts _ kw_112⟩ ⟨st_blind, fun U hU hW9 => st_mk hU hW9 hPc hKc hDc hex⟩ rfl rfl hl.1 rfl (lv_room (Nat.le_of_ble_eq_true rfl)) dX12_init_51 ⟨Nat.le_of_ble_eq_true rfl, Nat.le_of_ble_eq_true rfl⟩) hS (fun q _ h => hFc q h) hFc (fun  u9 t9 H1 locs ht9 hvm9 hw9 hB9 hz9 hk9 hS => ?_)
  obtain ⟨fs1_20, hr_21, fs2_22, L_fs1_20, g_fs1_20_0, L_fs2_22, hP1, hK1, hD1⟩ := hB9
  rw [ht9] at hP1
  have hK1 := va_K.moved hvm9.symm hK1
  obtain ⟨hP, hD⟩ := va_join (wr := [(h0, .inr (10, dfX12_18)), (q_1, .inr (0, fs1_2)), (hd_3, .inl (cB_4, 64, .inl (fun _ => 0))), (q_6, .inr (0, fs1_7)), (hd_8, .inl (cB_9, 64, .inl (fun _ => 0))), (q_11, .inr (0, fs1_12)), (hd_13, .inl (cB_14, 64, .inl (fun _ => 0)))]) (w1 := [(q_19, .inr (2, fs1_20)), (hr_21, .inr (6, fs2_22))]) hP hD [7] [0, 1, 2, 3, 4, 5, 6] rfl rfl (by decide) (by decide) hk9 hFc hP1 hD1
  have hK := (hK.sub (tys' := [(cB_4, .byte), (cB_9, .byte), (cB_14, .byte)]) [0, 1, 2] rfl).app hK1
  generalize H1 = H at hP hS ⊢
  have hP : va_P (dC, dI) cl0 [(h0, .inr (10, dfX12_18)), (q_1, .inr (0, fs1_2)), (hd_3, .inl (cB_4, 64, .inl (fun _ => 0))), (q_6, .inr (0, fs1_7)), (hd_8, .inl (cB_9, 64, .inl (fun _ => 0))), (q_11, .inr (0, fs1_12)), (hd_13, .inl (cB_14, 64, .inl (fun _ => 0))), (q_19, .inr (2, fs1_20)), (hr_21, .inr (6, fs2_22))] H := hP
  have hD : va_D A [(h0, .inr (10, dfX12_18)), (q_1, .inr (0, fs1_2)), (hd_3, .inl (cB_4, 64, .inl (fun _ => 0))), (q_6, .inr (0, fs1_7)), (hd_8, .inl (cB_9, 64, .inl (fun _ => 0))), (q_11, .inr (0, fs1_12)), (hd_13, .inl (cB_14, 64, .inl (fun _ => 0))), (q_19, .inr (2, fs1_20)), (hr_21, .inr (6, fs2_22))] := hD
  have hK : va_K (dC, dI) cl0 [(cB_4, .byte), (cB_9, .byte), (cB_14, .byte)] s := hK
  refine W.widen (k := 15) (n := 2036) (by omega) (by omega) ?_
  refine va_putF (D := (dC, dI)) (ci := 10) (v := .ref q_19) (ty := (.object "CodeFoundry$CodeReader")) (C := RX12) (T := TX12) (N := 18) hx hb hts inX12 tyX12 tyX12_ok nmX12 hown hK hP hD hS 0 rfl rfl 4 (by decide) (hts _ kw_113) (fun _ h9 => h9) rfl hin rfl (by decide +kernel) rfl rfl (by rw [L_dfX12_18]; decide) dX12_init_54 (fun H locs hP hD hS => ?_)
  obtain ⟨dfX12_23, e_dfX12_23⟩ : ∃ z, z = dfX12_18.set 4 (.ref q_19) := ⟨_, rfl⟩
  have hP : va_P (dC, dI) cl0 [(h0, .inr (10, dfX12_23)), (q_1, .inr (0, fs1_2)), (hd_3, .inl (cB_4, 64, .inl (fun _ => 0))), (q_6, .inr (0, fs1_7)), (hd_8, .inl (cB_9, 64, .inl (fun _ => 0))), (q_11, .inr (0, fs1_12)), (hd_13, .inl (cB_14, 64, .inl (fun _ => 0))), (q_19, .inr (2, fs1_20)), (hr_21, .inr (6, fs2_22))] H := by rw [e_dfX12_23]; exact hP
  have hD : va_D A [(h0, .inr (10, dfX12_23)), (q_1, .inr (0, fs1_2)), (hd_3, .inl (cB_4, 64, .inl (fun _ => 0))), (q_6, .inr (0, fs1_7)), (hd_8, .inl (cB_9, 64, .inl (fun _ => 0))), (q_11, .inr (0, fs1_12)), (hd_13, .inl (cB_14, 64, .inl (fun _ => 0))), (q_19, .inr (2, fs1_20)), (hr_21, .inr (6, fs2_22))] := by rw [e_dfX12_23]; exact hD
  have L_dfX12_23 : dfX12_23.length = 18 := fx_len e_dfX12_23 L_dfX12_18
  have g_dfX12_23_10 := fx_ne (j := 10) e_dfX12_23 g_dfX12_18_10 (by decide)
  have g_dfX12_23_11 := fx_ne (j := 11) e_dfX12_23 g_dfX12_18_11 (by decide)
  have g_dfX12_23_12 := fx_ne (j := 12) e_dfX12_23 g_dfX12_18_12 (by decide)
  have g_dfX12_23_13 := fx_ne (j := 13) e_dfX12_23 g_dfX12_18_13 (by decide)
  have g_dfX12_23_0 := fx_ne (j := 0) e_dfX12_23 g_dfX12_18_0 (by decide)
  have g_dfX12_23_1 := fx_ne (j := 1) e_dfX12_23 g_dfX12_18_1 (by decide)
  have g_dfX12_23_4 := fx_self e_dfX12_23 (by rw [L_dfX12_18]; decide)
  refine lv_aload_n hx hb dX12_init_57 rfl (lv_at hl 0 rfl) ?_
  refine va_new (ci := 1) (fs := dfX1) (C := RX1) (T := TX1) (N := 10) hx hb hts inX1 tyX1 tyX1_ok hown (hts _ kw_114) (hts _ kw_115) (hts _ kw_116) hK hP hD hS hA rfl dfX1_ok (Nat.le_of_ble_eq_true rfl) (Nat.le_of_ble_eq_true rfl) dX12_init_58 (fun q_24 H hP hD hS => ?_)
  have hP : va_P (dC, dI) cl0 [(h0, .inr (10, dfX12_23)), (q_1, .inr (0, fs1_2)), (hd_3, .inl (cB_4, 64, .inl (fun _ => 0))), (q_6, .inr (0, fs1_7)), (hd_8, .inl (cB_9, 64, .inl (fun _ => 0))), (q_11, .inr (0, fs1_12)), (hd_13, .inl (cB_14, 64, .inl (fun _ => 0))), (q_19, .inr (2, fs1_20)), (hr_21, .inr (6, fs2_22)), (q_24, .inr (1, dfX1))] H := hP
  have hD : va_D A [(h0, .inr (10, dfX12_23)), (q_1, .inr (0, fs1_2)), (hd_3, .inl (cB_4, 64, .inl (fun _ => 0))), (q_6, .inr (0, fs1_7)), (hd_8, .inl (cB_9, 64, .inl (fun _ => 0))), (q_11, .inr (0, fs1_12)), (hd_13, .inl (cB_14, 64, .inl (fun _ => 0))), (q_19, .inr (2, fs1_20)), (hr_21, .inr (6, fs2_22)), (q_24, .inr (1, dfX1))] := hD
  refine W.widen (k := 16) (n := 2046) (Nat.le_of_ble_eq_true rfl) (Nat.le_of_ble_eq_true rfl) ?_
  refine lv_dup hx hb dX12_init_61 rfl ?_
  have hPc := hP.sub (ws' := [(q_24, .inr (1, dfX1))]) [9] rfl
  have hDc := hD.sub (ws' := [(q_24, .inr (1, dfX1))]) [9] (by decide) rfl
  have hKc := hK.sub (tys' := []) [] rfl
  have hFc := va_free (wc := [(q_24, .inr (1, dfX1))]) hD hS hA [9] rfl
  refine va_callv (va_runIN (As := []) (rest := [.ref q_24, .ref h0]) ⟨hx, hb, hml, hown, hts⟩ (m_X1_init l dC dI H.size q_24 ) ⟨va_cnB 0 hts (gd_I kw_117) rfl rfl rfl (nw_of (by exact nn_X12_37) hex) (hts _ kw_116) (by decide +kernel) ⟨Nat.le_of_ble_eq_true rfl, Nat.le_of_ble_eq_true rfl⟩, rfl, hts _ kw_118⟩ ⟨st_blind, fun U hU hW9 => st_mk hU hW9 hPc hKc hDc hex⟩ rfl rfl hl.1 rfl (lv_room (Nat.le_of_ble_eq_true rfl)) dX12_init_62 ⟨Nat.le_of_ble_eq_true rfl, Nat.le_of_ble_eq_true rfl⟩) hS (fun q _ h => hFc q h) hFc (fun  u9 t9 H1 locs ht9 hvm9 hw9 hB9 hz9 hk9 hS => ?_)
  have hP1 : va_P (dC, dI) cl0 [] H1 := fun k q h => by simp at h
  have hD1 : va_D (va_A [(q_24, .inr (1, dfX1))] H.size) [] := ⟨fun i j p q h => by simp at h, fun k q h => by simp at h⟩
  obtain ⟨hP, hD⟩ := va_join (wr := [(h0, .inr (10, dfX12_23)), (q_1, .inr (0, fs1_2)), (hd_3, .inl (cB_4, 64, .inl (fun _ => 0))), (q_6, .inr (0, fs1_7)), (hd_8, .inl (cB_9, 64, .inl (fun _ => 0))), (q_11, .inr (0, fs1_12)), (hd_13, .inl (cB_14, 64, .inl (fun _ => 0))), (q_19, .inr (2, fs1_20)), (hr_21, .inr (6, fs2_22))]) (w1 := []) hP hD [9] [0, 1, 2, 3, 4, 5, 6, 7, 8] rfl rfl (by decide) (by decide) hk9 hFc hP1 hD1
  generalize H1 = H at hP hS ⊢
  have hP : va_P (dC, dI) cl0 [(h0, .inr (10, dfX12_23)), (q_1, .inr (0, fs1_2)), (hd_3, .inl (cB_4, 64, .inl (fun _ => 0))), (q_6, .inr (0, fs1_7)), (hd_8, .inl (cB_9, 64, .inl (fun _ => 0))), (q_11, .inr (0, fs1_12)), (hd_13, .inl (cB_14, 64, .inl (fun _ => 0))), (q_19, .inr (2, fs1_20)), (hr_21, .inr (6, fs2_22))] H := hP
  have hD : va_D A [(h0, .inr (10, dfX12_23)), (q_1, .inr (0, fs1_2)), (hd_3, .inl (cB_4, 64, .inl (fun _ => 0))), (q_6, .inr (0, fs1_7)), (hd_8, .inl (cB_9, 64, .inl (fun _ => 0))), (q_11, .inr (0, fs1_12)), (hd_13, .inl (cB_14, 64, .inl (fun _ => 0))), (q_19, .inr (2, fs1_20)), (hr_21, .inr (6, fs2_22))] := hD
  refine W.widen (k := 24) (n := 2102) (by omega) (by omega) ?_
  refine va_putF (D := (dC, dI)) (ci := 10) (v := .ref q_24) (ty := (.object "CodeFoundry$Checker")) (C := RX12) (T := TX12) (N := 18) hx hb hts inX12 tyX12 tyX12_ok nmX12 hown hK hP hD hS 0 rfl rfl 5 (by decide) (hts _ kw_119) (fun _ h9 => h9) rfl hin rfl (by decide +kernel) rfl rfl (by rw [L_dfX12_23]; decide) dX12_init_65 (fun H locs hP hD hS => ?_)
  obtain ⟨dfX12_25, e_dfX12_25⟩ : ∃ z, z = dfX12_23.set 5 (.ref q_24) := ⟨_, rfl⟩
  have hP : va_P (dC, dI) cl0 [(h0, .inr (10, dfX12_25)), (q_1, .inr (0, fs1_2)), (hd_3, .inl (cB_4, 64, .inl (fun _ => 0))), (q_6, .inr (0, fs1_7)), (hd_8, .inl (cB_9, 64, .inl (fun _ => 0))), (q_11, .inr (0, fs1_12)), (hd_13, .inl (cB_14, 64, .inl (fun _ => 0))), (q_19, .inr (2, fs1_20)), (hr_21, .inr (6, fs2_22))] H := by rw [e_dfX12_25]; exact hP
  have hD : va_D A [(h0, .inr (10, dfX12_25)), (q_1, .inr (0, fs1_2)), (hd_3, .inl (cB_4, 64, .inl (fun _ => 0))), (q_6, .inr (0, fs1_7)), (hd_8, .inl (cB_9, 64, .inl (fun _ => 0))), (q_11, .inr (0, fs1_12)), (hd_13, .inl (cB_14, 64, .inl (fun _ => 0))), (q_19, .inr (2, fs1_20)), (hr_21, .inr (6, fs2_22))] := by rw [e_dfX12_25]; exact hD
  have L_dfX12_25 : dfX12_25.length = 18 := fx_len e_dfX12_25 L_dfX12_23
  have g_dfX12_25_10 := fx_ne (j := 10) e_dfX12_25 g_dfX12_23_10 (by decide)
  have g_dfX12_25_11 := fx_ne (j := 11) e_dfX12_25 g_dfX12_23_11 (by decide)
  have g_dfX12_25_12 := fx_ne (j := 12) e_dfX12_25 g_dfX12_23_12 (by decide)
  have g_dfX12_25_13 := fx_ne (j := 13) e_dfX12_25 g_dfX12_23_13 (by decide)
  have g_dfX12_25_0 := fx_ne (j := 0) e_dfX12_25 g_dfX12_23_0 (by decide)
  have g_dfX12_25_1 := fx_ne (j := 1) e_dfX12_25 g_dfX12_23_1 (by decide)
  have g_dfX12_25_4 := fx_ne (j := 4) e_dfX12_25 g_dfX12_23_4 (by decide)
  refine lv_aload_n hx hb dX12_init_68 rfl (lv_at hl 0 rfl) ?_
  refine va_new (ci := 9) (fs := dfX11) (C := RX11) (T := TX11) (N := 18) hx hb hts inX11 tyX11 tyX11_ok hown (hts _ kw_120) (hts _ kw_121) (hts _ kw_122) hK hP hD hS hA rfl dfX11_ok (Nat.le_of_ble_eq_true rfl) (Nat.le_of_ble_eq_true rfl) dX12_init_69 (fun q_26 H hP hD hS => ?_)
  have hP : va_P (dC, dI) cl0 [(h0, .inr (10, dfX12_25)), (q_1, .inr (0, fs1_2)), (hd_3, .inl (cB_4, 64, .inl (fun _ => 0))), (q_6, .inr (0, fs1_7)), (hd_8, .inl (cB_9, 64, .inl (fun _ => 0))), (q_11, .inr (0, fs1_12)), (hd_13, .inl (cB_14, 64, .inl (fun _ => 0))), (q_19, .inr (2, fs1_20)), (hr_21, .inr (6, fs2_22)), (q_26, .inr (9, dfX11))] H := hP
  have hD : va_D A [(h0, .inr (10, dfX12_25)), (q_1, .inr (0, fs1_2)), (hd_3, .inl (cB_4, 64, .inl (fun _ => 0))), (q_6, .inr (0, fs1_7)), (hd_8, .inl (cB_9, 64, .inl (fun _ => 0))), (q_11, .inr (0, fs1_12)), (hd_13, .inl (cB_14, 64, .inl (fun _ => 0))), (q_19, .inr (2, fs1_20)), (hr_21, .inr (6, fs2_22)), (q_26, .inr (9, dfX11))] := hD
  refine W.widen (k := 25) (n := 2120) (Nat.le_of_ble_eq_true rfl) (Nat.le_of_ble_eq_true rfl) ?_
  refine lv_dup hx hb dX12_init_72 rfl ?_
  have hPc := hP.sub (ws' := [(q_26, .inr (9, dfX11))]) [9] rfl
  have hDc := hD.sub (ws' := [(q_26, .inr (9, dfX11))]) [9] (by decide) rfl
  have hKc := hK.sub (tys' := []) [] rfl
  have hFc := va_free (wc := [(q_26, .inr (9, dfX11))]) hD hS hA [9] rfl
  refine va_callv (va_runIN (As := []) (rest := [.ref q_26, .ref h0]) ⟨hx, hb, hml, hown, hts⟩ (m_X11_init l dC dI H.size q_26 ) ⟨va_cnB 0 hts (gd_I kw_123) rfl rfl rfl (nw_of (by exact nn_X12_44) hex) (hts _ kw_122) (by decide +kernel) ⟨Nat.le_of_ble_eq_true rfl, Nat.le_of_ble_eq_true rfl⟩, rfl, hts _ kw_124⟩ ⟨st_blind, fun U hU hW9 => st_mk hU hW9 hPc hKc hDc hex⟩ rfl rfl hl.1 rfl (lv_room (Nat.le_of_ble_eq_true rfl)) dX12_init_73 ⟨Nat.le_of_ble_eq_true rfl, Nat.le_of_ble_eq_true rfl⟩) hS (fun q _ h => hFc q h) hFc (fun  u9 t9 H1 locs ht9 hvm9 hw9 hB9 hz9 hk9 hS => ?_)
  have hP1 : va_P (dC, dI) cl0 [] H1 := fun k q h => by simp at h
  have hD1 : va_D (va_A [(q_26, .inr (9, dfX11))] H.size) [] := ⟨fun i j p q h => by simp at h, fun k q h => by simp at h⟩
  obtain ⟨hP, hD⟩ := va_join (wr := [(h0, .inr (10, dfX12_25)), (q_1, .inr (0, fs1_2)), (hd_3, .inl (cB_4, 64, .inl (fun _ => 0))), (q_6, .inr (0, fs1_7)), (hd_8, .inl (cB_9, 64, .inl (fun _ => 0))), (q_11, .inr (0, fs1_12)), (hd_13, .inl (cB_14, 64, .inl (fun _ => 0))), (q_19, .inr (2, fs1_20)), (hr_21, .inr (6, fs2_22))]) (w1 := []) hP hD [9] [0, 1, 2, 3, 4, 5, 6, 7, 8] rfl rfl (by decide) (by decide) hk9 hFc hP1 hD1
  generalize H1 = H at hP hS ⊢
  have hP : va_P (dC, dI) cl0 [(h0, .inr (10, dfX12_25)), (q_1, .inr (0, fs1_2)), (hd_3, .inl (cB_4, 64, .inl (fun _ => 0))), (q_6, .inr (0, fs1_7)), (hd_8, .inl (cB_9, 64, .inl (fun _ => 0))), (q_11, .inr (0, fs1_12)), (hd_13, .inl (cB_14, 64, .inl (fun _ => 0))), (q_19, .inr (2, fs1_20)), (hr_21, .inr (6, fs2_22))] H := hP
  have hD : va_D A [(h0, .inr (10, dfX12_25)), (q_1, .inr (0, fs1_2)), (hd_3, .inl (cB_4, 64, .inl (fun _ => 0))), (q_6, .inr (0, fs1_7)), (hd_8, .inl (cB_9, 64, .inl (fun _ => 0))), (q_11, .inr (0, fs1_12)), (hd_13, .inl (cB_14, 64, .inl (fun _ => 0))), (q_19, .inr (2, fs1_20)), (hr_21, .inr (6, fs2_22))] := hD
  refine W.widen (k := 43) (n := 3422) (by omega) (by omega) ?_
  refine va_putF (D := (dC, dI)) (ci := 10) (v := .ref q_26) (ty := (.object "CodeFoundry$Writer")) (C := RX12) (T := TX12) (N := 18) hx hb hts inX12 tyX12 tyX12_ok nmX12 hown hK hP hD hS 0 rfl rfl 6 (by decide) (hts _ kw_125) (fun _ h9 => h9) rfl hin rfl (by decide +kernel) rfl rfl (by rw [L_dfX12_25]; decide) dX12_init_76 (fun H locs hP hD hS => ?_)
  obtain ⟨dfX12_27, e_dfX12_27⟩ : ∃ z, z = dfX12_25.set 6 (.ref q_26) := ⟨_, rfl⟩
  have hP : va_P (dC, dI) cl0 [(h0, .inr (10, dfX12_27)), (q_1, .inr (0, fs1_2)), (hd_3, .inl (cB_4, 64, .inl (fun _ => 0))), (q_6, .inr (0, fs1_7)), (hd_8, .inl (cB_9, 64, .inl (fun _ => 0))), (q_11, .inr (0, fs1_12)), (hd_13, .inl (cB_14, 64, .inl (fun _ => 0))), (q_19, .inr (2, fs1_20)), (hr_21, .inr (6, fs2_22))] H := by rw [e_dfX12_27]; exact hP
  have hD : va_D A [(h0, .inr (10, dfX12_27)), (q_1, .inr (0, fs1_2)), (hd_3, .inl (cB_4, 64, .inl (fun _ => 0))), (q_6, .inr (0, fs1_7)), (hd_8, .inl (cB_9, 64, .inl (fun _ => 0))), (q_11, .inr (0, fs1_12)), (hd_13, .inl (cB_14, 64, .inl (fun _ => 0))), (q_19, .inr (2, fs1_20)), (hr_21, .inr (6, fs2_22))] := by rw [e_dfX12_27]; exact hD
  have L_dfX12_27 : dfX12_27.length = 18 := fx_len e_dfX12_27 L_dfX12_25
  have g_dfX12_27_10 := fx_ne (j := 10) e_dfX12_27 g_dfX12_25_10 (by decide)
  have g_dfX12_27_11 := fx_ne (j := 11) e_dfX12_27 g_dfX12_25_11 (by decide)
  have g_dfX12_27_12 := fx_ne (j := 12) e_dfX12_27 g_dfX12_25_12 (by decide)
  have g_dfX12_27_13 := fx_ne (j := 13) e_dfX12_27 g_dfX12_25_13 (by decide)
  have g_dfX12_27_0 := fx_ne (j := 0) e_dfX12_27 g_dfX12_25_0 (by decide)
  have g_dfX12_27_1 := fx_ne (j := 1) e_dfX12_27 g_dfX12_25_1 (by decide)
  have g_dfX12_27_4 := fx_ne (j := 4) e_dfX12_27 g_dfX12_25_4 (by decide)
  refine lv_aload_n hx hb dX12_init_79 rfl (lv_at hl 0 rfl) ?_
  refine va_new (ci := 5) (fs := dfX5) (C := RX5) (T := TX5) (N := 20) hx hb hts inX5 tyX5 tyX5_ok hown (hts _ kw_126) (hts _ kw_127) (hts _ kw_128) hK hP hD hS hA rfl dfX5_ok (Nat.le_of_ble_eq_true rfl) (Nat.le_of_ble_eq_true rfl) dX12_init_80 (fun q_28 H hP hD hS => ?_)
  have hP : va_P (dC, dI) cl0 [(h0, .inr (10, dfX12_27)), (q_1, .inr (0, fs1_2)), (hd_3, .inl (cB_4, 64, .inl (fun _ => 0))), (q_6, .inr (0, fs1_7)), (hd_8, .inl (cB_9, 64, .inl (fun _ => 0))), (q_11, .inr (0, fs1_12)), (hd_13, .inl (cB_14, 64, .inl (fun _ => 0))), (q_19, .inr (2, fs1_20)), (hr_21, .inr (6, fs2_22)), (q_28, .inr (5, dfX5))] H := hP
  have hD : va_D A [(h0, .inr (10, dfX12_27)), (q_1, .inr (0, fs1_2)), (hd_3, .inl (cB_4, 64, .inl (fun _ => 0))), (q_6, .inr (0, fs1_7)), (hd_8, .inl (cB_9, 64, .inl (fun _ => 0))), (q_11, .inr (0, fs1_12)), (hd_13, .inl (cB_14, 64, .inl (fun _ => 0))), (q_19, .inr (2, fs1_20)), (hr_21, .inr (6, fs2_22)), (q_28, .inr (5, dfX5))] := hD
  refine W.widen (k := 44) (n := 3442) (Nat.le_of_ble_eq_true rfl) (Nat.le_of_ble_eq_true rfl) ?_
  refine lv_dup hx hb dX12_init_83 rfl ?_
  have hPc := hP.sub (ws' := [(q_28, .inr (5, dfX5))]) [9] rfl
  have hDc := hD.sub (ws' := [(q_28, .inr (5, dfX5))]) [9] (by decide) rfl
  have hKc := hK.sub (tys' := []) [] rfl
  have hFc := va_free (wc := [(q_28, .inr (5, dfX5))]) hD hS hA [9] rfl
  refine va_callv (va_runIN (As := []) (rest := [.ref q_28, .ref h0]) ⟨hx, hb, hml, hown, hts⟩ (m_X5_init l dC dI H.size q_28 ) ⟨va_cnB 0 hts (gd_I kw_129) rfl rfl rfl (nw_of (by exact nn_X12_51) hex) (hts _ kw_128) (by decide +kernel) ⟨Nat.le_of_ble_eq_true rfl, Nat.le_of_ble_eq_true rfl⟩, rfl, hts _ kw_130⟩ ⟨st_blind, fun U hU hW9 => st_mk hU hW9 hPc hKc hDc hex⟩ rfl rfl hl.1 rfl (lv_room (Nat.le_of_ble_eq_true rfl)) dX12_init_84 ⟨Nat.le_of_ble_eq_true rfl, Nat.le_of_ble_eq_true rfl⟩) hS (fun q _ h => hFc q h) hFc (fun  u9 t9 H1 locs ht9 hvm9 hw9 hB9 hz9 hk9 hS => ?_)
  obtain ⟨fs1_29, ha_30, cJ_31, L_fs1_29, g_fs1_29_0, g_fs1_29_5, g_fs1_29_6, g_fs1_29_7, g_fs1_29_16, g_fs1_29_17, g_fs1_29_18, g_fs1_29_19, hP1, hK1, hD1⟩ := hB9
  rw [ht9] at hP1
  have hK1 := va_K.moved hvm9.symm hK1
  obtain ⟨hP, hD⟩ := va_join (wr := [(h0, .inr (10, dfX12_27)), (q_1, .inr (0, fs1_2)), (hd_3, .inl (cB_4, 64, .inl (fun _ => 0))), (q_6, .inr (0, fs1_7)), (hd_8, .inl (cB_9, 64, .inl (fun _ => 0))), (q_11, .inr (0, fs1_12)), (hd_13, .inl (cB_14, 64, .inl (fun _ => 0))), (q_19, .inr (2, fs1_20)), (hr_21, .inr (6, fs2_22))]) (w1 := [(q_28, .inr (5, fs1_29)), (ha_30, .inl (cJ_31, 8, .inr (.inl (fun _ => 0))))]) hP hD [9] [0, 1, 2, 3, 4, 5, 6, 7, 8] rfl rfl (by decide) (by decide) hk9 hFc hP1 hD1
  have hK := (hK.sub (tys' := [(cB_4, .byte), (cB_9, .byte), (cB_14, .byte)]) [0, 1, 2] rfl).app hK1
  generalize H1 = H at hP hS ⊢
  have hP : va_P (dC, dI) cl0 [(h0, .inr (10, dfX12_27)), (q_1, .inr (0, fs1_2)), (hd_3, .inl (cB_4, 64, .inl (fun _ => 0))), (q_6, .inr (0, fs1_7)), (hd_8, .inl (cB_9, 64, .inl (fun _ => 0))), (q_11, .inr (0, fs1_12)), (hd_13, .inl (cB_14, 64, .inl (fun _ => 0))), (q_19, .inr (2, fs1_20)), (hr_21, .inr (6, fs2_22)), (q_28, .inr (5, fs1_29)), (ha_30, .inl (cJ_31, 8, .inr (.inl (fun _ => 0))))] H := hP
  have hD : va_D A [(h0, .inr (10, dfX12_27)), (q_1, .inr (0, fs1_2)), (hd_3, .inl (cB_4, 64, .inl (fun _ => 0))), (q_6, .inr (0, fs1_7)), (hd_8, .inl (cB_9, 64, .inl (fun _ => 0))), (q_11, .inr (0, fs1_12)), (hd_13, .inl (cB_14, 64, .inl (fun _ => 0))), (q_19, .inr (2, fs1_20)), (hr_21, .inr (6, fs2_22)), (q_28, .inr (5, fs1_29)), (ha_30, .inl (cJ_31, 8, .inr (.inl (fun _ => 0))))] := hD
  have hK : va_K (dC, dI) cl0 [(cB_4, .byte), (cB_9, .byte), (cB_14, .byte), (cJ_31, .long)] s := hK
  refine W.widen (k := 51) (n := 3662) (by omega) (by omega) ?_
  refine va_putF (D := (dC, dI)) (ci := 10) (v := .ref q_28) (ty := (.object "CodeFoundry$Machine")) (C := RX12) (T := TX12) (N := 18) hx hb hts inX12 tyX12 tyX12_ok nmX12 hown hK hP hD hS 0 rfl rfl 7 (by decide) (hts _ kw_131) (fun _ h9 => h9) rfl hin rfl (by decide +kernel) rfl rfl (by rw [L_dfX12_27]; decide) dX12_init_87 (fun H locs hP hD hS => ?_)
  obtain ⟨dfX12_32, e_dfX12_32⟩ : ∃ z, z = dfX12_27.set 7 (.ref q_28) := ⟨_, rfl⟩
  have hP : va_P (dC, dI) cl0 [(h0, .inr (10, dfX12_32)), (q_1, .inr (0, fs1_2)), (hd_3, .inl (cB_4, 64, .inl (fun _ => 0))), (q_6, .inr (0, fs1_7)), (hd_8, .inl (cB_9, 64, .inl (fun _ => 0))), (q_11, .inr (0, fs1_12)), (hd_13, .inl (cB_14, 64, .inl (fun _ => 0))), (q_19, .inr (2, fs1_20)), (hr_21, .inr (6, fs2_22)), (q_28, .inr (5, fs1_29)), (ha_30, .inl (cJ_31, 8, .inr (.inl (fun _ => 0))))] H := by rw [e_dfX12_32]; exact hP
  have hD : va_D A [(h0, .inr (10, dfX12_32)), (q_1, .inr (0, fs1_2)), (hd_3, .inl (cB_4, 64, .inl (fun _ => 0))), (q_6, .inr (0, fs1_7)), (hd_8, .inl (cB_9, 64, .inl (fun _ => 0))), (q_11, .inr (0, fs1_12)), (hd_13, .inl (cB_14, 64, .inl (fun _ => 0))), (q_19, .inr (2, fs1_20)), (hr_21, .inr (6, fs2_22)), (q_28, .inr (5, fs1_29)), (ha_30, .inl (cJ_31, 8, .inr (.inl (fun _ => 0))))] := by rw [e_dfX12_32]; exact hD
  have L_dfX12_32 : dfX12_32.length = 18 := fx_len e_dfX12_32 L_dfX12_27
  have g_dfX12_32_10 := fx_ne (j := 10) e_dfX12_32 g_dfX12_27_10 (by decide)
  have g_dfX12_32_11 := fx_ne (j := 11) e_dfX12_32 g_dfX12_27_11 (by decide)
  have g_dfX12_32_12 := fx_ne (j := 12) e_dfX12_32 g_dfX12_27_12 (by decide)
  have g_dfX12_32_13 := fx_ne (j := 13) e_dfX12_32 g_dfX12_27_13 (by decide)
  have g_dfX12_32_0 := fx_ne (j := 0) e_dfX12_32 g_dfX12_27_0 (by decide)
  have g_dfX12_32_1 := fx_ne (j := 1) e_dfX12_32 g_dfX12_27_1 (by decide)
  have g_dfX12_32_4 := fx_ne (j := 4) e_dfX12_32 g_dfX12_27_4 (by decide)
  have g_dfX12_32_7 := fx_self e_dfX12_32 (by rw [L_dfX12_27]; decide)
  refine lv_aload_n hx hb dX12_init_90 rfl (lv_at hl 0 rfl) ?_
  refine va_new (ci := 3) (fs := dfX3) (C := RX3) (T := TX3) (N := 16) hx hb hts inX3 tyX3 tyX3_ok hown (hts _ kw_132) (hts _ kw_133) (hts _ kw_134) hK hP hD hS hA rfl dfX3_ok (Nat.le_of_ble_eq_true rfl) (Nat.le_of_ble_eq_true rfl) dX12_init_91 (fun q_33 H hP hD hS => ?_)
  have hP : va_P (dC, dI) cl0 [(h0, .inr (10, dfX12_32)), (q_1, .inr (0, fs1_2)), (hd_3, .inl (cB_4, 64, .inl (fun _ => 0))), (q_6, .inr (0, fs1_7)), (hd_8, .inl (cB_9, 64, .inl (fun _ => 0))), (q_11, .inr (0, fs1_12)), (hd_13, .inl (cB_14, 64, .inl (fun _ => 0))), (q_19, .inr (2, fs1_20)), (hr_21, .inr (6, fs2_22)), (q_28, .inr (5, fs1_29)), (ha_30, .inl (cJ_31, 8, .inr (.inl (fun _ => 0)))), (q_33, .inr (3, dfX3))] H := hP
  have hD : va_D A [(h0, .inr (10, dfX12_32)), (q_1, .inr (0, fs1_2)), (hd_3, .inl (cB_4, 64, .inl (fun _ => 0))), (q_6, .inr (0, fs1_7)), (hd_8, .inl (cB_9, 64, .inl (fun _ => 0))), (q_11, .inr (0, fs1_12)), (hd_13, .inl (cB_14, 64, .inl (fun _ => 0))), (q_19, .inr (2, fs1_20)), (hr_21, .inr (6, fs2_22)), (q_28, .inr (5, fs1_29)), (ha_30, .inl (cJ_31, 8, .inr (.inl (fun _ => 0)))), (q_33, .inr (3, dfX3))] := hD
  refine W.widen (k := 52) (n := 3678) (Nat.le_of_ble_eq_true rfl) (Nat.le_of_ble_eq_true rfl) ?_
  refine lv_dup hx hb dX12_init_94 rfl ?_
  have hPc := hP.sub (ws' := [(q_33, .inr (3, dfX3))]) [11] rfl
  have hDc := hD.sub (ws' := [(q_33, .inr (3, dfX3))]) [11] (by decide) rfl
  have hKc := hK.sub (tys' := []) [] rfl
  have hFc := va_free (wc := [(q_33, .inr (3, dfX3))]) hD hS hA [11] rfl
  refine va_callv (va_runIN (As := []) (rest := [.ref q_33, .ref h0]) ⟨hx, hb, hml, hown, hts⟩ (m_X3_init l dC dI H.size q_33 ) ⟨va_cnB 0 hts (gd_I kw_135) rfl rfl rfl (nw_of (by exact nn_X12_58) hex) (hts _ kw_134) (by decide +kernel) ⟨Nat.le_of_ble_eq_true rfl, Nat.le_of_ble_eq_true rfl⟩, rfl, hts _ kw_136⟩ ⟨st_blind, fun U hU hW9 => st_mk hU hW9 hPc hKc hDc hex⟩ rfl rfl hl.1 rfl (lv_room (Nat.le_of_ble_eq_true rfl)) dX12_init_95 ⟨Nat.le_of_ble_eq_true rfl, Nat.le_of_ble_eq_true rfl⟩) hS (fun q _ h => hFc q h) hFc (fun  u9 t9 H1 locs ht9 hvm9 hw9 hB9 hz9 hk9 hS => ?_)
  have hP1 : va_P (dC, dI) cl0 [] H1 := fun k q h => by simp at h
  have hD1 : va_D (va_A [(q_33, .inr (3, dfX3))] H.size) [] := ⟨fun i j p q h => by simp at h, fun k q h => by simp at h⟩
  obtain ⟨hP, hD⟩ := va_join (wr := [(h0, .inr (10, dfX12_32)), (q_1, .inr (0, fs1_2)), (hd_3, .inl (cB_4, 64, .inl (fun _ => 0))), (q_6, .inr (0, fs1_7)), (hd_8, .inl (cB_9, 64, .inl (fun _ => 0))), (q_11, .inr (0, fs1_12)), (hd_13, .inl (cB_14, 64, .inl (fun _ => 0))), (q_19, .inr (2, fs1_20)), (hr_21, .inr (6, fs2_22)), (q_28, .inr (5, fs1_29)), (ha_30, .inl (cJ_31, 8, .inr (.inl (fun _ => 0))))]) (w1 := []) hP hD [11] [0, 1, 2, 3, 4, 5, 6, 7, 8, 9, 10] rfl rfl (by decide) (by decide) hk9 hFc hP1 hD1
  generalize H1 = H at hP hS ⊢
  have hP : va_P (dC, dI) cl0 [(h0, .inr (10, dfX12_32)), (q_1, .inr (0, fs1_2)), (hd_3, .inl (cB_4, 64, .inl (fun _ => 0))), (q_6, .inr (0, fs1_7)), (hd_8, .inl (cB_9, 64, .inl (fun _ => 0))), (q_11, .inr (0, fs1_12)), (hd_13, .inl (cB_14, 64, .inl (fun _ => 0))), (q_19, .inr (2, fs1_20)), (hr_21, .inr (6, fs2_22)), (q_28, .inr (5, fs1_29)), (ha_30, .inl (cJ_31, 8, .inr (.inl (fun _ => 0))))] H := hP
  have hD : va_D A [(h0, .inr (10, dfX12_32)), (q_1, .inr (0, fs1_2)), (hd_3, .inl (cB_4, 64, .inl (fun _ => 0))), (q_6, .inr (0, fs1_7)), (hd_8, .inl (cB_9, 64, .inl (fun _ => 0))), (q_11, .inr (0, fs1_12)), (hd_13, .inl (cB_14, 64, .inl (fun _ => 0))), (q_19, .inr (2, fs1_20)), (hr_21, .inr (6, fs2_22)), (q_28, .inr (5, fs1_29)), (ha_30, .inl (cJ_31, 8, .inr (.inl (fun _ => 0))))] := hD
  refine W.widen (k := 65) (n := 3694) (by omega) (by omega) ?_
  refine va_putF (D := (dC, dI)) (ci := 10) (v := .ref q_33) (ty := (.object "CodeFoundry$Graph")) (C := RX12) (T := TX12) (N := 18) hx hb hts inX12 tyX12 tyX12_ok nmX12 hown hK hP hD hS 0 rfl rfl 8 (by decide) (hts _ kw_137) (fun _ h9 => h9) rfl hin rfl (by decide +kernel) rfl rfl (by rw [L_dfX12_32]; decide) dX12_init_98 (fun H locs hP hD hS => ?_)
  obtain ⟨dfX12_34, e_dfX12_34⟩ : ∃ z, z = dfX12_32.set 8 (.ref q_33) := ⟨_, rfl⟩
  have hP : va_P (dC, dI) cl0 [(h0, .inr (10, dfX12_34)), (q_1, .inr (0, fs1_2)), (hd_3, .inl (cB_4, 64, .inl (fun _ => 0))), (q_6, .inr (0, fs1_7)), (hd_8, .inl (cB_9, 64, .inl (fun _ => 0))), (q_11, .inr (0, fs1_12)), (hd_13, .inl (cB_14, 64, .inl (fun _ => 0))), (q_19, .inr (2, fs1_20)), (hr_21, .inr (6, fs2_22)), (q_28, .inr (5, fs1_29)), (ha_30, .inl (cJ_31, 8, .inr (.inl (fun _ => 0))))] H := by rw [e_dfX12_34]; exact hP
  have hD : va_D A [(h0, .inr (10, dfX12_34)), (q_1, .inr (0, fs1_2)), (hd_3, .inl (cB_4, 64, .inl (fun _ => 0))), (q_6, .inr (0, fs1_7)), (hd_8, .inl (cB_9, 64, .inl (fun _ => 0))), (q_11, .inr (0, fs1_12)), (hd_13, .inl (cB_14, 64, .inl (fun _ => 0))), (q_19, .inr (2, fs1_20)), (hr_21, .inr (6, fs2_22)), (q_28, .inr (5, fs1_29)), (ha_30, .inl (cJ_31, 8, .inr (.inl (fun _ => 0))))] := by rw [e_dfX12_34]; exact hD
  have L_dfX12_34 : dfX12_34.length = 18 := fx_len e_dfX12_34 L_dfX12_32
  have g_dfX12_34_10 := fx_ne (j := 10) e_dfX12_34 g_dfX12_32_10 (by decide)
  have g_dfX12_34_11 := fx_ne (j := 11) e_dfX12_34 g_dfX12_32_11 (by decide)
  have g_dfX12_34_12 := fx_ne (j := 12) e_dfX12_34 g_dfX12_32_12 (by decide)
  have g_dfX12_34_13 := fx_ne (j := 13) e_dfX12_34 g_dfX12_32_13 (by decide)
  have g_dfX12_34_0 := fx_ne (j := 0) e_dfX12_34 g_dfX12_32_0 (by decide)
  have g_dfX12_34_1 := fx_ne (j := 1) e_dfX12_34 g_dfX12_32_1 (by decide)
  have g_dfX12_34_4 := fx_ne (j := 4) e_dfX12_34 g_dfX12_32_4 (by decide)
  have g_dfX12_34_7 := fx_ne (j := 7) e_dfX12_34 g_dfX12_32_7 (by decide)
  refine lv_aload_n hx hb dX12_init_101 rfl (lv_at hl 0 rfl) ?_
  refine va_new (ci := 8) (fs := dfX9) (C := RX9) (T := TX9) (N := 6) hx hb hts inX9 tyX9 tyX9_ok hown (hts _ kw_138) (hts _ kw_139) (hts _ kw_140) hK hP hD hS hA rfl dfX9_ok (Nat.le_of_ble_eq_true rfl) (Nat.le_of_ble_eq_true rfl) dX12_init_102 (fun q_35 H hP hD hS => ?_)
  have hP : va_P (dC, dI) cl0 [(h0, .inr (10, dfX12_34)), (q_1, .inr (0, fs1_2)), (hd_3, .inl (cB_4, 64, .inl (fun _ => 0))), (q_6, .inr (0, fs1_7)), (hd_8, .inl (cB_9, 64, .inl (fun _ => 0))), (q_11, .inr (0, fs1_12)), (hd_13, .inl (cB_14, 64, .inl (fun _ => 0))), (q_19, .inr (2, fs1_20)), (hr_21, .inr (6, fs2_22)), (q_28, .inr (5, fs1_29)), (ha_30, .inl (cJ_31, 8, .inr (.inl (fun _ => 0)))), (q_35, .inr (8, dfX9))] H := hP
  have hD : va_D A [(h0, .inr (10, dfX12_34)), (q_1, .inr (0, fs1_2)), (hd_3, .inl (cB_4, 64, .inl (fun _ => 0))), (q_6, .inr (0, fs1_7)), (hd_8, .inl (cB_9, 64, .inl (fun _ => 0))), (q_11, .inr (0, fs1_12)), (hd_13, .inl (cB_14, 64, .inl (fun _ => 0))), (q_19, .inr (2, fs1_20)), (hr_21, .inr (6, fs2_22)), (q_28, .inr (5, fs1_29)), (ha_30, .inl (cJ_31, 8, .inr (.inl (fun _ => 0)))), (q_35, .inr (8, dfX9))] := hD
  refine W.widen (k := 66) (n := 3700) (Nat.le_of_ble_eq_true rfl) (Nat.le_of_ble_eq_true rfl) ?_
  refine lv_dup hx hb dX12_init_105 rfl ?_
  have hPc := hP.sub (ws' := [(q_35, .inr (8, dfX9))]) [11] rfl
  have hDc := hD.sub (ws' := [(q_35, .inr (8, dfX9))]) [11] (by decide) rfl
  have hKc := hK.sub (tys' := []) [] rfl
  have hFc := va_free (wc := [(q_35, .inr (8, dfX9))]) hD hS hA [11] rfl
  refine va_callv (va_runIN (As := []) (rest := [.ref q_35, .ref h0]) ⟨hx, hb, hml, hown, hts⟩ (m_X9_init l dC dI H.size q_35 ) ⟨va_cnB 0 hts (gd_I kw_141) rfl rfl rfl (nw_of (by exact nn_X12_65) hex) (hts _ kw_140) (by decide +kernel) ⟨Nat.le_of_ble_eq_true rfl, Nat.le_of_ble_eq_true rfl⟩, rfl, hts _ kw_142⟩ ⟨st_blind, fun U hU hW9 => st_mk hU hW9 hPc hKc hDc hex⟩ rfl rfl hl.1 rfl (lv_room (Nat.le_of_ble_eq_true rfl)) dX12_init_106 ⟨Nat.le_of_ble_eq_true rfl, Nat.le_of_ble_eq_true rfl⟩) hS (fun q _ h => hFc q h) hFc (fun  u9 t9 H1 locs ht9 hvm9 hw9 hB9 hz9 hk9 hS => ?_)
  obtain ⟨fs1_36, ha_37, cI_38, L_fs1_36, g_fs1_36_1, hP1, hK1, hD1⟩ := hB9
  rw [ht9] at hP1
  have hK1 := va_K.moved hvm9.symm hK1
  obtain ⟨hP, hD⟩ := va_join (wr := [(h0, .inr (10, dfX12_34)), (q_1, .inr (0, fs1_2)), (hd_3, .inl (cB_4, 64, .inl (fun _ => 0))), (q_6, .inr (0, fs1_7)), (hd_8, .inl (cB_9, 64, .inl (fun _ => 0))), (q_11, .inr (0, fs1_12)), (hd_13, .inl (cB_14, 64, .inl (fun _ => 0))), (q_19, .inr (2, fs1_20)), (hr_21, .inr (6, fs2_22)), (q_28, .inr (5, fs1_29)), (ha_30, .inl (cJ_31, 8, .inr (.inl (fun _ => 0))))]) (w1 := [(q_35, .inr (8, fs1_36)), (ha_37, .inl (cI_38, 12, .inl (fun _ => 0)))]) hP hD [11] [0, 1, 2, 3, 4, 5, 6, 7, 8, 9, 10] rfl rfl (by decide) (by decide) hk9 hFc hP1 hD1
  have hK := (hK.sub (tys' := [(cB_4, .byte), (cB_9, .byte), (cB_14, .byte), (cJ_31, .long)]) [0, 1, 2, 3] rfl).app hK1
  generalize H1 = H at hP hS ⊢
  have hP : va_P (dC, dI) cl0 [(h0, .inr (10, dfX12_34)), (q_1, .inr (0, fs1_2)), (hd_3, .inl (cB_4, 64, .inl (fun _ => 0))), (q_6, .inr (0, fs1_7)), (hd_8, .inl (cB_9, 64, .inl (fun _ => 0))), (q_11, .inr (0, fs1_12)), (hd_13, .inl (cB_14, 64, .inl (fun _ => 0))), (q_19, .inr (2, fs1_20)), (hr_21, .inr (6, fs2_22)), (q_28, .inr (5, fs1_29)), (ha_30, .inl (cJ_31, 8, .inr (.inl (fun _ => 0)))), (q_35, .inr (8, fs1_36)), (ha_37, .inl (cI_38, 12, .inl (fun _ => 0)))] H := hP
  have hD : va_D A [(h0, .inr (10, dfX12_34)), (q_1, .inr (0, fs1_2)), (hd_3, .inl (cB_4, 64, .inl (fun _ => 0))), (q_6, .inr (0, fs1_7)), (hd_8, .inl (cB_9, 64, .inl (fun _ => 0))), (q_11, .inr (0, fs1_12)), (hd_13, .inl (cB_14, 64, .inl (fun _ => 0))), (q_19, .inr (2, fs1_20)), (hr_21, .inr (6, fs2_22)), (q_28, .inr (5, fs1_29)), (ha_30, .inl (cJ_31, 8, .inr (.inl (fun _ => 0)))), (q_35, .inr (8, fs1_36)), (ha_37, .inl (cI_38, 12, .inl (fun _ => 0)))] := hD
  have hK : va_K (dC, dI) cl0 [(cB_4, .byte), (cB_9, .byte), (cB_14, .byte), (cJ_31, .long), (cI_38, .int)] s := hK
  refine W.widen (k := 79) (n := 3727) (by omega) (by omega) ?_
  refine va_putF (D := (dC, dI)) (ci := 10) (v := .ref q_35) (ty := (.object "CodeFoundry$Smith")) (C := RX12) (T := TX12) (N := 18) hx hb hts inX12 tyX12 tyX12_ok nmX12 hown hK hP hD hS 0 rfl rfl 9 (by decide) (hts _ kw_143) (fun _ h9 => h9) rfl hin rfl (by decide +kernel) rfl rfl (by rw [L_dfX12_34]; decide) dX12_init_109 (fun H locs hP hD hS => ?_)
  obtain ⟨dfX12_39, e_dfX12_39⟩ : ∃ z, z = dfX12_34.set 9 (.ref q_35) := ⟨_, rfl⟩
  have hP : va_P (dC, dI) cl0 [(h0, .inr (10, dfX12_39)), (q_1, .inr (0, fs1_2)), (hd_3, .inl (cB_4, 64, .inl (fun _ => 0))), (q_6, .inr (0, fs1_7)), (hd_8, .inl (cB_9, 64, .inl (fun _ => 0))), (q_11, .inr (0, fs1_12)), (hd_13, .inl (cB_14, 64, .inl (fun _ => 0))), (q_19, .inr (2, fs1_20)), (hr_21, .inr (6, fs2_22)), (q_28, .inr (5, fs1_29)), (ha_30, .inl (cJ_31, 8, .inr (.inl (fun _ => 0)))), (q_35, .inr (8, fs1_36)), (ha_37, .inl (cI_38, 12, .inl (fun _ => 0)))] H := by rw [e_dfX12_39]; exact hP
  have hD : va_D A [(h0, .inr (10, dfX12_39)), (q_1, .inr (0, fs1_2)), (hd_3, .inl (cB_4, 64, .inl (fun _ => 0))), (q_6, .inr (0, fs1_7)), (hd_8, .inl (cB_9, 64, .inl (fun _ => 0))), (q_11, .inr (0, fs1_12)), (hd_13, .inl (cB_14, 64, .inl (fun _ => 0))), (q_19, .inr (2, fs1_20)), (hr_21, .inr (6, fs2_22)), (q_28, .inr (5, fs1_29)), (ha_30, .inl (cJ_31, 8, .inr (.inl (fun _ => 0)))), (q_35, .inr (8, fs1_36)), (ha_37, .inl (cI_38, 12, .inl (fun _ => 0)))] := by rw [e_dfX12_39]; exact hD
  have L_dfX12_39 : dfX12_39.length = 18 := fx_len e_dfX12_39 L_dfX12_34
  have g_dfX12_39_10 := fx_ne (j := 10) e_dfX12_39 g_dfX12_34_10 (by decide)
  have g_dfX12_39_11 := fx_ne (j := 11) e_dfX12_39 g_dfX12_34_11 (by decide)
  have g_dfX12_39_12 := fx_ne (j := 12) e_dfX12_39 g_dfX12_34_12 (by decide)
  have g_dfX12_39_13 := fx_ne (j := 13) e_dfX12_39 g_dfX12_34_13 (by decide)
  have g_dfX12_39_0 := fx_ne (j := 0) e_dfX12_39 g_dfX12_34_0 (by decide)
  have g_dfX12_39_1 := fx_ne (j := 1) e_dfX12_39 g_dfX12_34_1 (by decide)
  have g_dfX12_39_4 := fx_ne (j := 4) e_dfX12_39 g_dfX12_34_4 (by decide)
  have g_dfX12_39_7 := fx_ne (j := 7) e_dfX12_39 g_dfX12_34_7 (by decide)
  have g_dfX12_39_9 := fx_self e_dfX12_39 (by rw [L_dfX12_34]; decide)
  refine lv_aload_n hx hb dX12_init_112 rfl (lv_at hl 0 rfl) ?_
  refine lv_iconst (v := (-1)) hx hb dX12_init_113 (by decide) ?_
  refine va_put (D := (dC, dI)) (ci := 10) (v := .int (-1)) (ty := .int) (C := RX12) (T := TX12) (N := 18) hx hb hts inX12 tyX12 tyX12_ok nmX12 hown hK hP hD hS 0 rfl rfl 14 (by decide) (hts _ kw_144) (fun _ h9 => h9) rfl (by decide +kernel) rfl rfl (by rw [L_dfX12_39]; decide) dX12_init_114 (fun H locs hP hD hS => ?_)
  obtain ⟨dfX12_40, e_dfX12_40⟩ : ∃ z, z = dfX12_39.set 14 (.int (-1)) := ⟨_, rfl⟩
  have hP : va_P (dC, dI) cl0 [(h0, .inr (10, dfX12_40)), (q_1, .inr (0, fs1_2)), (hd_3, .inl (cB_4, 64, .inl (fun _ => 0))), (q_6, .inr (0, fs1_7)), (hd_8, .inl (cB_9, 64, .inl (fun _ => 0))), (q_11, .inr (0, fs1_12)), (hd_13, .inl (cB_14, 64, .inl (fun _ => 0))), (q_19, .inr (2, fs1_20)), (hr_21, .inr (6, fs2_22)), (q_28, .inr (5, fs1_29)), (ha_30, .inl (cJ_31, 8, .inr (.inl (fun _ => 0)))), (q_35, .inr (8, fs1_36)), (ha_37, .inl (cI_38, 12, .inl (fun _ => 0)))] H := by rw [e_dfX12_40]; exact hP
  have hD : va_D A [(h0, .inr (10, dfX12_40)), (q_1, .inr (0, fs1_2)), (hd_3, .inl (cB_4, 64, .inl (fun _ => 0))), (q_6, .inr (0, fs1_7)), (hd_8, .inl (cB_9, 64, .inl (fun _ => 0))), (q_11, .inr (0, fs1_12)), (hd_13, .inl (cB_14, 64, .inl (fun _ => 0))), (q_19, .inr (2, fs1_20)), (hr_21, .inr (6, fs2_22)), (q_28, .inr (5, fs1_29)), (ha_30, .inl (cJ_31, 8, .inr (.inl (fun _ => 0)))), (q_35, .inr (8, fs1_36)), (ha_37, .inl (cI_38, 12, .inl (fun _ => 0)))] := by rw [e_dfX12_40]; exact hD
  have L_dfX12_40 : dfX12_40.length = 18 := fx_len e_dfX12_40 L_dfX12_39
  have g_dfX12_40_10 := fx_ne (j := 10) e_dfX12_40 g_dfX12_39_10 (by decide)
  have g_dfX12_40_11 := fx_ne (j := 11) e_dfX12_40 g_dfX12_39_11 (by decide)
  have g_dfX12_40_12 := fx_ne (j := 12) e_dfX12_40 g_dfX12_39_12 (by decide)
  have g_dfX12_40_13 := fx_ne (j := 13) e_dfX12_40 g_dfX12_39_13 (by decide)
  have g_dfX12_40_0 := fx_ne (j := 0) e_dfX12_40 g_dfX12_39_0 (by decide)
  have g_dfX12_40_1 := fx_ne (j := 1) e_dfX12_40 g_dfX12_39_1 (by decide)
  have g_dfX12_40_4 := fx_ne (j := 4) e_dfX12_40 g_dfX12_39_4 (by decide)
  have g_dfX12_40_7 := fx_ne (j := 7) e_dfX12_40 g_dfX12_39_7 (by decide)
  have g_dfX12_40_9 := fx_ne (j := 9) e_dfX12_40 g_dfX12_39_9 (by decide)
  have g_dfX12_40_14 := fx_self e_dfX12_40 (by rw [L_dfX12_39]; decide)
  refine lv_aload_n hx hb dX12_init_117 rfl (lv_at hl 0 rfl) ?_
  refine lv_iconst (v := (-1)) hx hb dX12_init_118 (by decide) ?_
  refine va_put (D := (dC, dI)) (ci := 10) (v := .int (-1)) (ty := .int) (C := RX12) (T := TX12) (N := 18) hx hb hts inX12 tyX12 tyX12_ok nmX12 hown hK hP hD hS 0 rfl rfl 15 (by decide) (hts _ kw_145) (fun _ h9 => h9) rfl (by decide +kernel) rfl rfl (by rw [L_dfX12_40]; decide) dX12_init_119 (fun H locs hP hD hS => ?_)
  obtain ⟨dfX12_41, e_dfX12_41⟩ : ∃ z, z = dfX12_40.set 15 (.int (-1)) := ⟨_, rfl⟩
  have hP : va_P (dC, dI) cl0 [(h0, .inr (10, dfX12_41)), (q_1, .inr (0, fs1_2)), (hd_3, .inl (cB_4, 64, .inl (fun _ => 0))), (q_6, .inr (0, fs1_7)), (hd_8, .inl (cB_9, 64, .inl (fun _ => 0))), (q_11, .inr (0, fs1_12)), (hd_13, .inl (cB_14, 64, .inl (fun _ => 0))), (q_19, .inr (2, fs1_20)), (hr_21, .inr (6, fs2_22)), (q_28, .inr (5, fs1_29)), (ha_30, .inl (cJ_31, 8, .inr (.inl (fun _ => 0)))), (q_35, .inr (8, fs1_36)), (ha_37, .inl (cI_38, 12, .inl (fun _ => 0)))] H := by rw [e_dfX12_41]; exact hP
  have hD : va_D A [(h0, .inr (10, dfX12_41)), (q_1, .inr (0, fs1_2)), (hd_3, .inl (cB_4, 64, .inl (fun _ => 0))), (q_6, .inr (0, fs1_7)), (hd_8, .inl (cB_9, 64, .inl (fun _ => 0))), (q_11, .inr (0, fs1_12)), (hd_13, .inl (cB_14, 64, .inl (fun _ => 0))), (q_19, .inr (2, fs1_20)), (hr_21, .inr (6, fs2_22)), (q_28, .inr (5, fs1_29)), (ha_30, .inl (cJ_31, 8, .inr (.inl (fun _ => 0)))), (q_35, .inr (8, fs1_36)), (ha_37, .inl (cI_38, 12, .inl (fun _ => 0)))] := by rw [e_dfX12_41]; exact hD
  have L_dfX12_41 : dfX12_41.length = 18 := fx_len e_dfX12_41 L_dfX12_40
  have g_dfX12_41_10 := fx_ne (j := 10) e_dfX12_41 g_dfX12_40_10 (by decide)
  have g_dfX12_41_11 := fx_ne (j := 11) e_dfX12_41 g_dfX12_40_11 (by decide)
  have g_dfX12_41_12 := fx_ne (j := 12) e_dfX12_41 g_dfX12_40_12 (by decide)
  have g_dfX12_41_13 := fx_ne (j := 13) e_dfX12_41 g_dfX12_40_13 (by decide)
  have g_dfX12_41_0 := fx_ne (j := 0) e_dfX12_41 g_dfX12_40_0 (by decide)
  have g_dfX12_41_1 := fx_ne (j := 1) e_dfX12_41 g_dfX12_40_1 (by decide)
  have g_dfX12_41_4 := fx_ne (j := 4) e_dfX12_41 g_dfX12_40_4 (by decide)
  have g_dfX12_41_7 := fx_ne (j := 7) e_dfX12_41 g_dfX12_40_7 (by decide)
  have g_dfX12_41_9 := fx_ne (j := 9) e_dfX12_41 g_dfX12_40_9 (by decide)
  have g_dfX12_41_14 := fx_ne (j := 14) e_dfX12_41 g_dfX12_40_14 (by decide)
  have g_dfX12_41_15 := fx_self e_dfX12_41 (by rw [L_dfX12_40]; decide)
  refine lv_aload_n hx hb dX12_init_122 rfl (lv_at hl 0 rfl) ?_
  refine lv_iconst (v := (-1)) hx hb dX12_init_123 (by decide) ?_
  refine va_put (D := (dC, dI)) (ci := 10) (v := .int (-1)) (ty := .int) (C := RX12) (T := TX12) (N := 18) hx hb hts inX12 tyX12 tyX12_ok nmX12 hown hK hP hD hS 0 rfl rfl 16 (by decide) (hts _ kw_146) (fun _ h9 => h9) rfl (by decide +kernel) rfl rfl (by rw [L_dfX12_41]; decide) dX12_init_124 (fun H locs hP hD hS => ?_)
  obtain ⟨dfX12_42, e_dfX12_42⟩ : ∃ z, z = dfX12_41.set 16 (.int (-1)) := ⟨_, rfl⟩
  have hP : va_P (dC, dI) cl0 [(h0, .inr (10, dfX12_42)), (q_1, .inr (0, fs1_2)), (hd_3, .inl (cB_4, 64, .inl (fun _ => 0))), (q_6, .inr (0, fs1_7)), (hd_8, .inl (cB_9, 64, .inl (fun _ => 0))), (q_11, .inr (0, fs1_12)), (hd_13, .inl (cB_14, 64, .inl (fun _ => 0))), (q_19, .inr (2, fs1_20)), (hr_21, .inr (6, fs2_22)), (q_28, .inr (5, fs1_29)), (ha_30, .inl (cJ_31, 8, .inr (.inl (fun _ => 0)))), (q_35, .inr (8, fs1_36)), (ha_37, .inl (cI_38, 12, .inl (fun _ => 0)))] H := by rw [e_dfX12_42]; exact hP
  have hD : va_D A [(h0, .inr (10, dfX12_42)), (q_1, .inr (0, fs1_2)), (hd_3, .inl (cB_4, 64, .inl (fun _ => 0))), (q_6, .inr (0, fs1_7)), (hd_8, .inl (cB_9, 64, .inl (fun _ => 0))), (q_11, .inr (0, fs1_12)), (hd_13, .inl (cB_14, 64, .inl (fun _ => 0))), (q_19, .inr (2, fs1_20)), (hr_21, .inr (6, fs2_22)), (q_28, .inr (5, fs1_29)), (ha_30, .inl (cJ_31, 8, .inr (.inl (fun _ => 0)))), (q_35, .inr (8, fs1_36)), (ha_37, .inl (cI_38, 12, .inl (fun _ => 0)))] := by rw [e_dfX12_42]; exact hD
  have L_dfX12_42 : dfX12_42.length = 18 := fx_len e_dfX12_42 L_dfX12_41
  have g_dfX12_42_10 := fx_ne (j := 10) e_dfX12_42 g_dfX12_41_10 (by decide)
  have g_dfX12_42_11 := fx_ne (j := 11) e_dfX12_42 g_dfX12_41_11 (by decide)
  have g_dfX12_42_12 := fx_ne (j := 12) e_dfX12_42 g_dfX12_41_12 (by decide)
  have g_dfX12_42_13 := fx_ne (j := 13) e_dfX12_42 g_dfX12_41_13 (by decide)
  have g_dfX12_42_0 := fx_ne (j := 0) e_dfX12_42 g_dfX12_41_0 (by decide)
  have g_dfX12_42_1 := fx_ne (j := 1) e_dfX12_42 g_dfX12_41_1 (by decide)
  have g_dfX12_42_4 := fx_ne (j := 4) e_dfX12_42 g_dfX12_41_4 (by decide)
  have g_dfX12_42_7 := fx_ne (j := 7) e_dfX12_42 g_dfX12_41_7 (by decide)
  have g_dfX12_42_9 := fx_ne (j := 9) e_dfX12_42 g_dfX12_41_9 (by decide)
  have g_dfX12_42_14 := fx_ne (j := 14) e_dfX12_42 g_dfX12_41_14 (by decide)
  have g_dfX12_42_15 := fx_ne (j := 15) e_dfX12_42 g_dfX12_41_15 (by decide)
  have g_dfX12_42_16 := fx_self e_dfX12_42 (by rw [L_dfX12_41]; decide)
  refine lv_aload_n hx hb dX12_init_127 rfl (lv_at hl 0 rfl) ?_
  refine lv_iconst (v := (-1)) hx hb dX12_init_128 (by decide) ?_
  refine va_put (D := (dC, dI)) (ci := 10) (v := .int (-1)) (ty := .int) (C := RX12) (T := TX12) (N := 18) hx hb hts inX12 tyX12 tyX12_ok nmX12 hown hK hP hD hS 0 rfl rfl 17 (by decide) (hts _ kw_147) (fun _ h9 => h9) rfl (by decide +kernel) rfl rfl (by rw [L_dfX12_42]; decide) dX12_init_129 (fun H locs hP hD hS => ?_)
  obtain ⟨dfX12_43, e_dfX12_43⟩ : ∃ z, z = dfX12_42.set 17 (.int (-1)) := ⟨_, rfl⟩
  have hP : va_P (dC, dI) cl0 [(h0, .inr (10, dfX12_43)), (q_1, .inr (0, fs1_2)), (hd_3, .inl (cB_4, 64, .inl (fun _ => 0))), (q_6, .inr (0, fs1_7)), (hd_8, .inl (cB_9, 64, .inl (fun _ => 0))), (q_11, .inr (0, fs1_12)), (hd_13, .inl (cB_14, 64, .inl (fun _ => 0))), (q_19, .inr (2, fs1_20)), (hr_21, .inr (6, fs2_22)), (q_28, .inr (5, fs1_29)), (ha_30, .inl (cJ_31, 8, .inr (.inl (fun _ => 0)))), (q_35, .inr (8, fs1_36)), (ha_37, .inl (cI_38, 12, .inl (fun _ => 0)))] H := by rw [e_dfX12_43]; exact hP
  have hD : va_D A [(h0, .inr (10, dfX12_43)), (q_1, .inr (0, fs1_2)), (hd_3, .inl (cB_4, 64, .inl (fun _ => 0))), (q_6, .inr (0, fs1_7)), (hd_8, .inl (cB_9, 64, .inl (fun _ => 0))), (q_11, .inr (0, fs1_12)), (hd_13, .inl (cB_14, 64, .inl (fun _ => 0))), (q_19, .inr (2, fs1_20)), (hr_21, .inr (6, fs2_22)), (q_28, .inr (5, fs1_29)), (ha_30, .inl (cJ_31, 8, .inr (.inl (fun _ => 0)))), (q_35, .inr (8, fs1_36)), (ha_37, .inl (cI_38, 12, .inl (fun _ => 0)))] := by rw [e_dfX12_43]; exact hD
  have L_dfX12_43 : dfX12_43.length = 18 := fx_len e_dfX12_43 L_dfX12_42
  have g_dfX12_43_10 := fx_ne (j := 10) e_dfX12_43 g_dfX12_42_10 (by decide)
  have g_dfX12_43_11 := fx_ne (j := 11) e_dfX12_43 g_dfX12_42_11 (by decide)
  have g_dfX12_43_12 := fx_ne (j := 12) e_dfX12_43 g_dfX12_42_12 (by decide)
  have g_dfX12_43_13 := fx_ne (j := 13) e_dfX12_43 g_dfX12_42_13 (by decide)
  have g_dfX12_43_0 := fx_ne (j := 0) e_dfX12_43 g_dfX12_42_0 (by decide)
  have g_dfX12_43_1 := fx_ne (j := 1) e_dfX12_43 g_dfX12_42_1 (by decide)
  have g_dfX12_43_4 := fx_ne (j := 4) e_dfX12_43 g_dfX12_42_4 (by decide)
  have g_dfX12_43_7 := fx_ne (j := 7) e_dfX12_43 g_dfX12_42_7 (by decide)
  have g_dfX12_43_9 := fx_ne (j := 9) e_dfX12_43 g_dfX12_42_9 (by decide)
  have g_dfX12_43_14 := fx_ne (j := 14) e_dfX12_43 g_dfX12_42_14 (by decide)
  have g_dfX12_43_15 := fx_ne (j := 15) e_dfX12_43 g_dfX12_42_15 (by decide)
  have g_dfX12_43_16 := fx_ne (j := 16) e_dfX12_43 g_dfX12_42_16 (by decide)
  refine W.widen (k := 79) (n := 3727) (Nat.le_of_ble_eq_true rfl) (Nat.le_of_ble_eq_true rfl) ?_
  have hP9 := hP.sub (ws' := [(h0, .inr (10, dfX12_43)), (q_1, .inr (0, fs1_2)), (hd_3, .inl (cB_4, 64, .inl (fun _ => 0))), (q_6, .inr (0, fs1_7)), (q_19, .inr (2, fs1_20)), (hr_21, .inr (6, fs2_22)), (q_28, .inr (5, fs1_29)), (ha_30, .inl (cJ_31, 8, .inr (.inl (fun _ => 0)))), (q_35, .inr (8, fs1_36)), (ha_37, .inl (cI_38, 12, .inl (fun _ => 0)))]) [0, 1, 2, 3, 7, 8, 9, 10, 11, 12] rfl
  have hD9 := hD.sub (ws' := [(h0, .inr (10, dfX12_43)), (q_1, .inr (0, fs1_2)), (hd_3, .inl (cB_4, 64, .inl (fun _ => 0))), (q_6, .inr (0, fs1_7)), (q_19, .inr (2, fs1_20)), (hr_21, .inr (6, fs2_22)), (q_28, .inr (5, fs1_29)), (ha_30, .inl (cJ_31, 8, .inr (.inl (fun _ => 0)))), (q_35, .inr (8, fs1_36)), (ha_37, .inl (cI_38, 12, .inl (fun _ => 0)))]) [0, 1, 2, 3, 7, 8, 9, 10, 11, 12] (by decide) rfl
  have hK9 := hK.sub (tys' := [(cB_4, .byte), (cJ_31, .long), (cI_38, .int)]) [0, 3, 4] rfl
  exact W.vret hx hb hr (fun t9 ht9 hW9 => ⟨⟨(), rfl, trivial, dfX12_43, q_1, fs1_2, hd_3, cB_4, q_6, fs1_7, q_19, fs1_20, hr_21, fs2_22, q_28, fs1_29, ha_30, cJ_31, q_35, fs1_36, ha_37, cI_38, L_dfX12_43, g_dfX12_43_0, g_dfX12_43_1, g_dfX12_43_4, g_dfX12_43_7, g_dfX12_43_9, g_dfX12_43_10, g_dfX12_43_11, g_dfX12_43_12, g_dfX12_43_13, g_dfX12_43_14, g_dfX12_43_15, g_dfX12_43_16, L_fs1_2, g_fs1_2_0, g_fs1_2_1, L_fs1_7, g_fs1_7_1, L_fs1_20, g_fs1_20_0, L_fs2_22, L_fs1_29, g_fs1_29_0, g_fs1_29_5, g_fs1_29_6, g_fs1_29_7, g_fs1_29_16, g_fs1_29_17, g_fs1_29_18, g_fs1_29_19, L_fs1_36, g_fs1_36_1, by rw [ht9]; exact hP9, va_K.moved hW9.alike hK9, hD9⟩, hS.F ht9⟩) hS.2.2 dX12_init_132
end
section
set_option maxHeartbeats 4000000 in
set_option maxRecDepth 100000 in
theorem m_X0_put (l : Launch) (dC : Nat → ClassId) (dI : Nat → Nat → Nat) (sz : Nat) (h0 : Nat) (fs0 : List Value) (hd : Nat) (cB : ClassId) (f : Nat → Int32) (n : Int32) (b : Int32) (L_fs0 : fs0.length = 2) (g_fs0_0 : fs0[0]? = some (.ref hd)) (g_fs0_1 : fs0[1]? = some (.int n)) (hn : bk n = true) : Met l yX0_put (wt yX0_put cX0_put 2 none) ({ frames := 0, cells := 0, slots := 0, locals := 0 }) (va_Pc [.ref h0, .int b] (st_U dC dI sz [(h0, .inr (0, fs0)), (hd, .inl (cB, 64, .inl f))] [(cB, .byte)])) (va_Qv (fun _ : Unit => True) (fun (_ : Unit) (t : State) => ∃ (fs1 : List Value), ∃ (f1 : Nat → Int32), (fs1.length = 2) ∧ (fs1[0]? = some (.ref hd)) ∧ (fs1[1]? = some (.int (n + 1))) ∧ va_P (dC, dI) cl0 [(h0, .inr (0, fs1)), (hd, .inl (cB, 64, .inl f1))] t.heap ∧ va_K (dC, dI) cl0 [(cB, .byte)] t ∧ va_D (va_A [(h0, .inr (0, fs0)), (hd, .inl (cB, 64, .inl f))] sz) [(h0, .inr (0, fs1)), (hd, .inl (cB, 64, .inl f1))]) (va_A [(h0, .inr (0, fs0)), (hd, .inl (cB, 64, .inl f))] sz)) 0 0 (va_A [(h0, .inr (0, fs0)), (hd, .inl (cB, 64, .inl f))] sz) := by
  refine Met.ofW (cc := cX0_put) (maxL := 2) (ret := none) (by decide) rfl ?_
  intro p e s m args below meth c s₁ B hml hv
  obtain ⟨rfl, hsz, hP, hK, hD0, hex⟩ := hv
  have hx := B.exec
  have hb := B.bytes
  have hr := B.returns
  have hts0 := atoms_spec (ws := wt yX0_put cX0_put 2 none) B.pre
  have hts : ∀ w ∈ tb, w.before _ s = true := fun w h => hts0 w (List.mem_cons_of_mem _ h)
  have hown : s.vm.findClass RX0 = some m.cls := findClass_of_methodNamed B.named
  have hlocks := B.notSynchronized
  subst hsz
  have hD := hD0.self (sz := s.heap.size)
  generalize hAe : va_A [(h0, .inr (0, fs0)), (hd, .inl (cB, 64, .inl f))] s.heap.size = A at hD ⊢
  have hA : ∀ q : Nat, s.heap.size ≤ q → A q := fun q h => by rw [← hAe]; exact Or.inr h
  have hS : va_S A s.heap s.heap [] := va_S.rf
  have hl := lv_entry ([.ref h0, .int b]) (n := 2) (Nat.le_of_ble_eq_true rfl)
  rw [lg_entry_eq]
  generalize (lg_sl ([.ref h0, .int b]) ++ List.replicate (2 - (lg_sl ([.ref h0, .int b])).length) Slot.unset).toArray = ls at hl ⊢
  have hl : lv_has ls 2 [(0, .ref h0), (1, .int b)] := hl
  refine lv_aload_n hx hb dX0_put_0 rfl (lv_at hl 0 rfl) ?_
  refine va_get (D := (dC, dI)) (ci := 0) (v := .int n) (C := RX0) (T := TX0) (N := 2) hx hb hts inX0 hown hK hP 0 rfl rfl 1 (by decide) (hts _ kw_148) (fun _ h9 => h9) g_fs0_1 dX0_put_1 ?_
  refine lv_aload_n hx hb dX0_put_4 rfl (lv_at hl 0 rfl) ?_
  refine va_get (D := (dC, dI)) (ci := 0) (v := .ref hd) (C := RX0) (T := TX0) (N := 2) hx hb hts inX0 hown hK hP 0 rfl rfl 0 (by decide) (hts _ kw_4) (fun _ h9 => h9) g_fs0_0 dX0_put_5 ?_
  refine va_alen (v := 64) hx hb hK hP 1 0 rfl rfl rfl dX0_put_8 ?_
  refine lv_icmp_lt (tgt := 30) hx hb dX0_put_9 (by decide) (fun c_9 => ?_) (fun c_9 => False.elim (c_9 (bk1 hn)))
  refine lv_aload_n hx hb dX0_put_30 rfl (lv_at hl 0 rfl) ?_
  refine va_get (D := (dC, dI)) (ci := 0) (v := .ref hd) (C := RX0) (T := TX0) (N := 2) hx hb hts inX0 hown hK hP 0 rfl rfl 0 (by decide) (hts _ kw_4) (fun _ h9 => h9) g_fs0_0 dX0_put_31 ?_
  refine lv_aload_n hx hb dX0_put_34 rfl (lv_at hl 0 rfl) ?_
  refine va_get (D := (dC, dI)) (ci := 0) (v := .int n) (C := RX0) (T := TX0) (N := 2) hx hb hts inX0 hown hK hP 0 rfl rfl 1 (by decide) (hts _ kw_148) (fun _ h9 => h9) g_fs0_1 dX0_put_35 ?_
  refine lv_iload_n hx hb dX0_put_38 rfl (lv_at hl 1 rfl) ?_
  obtain ⟨z_1, ez_1⟩ : ∃ y : Int32, b.toInt8.toInt32 = y := ⟨_, rfl⟩
  refine lv_i2b (v := z_1) hx hb dX0_put_39 ez_1 ?_
  refine va_bast hx hb hK hP hD hS 1 0 rfl rfl (bk2 hn) dX0_put_40 (fun H locs hP hD hS => ?_)
  obtain ⟨f_2, e_f_2⟩ : ∃ z, z = upd f (n : Int32).toNatClampNeg (vp_nar .byte z_1) := ⟨_, rfl⟩
  have hP : va_P (dC, dI) cl0 [(h0, .inr (0, fs0)), (hd, .inl (cB, 64, .inl f_2))] H := by rw [e_f_2]; exact hP
  have hD : va_D A [(h0, .inr (0, fs0)), (hd, .inl (cB, 64, .inl f_2))] := by rw [e_f_2]; exact hD
  refine lv_aload_n hx hb dX0_put_41 rfl (lv_at hl 0 rfl) ?_
  refine lv_dup hx hb dX0_put_42 rfl ?_
  refine va_get (D := (dC, dI)) (ci := 0) (v := .int n) (C := RX0) (T := TX0) (N := 2) hx hb hts inX0 hown hK hP 0 rfl rfl 1 (by decide) (hts _ kw_148) (fun _ h9 => h9) g_fs0_1 dX0_put_43 ?_
  refine lv_iconst (v := 1) hx hb dX0_put_46 (by decide) ?_
  refine lv_iadd hx hb dX0_put_47 ?_
  refine va_put (D := (dC, dI)) (ci := 0) (v := .int (n + 1)) (ty := .int) (C := RX0) (T := TX0) (N := 2) hx hb hts inX0 tyX0 tyX0_ok nmX0 hown hK hP hD hS 0 rfl rfl 1 (by decide) (hts _ kw_148) (fun _ h9 => h9) rfl (by decide +kernel) rfl rfl (by rw [L_fs0]; decide) dX0_put_48 (fun H locs hP hD hS => ?_)
  obtain ⟨fs0_3, e_fs0_3⟩ : ∃ z, z = fs0.set 1 (.int (n + 1)) := ⟨_, rfl⟩
  have hP : va_P (dC, dI) cl0 [(h0, .inr (0, fs0_3)), (hd, .inl (cB, 64, .inl f_2))] H := by rw [e_fs0_3]; exact hP
  have hD : va_D A [(h0, .inr (0, fs0_3)), (hd, .inl (cB, 64, .inl f_2))] := by rw [e_fs0_3]; exact hD
  have L_fs0_3 : fs0_3.length = 2 := fx_len e_fs0_3 L_fs0
  have g_fs0_3_0 := fx_ne (j := 0) e_fs0_3 g_fs0_0 (by decide)
  have g_fs0_3_1 := fx_self e_fs0_3 (by rw [L_fs0]; decide)
  refine W.widen (k := 0) (n := 0) (Nat.le_of_ble_eq_true rfl) (Nat.le_of_ble_eq_true rfl) ?_
  have hP9 := hP.sub (ws' := [(h0, .inr (0, fs0_3)), (hd, .inl (cB, 64, .inl f_2))]) [0, 1] rfl
  have hD9 := hD.sub (ws' := [(h0, .inr (0, fs0_3)), (hd, .inl (cB, 64, .inl f_2))]) [0, 1] (by decide) rfl
  have hK9 := hK.sub (tys' := [(cB, .byte)]) [0] rfl
  exact W.vret hx hb hr (fun t9 ht9 hW9 => ⟨⟨(), rfl, trivial, fs0_3, f_2, L_fs0_3, g_fs0_3_0, g_fs0_3_1, by rw [ht9]; exact hP9, va_K.moved hW9.alike hK9, hD9⟩, hS.F ht9⟩) hS.2.2 dX0_put_51
set_option maxHeartbeats 4000000 in
set_option maxRecDepth 100000 in
theorem m_X0_put2 (l : Launch) (dC : Nat → ClassId) (dI : Nat → Nat → Nat) (sz : Nat) (h0 : Nat) (fs0 : List Value) (hd : Nat) (cB : ClassId) (f : Nat → Int32) (n : Int32) (b : Int32) (L_fs0 : fs0.length = 2) (g_fs0_0 : fs0[0]? = some (.ref hd)) (g_fs0_1 : fs0[1]? = some (.int n)) (hn : bk n = true) (hn1 : bk (n + 1) = true) : Met l yX0_put2 (wt yX0_put2 cX0_put2 2 none) ({ frames := 1, cells := 0, slots := 0, locals := 21 }) (va_Pc [.ref h0, .int b] (st_U dC dI sz [(h0, .inr (0, fs0)), (hd, .inl (cB, 64, .inl f))] [(cB, .byte)])) (va_Qv (fun _ : Unit => True) (fun (_ : Unit) (t : State) => ∃ (fs1 : List Value), ∃ (f1 : Nat → Int32), (fs1.length = 2) ∧ (fs1[0]? = some (.ref hd)) ∧ (fs1[1]? = some (.int ((n + 1) + 1))) ∧ va_P (dC, dI) cl0 [(h0, .inr (0, fs1)), (hd, .inl (cB, 64, .inl f1))] t.heap ∧ va_K (dC, dI) cl0 [(cB, .byte)] t ∧ va_D (va_A [(h0, .inr (0, fs0)), (hd, .inl (cB, 64, .inl f))] sz) [(h0, .inr (0, fs1)), (hd, .inl (cB, 64, .inl f1))]) (va_A [(h0, .inr (0, fs0)), (hd, .inl (cB, 64, .inl f))] sz)) 0 0 (va_A [(h0, .inr (0, fs0)), (hd, .inl (cB, 64, .inl f))] sz) := by
  refine Met.ofW (cc := cX0_put2) (maxL := 2) (ret := none) (by decide) rfl ?_
  intro p e s m args below meth c s₁ B hml hv
  obtain ⟨rfl, hsz, hP, hK, hD0, hex⟩ := hv
  have hx := B.exec
  have hb := B.bytes
  have hr := B.returns
  have hts0 := atoms_spec (ws := wt yX0_put2 cX0_put2 2 none) B.pre
  have hts : ∀ w ∈ tb, w.before _ s = true := fun w h => hts0 w (List.mem_cons_of_mem _ h)
  have hown : s.vm.findClass RX0 = some m.cls := findClass_of_methodNamed B.named
  have hlocks := B.notSynchronized
  subst hsz
  have hD := hD0.self (sz := s.heap.size)
  generalize hAe : va_A [(h0, .inr (0, fs0)), (hd, .inl (cB, 64, .inl f))] s.heap.size = A at hD ⊢
  have hA : ∀ q : Nat, s.heap.size ≤ q → A q := fun q h => by rw [← hAe]; exact Or.inr h
  have hS : va_S A s.heap s.heap [] := va_S.rf
  have hl := lv_entry ([.ref h0, .int b]) (n := 2) (Nat.le_of_ble_eq_true rfl)
  rw [lg_entry_eq]
  generalize (lg_sl ([.ref h0, .int b]) ++ List.replicate (2 - (lg_sl ([.ref h0, .int b])).length) Slot.unset).toArray = ls at hl ⊢
  have hl : lv_has ls 2 [(0, .ref h0), (1, .int b)] := hl
  refine lv_aload_n hx hb dX0_put2_0 rfl (lv_at hl 0 rfl) ?_
  refine lv_iload_n hx hb dX0_put2_1 rfl (lv_at hl 1 rfl) ?_
  refine lv_bipush (v := 8) hx hb dX0_put2_2 (by decide) ?_
  refine lv_ishr hx hb dX0_put2_4 ?_
  refine lv_topi (fun z_1 ez_1 => ?_)
  have hPc := hP.sub (ws' := [(h0, .inr (0, fs0)), (hd, .inl (cB, 64, .inl f))]) [0, 1] rfl
  have hDc := hD.sub (ws' := [(h0, .inr (0, fs0)), (hd, .inl (cB, 64, .inl f))]) [0, 1] (by decide) rfl
  have hKc := hK.sub (tys' := [(cB, .byte)]) [0] rfl
  have hFc := va_free (wc := [(h0, .inr (0, fs0)), (hd, .inl (cB, 64, .inl f))]) hD hS hA [0, 1] rfl
  refine va_callv (va_runV (As := [.int z_1]) (rest := []) ⟨hx, hb, hml, hown, hts⟩ (m_X0_put l dC dI s.heap.size h0 fs0 hd cB f n z_1 L_fs0 g_fs0_0 g_fs0_1 hn) (cwV 1 hts (gd_V kw_149 kw_150 kw_151 kw_49 kw_152) rfl rfl rfl (by decide +kernel) ⟨Nat.le_of_ble_eq_true rfl, Nat.le_of_ble_eq_true rfl⟩) ⟨st_blind, va_recv hKc hPc (ci := 0) (q0 := 0) rfl rfl, fun U hU hW9 => st_mk hU hW9 hPc hKc hDc hex⟩ rfl rfl hl.1 rfl (lv_room (Nat.le_of_ble_eq_true rfl)) dX0_put2_5 ⟨Nat.le_of_ble_eq_true rfl, Nat.le_of_ble_eq_true rfl⟩) hS (fun q _ h => hFc q h) hFc (fun  u9 t9 H1 locs ht9 hvm9 hw9 hB9 hz9 hk9 hS => ?_)
  obtain ⟨fs1_2, f1_3, L_fs1_2, g_fs1_2_0, g_fs1_2_1, hP1, hK1, hD1⟩ := hB9
  rw [ht9] at hP1
  have hK1 := va_K.moved hvm9.symm hK1
  obtain ⟨hP, hD⟩ := va_join (wr := []) (w1 := [(h0, .inr (0, fs1_2)), (hd, .inl (cB, 64, .inl f1_3))]) hP hD [0, 1] [] rfl rfl (by decide) (by decide) hk9 hFc hP1 hD1
  have hK := (hK.sub (tys' := [(cB, .byte)]) [0] rfl).app hK1
  generalize H1 = H at hP hS ⊢
  have hP : va_P (dC, dI) cl0 [(h0, .inr (0, fs1_2)), (hd, .inl (cB, 64, .inl f1_3))] H := hP
  have hD : va_D A [(h0, .inr (0, fs1_2)), (hd, .inl (cB, 64, .inl f1_3))] := hD
  have hK : va_K (dC, dI) cl0 [(cB, .byte), (cB, .byte)] s := hK
  have hK := hK.sub (tys' := [(cB, .byte)]) [0] rfl
  refine lv_aload_n hx hb dX0_put2_8 rfl (lv_at hl 0 rfl) ?_
  refine lv_iload_n hx hb dX0_put2_9 rfl (lv_at hl 1 rfl) ?_
  have hPc := hP.sub (ws' := [(h0, .inr (0, fs1_2)), (hd, .inl (cB, 64, .inl f1_3))]) [0, 1] rfl
  have hDc := hD.sub (ws' := [(h0, .inr (0, fs1_2)), (hd, .inl (cB, 64, .inl f1_3))]) [0, 1] (by decide) rfl
  have hKc := hK.sub (tys' := [(cB, .byte)]) [0] rfl
  have hFc := va_free (wc := [(h0, .inr (0, fs1_2)), (hd, .inl (cB, 64, .inl f1_3))]) hD hS hA [0, 1] rfl
  refine va_callv (va_runV (As := [.int b]) (rest := []) ⟨hx, hb, hml, hown, hts⟩ (m_X0_put l dC dI H.size h0 fs1_2 hd cB f1_3 ((n + 1)) b L_fs1_2 g_fs1_2_0 g_fs1_2_1 hn1) (cwV 1 hts (gd_V kw_149 kw_150 kw_151 kw_49 kw_152) rfl rfl rfl (by decide +kernel) ⟨Nat.le_of_ble_eq_true rfl, Nat.le_of_ble_eq_true rfl⟩) ⟨st_blind, va_recv hKc hPc (ci := 0) (q0 := 0) rfl rfl, fun U hU hW9 => st_mk hU hW9 hPc hKc hDc hex⟩ rfl rfl hl.1 rfl (lv_room (Nat.le_of_ble_eq_true rfl)) dX0_put2_10 ⟨Nat.le_of_ble_eq_true rfl, Nat.le_of_ble_eq_true rfl⟩) hS (fun q _ h => hFc q h) hFc (fun  u9 t9 H1 locs ht9 hvm9 hw9 hB9 hz9 hk9 hS => ?_)
  obtain ⟨fs1_4, f1_5, L_fs1_4, g_fs1_4_0, g_fs1_4_1, hP1, hK1, hD1⟩ := hB9
  rw [ht9] at hP1
  have hK1 := va_K.moved hvm9.symm hK1
  obtain ⟨hP, hD⟩ := va_join (wr := []) (w1 := [(h0, .inr (0, fs1_4)), (hd, .inl (cB, 64, .inl f1_5))]) hP hD [0, 1] [] rfl rfl (by decide) (by decide) hk9 hFc hP1 hD1
  have hK := (hK.sub (tys' := [(cB, .byte)]) [0] rfl).app hK1
  generalize H1 = H at hP hS ⊢
  have hP : va_P (dC, dI) cl0 [(h0, .inr (0, fs1_4)), (hd, .inl (cB, 64, .inl f1_5))] H := hP
  have hD : va_D A [(h0, .inr (0, fs1_4)), (hd, .inl (cB, 64, .inl f1_5))] := hD
  have hK : va_K (dC, dI) cl0 [(cB, .byte), (cB, .byte)] s := hK
  have hK := hK.sub (tys' := [(cB, .byte)]) [0] rfl
  refine W.widen (k := 0) (n := 0) (Nat.le_of_ble_eq_true rfl) (Nat.le_of_ble_eq_true rfl) ?_
  have hP9 := hP.sub (ws' := [(h0, .inr (0, fs1_4)), (hd, .inl (cB, 64, .inl f1_5))]) [0, 1] rfl
  have hD9 := hD.sub (ws' := [(h0, .inr (0, fs1_4)), (hd, .inl (cB, 64, .inl f1_5))]) [0, 1] (by decide) rfl
  have hK9 := hK.sub (tys' := [(cB, .byte)]) [0] rfl
  exact W.vret hx hb hr (fun t9 ht9 hW9 => ⟨⟨(), rfl, trivial, fs1_4, f1_5, L_fs1_4, g_fs1_4_0, g_fs1_4_1, by rw [ht9]; exact hP9, va_K.moved hW9.alike hK9, hD9⟩, hS.F ht9⟩) hS.2.2 dX0_put2_13
set_option maxHeartbeats 4000000 in
set_option maxRecDepth 100000 in
theorem m_X0_put4 (l : Launch) (dC : Nat → ClassId) (dI : Nat → Nat → Nat) (sz : Nat) (h0 : Nat) (fs0 : List Value) (hd : Nat) (cB : ClassId) (f : Nat → Int32) (n : Int32) (b : Int32) (L_fs0 : fs0.length = 2) (g_fs0_0 : fs0[0]? = some (.ref hd)) (g_fs0_1 : fs0[1]? = some (.int n)) (hn : bk n = true) (hn1 : bk (n + 1) = true) (hn2 : bk ((n + 1) + 1) = true) (hn3 : bk (((n + 1) + 1) + 1) = true) : Met l yX0_put4 (wt yX0_put4 cX0_put4 2 none) ({ frames := 2, cells := 0, slots := 0, locals := 42 }) (va_Pc [.ref h0, .int b] (st_U dC dI sz [(h0, .inr (0, fs0)), (hd, .inl (cB, 64, .inl f))] [(cB, .byte)])) (va_Qv (fun _ : Unit => True) (fun (_ : Unit) (t : State) => ∃ (fs1 : List Value), ∃ (f1 : Nat → Int32), (fs1.length = 2) ∧ (fs1[0]? = some (.ref hd)) ∧ (fs1[1]? = some (.int ((((n + 1) + 1) + 1) + 1))) ∧ va_P (dC, dI) cl0 [(h0, .inr (0, fs1)), (hd, .inl (cB, 64, .inl f1))] t.heap ∧ va_K (dC, dI) cl0 [(cB, .byte)] t ∧ va_D (va_A [(h0, .inr (0, fs0)), (hd, .inl (cB, 64, .inl f))] sz) [(h0, .inr (0, fs1)), (hd, .inl (cB, 64, .inl f1))]) (va_A [(h0, .inr (0, fs0)), (hd, .inl (cB, 64, .inl f))] sz)) 0 0 (va_A [(h0, .inr (0, fs0)), (hd, .inl (cB, 64, .inl f))] sz) := by
  refine Met.ofW (cc := cX0_put4) (maxL := 2) (ret := none) (by decide) rfl ?_
  intro p e s m args below meth c s₁ B hml hv
  obtain ⟨rfl, hsz, hP, hK, hD0, hex⟩ := hv
  have hx := B.exec
  have hb := B.bytes
  have hr := B.returns
  have hts0 := atoms_spec (ws := wt yX0_put4 cX0_put4 2 none) B.pre
  have hts : ∀ w ∈ tb, w.before _ s = true := fun w h => hts0 w (List.mem_cons_of_mem _ h)
  have hown : s.vm.findClass RX0 = some m.cls := findClass_of_methodNamed B.named
  have hlocks := B.notSynchronized
  subst hsz
  have hD := hD0.self (sz := s.heap.size)
  generalize hAe : va_A [(h0, .inr (0, fs0)), (hd, .inl (cB, 64, .inl f))] s.heap.size = A at hD ⊢
  have hA : ∀ q : Nat, s.heap.size ≤ q → A q := fun q h => by rw [← hAe]; exact Or.inr h
  have hS : va_S A s.heap s.heap [] := va_S.rf
  have hl := lv_entry ([.ref h0, .int b]) (n := 2) (Nat.le_of_ble_eq_true rfl)
  rw [lg_entry_eq]
  generalize (lg_sl ([.ref h0, .int b]) ++ List.replicate (2 - (lg_sl ([.ref h0, .int b])).length) Slot.unset).toArray = ls at hl ⊢
  have hl : lv_has ls 2 [(0, .ref h0), (1, .int b)] := hl
  refine lv_aload_n hx hb dX0_put4_0 rfl (lv_at hl 0 rfl) ?_
  refine lv_iload_n hx hb dX0_put4_1 rfl (lv_at hl 1 rfl) ?_
  refine lv_bipush (v := 16) hx hb dX0_put4_2 (by decide) ?_
  refine lv_ishr hx hb dX0_put4_4 ?_
  refine lv_topi (fun z_1 ez_1 => ?_)
  have hPc := hP.sub (ws' := [(h0, .inr (0, fs0)), (hd, .inl (cB, 64, .inl f))]) [0, 1] rfl
  have hDc := hD.sub (ws' := [(h0, .inr (0, fs0)), (hd, .inl (cB, 64, .inl f))]) [0, 1] (by decide) rfl
  have hKc := hK.sub (tys' := [(cB, .byte)]) [0] rfl
  have hFc := va_free (wc := [(h0, .inr (0, fs0)), (hd, .inl (cB, 64, .inl f))]) hD hS hA [0, 1] rfl
  refine va_callv (va_runV (As := [.int z_1]) (rest := []) ⟨hx, hb, hml, hown, hts⟩ (m_X0_put2 l dC dI s.heap.size h0 fs0 hd cB f n z_1 L_fs0 g_fs0_0 g_fs0_1 hn hn1) (cwV 1 hts (gd_V kw_153 kw_154 kw_155 kw_49 kw_156) rfl rfl rfl (by decide +kernel) ⟨Nat.le_of_ble_eq_true rfl, Nat.le_of_ble_eq_true rfl⟩) ⟨st_blind, va_recv hKc hPc (ci := 0) (q0 := 0) rfl rfl, fun U hU hW9 => st_mk hU hW9 hPc hKc hDc hex⟩ rfl rfl hl.1 rfl (lv_room (Nat.le_of_ble_eq_true rfl)) dX0_put4_5 ⟨Nat.le_of_ble_eq_true rfl, Nat.le_of_ble_eq_true rfl⟩) hS (fun q _ h => hFc q h) hFc (fun  u9 t9 H1 locs ht9 hvm9 hw9 hB9 hz9 hk9 hS => ?_)
  obtain ⟨fs1_2, f1_3, L_fs1_2, g_fs1_2_0, g_fs1_2_1, hP1, hK1, hD1⟩ := hB9
  rw [ht9] at hP1
  have hK1 := va_K.moved hvm9.symm hK1
  obtain ⟨hP, hD⟩ := va_join (wr := []) (w1 := [(h0, .inr (0, fs1_2)), (hd, .inl (cB, 64, .inl f1_3))]) hP hD [0, 1] [] rfl rfl (by decide) (by decide) hk9 hFc hP1 hD1
  have hK := (hK.sub (tys' := [(cB, .byte)]) [0] rfl).app hK1
  generalize H1 = H at hP hS ⊢
  have hP : va_P (dC, dI) cl0 [(h0, .inr (0, fs1_2)), (hd, .inl (cB, 64, .inl f1_3))] H := hP
  have hD : va_D A [(h0, .inr (0, fs1_2)), (hd, .inl (cB, 64, .inl f1_3))] := hD
  have hK : va_K (dC, dI) cl0 [(cB, .byte), (cB, .byte)] s := hK
  have hK := hK.sub (tys' := [(cB, .byte)]) [0] rfl
  refine lv_aload_n hx hb dX0_put4_8 rfl (lv_at hl 0 rfl) ?_
  refine lv_iload_n hx hb dX0_put4_9 rfl (lv_at hl 1 rfl) ?_
  have hPc := hP.sub (ws' := [(h0, .inr (0, fs1_2)), (hd, .inl (cB, 64, .inl f1_3))]) [0, 1] rfl
  have hDc := hD.sub (ws' := [(h0, .inr (0, fs1_2)), (hd, .inl (cB, 64, .inl f1_3))]) [0, 1] (by decide) rfl
  have hKc := hK.sub (tys' := [(cB, .byte)]) [0] rfl
  have hFc := va_free (wc := [(h0, .inr (0, fs1_2)), (hd, .inl (cB, 64, .inl f1_3))]) hD hS hA [0, 1] rfl
  refine va_callv (va_runV (As := [.int b]) (rest := []) ⟨hx, hb, hml, hown, hts⟩ (m_X0_put2 l dC dI H.size h0 fs1_2 hd cB f1_3 (((n + 1) + 1)) b L_fs1_2 g_fs1_2_0 g_fs1_2_1 hn2 hn3) (cwV 1 hts (gd_V kw_153 kw_154 kw_155 kw_49 kw_156) rfl rfl rfl (by decide +kernel) ⟨Nat.le_of_ble_eq_true rfl, Nat.le_of_ble_eq_true rfl⟩) ⟨st_blind, va_recv hKc hPc (ci := 0) (q0 := 0) rfl rfl, fun U hU hW9 => st_mk hU hW9 hPc hKc hDc hex⟩ rfl rfl hl.1 rfl (lv_room (Nat.le_of_ble_eq_true rfl)) dX0_put4_10 ⟨Nat.le_of_ble_eq_true rfl, Nat.le_of_ble_eq_true rfl⟩) hS (fun q _ h => hFc q h) hFc (fun  u9 t9 H1 locs ht9 hvm9 hw9 hB9 hz9 hk9 hS => ?_)
  obtain ⟨fs1_4, f1_5, L_fs1_4, g_fs1_4_0, g_fs1_4_1, hP1, hK1, hD1⟩ := hB9
  rw [ht9] at hP1
  have hK1 := va_K.moved hvm9.symm hK1
  obtain ⟨hP, hD⟩ := va_join (wr := []) (w1 := [(h0, .inr (0, fs1_4)), (hd, .inl (cB, 64, .inl f1_5))]) hP hD [0, 1] [] rfl rfl (by decide) (by decide) hk9 hFc hP1 hD1
  have hK := (hK.sub (tys' := [(cB, .byte)]) [0] rfl).app hK1
  generalize H1 = H at hP hS ⊢
  have hP : va_P (dC, dI) cl0 [(h0, .inr (0, fs1_4)), (hd, .inl (cB, 64, .inl f1_5))] H := hP
  have hD : va_D A [(h0, .inr (0, fs1_4)), (hd, .inl (cB, 64, .inl f1_5))] := hD
  have hK : va_K (dC, dI) cl0 [(cB, .byte), (cB, .byte)] s := hK
  have hK := hK.sub (tys' := [(cB, .byte)]) [0] rfl
  refine W.widen (k := 0) (n := 0) (Nat.le_of_ble_eq_true rfl) (Nat.le_of_ble_eq_true rfl) ?_
  have hP9 := hP.sub (ws' := [(h0, .inr (0, fs1_4)), (hd, .inl (cB, 64, .inl f1_5))]) [0, 1] rfl
  have hD9 := hD.sub (ws' := [(h0, .inr (0, fs1_4)), (hd, .inl (cB, 64, .inl f1_5))]) [0, 1] (by decide) rfl
  have hK9 := hK.sub (tys' := [(cB, .byte)]) [0] rfl
  exact W.vret hx hb hr (fun t9 ht9 hW9 => ⟨⟨(), rfl, trivial, fs1_4, f1_5, L_fs1_4, g_fs1_4_0, g_fs1_4_1, by rw [ht9]; exact hP9, va_K.moved hW9.alike hK9, hD9⟩, hS.F ht9⟩) hS.2.2 dX0_put4_13
set_option maxHeartbeats 4000000 in
set_option maxRecDepth 100000 in
theorem m_X12_feed (l : Launch) (dC : Nat → ClassId) (dI : Nat → Nat → Nat) (sz : Nat) (h0 : Nat) (fx : List Value) (ht : Nat) (ft : List Value) (htd : Nat) (cB : ClassId) (a : Int32) (b : Int32) (c0 : Int32) (d : Int32) (e0 : Int32) (L_fx : fx.length = 18) (g_fx_0 : fx[0]? = some (.ref ht)) (g_fx_10 : fx[10]? = some (.int 0)) (L_ft : ft.length = 2) (g_ft_0 : ft[0]? = some (.ref htd)) (g_ft_1 : ft[1]? = some (.int 0)) : Met l yX12_feed (wt yX12_feed cX12_feed 6 (some .int)) ({ frames := 3, cells := 0, slots := 0, locals := 63 }) (va_Pc [.ref h0, .int a, .int b, .int c0, .int d, .int e0] (st_U dC dI sz [(h0, .inr (10, fx)), (ht, .inr (0, ft)), (htd, .inl (cB, 64, .inl (fun _ => 0)))] [(cB, .byte)])) (va_Qi (fun (r : Int32) (_ : Unit) => r = 20) (fun (_ : Unit) (_ : State) => True) (va_A [(h0, .inr (10, fx)), (ht, .inr (0, ft)), (htd, .inl (cB, 64, .inl (fun _ => 0)))] sz)) 0 0 (va_A [(h0, .inr (10, fx)), (ht, .inr (0, ft)), (htd, .inl (cB, 64, .inl (fun _ => 0)))] sz) := by
  refine Met.ofW (cc := cX12_feed) (maxL := 6) (ret := (some .int)) (by decide) rfl ?_
  intro p e s m args below meth c s₁ B hml hv
  obtain ⟨rfl, hsz, hP, hK, hD0, hex⟩ := hv
  have hx := B.exec
  have hb := B.bytes
  have hr := B.returns
  have hts0 := atoms_spec (ws := wt yX12_feed cX12_feed 6 (some .int)) B.pre
  have hts : ∀ w ∈ tb, w.before _ s = true := fun w h => hts0 w (List.mem_cons_of_mem _ h)
  have hown : s.vm.findClass RX12 = some m.cls := findClass_of_methodNamed B.named
  have hlocks := B.notSynchronized
  subst hsz
  have hD := hD0.self (sz := s.heap.size)
  generalize hAe : va_A [(h0, .inr (10, fx)), (ht, .inr (0, ft)), (htd, .inl (cB, 64, .inl (fun _ => 0)))] s.heap.size = A at hD ⊢
  have hA : ∀ q : Nat, s.heap.size ≤ q → A q := fun q h => by rw [← hAe]; exact Or.inr h
  have hS : va_S A s.heap s.heap [] := va_S.rf
  have hl := lv_entry ([.ref h0, .int a, .int b, .int c0, .int d, .int e0]) (n := 6) (Nat.le_of_ble_eq_true rfl)
  rw [lg_entry_eq]
  generalize (lg_sl ([.ref h0, .int a, .int b, .int c0, .int d, .int e0]) ++ List.replicate (6 - (lg_sl ([.ref h0, .int a, .int b, .int c0, .int d, .int e0])).length) Slot.unset).toArray = ls at hl ⊢
  have hl : lv_has ls 6 [(0, .ref h0), (1, .int a), (2, .int b), (3, .int c0), (4, .int d), (5, .int e0)] := hl
  refine lv_aload_n hx hb dX12_feed_0 rfl (lv_at hl 0 rfl) ?_
  refine va_get (D := (dC, dI)) (ci := 10) (v := .ref ht) (C := RX12) (T := TX12) (N := 18) hx hb hts inX12 hown hK hP 0 rfl rfl 0 (by decide) (hts _ kw_103) (fun _ h9 => h9) g_fx_0 dX12_feed_1 ?_
  refine va_get (D := (dC, dI)) (ci := 0) (v := .int 0) (C := RX0) (T := TX0) (N := 2) hx hb hts inX0 hown hK hP 1 rfl rfl 1 (by decide) (hts _ kw_157) (fun _ h9 => h9) g_ft_1 dX12_feed_4 ?_
  refine lv_bipush (v := 20) hx hb dX12_feed_7 (by decide) ?_
  refine lv_iadd hx hb dX12_feed_9 ?_
  refine lv_topi (fun z_1 ez_1 => ?_)
  obtain rfl : z_1 = 20 := ez_1.trans (by decide)
  refine lv_sipush (v := 16000) hx hb dX12_feed_10 (by decide) ?_
  refine lv_icmp_gt (tgt := 28) hx hb dX12_feed_13 (by decide) (fun c9 => absurd c9 (by decide)) (fun _ => ?_)
  refine lv_aload_n hx hb dX12_feed_16 rfl (lv_at hl 0 rfl) ?_
  refine va_get (D := (dC, dI)) (ci := 10) (v := .int 0) (C := RX12) (T := TX12) (N := 18) hx hb hts inX12 hown hK hP 0 rfl rfl 10 (by decide) (hts _ kw_158) (fun _ h9 => h9) g_fx_10 dX12_feed_17 ?_
  refine lv_bipush (v := 20) hx hb dX12_feed_20 (by decide) ?_
  refine lv_iadd hx hb dX12_feed_22 ?_
  refine lv_topi (fun z_2 ez_2 => ?_)
  obtain rfl : z_2 = 20 := ez_2.trans (by decide)
  refine lv_ldc hx hb hown (hts _ kw_159) dX12_feed_23 ?_
  refine lv_icmp_le (tgt := 30) hx hb dX12_feed_25 (by decide) (fun _ => ?_) (fun c9 => absurd (by decide) c9)
  refine lv_aload_n hx hb dX12_feed_30 rfl (lv_at hl 0 rfl) ?_
  refine va_get (D := (dC, dI)) (ci := 10) (v := .ref ht) (C := RX12) (T := TX12) (N := 18) hx hb hts inX12 hown hK hP 0 rfl rfl 0 (by decide) (hts _ kw_103) (fun _ h9 => h9) g_fx_0 dX12_feed_31 ?_
  refine lv_iload_n hx hb dX12_feed_34 rfl (lv_at hl 1 rfl) ?_
  have hPc := hP.sub (ws' := [(ht, .inr (0, ft)), (htd, .inl (cB, 64, .inl (fun _ => 0)))]) [1, 2] rfl
  have hDc := hD.sub (ws' := [(ht, .inr (0, ft)), (htd, .inl (cB, 64, .inl (fun _ => 0)))]) [1, 2] (by decide) rfl
  have hKc := hK.sub (tys' := [(cB, .byte)]) [0] rfl
  have hFc := va_free (wc := [(ht, .inr (0, ft)), (htd, .inl (cB, 64, .inl (fun _ => 0)))]) hD hS hA [1, 2] rfl
  refine va_callv (va_runV (As := [.int a]) (rest := []) ⟨hx, hb, hml, hown, hts⟩ (m_X0_put4 l dC dI s.heap.size ht ft htd cB ((fun _ => 0)) 0 a L_ft g_ft_0 g_ft_1 (by decide) (by decide) (by decide) (by decide)) (cwV 1 hts (gd_V kw_160 kw_161 kw_162 kw_49 kw_163) rfl rfl rfl (by decide +kernel) ⟨Nat.le_of_ble_eq_true rfl, Nat.le_of_ble_eq_true rfl⟩) ⟨st_blind, va_recv hKc hPc (ci := 0) (q0 := 0) rfl rfl, fun U hU hW9 => st_mk hU hW9 hPc hKc hDc hex⟩ rfl rfl hl.1 rfl (lv_room (Nat.le_of_ble_eq_true rfl)) dX12_feed_35 ⟨Nat.le_of_ble_eq_true rfl, Nat.le_of_ble_eq_true rfl⟩) hS (fun q _ h => hFc q h) hFc (fun  u9 t9 H1 locs ht9 hvm9 hw9 hB9 hz9 hk9 hS => ?_)
  obtain ⟨fs1_3, f1_4, L_fs1_3, g_fs1_3_0, g_fs1_3_1, hP1, hK1, hD1⟩ := hB9
  rw [ht9] at hP1
  have hK1 := va_K.moved hvm9.symm hK1
  obtain ⟨hP, hD⟩ := va_join (wr := [(h0, .inr (10, fx))]) (w1 := [(ht, .inr (0, fs1_3)), (htd, .inl (cB, 64, .inl f1_4))]) hP hD [1, 2] [0] rfl rfl (by decide) (by decide) hk9 hFc hP1 hD1
  have hK := (hK.sub (tys' := [(cB, .byte)]) [0] rfl).app hK1
  generalize H1 = H at hP hS ⊢
  have hP : va_P (dC, dI) cl0 [(h0, .inr (10, fx)), (ht, .inr (0, fs1_3)), (htd, .inl (cB, 64, .inl f1_4))] H := hP
  have hD : va_D A [(h0, .inr (10, fx)), (ht, .inr (0, fs1_3)), (htd, .inl (cB, 64, .inl f1_4))] := hD
  have hK : va_K (dC, dI) cl0 [(cB, .byte), (cB, .byte)] s := hK
  have hK := hK.sub (tys' := [(cB, .byte)]) [0] rfl
  refine lv_aload_n hx hb dX12_feed_38 rfl (lv_at hl 0 rfl) ?_
  refine va_get (D := (dC, dI)) (ci := 10) (v := .ref ht) (C := RX12) (T := TX12) (N := 18) hx hb hts inX12 hown hK hP 0 rfl rfl 0 (by decide) (hts _ kw_103) (fun _ h9 => h9) g_fx_0 dX12_feed_39 ?_
  refine lv_iload_n hx hb dX12_feed_42 rfl (lv_at hl 2 rfl) ?_
  have hPc := hP.sub (ws' := [(ht, .inr (0, fs1_3)), (htd, .inl (cB, 64, .inl f1_4))]) [1, 2] rfl
  have hDc := hD.sub (ws' := [(ht, .inr (0, fs1_3)), (htd, .inl (cB, 64, .inl f1_4))]) [1, 2] (by decide) rfl
  have hKc := hK.sub (tys' := [(cB, .byte)]) [0] rfl
  have hFc := va_free (wc := [(ht, .inr (0, fs1_3)), (htd, .inl (cB, 64, .inl f1_4))]) hD hS hA [1, 2] rfl
  refine va_callv (va_runV (As := [.int b]) (rest := []) ⟨hx, hb, hml, hown, hts⟩ (m_X0_put4 l dC dI H.size ht fs1_3 htd cB f1_4 (((((0 + 1) + 1) + 1) + 1)) b L_fs1_3 g_fs1_3_0 g_fs1_3_1 (by decide) (by decide) (by decide) (by decide)) (cwV 1 hts (gd_V kw_160 kw_161 kw_162 kw_49 kw_163) rfl rfl rfl (by decide +kernel) ⟨Nat.le_of_ble_eq_true rfl, Nat.le_of_ble_eq_true rfl⟩) ⟨st_blind, va_recv hKc hPc (ci := 0) (q0 := 0) rfl rfl, fun U hU hW9 => st_mk hU hW9 hPc hKc hDc hex⟩ rfl rfl hl.1 rfl (lv_room (Nat.le_of_ble_eq_true rfl)) dX12_feed_43 ⟨Nat.le_of_ble_eq_true rfl, Nat.le_of_ble_eq_true rfl⟩) hS (fun q _ h => hFc q h) hFc (fun  u9 t9 H1 locs ht9 hvm9 hw9 hB9 hz9 hk9 hS => ?_)
  obtain ⟨fs1_5, f1_6, L_fs1_5, g_fs1_5_0, g_fs1_5_1, hP1, hK1, hD1⟩ := hB9
  rw [ht9] at hP1
  have hK1 := va_K.moved hvm9.symm hK1
  obtain ⟨hP, hD⟩ := va_join (wr := [(h0, .inr (10, fx))]) (w1 := [(ht, .inr (0, fs1_5)), (htd, .inl (cB, 64, .inl f1_6))]) hP hD [1, 2] [0] rfl rfl (by decide) (by decide) hk9 hFc hP1 hD1
  have hK := (hK.sub (tys' := [(cB, .byte)]) [0] rfl).app hK1
  generalize H1 = H at hP hS ⊢
  have hP : va_P (dC, dI) cl0 [(h0, .inr (10, fx)), (ht, .inr (0, fs1_5)), (htd, .inl (cB, 64, .inl f1_6))] H := hP
  have hD : va_D A [(h0, .inr (10, fx)), (ht, .inr (0, fs1_5)), (htd, .inl (cB, 64, .inl f1_6))] := hD
  have hK : va_K (dC, dI) cl0 [(cB, .byte), (cB, .byte)] s := hK
  have hK := hK.sub (tys' := [(cB, .byte)]) [0] rfl
  refine lv_aload_n hx hb dX12_feed_46 rfl (lv_at hl 0 rfl) ?_
  refine va_get (D := (dC, dI)) (ci := 10) (v := .ref ht) (C := RX12) (T := TX12) (N := 18) hx hb hts inX12 hown hK hP 0 rfl rfl 0 (by decide) (hts _ kw_103) (fun _ h9 => h9) g_fx_0 dX12_feed_47 ?_
  refine lv_iload_n hx hb dX12_feed_50 rfl (lv_at hl 3 rfl) ?_
  have hPc := hP.sub (ws' := [(ht, .inr (0, fs1_5)), (htd, .inl (cB, 64, .inl f1_6))]) [1, 2] rfl
  have hDc := hD.sub (ws' := [(ht, .inr (0, fs1_5)), (htd, .inl (cB, 64, .inl f1_6))]) [1, 2] (by decide) rfl
  have hKc := hK.sub (tys' := [(cB, .byte)]) [0] rfl
  have hFc := va_free (wc := [(ht, .inr (0, fs1_5)), (htd, .inl (cB, 64, .inl f1_6))]) hD hS hA [1, 2] rfl
  refine va_callv (va_runV (As := [.int c0]) (rest := []) ⟨hx, hb, hml, hown, hts⟩ (m_X0_put4 l dC dI H.size ht fs1_5 htd cB f1_6 (((((((((0 + 1) + 1) + 1) + 1) + 1) + 1) + 1) + 1)) c0 L_fs1_5 g_fs1_5_0 g_fs1_5_1 (by decide) (by decide) (by decide) (by decide)) (cwV 1 hts (gd_V kw_160 kw_161 kw_162 kw_49 kw_163) rfl rfl rfl (by decide +kernel) ⟨Nat.le_of_ble_eq_true rfl, Nat.le_of_ble_eq_true rfl⟩) ⟨st_blind, va_recv hKc hPc (ci := 0) (q0 := 0) rfl rfl, fun U hU hW9 => st_mk hU hW9 hPc hKc hDc hex⟩ rfl rfl hl.1 rfl (lv_room (Nat.le_of_ble_eq_true rfl)) dX12_feed_51 ⟨Nat.le_of_ble_eq_true rfl, Nat.le_of_ble_eq_true rfl⟩) hS (fun q _ h => hFc q h) hFc (fun  u9 t9 H1 locs ht9 hvm9 hw9 hB9 hz9 hk9 hS => ?_)
  obtain ⟨fs1_7, f1_8, L_fs1_7, g_fs1_7_0, g_fs1_7_1, hP1, hK1, hD1⟩ := hB9
  rw [ht9] at hP1
  have hK1 := va_K.moved hvm9.symm hK1
  obtain ⟨hP, hD⟩ := va_join (wr := [(h0, .inr (10, fx))]) (w1 := [(ht, .inr (0, fs1_7)), (htd, .inl (cB, 64, .inl f1_8))]) hP hD [1, 2] [0] rfl rfl (by decide) (by decide) hk9 hFc hP1 hD1
  have hK := (hK.sub (tys' := [(cB, .byte)]) [0] rfl).app hK1
  generalize H1 = H at hP hS ⊢
  have hP : va_P (dC, dI) cl0 [(h0, .inr (10, fx)), (ht, .inr (0, fs1_7)), (htd, .inl (cB, 64, .inl f1_8))] H := hP
  have hD : va_D A [(h0, .inr (10, fx)), (ht, .inr (0, fs1_7)), (htd, .inl (cB, 64, .inl f1_8))] := hD
  have hK : va_K (dC, dI) cl0 [(cB, .byte), (cB, .byte)] s := hK
  have hK := hK.sub (tys' := [(cB, .byte)]) [0] rfl
  refine lv_aload_n hx hb dX12_feed_54 rfl (lv_at hl 0 rfl) ?_
  refine va_get (D := (dC, dI)) (ci := 10) (v := .ref ht) (C := RX12) (T := TX12) (N := 18) hx hb hts inX12 hown hK hP 0 rfl rfl 0 (by decide) (hts _ kw_103) (fun _ h9 => h9) g_fx_0 dX12_feed_55 ?_
  refine lv_iload hx hb dX12_feed_58 (lv_at hl 4 rfl) ?_
  have hPc := hP.sub (ws' := [(ht, .inr (0, fs1_7)), (htd, .inl (cB, 64, .inl f1_8))]) [1, 2] rfl
  have hDc := hD.sub (ws' := [(ht, .inr (0, fs1_7)), (htd, .inl (cB, 64, .inl f1_8))]) [1, 2] (by decide) rfl
  have hKc := hK.sub (tys' := [(cB, .byte)]) [0] rfl
  have hFc := va_free (wc := [(ht, .inr (0, fs1_7)), (htd, .inl (cB, 64, .inl f1_8))]) hD hS hA [1, 2] rfl
  refine va_callv (va_runV (As := [.int d]) (rest := []) ⟨hx, hb, hml, hown, hts⟩ (m_X0_put4 l dC dI H.size ht fs1_7 htd cB f1_8 (((((((((((((0 + 1) + 1) + 1) + 1) + 1) + 1) + 1) + 1) + 1) + 1) + 1) + 1)) d L_fs1_7 g_fs1_7_0 g_fs1_7_1 (by decide) (by decide) (by decide) (by decide)) (cwV 1 hts (gd_V kw_160 kw_161 kw_162 kw_49 kw_163) rfl rfl rfl (by decide +kernel) ⟨Nat.le_of_ble_eq_true rfl, Nat.le_of_ble_eq_true rfl⟩) ⟨st_blind, va_recv hKc hPc (ci := 0) (q0 := 0) rfl rfl, fun U hU hW9 => st_mk hU hW9 hPc hKc hDc hex⟩ rfl rfl hl.1 rfl (lv_room (Nat.le_of_ble_eq_true rfl)) dX12_feed_60 ⟨Nat.le_of_ble_eq_true rfl, Nat.le_of_ble_eq_true rfl⟩) hS (fun q _ h => hFc q h) hFc (fun  u9 t9 H1 locs ht9 hvm9 hw9 hB9 hz9 hk9 hS => ?_)
  obtain ⟨fs1_9, f1_10, L_fs1_9, g_fs1_9_0, g_fs1_9_1, hP1, hK1, hD1⟩ := hB9
  rw [ht9] at hP1
  have hK1 := va_K.moved hvm9.symm hK1
  obtain ⟨hP, hD⟩ := va_join (wr := [(h0, .inr (10, fx))]) (w1 := [(ht, .inr (0, fs1_9)), (htd, .inl (cB, 64, .inl f1_10))]) hP hD [1, 2] [0] rfl rfl (by decide) (by decide) hk9 hFc hP1 hD1
  have hK := (hK.sub (tys' := [(cB, .byte)]) [0] rfl).app hK1
  generalize H1 = H at hP hS ⊢
  have hP : va_P (dC, dI) cl0 [(h0, .inr (10, fx)), (ht, .inr (0, fs1_9)), (htd, .inl (cB, 64, .inl f1_10))] H := hP
  have hD : va_D A [(h0, .inr (10, fx)), (ht, .inr (0, fs1_9)), (htd, .inl (cB, 64, .inl f1_10))] := hD
  have hK : va_K (dC, dI) cl0 [(cB, .byte), (cB, .byte)] s := hK
  have hK := hK.sub (tys' := [(cB, .byte)]) [0] rfl
  refine lv_aload_n hx hb dX12_feed_63 rfl (lv_at hl 0 rfl) ?_
  refine va_get (D := (dC, dI)) (ci := 10) (v := .ref ht) (C := RX12) (T := TX12) (N := 18) hx hb hts inX12 hown hK hP 0 rfl rfl 0 (by decide) (hts _ kw_103) (fun _ h9 => h9) g_fx_0 dX12_feed_64 ?_
  refine lv_iload hx hb dX12_feed_67 (lv_at hl 5 rfl) ?_
  have hPc := hP.sub (ws' := [(ht, .inr (0, fs1_9)), (htd, .inl (cB, 64, .inl f1_10))]) [1, 2] rfl
  have hDc := hD.sub (ws' := [(ht, .inr (0, fs1_9)), (htd, .inl (cB, 64, .inl f1_10))]) [1, 2] (by decide) rfl
  have hKc := hK.sub (tys' := [(cB, .byte)]) [0] rfl
  have hFc := va_free (wc := [(ht, .inr (0, fs1_9)), (htd, .inl (cB, 64, .inl f1_10))]) hD hS hA [1, 2] rfl
  refine va_callv (va_runV (As := [.int e0]) (rest := []) ⟨hx, hb, hml, hown, hts⟩ (m_X0_put4 l dC dI H.size ht fs1_9 htd cB f1_10 (((((((((((((((((0 + 1) + 1) + 1) + 1) + 1) + 1) + 1) + 1) + 1) + 1) + 1) + 1) + 1) + 1) + 1) + 1)) e0 L_fs1_9 g_fs1_9_0 g_fs1_9_1 (by decide) (by decide) (by decide) (by decide)) (cwV 1 hts (gd_V kw_160 kw_161 kw_162 kw_49 kw_163) rfl rfl rfl (by decide +kernel) ⟨Nat.le_of_ble_eq_true rfl, Nat.le_of_ble_eq_true rfl⟩) ⟨st_blind, va_recv hKc hPc (ci := 0) (q0 := 0) rfl rfl, fun U hU hW9 => st_mk hU hW9 hPc hKc hDc hex⟩ rfl rfl hl.1 rfl (lv_room (Nat.le_of_ble_eq_true rfl)) dX12_feed_69 ⟨Nat.le_of_ble_eq_true rfl, Nat.le_of_ble_eq_true rfl⟩) hS (fun q _ h => hFc q h) hFc (fun  u9 t9 H1 locs ht9 hvm9 hw9 hB9 hz9 hk9 hS => ?_)
  obtain ⟨fs1_11, f1_12, L_fs1_11, g_fs1_11_0, g_fs1_11_1, hP1, hK1, hD1⟩ := hB9
  rw [ht9] at hP1
  have hK1 := va_K.moved hvm9.symm hK1
  obtain ⟨hP, hD⟩ := va_join (wr := [(h0, .inr (10, fx))]) (w1 := [(ht, .inr (0, fs1_11)), (htd, .inl (cB, 64, .inl f1_12))]) hP hD [1, 2] [0] rfl rfl (by decide) (by decide) hk9 hFc hP1 hD1
  have hK := (hK.sub (tys' := [(cB, .byte)]) [0] rfl).app hK1
  generalize H1 = H at hP hS ⊢
  have hP : va_P (dC, dI) cl0 [(h0, .inr (10, fx)), (ht, .inr (0, fs1_11)), (htd, .inl (cB, 64, .inl f1_12))] H := hP
  have hD : va_D A [(h0, .inr (10, fx)), (ht, .inr (0, fs1_11)), (htd, .inl (cB, 64, .inl f1_12))] := hD
  have hK : va_K (dC, dI) cl0 [(cB, .byte), (cB, .byte)] s := hK
  have hK := hK.sub (tys' := [(cB, .byte)]) [0] rfl
  refine lv_aload_n hx hb dX12_feed_72 rfl (lv_at hl 0 rfl) ?_
  refine lv_dup hx hb dX12_feed_73 rfl ?_
  refine va_get (D := (dC, dI)) (ci := 10) (v := .int 0) (C := RX12) (T := TX12) (N := 18) hx hb hts inX12 hown hK hP 0 rfl rfl 10 (by decide) (hts _ kw_158) (fun _ h9 => h9) g_fx_10 dX12_feed_74 ?_
  refine lv_bipush (v := 20) hx hb dX12_feed_77 (by decide) ?_
  refine lv_iadd hx hb dX12_feed_79 ?_
  refine lv_topi (fun z_13 ez_13 => ?_)
  obtain rfl : z_13 = 20 := ez_13.trans (by decide)
  refine va_put (D := (dC, dI)) (ci := 10) (v := .int 20) (ty := .int) (C := RX12) (T := TX12) (N := 18) hx hb hts inX12 tyX12 tyX12_ok nmX12 hown hK hP hD hS 0 rfl rfl 10 (by decide) (hts _ kw_158) (fun _ h9 => h9) rfl (by decide +kernel) rfl rfl (by rw [L_fx]; decide) dX12_feed_80 (fun H locs hP hD hS => ?_)
  obtain ⟨fx_14, e_fx_14⟩ : ∃ z, z = fx.set 10 (.int 20) := ⟨_, rfl⟩
  have hP : va_P (dC, dI) cl0 [(h0, .inr (10, fx_14)), (ht, .inr (0, fs1_11)), (htd, .inl (cB, 64, .inl f1_12))] H := by rw [e_fx_14]; exact hP
  have hD : va_D A [(h0, .inr (10, fx_14)), (ht, .inr (0, fs1_11)), (htd, .inl (cB, 64, .inl f1_12))] := by rw [e_fx_14]; exact hD
  have L_fx_14 : fx_14.length = 18 := fx_len e_fx_14 L_fx
  have g_fx_14_0 := fx_ne (j := 0) e_fx_14 g_fx_0 (by decide)
  have g_fx_14_10 := fx_self e_fx_14 (by rw [L_fx]; decide)
  refine lv_aload_n hx hb dX12_feed_83 rfl (lv_at hl 0 rfl) ?_
  refine va_get (D := (dC, dI)) (ci := 10) (v := .ref ht) (C := RX12) (T := TX12) (N := 18) hx hb hts inX12 hown hK hP 0 rfl rfl 0 (by decide) (hts _ kw_103) (fun _ h9 => h9) g_fx_14_0 dX12_feed_84 ?_
  refine va_get (D := (dC, dI)) (ci := 0) (v := .int ((((((((((((((((((((0 + 1) + 1) + 1) + 1) + 1) + 1) + 1) + 1) + 1) + 1) + 1) + 1) + 1) + 1) + 1) + 1) + 1) + 1) + 1) + 1)) (C := RX0) (T := TX0) (N := 2) hx hb hts inX0 hown hK hP 1 rfl rfl 1 (by decide) (hts _ kw_157) (fun _ h9 => h9) g_fs1_11_1 dX12_feed_87 ?_
  refine W.widen (k := 0) (n := 0) (Nat.le_of_ble_eq_true rfl) (Nat.le_of_ble_eq_true rfl) ?_
  exact W.iret (v := ((((((((((((((((((((0 + 1) + 1) + 1) + 1) + 1) + 1) + 1) + 1) + 1) + 1) + 1) + 1) + 1) + 1) + 1) + 1) + 1) + 1) + 1) + 1)) hx hb hr (fun t9 ht9 hW9 => ⟨⟨_, (), rfl, (by decide), trivial⟩, hS.F ht9⟩) hS.2.2 dX12_feed_90
set_option maxHeartbeats 4000000 in
set_option maxRecDepth 100000 in
theorem m_X12_end (l : Launch) (dC : Nat → ClassId) (dI : Nat → Nat → Nat) (sz : Nat) (h0 : Nat) (fx : List Value) (ht : Nat) (ft : List Value) (n : Int32) (L_fx : fx.length = 18) (g_fx_0 : fx[0]? = some (.ref ht)) (L_ft : ft.length = 2) (g_ft_1 : ft[1]? = some (.int 0)) : Met l yX12_end (wt yX12_end cX12_end 2 (some .boolean)) ({ frames := 0, cells := 0, slots := 0, locals := 0 }) (va_Pc [.ref h0, .int n] (st_U dC dI sz [(h0, .inr (10, fx)), (ht, .inr (0, ft))] [])) (va_Qi (fun (r : Int32) (_ : Unit) => r = (if n < 0 then (0 : Int32) else if n ≤ 0 then 1 else 0)) (fun (_ : Unit) (_ : State) => True) (va_A [(h0, .inr (10, fx)), (ht, .inr (0, ft))] sz)) 0 0 (va_A [(h0, .inr (10, fx)), (ht, .inr (0, ft))] sz) := by
  refine Met.ofW (cc := cX12_end) (maxL := 2) (ret := (some .boolean)) (by decide) rfl ?_
  intro p e s m args below meth c s₁ B hml hv
  obtain ⟨rfl, hsz, hP, hK, hD0, hex⟩ := hv
  have hx := B.exec
  have hb := B.bytes
  have hr := B.returns
  have hts0 := atoms_spec (ws := wt yX12_end cX12_end 2 (some .boolean)) B.pre
  have hts : ∀ w ∈ tb, w.before _ s = true := fun w h => hts0 w (List.mem_cons_of_mem _ h)
  have hown : s.vm.findClass RX12 = some m.cls := findClass_of_methodNamed B.named
  have hlocks := B.notSynchronized
  subst hsz
  have hD := hD0.self (sz := s.heap.size)
  generalize hAe : va_A [(h0, .inr (10, fx)), (ht, .inr (0, ft))] s.heap.size = A at hD ⊢
  have hA : ∀ q : Nat, s.heap.size ≤ q → A q := fun q h => by rw [← hAe]; exact Or.inr h
  have hS : va_S A s.heap s.heap [] := va_S.rf
  have hl := lv_entry ([.ref h0, .int n]) (n := 2) (Nat.le_of_ble_eq_true rfl)
  rw [lg_entry_eq]
  generalize (lg_sl ([.ref h0, .int n]) ++ List.replicate (2 - (lg_sl ([.ref h0, .int n])).length) Slot.unset).toArray = ls at hl ⊢
  have hl : lv_has ls 2 [(0, .ref h0), (1, .int n)] := hl
  refine lv_iload_n hx hb dX12_end_0 rfl (lv_at hl 1 rfl) ?_
  refine lv_if_lt (tgt := 15) hx hb dX12_end_1 (by decide) (fun c_1 => ?_) (fun c_1 => ?_)
  · refine lv_iconst (v := 0) hx hb dX12_end_15 (by decide) ?_
    refine W.widen (k := 0) (n := 0) (Nat.le_of_ble_eq_true rfl) (Nat.le_of_ble_eq_true rfl) ?_
    exact W.zret (v := 0) hx hb hr rfl (fun t9 ht9 hW9 => ⟨⟨_, (), rfl, (by rw [if_pos c_1]), trivial⟩, hS.F ht9⟩) hS.2.2 dX12_end_16
  · refine lv_iload_n hx hb dX12_end_4 rfl (lv_at hl 1 rfl) ?_
    refine lv_aload_n hx hb dX12_end_5 rfl (lv_at hl 0 rfl) ?_
    refine va_get (D := (dC, dI)) (ci := 10) (v := .ref ht) (C := RX12) (T := TX12) (N := 18) hx hb hts inX12 hown hK hP 0 rfl rfl 0 (by decide) (hts _ kw_103) (fun _ h9 => h9) g_fx_0 dX12_end_6 ?_
    refine va_get (D := (dC, dI)) (ci := 0) (v := .int 0) (C := RX0) (T := TX0) (N := 2) hx hb hts inX0 hown hK hP 1 rfl rfl 1 (by decide) (hts _ kw_157) (fun _ h9 => h9) g_ft_1 dX12_end_9 ?_
    refine lv_icmp_le (tgt := 17) hx hb dX12_end_12 (by decide) (fun c_12 => ?_) (fun c_12 => ?_)
    · refine lv_aload_n hx hb dX12_end_17 rfl (lv_at hl 0 rfl) ?_
      refine va_get (D := (dC, dI)) (ci := 10) (v := .ref ht) (C := RX12) (T := TX12) (N := 18) hx hb hts inX12 hown hK hP 0 rfl rfl 0 (by decide) (hts _ kw_103) (fun _ h9 => h9) g_fx_0 dX12_end_18 ?_
      refine lv_iload_n hx hb dX12_end_21 rfl (lv_at hl 1 rfl) ?_
      refine va_put (D := (dC, dI)) (ci := 0) (v := .int n) (ty := .int) (C := RX0) (T := TX0) (N := 2) hx hb hts inX0 tyX0 tyX0_ok nmX0 hown hK hP hD hS 1 rfl rfl 1 (by decide) (hts _ kw_157) (fun _ h9 => h9) rfl (by decide +kernel) rfl rfl (by rw [L_ft]; decide) dX12_end_22 (fun H locs hP hD hS => ?_)
      obtain ⟨ft_1, e_ft_1⟩ : ∃ z, z = ft.set 1 (.int n) := ⟨_, rfl⟩
      have hP : va_P (dC, dI) cl0 [(h0, .inr (10, fx)), (ht, .inr (0, ft_1))] H := by rw [e_ft_1]; exact hP
      have hD : va_D A [(h0, .inr (10, fx)), (ht, .inr (0, ft_1))] := by rw [e_ft_1]; exact hD
      have L_ft_1 : ft_1.length = 2 := fx_len e_ft_1 L_ft
      have g_ft_1_1 := fx_self e_ft_1 (by rw [L_ft]; decide)
      refine lv_iconst (v := 1) hx hb dX12_end_25 (by decide) ?_
      refine W.widen (k := 0) (n := 0) (Nat.le_of_ble_eq_true rfl) (Nat.le_of_ble_eq_true rfl) ?_
      exact W.zret (v := 1) hx hb hr rfl (fun t9 ht9 hW9 => ⟨⟨_, (), rfl, (by rw [if_neg c_1, if_pos c_12]), trivial⟩, hS.F ht9⟩) hS.2.2 dX12_end_26
    · refine lv_iconst (v := 0) hx hb dX12_end_15 (by decide) ?_
      refine W.widen (k := 0) (n := 0) (Nat.le_of_ble_eq_true rfl) (Nat.le_of_ble_eq_true rfl) ?_
      exact W.zret (v := 0) hx hb hr rfl (fun t9 ht9 hW9 => ⟨⟨_, (), rfl, (by rw [if_neg c_1, if_neg c_12]), trivial⟩, hS.F ht9⟩) hS.2.2 dX12_end_16
set_option maxHeartbeats 4000000 in
set_option maxRecDepth 100000 in
theorem m_X12_rule (l : Launch) (dC : Nat → ClassId) (dI : Nat → Nat → Nat) (sz : Nat) (h0 : Nat) (fx : List Value) (L_fx : fx.length = 18) (g_fx_13 : fx[13]? = some (.int 0)) : Met l yX12_rule (wt yX12_rule cX12_rule 1 (some .int)) ({ frames := 0, cells := 0, slots := 0, locals := 0 }) (va_Pc [.ref h0] (st_U dC dI sz [(h0, .inr (10, fx))] [])) (va_Qi (fun (r : Int32) (_ : Unit) => r = 0) (fun (_ : Unit) (_ : State) => True) (va_A [(h0, .inr (10, fx))] sz)) 0 0 (va_A [(h0, .inr (10, fx))] sz) := by
  refine Met.ofW (cc := cX12_rule) (maxL := 1) (ret := (some .int)) (by decide) rfl ?_
  intro p e s m args below meth c s₁ B hml hv
  obtain ⟨rfl, hsz, hP, hK, hD0, hex⟩ := hv
  have hx := B.exec
  have hb := B.bytes
  have hr := B.returns
  have hts0 := atoms_spec (ws := wt yX12_rule cX12_rule 1 (some .int)) B.pre
  have hts : ∀ w ∈ tb, w.before _ s = true := fun w h => hts0 w (List.mem_cons_of_mem _ h)
  have hown : s.vm.findClass RX12 = some m.cls := findClass_of_methodNamed B.named
  have hlocks := B.notSynchronized
  subst hsz
  have hD := hD0.self (sz := s.heap.size)
  generalize hAe : va_A [(h0, .inr (10, fx))] s.heap.size = A at hD ⊢
  have hA : ∀ q : Nat, s.heap.size ≤ q → A q := fun q h => by rw [← hAe]; exact Or.inr h
  have hS : va_S A s.heap s.heap [] := va_S.rf
  have hl := lv_entry ([.ref h0]) (n := 1) (Nat.le_of_ble_eq_true rfl)
  rw [lg_entry_eq]
  generalize (lg_sl ([.ref h0]) ++ List.replicate (1 - (lg_sl ([.ref h0])).length) Slot.unset).toArray = ls at hl ⊢
  have hl : lv_has ls 1 [(0, .ref h0)] := hl
  refine lv_aload_n hx hb dX12_rule_0 rfl (lv_at hl 0 rfl) ?_
  refine va_get (D := (dC, dI)) (ci := 10) (v := .int 0) (C := RX12) (T := TX12) (N := 18) hx hb hts inX12 hown hK hP 0 rfl rfl 13 (by decide) (hts _ kw_164) (fun _ h9 => h9) g_fx_13 dX12_rule_1 ?_
  refine W.widen (k := 0) (n := 0) (Nat.le_of_ble_eq_true rfl) (Nat.le_of_ble_eq_true rfl) ?_
  exact W.iret (v := 0) hx hb hr (fun t9 ht9 hW9 => ⟨⟨_, (), rfl, rfl, trivial⟩, hS.F ht9⟩) hS.2.2 dX12_rule_4
set_option maxHeartbeats 4000000 in
set_option maxRecDepth 100000 in
theorem m_X12_place (l : Launch) (dC : Nat → ClassId) (dI : Nat → Nat → Nat) (sz : Nat) (h0 : Nat) (fx : List Value) (L_fx : fx.length = 18) (g_fx_14 : fx[14]? = some (.int (-1))) : Met l yX12_place (wt yX12_place cX12_place 1 (some .int)) ({ frames := 0, cells := 0, slots := 0, locals := 0 }) (va_Pc [.ref h0] (st_U dC dI sz [(h0, .inr (10, fx))] [])) (va_Qi (fun (r : Int32) (_ : Unit) => r = (-1)) (fun (_ : Unit) (_ : State) => True) (va_A [(h0, .inr (10, fx))] sz)) 0 0 (va_A [(h0, .inr (10, fx))] sz) := by
  refine Met.ofW (cc := cX12_place) (maxL := 1) (ret := (some .int)) (by decide) rfl ?_
  intro p e s m args below meth c s₁ B hml hv
  obtain ⟨rfl, hsz, hP, hK, hD0, hex⟩ := hv
  have hx := B.exec
  have hb := B.bytes
  have hr := B.returns
  have hts0 := atoms_spec (ws := wt yX12_place cX12_place 1 (some .int)) B.pre
  have hts : ∀ w ∈ tb, w.before _ s = true := fun w h => hts0 w (List.mem_cons_of_mem _ h)
  have hown : s.vm.findClass RX12 = some m.cls := findClass_of_methodNamed B.named
  have hlocks := B.notSynchronized
  subst hsz
  have hD := hD0.self (sz := s.heap.size)
  generalize hAe : va_A [(h0, .inr (10, fx))] s.heap.size = A at hD ⊢
  have hA : ∀ q : Nat, s.heap.size ≤ q → A q := fun q h => by rw [← hAe]; exact Or.inr h
  have hS : va_S A s.heap s.heap [] := va_S.rf
  have hl := lv_entry ([.ref h0]) (n := 1) (Nat.le_of_ble_eq_true rfl)
  rw [lg_entry_eq]
  generalize (lg_sl ([.ref h0]) ++ List.replicate (1 - (lg_sl ([.ref h0])).length) Slot.unset).toArray = ls at hl ⊢
  have hl : lv_has ls 1 [(0, .ref h0)] := hl
  refine lv_aload_n hx hb dX12_place_0 rfl (lv_at hl 0 rfl) ?_
  refine va_get (D := (dC, dI)) (ci := 10) (v := .int (-1)) (C := RX12) (T := TX12) (N := 18) hx hb hts inX12 hown hK hP 0 rfl rfl 14 (by decide) (hts _ kw_144) (fun _ h9 => h9) g_fx_14 dX12_place_1 ?_
  refine W.widen (k := 0) (n := 0) (Nat.le_of_ble_eq_true rfl) (Nat.le_of_ble_eq_true rfl) ?_
  exact W.iret (v := (-1)) hx hb hr (fun t9 ht9 hW9 => ⟨⟨_, (), rfl, rfl, trivial⟩, hS.F ht9⟩) hS.2.2 dX12_place_4
set_option maxHeartbeats 4000000 in
set_option maxRecDepth 100000 in
theorem m_X12_method (l : Launch) (dC : Nat → ClassId) (dI : Nat → Nat → Nat) (sz : Nat) (h0 : Nat) (fx : List Value) (L_fx : fx.length = 18) (g_fx_15 : fx[15]? = some (.int (-1))) : Met l yX12_method (wt yX12_method cX12_method 1 (some .int)) ({ frames := 0, cells := 0, slots := 0, locals := 0 }) (va_Pc [.ref h0] (st_U dC dI sz [(h0, .inr (10, fx))] [])) (va_Qi (fun (r : Int32) (_ : Unit) => r = (-1)) (fun (_ : Unit) (_ : State) => True) (va_A [(h0, .inr (10, fx))] sz)) 0 0 (va_A [(h0, .inr (10, fx))] sz) := by
  refine Met.ofW (cc := cX12_method) (maxL := 1) (ret := (some .int)) (by decide) rfl ?_
  intro p e s m args below meth c s₁ B hml hv
  obtain ⟨rfl, hsz, hP, hK, hD0, hex⟩ := hv
  have hx := B.exec
  have hb := B.bytes
  have hr := B.returns
  have hts0 := atoms_spec (ws := wt yX12_method cX12_method 1 (some .int)) B.pre
  have hts : ∀ w ∈ tb, w.before _ s = true := fun w h => hts0 w (List.mem_cons_of_mem _ h)
  have hown : s.vm.findClass RX12 = some m.cls := findClass_of_methodNamed B.named
  have hlocks := B.notSynchronized
  subst hsz
  have hD := hD0.self (sz := s.heap.size)
  generalize hAe : va_A [(h0, .inr (10, fx))] s.heap.size = A at hD ⊢
  have hA : ∀ q : Nat, s.heap.size ≤ q → A q := fun q h => by rw [← hAe]; exact Or.inr h
  have hS : va_S A s.heap s.heap [] := va_S.rf
  have hl := lv_entry ([.ref h0]) (n := 1) (Nat.le_of_ble_eq_true rfl)
  rw [lg_entry_eq]
  generalize (lg_sl ([.ref h0]) ++ List.replicate (1 - (lg_sl ([.ref h0])).length) Slot.unset).toArray = ls at hl ⊢
  have hl : lv_has ls 1 [(0, .ref h0)] := hl
  refine lv_aload_n hx hb dX12_method_0 rfl (lv_at hl 0 rfl) ?_
  refine va_get (D := (dC, dI)) (ci := 10) (v := .int (-1)) (C := RX12) (T := TX12) (N := 18) hx hb hts inX12 hown hK hP 0 rfl rfl 15 (by decide) (hts _ kw_145) (fun _ h9 => h9) g_fx_15 dX12_method_1 ?_
  refine W.widen (k := 0) (n := 0) (Nat.le_of_ble_eq_true rfl) (Nat.le_of_ble_eq_true rfl) ?_
  exact W.iret (v := (-1)) hx hb hr (fun t9 ht9 hW9 => ⟨⟨_, (), rfl, rfl, trivial⟩, hS.F ht9⟩) hS.2.2 dX12_method_4
set_option maxHeartbeats 4000000 in
set_option maxRecDepth 100000 in
theorem m_X12_at (l : Launch) (dC : Nat → ClassId) (dI : Nat → Nat → Nat) (sz : Nat) (h0 : Nat) (fx : List Value) (L_fx : fx.length = 18) (g_fx_16 : fx[16]? = some (.int (-1))) : Met l yX12_at (wt yX12_at cX12_at 1 (some .int)) ({ frames := 0, cells := 0, slots := 0, locals := 0 }) (va_Pc [.ref h0] (st_U dC dI sz [(h0, .inr (10, fx))] [])) (va_Qi (fun (r : Int32) (_ : Unit) => r = (-1)) (fun (_ : Unit) (_ : State) => True) (va_A [(h0, .inr (10, fx))] sz)) 0 0 (va_A [(h0, .inr (10, fx))] sz) := by
  refine Met.ofW (cc := cX12_at) (maxL := 1) (ret := (some .int)) (by decide) rfl ?_
  intro p e s m args below meth c s₁ B hml hv
  obtain ⟨rfl, hsz, hP, hK, hD0, hex⟩ := hv
  have hx := B.exec
  have hb := B.bytes
  have hr := B.returns
  have hts0 := atoms_spec (ws := wt yX12_at cX12_at 1 (some .int)) B.pre
  have hts : ∀ w ∈ tb, w.before _ s = true := fun w h => hts0 w (List.mem_cons_of_mem _ h)
  have hown : s.vm.findClass RX12 = some m.cls := findClass_of_methodNamed B.named
  have hlocks := B.notSynchronized
  subst hsz
  have hD := hD0.self (sz := s.heap.size)
  generalize hAe : va_A [(h0, .inr (10, fx))] s.heap.size = A at hD ⊢
  have hA : ∀ q : Nat, s.heap.size ≤ q → A q := fun q h => by rw [← hAe]; exact Or.inr h
  have hS : va_S A s.heap s.heap [] := va_S.rf
  have hl := lv_entry ([.ref h0]) (n := 1) (Nat.le_of_ble_eq_true rfl)
  rw [lg_entry_eq]
  generalize (lg_sl ([.ref h0]) ++ List.replicate (1 - (lg_sl ([.ref h0])).length) Slot.unset).toArray = ls at hl ⊢
  have hl : lv_has ls 1 [(0, .ref h0)] := hl
  refine lv_aload_n hx hb dX12_at_0 rfl (lv_at hl 0 rfl) ?_
  refine va_get (D := (dC, dI)) (ci := 10) (v := .int (-1)) (C := RX12) (T := TX12) (N := 18) hx hb hts inX12 hown hK hP 0 rfl rfl 16 (by decide) (hts _ kw_146) (fun _ h9 => h9) g_fx_16 dX12_at_1 ?_
  refine W.widen (k := 0) (n := 0) (Nat.le_of_ble_eq_true rfl) (Nat.le_of_ble_eq_true rfl) ?_
  exact W.iret (v := (-1)) hx hb hr (fun t9 ht9 hW9 => ⟨⟨_, (), rfl, rfl, trivial⟩, hS.F ht9⟩) hS.2.2 dX12_at_4
set_option maxHeartbeats 4000000 in
set_option maxRecDepth 100000 in
theorem m_X12_unitAt (l : Launch) (dC : Nat → ClassId) (dI : Nat → Nat → Nat) (sz : Nat) (h0 : Nat) (fx : List Value) (f0 : Int32) (L_fx : fx.length = 18) (g_fx_11 : fx[11]? = some (.int 0)) : Met l yX12_unitAt (wt yX12_unitAt cX12_unitAt 2 (some (.object "CodeFoundry$Unit"))) ({ frames := 0, cells := 0, slots := 0, locals := 0 }) (va_Pc [.ref h0, .int f0] (st_U dC dI sz [(h0, .inr (10, fx))] [])) (va_Qq (fun (r : Option Nat) (_ : Unit) => r = none) (fun (_ : Unit) (_ : State) => True) (va_A [(h0, .inr (10, fx))] sz)) 0 0 (va_A [(h0, .inr (10, fx))] sz) := by
  refine Met.ofW (cc := cX12_unitAt) (maxL := 2) (ret := (some (.object "CodeFoundry$Unit"))) (by decide) rfl ?_
  intro p e s m args below meth c s₁ B hml hv
  obtain ⟨rfl, hsz, hP, hK, hD0, hex⟩ := hv
  have hx := B.exec
  have hb := B.bytes
  have hr := B.returns
  have hts0 := atoms_spec (ws := wt yX12_unitAt cX12_unitAt 2 (some (.object "CodeFoundry$Unit"))) B.pre
  have hts : ∀ w ∈ tb, w.before _ s = true := fun w h => hts0 w (List.mem_cons_of_mem _ h)
  have hown : s.vm.findClass RX12 = some m.cls := findClass_of_methodNamed B.named
  have hlocks := B.notSynchronized
  subst hsz
  have hD := hD0.self (sz := s.heap.size)
  generalize hAe : va_A [(h0, .inr (10, fx))] s.heap.size = A at hD ⊢
  have hA : ∀ q : Nat, s.heap.size ≤ q → A q := fun q h => by rw [← hAe]; exact Or.inr h
  have hS : va_S A s.heap s.heap [] := va_S.rf
  have hl := lv_entry ([.ref h0, .int f0]) (n := 2) (Nat.le_of_ble_eq_true rfl)
  rw [lg_entry_eq]
  generalize (lg_sl ([.ref h0, .int f0]) ++ List.replicate (2 - (lg_sl ([.ref h0, .int f0])).length) Slot.unset).toArray = ls at hl ⊢
  have hl : lv_has ls 2 [(0, .ref h0), (1, .int f0)] := hl
  refine lv_iload_n hx hb dX12_unitAt_0 rfl (lv_at hl 1 rfl) ?_
  refine lv_if_lt (tgt := 12) hx hb dX12_unitAt_1 (by decide) (fun c_1 => ?_) (fun c_1 => ?_)
  · refine lv_null hx hb dX12_unitAt_12 ?_
    refine lv_goto (tgt := 22) hx hb dX12_unitAt_13 (by decide) ?_
    refine W.widen (k := 0) (n := 0) (Nat.le_of_ble_eq_true rfl) (Nat.le_of_ble_eq_true rfl) ?_
    exact W.aret (v := .null) hx hb hr (Or.inl ⟨_, rfl⟩) (Or.inl rfl) (fun t9 ht9 hW9 => ⟨⟨none, (), rfl, rfl, trivial⟩, hS.F ht9⟩) hS.2.2 dX12_unitAt_22
  · refine lv_iload_n hx hb dX12_unitAt_4 rfl (lv_at hl 1 rfl) ?_
    refine lv_aload_n hx hb dX12_unitAt_5 rfl (lv_at hl 0 rfl) ?_
    refine va_get (D := (dC, dI)) (ci := 10) (v := .int 0) (C := RX12) (T := TX12) (N := 18) hx hb hts inX12 hown hK hP 0 rfl rfl 11 (by decide) (hts _ kw_165) (fun _ h9 => h9) g_fx_11 dX12_unitAt_6 ?_
    refine lv_icmp_lt (tgt := 16) hx hb dX12_unitAt_9 (by decide) (fun c_9 => False.elim (c_1 c_9)) (fun c_9 => ?_)
    refine lv_null hx hb dX12_unitAt_12 ?_
    refine lv_goto (tgt := 22) hx hb dX12_unitAt_13 (by decide) ?_
    refine W.widen (k := 0) (n := 0) (Nat.le_of_ble_eq_true rfl) (Nat.le_of_ble_eq_true rfl) ?_
    exact W.aret (v := .null) hx hb hr (Or.inl ⟨_, rfl⟩) (Or.inl rfl) (fun t9 ht9 hW9 => ⟨⟨none, (), rfl, rfl, trivial⟩, hS.F ht9⟩) hS.2.2 dX12_unitAt_22
set_option maxHeartbeats 4000000 in
set_option maxRecDepth 100000 in
theorem m_X12_soundUnitAt (l : Launch) (dC : Nat → ClassId) (dI : Nat → Nat → Nat) (sz : Nat) (h0 : Nat) (fx : List Value) (f0 : Int32) (L_fx : fx.length = 18) (g_fx_11 : fx[11]? = some (.int 0)) : Met l yX12_soundUnitAt (wt yX12_soundUnitAt cX12_soundUnitAt 3 (some (.object "CodeFoundry$Unit"))) ({ frames := 1, cells := 0, slots := 0, locals := 21 }) (va_Pc [.ref h0, .int f0] (st_U dC dI sz [(h0, .inr (10, fx))] [])) (va_Qq (fun (r : Option Nat) (_ : Unit) => r = none) (fun (_ : Unit) (_ : State) => True) (va_A [(h0, .inr (10, fx))] sz)) 0 0 (va_A [(h0, .inr (10, fx))] sz) := by
  refine Met.ofW (cc := cX12_soundUnitAt) (maxL := 3) (ret := (some (.object "CodeFoundry$Unit"))) (by decide) rfl ?_
  intro p e s m args below meth c s₁ B hml hv
  obtain ⟨rfl, hsz, hP, hK, hD0, hex⟩ := hv
  have hx := B.exec
  have hb := B.bytes
  have hr := B.returns
  have hts0 := atoms_spec (ws := wt yX12_soundUnitAt cX12_soundUnitAt 3 (some (.object "CodeFoundry$Unit"))) B.pre
  have hts : ∀ w ∈ tb, w.before _ s = true := fun w h => hts0 w (List.mem_cons_of_mem _ h)
  have hown : s.vm.findClass RX12 = some m.cls := findClass_of_methodNamed B.named
  have hlocks := B.notSynchronized
  subst hsz
  have hD := hD0.self (sz := s.heap.size)
  generalize hAe : va_A [(h0, .inr (10, fx))] s.heap.size = A at hD ⊢
  have hA : ∀ q : Nat, s.heap.size ≤ q → A q := fun q h => by rw [← hAe]; exact Or.inr h
  have hS : va_S A s.heap s.heap [] := va_S.rf
  have hl := lv_entry ([.ref h0, .int f0]) (n := 3) (Nat.le_of_ble_eq_true rfl)
  rw [lg_entry_eq]
  generalize (lg_sl ([.ref h0, .int f0]) ++ List.replicate (3 - (lg_sl ([.ref h0, .int f0])).length) Slot.unset).toArray = ls at hl ⊢
  have hl : lv_has ls 3 [(0, .ref h0), (1, .int f0)] := hl
  refine lv_aload_n hx hb dX12_soundUnitAt_0 rfl (lv_at hl 0 rfl) ?_
  refine lv_iload_n hx hb dX12_soundUnitAt_1 rfl (lv_at hl 1 rfl) ?_
  have hPc := hP.sub (ws' := [(h0, .inr (10, fx))]) [0] rfl
  have hDc := hD.sub (ws' := [(h0, .inr (10, fx))]) [0] (by decide) rfl
  have hKc := hK.sub (tys' := []) [] rfl
  have hFc := va_free (wc := [(h0, .inr (10, fx))]) hD hS hA [0] rfl
  refine va_callq (va_runV (As := [.int f0]) (rest := []) ⟨hx, hb, hml, hown, hts⟩ (m_X12_unitAt l dC dI s.heap.size h0 fx f0 L_fx g_fx_11) (cwV 1 hts (gd_V kw_166 kw_167 kw_168 kw_169 kw_170) rfl rfl rfl (by decide +kernel) ⟨Nat.le_of_ble_eq_true rfl, Nat.le_of_ble_eq_true rfl⟩) ⟨st_blind, va_recv hKc hPc (ci := 10) (q0 := 0) rfl rfl, fun U hU hW9 => st_mk hU hW9 hPc hKc hDc hex⟩ rfl rfl hl.1 rfl (lv_room (Nat.le_of_ble_eq_true rfl)) dX12_soundUnitAt_2 ⟨Nat.le_of_ble_eq_true rfl, Nat.le_of_ble_eq_true rfl⟩) hS (fun q _ h => hFc q h) hFc (fun r_1 u9 t9 H1 locs ht9 hvm9 hw9 hB9 hz9 hk9 hS => ?_)
  have hP1 : va_P (dC, dI) cl0 [] H1 := fun k q h => by simp at h
  have hD1 : va_D (va_A [(h0, .inr (10, fx))] s.heap.size) [] := ⟨fun i j p q h => by simp at h, fun k q h => by simp at h⟩
  obtain ⟨hP, hD⟩ := va_join (wr := []) (w1 := []) hP hD [0] [] rfl rfl (by decide) (by decide) hk9 hFc hP1 hD1
  generalize H1 = H at hP hS ⊢
  have hP : va_P (dC, dI) cl0 [] H := hP
  have hD : va_D A [] := hD
  have hw9 : r_1 = none := hw9
  subst hw9
  refine lv_astore_nN (lv' := [(2, .null), (0, .ref h0), (1, .int f0)]) hx hb dX12_soundUnitAt_5 rfl hl (by decide) rfl (fun ls hl => ?_)
  refine lv_aload_nN hx hb dX12_soundUnitAt_6 rfl (lv_at hl 0 rfl) ?_
  refine lv_ifnullN (tgt := 24) hx hb dX12_soundUnitAt_7 (by decide) ?_
  refine lv_null hx hb dX12_soundUnitAt_24 ?_
  refine lv_goto (tgt := 29) hx hb dX12_soundUnitAt_25 (by decide) ?_
  refine W.widen (k := 0) (n := 0) (Nat.le_of_ble_eq_true rfl) (Nat.le_of_ble_eq_true rfl) ?_
  exact W.aret (v := .null) hx hb hr (Or.inl ⟨_, rfl⟩) (Or.inl rfl) (fun t9 ht9 hW9 => ⟨⟨none, (), rfl, rfl, trivial⟩, hS.F ht9⟩) hS.2.2 dX12_soundUnitAt_29
set_option maxHeartbeats 4000000 in
set_option maxRecDepth 100000 in
theorem m_X12_rowAt (l : Launch) (dC : Nat → ClassId) (dI : Nat → Nat → Nat) (sz : Nat) (h0 : Nat) (fx : List Value) (f0 : Int32) (m0 : Int32) (L_fx : fx.length = 18) (g_fx_11 : fx[11]? = some (.int 0)) : Met l yX12_rowAt (wt yX12_rowAt cX12_rowAt 4 (some (.object "CodeFoundry$Row"))) ({ frames := 1, cells := 0, slots := 0, locals := 21 }) (va_Pc [.ref h0, .int f0, .int m0] (st_U dC dI sz [(h0, .inr (10, fx))] [])) (va_Qq (fun (r : Option Nat) (_ : Unit) => r = none) (fun (_ : Unit) (_ : State) => True) (va_A [(h0, .inr (10, fx))] sz)) 0 0 (va_A [(h0, .inr (10, fx))] sz) := by
  refine Met.ofW (cc := cX12_rowAt) (maxL := 4) (ret := (some (.object "CodeFoundry$Row"))) (by decide) rfl ?_
  intro p e s m args below meth c s₁ B hml hv
  obtain ⟨rfl, hsz, hP, hK, hD0, hex⟩ := hv
  have hx := B.exec
  have hb := B.bytes
  have hr := B.returns
  have hts0 := atoms_spec (ws := wt yX12_rowAt cX12_rowAt 4 (some (.object "CodeFoundry$Row"))) B.pre
  have hts : ∀ w ∈ tb, w.before _ s = true := fun w h => hts0 w (List.mem_cons_of_mem _ h)
  have hown : s.vm.findClass RX12 = some m.cls := findClass_of_methodNamed B.named
  have hlocks := B.notSynchronized
  subst hsz
  have hD := hD0.self (sz := s.heap.size)
  generalize hAe : va_A [(h0, .inr (10, fx))] s.heap.size = A at hD ⊢
  have hA : ∀ q : Nat, s.heap.size ≤ q → A q := fun q h => by rw [← hAe]; exact Or.inr h
  have hS : va_S A s.heap s.heap [] := va_S.rf
  have hl := lv_entry ([.ref h0, .int f0, .int m0]) (n := 4) (Nat.le_of_ble_eq_true rfl)
  rw [lg_entry_eq]
  generalize (lg_sl ([.ref h0, .int f0, .int m0]) ++ List.replicate (4 - (lg_sl ([.ref h0, .int f0, .int m0])).length) Slot.unset).toArray = ls at hl ⊢
  have hl : lv_has ls 4 [(0, .ref h0), (1, .int f0), (2, .int m0)] := hl
  refine lv_aload_n hx hb dX12_rowAt_0 rfl (lv_at hl 0 rfl) ?_
  refine lv_iload_n hx hb dX12_rowAt_1 rfl (lv_at hl 1 rfl) ?_
  have hPc := hP.sub (ws' := [(h0, .inr (10, fx))]) [0] rfl
  have hDc := hD.sub (ws' := [(h0, .inr (10, fx))]) [0] (by decide) rfl
  have hKc := hK.sub (tys' := []) [] rfl
  have hFc := va_free (wc := [(h0, .inr (10, fx))]) hD hS hA [0] rfl
  refine va_callq (va_runV (As := [.int f0]) (rest := []) ⟨hx, hb, hml, hown, hts⟩ (m_X12_unitAt l dC dI s.heap.size h0 fx f0 L_fx g_fx_11) (cwV 1 hts (gd_V kw_166 kw_167 kw_168 kw_169 kw_170) rfl rfl rfl (by decide +kernel) ⟨Nat.le_of_ble_eq_true rfl, Nat.le_of_ble_eq_true rfl⟩) ⟨st_blind, va_recv hKc hPc (ci := 10) (q0 := 0) rfl rfl, fun U hU hW9 => st_mk hU hW9 hPc hKc hDc hex⟩ rfl rfl hl.1 rfl (lv_room (Nat.le_of_ble_eq_true rfl)) dX12_rowAt_2 ⟨Nat.le_of_ble_eq_true rfl, Nat.le_of_ble_eq_true rfl⟩) hS (fun q _ h => hFc q h) hFc (fun r_1 u9 t9 H1 locs ht9 hvm9 hw9 hB9 hz9 hk9 hS => ?_)
  have hP1 : va_P (dC, dI) cl0 [] H1 := fun k q h => by simp at h
  have hD1 : va_D (va_A [(h0, .inr (10, fx))] s.heap.size) [] := ⟨fun i j p q h => by simp at h, fun k q h => by simp at h⟩
  obtain ⟨hP, hD⟩ := va_join (wr := []) (w1 := []) hP hD [0] [] rfl rfl (by decide) (by decide) hk9 hFc hP1 hD1
  generalize H1 = H at hP hS ⊢
  have hP : va_P (dC, dI) cl0 [] H := hP
  have hD : va_D A [] := hD
  have hw9 : r_1 = none := hw9
  subst hw9
  refine lv_astore_nN (lv' := [(3, .null), (0, .ref h0), (1, .int f0), (2, .int m0)]) hx hb dX12_rowAt_5 rfl hl (by decide) rfl (fun ls hl => ?_)
  refine lv_aload_nN hx hb dX12_rowAt_6 rfl (lv_at hl 0 rfl) ?_
  refine lv_ifnonnullN hx hb dX12_rowAt_7 ?_
  refine lv_null hx hb dX12_rowAt_10 ?_
  refine lv_goto (tgt := 19) hx hb dX12_rowAt_11 (by decide) ?_
  refine W.widen (k := 0) (n := 0) (Nat.le_of_ble_eq_true rfl) (Nat.le_of_ble_eq_true rfl) ?_
  exact W.aret (v := .null) hx hb hr (Or.inl ⟨_, rfl⟩) (Or.inl rfl) (fun t9 ht9 hW9 => ⟨⟨none, (), rfl, rfl, trivial⟩, hS.F ht9⟩) hS.2.2 dX12_rowAt_19
set_option maxHeartbeats 4000000 in
set_option maxRecDepth 100000 in
theorem m_X12_size (l : Launch) (dC : Nat → ClassId) (dI : Nat → Nat → Nat) (sz : Nat) (h0 : Nat) (fx : List Value) (f0 : Int32) (w0 : Int32) (L_fx : fx.length = 18) (g_fx_11 : fx[11]? = some (.int 0)) : Met l yX12_size (wt yX12_size cX12_size 4 (some .int)) ({ frames := 1, cells := 0, slots := 0, locals := 21 }) (va_Pc [.ref h0, .int f0, .int w0] (st_U dC dI sz [(h0, .inr (10, fx))] [])) (va_Qi (fun (r : Int32) (_ : Unit) => r = (-1)) (fun (_ : Unit) (_ : State) => True) (va_A [(h0, .inr (10, fx))] sz)) 0 0 (va_A [(h0, .inr (10, fx))] sz) := by
  refine Met.ofW (cc := cX12_size) (maxL := 4) (ret := (some .int)) (by decide) rfl ?_
  intro p e s m args below meth c s₁ B hml hv
  obtain ⟨rfl, hsz, hP, hK, hD0, hex⟩ := hv
  have hx := B.exec
  have hb := B.bytes
  have hr := B.returns
  have hts0 := atoms_spec (ws := wt yX12_size cX12_size 4 (some .int)) B.pre
  have hts : ∀ w ∈ tb, w.before _ s = true := fun w h => hts0 w (List.mem_cons_of_mem _ h)
  have hown : s.vm.findClass RX12 = some m.cls := findClass_of_methodNamed B.named
  have hlocks := B.notSynchronized
  subst hsz
  have hD := hD0.self (sz := s.heap.size)
  generalize hAe : va_A [(h0, .inr (10, fx))] s.heap.size = A at hD ⊢
  have hA : ∀ q : Nat, s.heap.size ≤ q → A q := fun q h => by rw [← hAe]; exact Or.inr h
  have hS : va_S A s.heap s.heap [] := va_S.rf
  have hl := lv_entry ([.ref h0, .int f0, .int w0]) (n := 4) (Nat.le_of_ble_eq_true rfl)
  rw [lg_entry_eq]
  generalize (lg_sl ([.ref h0, .int f0, .int w0]) ++ List.replicate (4 - (lg_sl ([.ref h0, .int f0, .int w0])).length) Slot.unset).toArray = ls at hl ⊢
  have hl : lv_has ls 4 [(0, .ref h0), (1, .int f0), (2, .int w0)] := hl
  refine lv_aload_n hx hb dX12_size_0 rfl (lv_at hl 0 rfl) ?_
  refine lv_iload_n hx hb dX12_size_1 rfl (lv_at hl 1 rfl) ?_
  have hPc := hP.sub (ws' := [(h0, .inr (10, fx))]) [0] rfl
  have hDc := hD.sub (ws' := [(h0, .inr (10, fx))]) [0] (by decide) rfl
  have hKc := hK.sub (tys' := []) [] rfl
  have hFc := va_free (wc := [(h0, .inr (10, fx))]) hD hS hA [0] rfl
  refine va_callq (va_runV (As := [.int f0]) (rest := []) ⟨hx, hb, hml, hown, hts⟩ (m_X12_unitAt l dC dI s.heap.size h0 fx f0 L_fx g_fx_11) (cwV 1 hts (gd_V kw_166 kw_167 kw_168 kw_169 kw_170) rfl rfl rfl (by decide +kernel) ⟨Nat.le_of_ble_eq_true rfl, Nat.le_of_ble_eq_true rfl⟩) ⟨st_blind, va_recv hKc hPc (ci := 10) (q0 := 0) rfl rfl, fun U hU hW9 => st_mk hU hW9 hPc hKc hDc hex⟩ rfl rfl hl.1 rfl (lv_room (Nat.le_of_ble_eq_true rfl)) dX12_size_2 ⟨Nat.le_of_ble_eq_true rfl, Nat.le_of_ble_eq_true rfl⟩) hS (fun q _ h => hFc q h) hFc (fun r_1 u9 t9 H1 locs ht9 hvm9 hw9 hB9 hz9 hk9 hS => ?_)
  have hP1 : va_P (dC, dI) cl0 [] H1 := fun k q h => by simp at h
  have hD1 : va_D (va_A [(h0, .inr (10, fx))] s.heap.size) [] := ⟨fun i j p q h => by simp at h, fun k q h => by simp at h⟩
  obtain ⟨hP, hD⟩ := va_join (wr := []) (w1 := []) hP hD [0] [] rfl rfl (by decide) (by decide) hk9 hFc hP1 hD1
  generalize H1 = H at hP hS ⊢
  have hP : va_P (dC, dI) cl0 [] H := hP
  have hD : va_D A [] := hD
  have hw9 : r_1 = none := hw9
  subst hw9
  refine lv_astore_nN (lv' := [(3, .null), (0, .ref h0), (1, .int f0), (2, .int w0)]) hx hb dX12_size_5 rfl hl (by decide) rfl (fun ls hl => ?_)
  refine lv_aload_nN hx hb dX12_size_6 rfl (lv_at hl 0 rfl) ?_
  refine lv_ifnonnullN hx hb dX12_size_7 ?_
  refine lv_iconst (v := (-1)) hx hb dX12_size_10 (by decide) ?_
  refine W.widen (k := 0) (n := 0) (Nat.le_of_ble_eq_true rfl) (Nat.le_of_ble_eq_true rfl) ?_
  exact W.iret (v := (-1)) hx hb hr (fun t9 ht9 hW9 => ⟨⟨_, (), rfl, rfl, trivial⟩, hS.F ht9⟩) hS.2.2 dX12_size_11
set_option maxHeartbeats 4000000 in
set_option maxRecDepth 100000 in
theorem m_X12_length (l : Launch) (dC : Nat → ClassId) (dI : Nat → Nat → Nat) (sz : Nat) (h0 : Nat) (fx : List Value) (f0 : Int32) (m0 : Int32) (L_fx : fx.length = 18) (g_fx_11 : fx[11]? = some (.int 0)) : Met l yX12_length (wt yX12_length cX12_length 4 (some .int)) ({ frames := 2, cells := 0, slots := 0, locals := 44 }) (va_Pc [.ref h0, .int f0, .int m0] (st_U dC dI sz [(h0, .inr (10, fx))] [])) (va_Qi (fun (r : Int32) (_ : Unit) => r = (-1)) (fun (_ : Unit) (_ : State) => True) (va_A [(h0, .inr (10, fx))] sz)) 0 0 (va_A [(h0, .inr (10, fx))] sz) := by
  refine Met.ofW (cc := cX12_length) (maxL := 4) (ret := (some .int)) (by decide) rfl ?_
  intro p e s m args below meth c s₁ B hml hv
  obtain ⟨rfl, hsz, hP, hK, hD0, hex⟩ := hv
  have hx := B.exec
  have hb := B.bytes
  have hr := B.returns
  have hts0 := atoms_spec (ws := wt yX12_length cX12_length 4 (some .int)) B.pre
  have hts : ∀ w ∈ tb, w.before _ s = true := fun w h => hts0 w (List.mem_cons_of_mem _ h)
  have hown : s.vm.findClass RX12 = some m.cls := findClass_of_methodNamed B.named
  have hlocks := B.notSynchronized
  subst hsz
  have hD := hD0.self (sz := s.heap.size)
  generalize hAe : va_A [(h0, .inr (10, fx))] s.heap.size = A at hD ⊢
  have hA : ∀ q : Nat, s.heap.size ≤ q → A q := fun q h => by rw [← hAe]; exact Or.inr h
  have hS : va_S A s.heap s.heap [] := va_S.rf
  have hl := lv_entry ([.ref h0, .int f0, .int m0]) (n := 4) (Nat.le_of_ble_eq_true rfl)
  rw [lg_entry_eq]
  generalize (lg_sl ([.ref h0, .int f0, .int m0]) ++ List.replicate (4 - (lg_sl ([.ref h0, .int f0, .int m0])).length) Slot.unset).toArray = ls at hl ⊢
  have hl : lv_has ls 4 [(0, .ref h0), (1, .int f0), (2, .int m0)] := hl
  refine lv_aload_n hx hb dX12_length_0 rfl (lv_at hl 0 rfl) ?_
  refine lv_iload_n hx hb dX12_length_1 rfl (lv_at hl 1 rfl) ?_
  refine lv_iload_n hx hb dX12_length_2 rfl (lv_at hl 2 rfl) ?_
  have hPc := hP.sub (ws' := [(h0, .inr (10, fx))]) [0] rfl
  have hDc := hD.sub (ws' := [(h0, .inr (10, fx))]) [0] (by decide) rfl
  have hKc := hK.sub (tys' := []) [] rfl
  have hFc := va_free (wc := [(h0, .inr (10, fx))]) hD hS hA [0] rfl
  refine va_callq (va_runV (As := [.int f0, .int m0]) (rest := []) ⟨hx, hb, hml, hown, hts⟩ (m_X12_rowAt l dC dI s.heap.size h0 fx f0 m0 L_fx g_fx_11) (cwV 2 hts (gd_V kw_171 kw_172 kw_173 kw_169 kw_174) rfl rfl rfl (by decide +kernel) ⟨Nat.le_of_ble_eq_true rfl, Nat.le_of_ble_eq_true rfl⟩) ⟨st_blind, va_recv hKc hPc (ci := 10) (q0 := 0) rfl rfl, fun U hU hW9 => st_mk hU hW9 hPc hKc hDc hex⟩ rfl rfl hl.1 rfl (lv_room (Nat.le_of_ble_eq_true rfl)) dX12_length_3 ⟨Nat.le_of_ble_eq_true rfl, Nat.le_of_ble_eq_true rfl⟩) hS (fun q _ h => hFc q h) hFc (fun r_1 u9 t9 H1 locs ht9 hvm9 hw9 hB9 hz9 hk9 hS => ?_)
  have hP1 : va_P (dC, dI) cl0 [] H1 := fun k q h => by simp at h
  have hD1 : va_D (va_A [(h0, .inr (10, fx))] s.heap.size) [] := ⟨fun i j p q h => by simp at h, fun k q h => by simp at h⟩
  obtain ⟨hP, hD⟩ := va_join (wr := []) (w1 := []) hP hD [0] [] rfl rfl (by decide) (by decide) hk9 hFc hP1 hD1
  generalize H1 = H at hP hS ⊢
  have hP : va_P (dC, dI) cl0 [] H := hP
  have hD : va_D A [] := hD
  have hw9 : r_1 = none := hw9
  subst hw9
  refine lv_astore_nN (lv' := [(3, .null), (0, .ref h0), (1, .int f0), (2, .int m0)]) hx hb dX12_length_6 rfl hl (by decide) rfl (fun ls hl => ?_)
  refine lv_aload_nN hx hb dX12_length_7 rfl (lv_at hl 0 rfl) ?_
  refine lv_ifnonnullN hx hb dX12_length_8 ?_
  refine lv_iconst (v := (-1)) hx hb dX12_length_11 (by decide) ?_
  refine lv_goto (tgt := 19) hx hb dX12_length_12 (by decide) ?_
  refine W.widen (k := 0) (n := 0) (Nat.le_of_ble_eq_true rfl) (Nat.le_of_ble_eq_true rfl) ?_
  exact W.iret (v := (-1)) hx hb hr (fun t9 ht9 hW9 => ⟨⟨_, (), rfl, rfl, trivial⟩, hS.F ht9⟩) hS.2.2 dX12_length_19
set_option maxHeartbeats 4000000 in
set_option maxRecDepth 100000 in
theorem m_X12_verify (l : Launch) (dC : Nat → ClassId) (dI : Nat → Nat → Nat) (sz : Nat) (h0 : Nat) (fx : List Value) (f0 : Int32) (L_fx : fx.length = 18) (g_fx_11 : fx[11]? = some (.int 0)) : Met l yX12_verify (wt yX12_verify cX12_verify 4 (some .int)) ({ frames := 1, cells := 0, slots := 0, locals := 21 }) (va_Pc [.ref h0, .int f0] (st_U dC dI sz [(h0, .inr (10, fx))] [])) (va_Qi (fun (r : Int32) (_ : Unit) => r = (-1)) (fun (_ : Unit) (_ : State) => True) (va_A [(h0, .inr (10, fx))] sz)) 0 0 (va_A [(h0, .inr (10, fx))] sz) := by
  refine Met.ofW (cc := cX12_verify) (maxL := 4) (ret := (some .int)) (by decide) rfl ?_
  intro p e s m args below meth c s₁ B hml hv
  obtain ⟨rfl, hsz, hP, hK, hD0, hex⟩ := hv
  have hx := B.exec
  have hb := B.bytes
  have hr := B.returns
  have hts0 := atoms_spec (ws := wt yX12_verify cX12_verify 4 (some .int)) B.pre
  have hts : ∀ w ∈ tb, w.before _ s = true := fun w h => hts0 w (List.mem_cons_of_mem _ h)
  have hown : s.vm.findClass RX12 = some m.cls := findClass_of_methodNamed B.named
  have hlocks := B.notSynchronized
  subst hsz
  have hD := hD0.self (sz := s.heap.size)
  generalize hAe : va_A [(h0, .inr (10, fx))] s.heap.size = A at hD ⊢
  have hA : ∀ q : Nat, s.heap.size ≤ q → A q := fun q h => by rw [← hAe]; exact Or.inr h
  have hS : va_S A s.heap s.heap [] := va_S.rf
  have hl := lv_entry ([.ref h0, .int f0]) (n := 4) (Nat.le_of_ble_eq_true rfl)
  rw [lg_entry_eq]
  generalize (lg_sl ([.ref h0, .int f0]) ++ List.replicate (4 - (lg_sl ([.ref h0, .int f0])).length) Slot.unset).toArray = ls at hl ⊢
  have hl : lv_has ls 4 [(0, .ref h0), (1, .int f0)] := hl
  refine lv_aload_n hx hb dX12_verify_0 rfl (lv_at hl 0 rfl) ?_
  refine lv_iconst (v := (-1)) hx hb dX12_verify_1 (by decide) ?_
  refine va_put (D := (dC, dI)) (ci := 10) (v := .int (-1)) (ty := .int) (C := RX12) (T := TX12) (N := 18) hx hb hts inX12 tyX12 tyX12_ok nmX12 hown hK hP hD hS 0 rfl rfl 15 (by decide) (hts _ kw_145) (fun _ h9 => h9) rfl (by decide +kernel) rfl rfl (by rw [L_fx]; decide) dX12_verify_2 (fun H locs hP hD hS => ?_)
  obtain ⟨fx_1, e_fx_1⟩ : ∃ z, z = fx.set 15 (.int (-1)) := ⟨_, rfl⟩
  have hP : va_P (dC, dI) cl0 [(h0, .inr (10, fx_1))] H := by rw [e_fx_1]; exact hP
  have hD : va_D A [(h0, .inr (10, fx_1))] := by rw [e_fx_1]; exact hD
  have L_fx_1 : fx_1.length = 18 := fx_len e_fx_1 L_fx
  have g_fx_1_11 := fx_ne (j := 11) e_fx_1 g_fx_11 (by decide)
  have g_fx_1_15 := fx_self e_fx_1 (by rw [L_fx]; decide)
  refine lv_aload_n hx hb dX12_verify_5 rfl (lv_at hl 0 rfl) ?_
  refine lv_iconst (v := (-1)) hx hb dX12_verify_6 (by decide) ?_
  refine va_put (D := (dC, dI)) (ci := 10) (v := .int (-1)) (ty := .int) (C := RX12) (T := TX12) (N := 18) hx hb hts inX12 tyX12 tyX12_ok nmX12 hown hK hP hD hS 0 rfl rfl 16 (by decide) (hts _ kw_146) (fun _ h9 => h9) rfl (by decide +kernel) rfl rfl (by rw [L_fx_1]; decide) dX12_verify_7 (fun H locs hP hD hS => ?_)
  obtain ⟨fx_2, e_fx_2⟩ : ∃ z, z = fx_1.set 16 (.int (-1)) := ⟨_, rfl⟩
  have hP : va_P (dC, dI) cl0 [(h0, .inr (10, fx_2))] H := by rw [e_fx_2]; exact hP
  have hD : va_D A [(h0, .inr (10, fx_2))] := by rw [e_fx_2]; exact hD
  have L_fx_2 : fx_2.length = 18 := fx_len e_fx_2 L_fx_1
  have g_fx_2_11 := fx_ne (j := 11) e_fx_2 g_fx_1_11 (by decide)
  have g_fx_2_15 := fx_ne (j := 15) e_fx_2 g_fx_1_15 (by decide)
  have g_fx_2_16 := fx_self e_fx_2 (by rw [L_fx_1]; decide)
  refine lv_aload_n hx hb dX12_verify_10 rfl (lv_at hl 0 rfl) ?_
  refine lv_iload_n hx hb dX12_verify_11 rfl (lv_at hl 1 rfl) ?_
  have hPc := hP.sub (ws' := [(h0, .inr (10, fx_2))]) [0] rfl
  have hDc := hD.sub (ws' := [(h0, .inr (10, fx_2))]) [0] (by decide) rfl
  have hKc := hK.sub (tys' := []) [] rfl
  have hFc := va_free (wc := [(h0, .inr (10, fx_2))]) hD hS hA [0] rfl
  refine va_callq (va_runV (As := [.int f0]) (rest := []) ⟨hx, hb, hml, hown, hts⟩ (m_X12_unitAt l dC dI H.size h0 fx_2 f0 L_fx_2 g_fx_2_11) (cwV 1 hts (gd_V kw_166 kw_167 kw_168 kw_169 kw_170) rfl rfl rfl (by decide +kernel) ⟨Nat.le_of_ble_eq_true rfl, Nat.le_of_ble_eq_true rfl⟩) ⟨st_blind, va_recv hKc hPc (ci := 10) (q0 := 0) rfl rfl, fun U hU hW9 => st_mk hU hW9 hPc hKc hDc hex⟩ rfl rfl hl.1 rfl (lv_room (Nat.le_of_ble_eq_true rfl)) dX12_verify_12 ⟨Nat.le_of_ble_eq_true rfl, Nat.le_of_ble_eq_true rfl⟩) hS (fun q _ h => hFc q h) hFc (fun r_3 u9 t9 H1 locs ht9 hvm9 hw9 hB9 hz9 hk9 hS => ?_)
  have hP1 : va_P (dC, dI) cl0 [] H1 := fun k q h => by simp at h
  have hD1 : va_D (va_A [(h0, .inr (10, fx_2))] H.size) [] := ⟨fun i j p q h => by simp at h, fun k q h => by simp at h⟩
  obtain ⟨hP, hD⟩ := va_join (wr := []) (w1 := []) hP hD [0] [] rfl rfl (by decide) (by decide) hk9 hFc hP1 hD1
  generalize H1 = H at hP hS ⊢
  have hP : va_P (dC, dI) cl0 [] H := hP
  have hD : va_D A [] := hD
  have hw9 : r_3 = none := hw9
  subst hw9
  refine lv_astore_nN (lv' := [(2, .null), (0, .ref h0), (1, .int f0)]) hx hb dX12_verify_15 rfl hl (by decide) rfl (fun ls hl => ?_)
  refine lv_aload_nN hx hb dX12_verify_16 rfl (lv_at hl 0 rfl) ?_
  refine lv_ifnonnullN hx hb dX12_verify_17 ?_
  refine lv_iconst (v := (-1)) hx hb dX12_verify_20 (by decide) ?_
  refine W.widen (k := 0) (n := 0) (Nat.le_of_ble_eq_true rfl) (Nat.le_of_ble_eq_true rfl) ?_
  exact W.iret (v := (-1)) hx hb hr (fun t9 ht9 hW9 => ⟨⟨_, (), rfl, rfl, trivial⟩, hS.F ht9⟩) hS.2.2 dX12_verify_21
set_option maxHeartbeats 4000000 in
set_option maxRecDepth 100000 in
theorem m_X12_height (l : Launch) (dC : Nat → ClassId) (dI : Nat → Nat → Nat) (sz : Nat) (h0 : Nat) (fx : List Value) (f0 : Int32) (m0 : Int32) (i0 : Int32) (L_fx : fx.length = 18) (g_fx_11 : fx[11]? = some (.int 0)) : Met l yX12_height (wt yX12_height cX12_height 5 (some .int)) ({ frames := 2, cells := 0, slots := 0, locals := 43 }) (va_Pc [.ref h0, .int f0, .int m0, .int i0] (st_U dC dI sz [(h0, .inr (10, fx))] [])) (va_Qi (fun (r : Int32) (_ : Unit) => r = (-1)) (fun (_ : Unit) (_ : State) => True) (va_A [(h0, .inr (10, fx))] sz)) 0 0 (va_A [(h0, .inr (10, fx))] sz) := by
  refine Met.ofW (cc := cX12_height) (maxL := 5) (ret := (some .int)) (by decide) rfl ?_
  intro p e s m args below meth c s₁ B hml hv
  obtain ⟨rfl, hsz, hP, hK, hD0, hex⟩ := hv
  have hx := B.exec
  have hb := B.bytes
  have hr := B.returns
  have hts0 := atoms_spec (ws := wt yX12_height cX12_height 5 (some .int)) B.pre
  have hts : ∀ w ∈ tb, w.before _ s = true := fun w h => hts0 w (List.mem_cons_of_mem _ h)
  have hown : s.vm.findClass RX12 = some m.cls := findClass_of_methodNamed B.named
  have hlocks := B.notSynchronized
  subst hsz
  have hD := hD0.self (sz := s.heap.size)
  generalize hAe : va_A [(h0, .inr (10, fx))] s.heap.size = A at hD ⊢
  have hA : ∀ q : Nat, s.heap.size ≤ q → A q := fun q h => by rw [← hAe]; exact Or.inr h
  have hS : va_S A s.heap s.heap [] := va_S.rf
  have hl := lv_entry ([.ref h0, .int f0, .int m0, .int i0]) (n := 5) (Nat.le_of_ble_eq_true rfl)
  rw [lg_entry_eq]
  generalize (lg_sl ([.ref h0, .int f0, .int m0, .int i0]) ++ List.replicate (5 - (lg_sl ([.ref h0, .int f0, .int m0, .int i0])).length) Slot.unset).toArray = ls at hl ⊢
  have hl : lv_has ls 5 [(0, .ref h0), (1, .int f0), (2, .int m0), (3, .int i0)] := hl
  refine lv_aload_n hx hb dX12_height_0 rfl (lv_at hl 0 rfl) ?_
  refine lv_iload_n hx hb dX12_height_1 rfl (lv_at hl 1 rfl) ?_
  have hPc := hP.sub (ws' := [(h0, .inr (10, fx))]) [0] rfl
  have hDc := hD.sub (ws' := [(h0, .inr (10, fx))]) [0] (by decide) rfl
  have hKc := hK.sub (tys' := []) [] rfl
  have hFc := va_free (wc := [(h0, .inr (10, fx))]) hD hS hA [0] rfl
  refine va_callq (va_runV (As := [.int f0]) (rest := []) ⟨hx, hb, hml, hown, hts⟩ (m_X12_soundUnitAt l dC dI s.heap.size h0 fx f0 L_fx g_fx_11) (cwV 1 hts (gd_V kw_175 kw_176 kw_177 kw_169 kw_178) rfl rfl rfl (by decide +kernel) ⟨Nat.le_of_ble_eq_true rfl, Nat.le_of_ble_eq_true rfl⟩) ⟨st_blind, va_recv hKc hPc (ci := 10) (q0 := 0) rfl rfl, fun U hU hW9 => st_mk hU hW9 hPc hKc hDc hex⟩ rfl rfl hl.1 rfl (lv_room (Nat.le_of_ble_eq_true rfl)) dX12_height_2 ⟨Nat.le_of_ble_eq_true rfl, Nat.le_of_ble_eq_true rfl⟩) hS (fun q _ h => hFc q h) hFc (fun r_1 u9 t9 H1 locs ht9 hvm9 hw9 hB9 hz9 hk9 hS => ?_)
  have hP1 : va_P (dC, dI) cl0 [] H1 := fun k q h => by simp at h
  have hD1 : va_D (va_A [(h0, .inr (10, fx))] s.heap.size) [] := ⟨fun i j p q h => by simp at h, fun k q h => by simp at h⟩
  obtain ⟨hP, hD⟩ := va_join (wr := []) (w1 := []) hP hD [0] [] rfl rfl (by decide) (by decide) hk9 hFc hP1 hD1
  generalize H1 = H at hP hS ⊢
  have hP : va_P (dC, dI) cl0 [] H := hP
  have hD : va_D A [] := hD
  have hw9 : r_1 = none := hw9
  subst hw9
  refine lv_ifnonnullN hx hb dX12_height_5 ?_
  refine lv_null hx hb dX12_height_8 ?_
  refine lv_goto (tgt := 18) hx hb dX12_height_9 (by decide) ?_
  refine lv_astoreN (lv' := [(4, .null), (0, .ref h0), (1, .int f0), (2, .int m0), (3, .int i0)]) hx hb dX12_height_18 hl (by decide) rfl (fun ls hl => ?_)
  refine lv_aloadN hx hb dX12_height_20 (lv_at hl 0 rfl) ?_
  refine lv_ifnonnullN hx hb dX12_height_22 ?_
  refine lv_iconst (v := (-1)) hx hb dX12_height_25 (by decide) ?_
  refine lv_goto (tgt := 35) hx hb dX12_height_26 (by decide) ?_
  refine W.widen (k := 0) (n := 0) (Nat.le_of_ble_eq_true rfl) (Nat.le_of_ble_eq_true rfl) ?_
  exact W.iret (v := (-1)) hx hb hr (fun t9 ht9 hW9 => ⟨⟨_, (), rfl, rfl, trivial⟩, hS.F ht9⟩) hS.2.2 dX12_height_35
set_option maxHeartbeats 4000000 in
set_option maxRecDepth 100000 in
theorem m_X12_local (l : Launch) (dC : Nat → ClassId) (dI : Nat → Nat → Nat) (sz : Nat) (h0 : Nat) (fx : List Value) (f0 : Int32) (m0 : Int32) (i0 : Int32) (k0 : Int32) (L_fx : fx.length = 18) (g_fx_11 : fx[11]? = some (.int 0)) : Met l yX12_local (wt yX12_local cX12_local 6 (some .int)) ({ frames := 2, cells := 0, slots := 0, locals := 43 }) (va_Pc [.ref h0, .int f0, .int m0, .int i0, .int k0] (st_U dC dI sz [(h0, .inr (10, fx))] [])) (va_Qi (fun (r : Int32) (_ : Unit) => r = (-1)) (fun (_ : Unit) (_ : State) => True) (va_A [(h0, .inr (10, fx))] sz)) 0 0 (va_A [(h0, .inr (10, fx))] sz) := by
  refine Met.ofW (cc := cX12_local) (maxL := 6) (ret := (some .int)) (by decide) rfl ?_
  intro p e s m args below meth c s₁ B hml hv
  obtain ⟨rfl, hsz, hP, hK, hD0, hex⟩ := hv
  have hx := B.exec
  have hb := B.bytes
  have hr := B.returns
  have hts0 := atoms_spec (ws := wt yX12_local cX12_local 6 (some .int)) B.pre
  have hts : ∀ w ∈ tb, w.before _ s = true := fun w h => hts0 w (List.mem_cons_of_mem _ h)
  have hown : s.vm.findClass RX12 = some m.cls := findClass_of_methodNamed B.named
  have hlocks := B.notSynchronized
  subst hsz
  have hD := hD0.self (sz := s.heap.size)
  generalize hAe : va_A [(h0, .inr (10, fx))] s.heap.size = A at hD ⊢
  have hA : ∀ q : Nat, s.heap.size ≤ q → A q := fun q h => by rw [← hAe]; exact Or.inr h
  have hS : va_S A s.heap s.heap [] := va_S.rf
  have hl := lv_entry ([.ref h0, .int f0, .int m0, .int i0, .int k0]) (n := 6) (Nat.le_of_ble_eq_true rfl)
  rw [lg_entry_eq]
  generalize (lg_sl ([.ref h0, .int f0, .int m0, .int i0, .int k0]) ++ List.replicate (6 - (lg_sl ([.ref h0, .int f0, .int m0, .int i0, .int k0])).length) Slot.unset).toArray = ls at hl ⊢
  have hl : lv_has ls 6 [(0, .ref h0), (1, .int f0), (2, .int m0), (3, .int i0), (4, .int k0)] := hl
  refine lv_aload_n hx hb dX12_local_0 rfl (lv_at hl 0 rfl) ?_
  refine lv_iload_n hx hb dX12_local_1 rfl (lv_at hl 1 rfl) ?_
  have hPc := hP.sub (ws' := [(h0, .inr (10, fx))]) [0] rfl
  have hDc := hD.sub (ws' := [(h0, .inr (10, fx))]) [0] (by decide) rfl
  have hKc := hK.sub (tys' := []) [] rfl
  have hFc := va_free (wc := [(h0, .inr (10, fx))]) hD hS hA [0] rfl
  refine va_callq (va_runV (As := [.int f0]) (rest := []) ⟨hx, hb, hml, hown, hts⟩ (m_X12_soundUnitAt l dC dI s.heap.size h0 fx f0 L_fx g_fx_11) (cwV 1 hts (gd_V kw_175 kw_176 kw_177 kw_169 kw_178) rfl rfl rfl (by decide +kernel) ⟨Nat.le_of_ble_eq_true rfl, Nat.le_of_ble_eq_true rfl⟩) ⟨st_blind, va_recv hKc hPc (ci := 10) (q0 := 0) rfl rfl, fun U hU hW9 => st_mk hU hW9 hPc hKc hDc hex⟩ rfl rfl hl.1 rfl (lv_room (Nat.le_of_ble_eq_true rfl)) dX12_local_2 ⟨Nat.le_of_ble_eq_true rfl, Nat.le_of_ble_eq_true rfl⟩) hS (fun q _ h => hFc q h) hFc (fun r_1 u9 t9 H1 locs ht9 hvm9 hw9 hB9 hz9 hk9 hS => ?_)
  have hP1 : va_P (dC, dI) cl0 [] H1 := fun k q h => by simp at h
  have hD1 : va_D (va_A [(h0, .inr (10, fx))] s.heap.size) [] := ⟨fun i j p q h => by simp at h, fun k q h => by simp at h⟩
  obtain ⟨hP, hD⟩ := va_join (wr := []) (w1 := []) hP hD [0] [] rfl rfl (by decide) (by decide) hk9 hFc hP1 hD1
  generalize H1 = H at hP hS ⊢
  have hP : va_P (dC, dI) cl0 [] H := hP
  have hD : va_D A [] := hD
  have hw9 : r_1 = none := hw9
  subst hw9
  refine lv_ifnonnullN hx hb dX12_local_5 ?_
  refine lv_null hx hb dX12_local_8 ?_
  refine lv_goto (tgt := 18) hx hb dX12_local_9 (by decide) ?_
  refine lv_astoreN (lv' := [(5, .null), (0, .ref h0), (1, .int f0), (2, .int m0), (3, .int i0), (4, .int k0)]) hx hb dX12_local_18 hl (by decide) rfl (fun ls hl => ?_)
  refine lv_aloadN hx hb dX12_local_20 (lv_at hl 0 rfl) ?_
  refine lv_ifnullN (tgt := 46) hx hb dX12_local_22 (by decide) ?_
  refine lv_iconst (v := (-1)) hx hb dX12_local_46 (by decide) ?_
  refine W.widen (k := 0) (n := 0) (Nat.le_of_ble_eq_true rfl) (Nat.le_of_ble_eq_true rfl) ?_
  exact W.iret (v := (-1)) hx hb hr (fun t9 ht9 hW9 => ⟨⟨_, (), rfl, rfl, trivial⟩, hS.F ht9⟩) hS.2.2 dX12_local_47
set_option maxHeartbeats 4000000 in
set_option maxRecDepth 100000 in
theorem m_X12_write (l : Launch) (dC : Nat → ClassId) (dI : Nat → Nat → Nat) (sz : Nat) (h0 : Nat) (fx : List Value) (f0 : Int32) (L_fx : fx.length = 18) (g_fx_11 : fx[11]? = some (.int 0)) : Met l yX12_write (wt yX12_write cX12_write 4 (some .int)) ({ frames := 2, cells := 0, slots := 0, locals := 43 }) (va_Pc [.ref h0, .int f0] (st_U dC dI sz [(h0, .inr (10, fx))] [])) (va_Qi (fun (r : Int32) (_ : Unit) => r = (-1)) (fun (_ : Unit) (_ : State) => True) (va_A [(h0, .inr (10, fx))] sz)) 0 0 (va_A [(h0, .inr (10, fx))] sz) := by
  refine Met.ofW (cc := cX12_write) (maxL := 4) (ret := (some .int)) (by decide) rfl ?_
  intro p e s m args below meth c s₁ B hml hv
  obtain ⟨rfl, hsz, hP, hK, hD0, hex⟩ := hv
  have hx := B.exec
  have hb := B.bytes
  have hr := B.returns
  have hts0 := atoms_spec (ws := wt yX12_write cX12_write 4 (some .int)) B.pre
  have hts : ∀ w ∈ tb, w.before _ s = true := fun w h => hts0 w (List.mem_cons_of_mem _ h)
  have hown : s.vm.findClass RX12 = some m.cls := findClass_of_methodNamed B.named
  have hlocks := B.notSynchronized
  subst hsz
  have hD := hD0.self (sz := s.heap.size)
  generalize hAe : va_A [(h0, .inr (10, fx))] s.heap.size = A at hD ⊢
  have hA : ∀ q : Nat, s.heap.size ≤ q → A q := fun q h => by rw [← hAe]; exact Or.inr h
  have hS : va_S A s.heap s.heap [] := va_S.rf
  have hl := lv_entry ([.ref h0, .int f0]) (n := 4) (Nat.le_of_ble_eq_true rfl)
  rw [lg_entry_eq]
  generalize (lg_sl ([.ref h0, .int f0]) ++ List.replicate (4 - (lg_sl ([.ref h0, .int f0])).length) Slot.unset).toArray = ls at hl ⊢
  have hl : lv_has ls 4 [(0, .ref h0), (1, .int f0)] := hl
  refine lv_aload_n hx hb dX12_write_0 rfl (lv_at hl 0 rfl) ?_
  refine lv_iload_n hx hb dX12_write_1 rfl (lv_at hl 1 rfl) ?_
  have hPc := hP.sub (ws' := [(h0, .inr (10, fx))]) [0] rfl
  have hDc := hD.sub (ws' := [(h0, .inr (10, fx))]) [0] (by decide) rfl
  have hKc := hK.sub (tys' := []) [] rfl
  have hFc := va_free (wc := [(h0, .inr (10, fx))]) hD hS hA [0] rfl
  refine va_callq (va_runV (As := [.int f0]) (rest := []) ⟨hx, hb, hml, hown, hts⟩ (m_X12_soundUnitAt l dC dI s.heap.size h0 fx f0 L_fx g_fx_11) (cwV 1 hts (gd_V kw_175 kw_176 kw_177 kw_169 kw_178) rfl rfl rfl (by decide +kernel) ⟨Nat.le_of_ble_eq_true rfl, Nat.le_of_ble_eq_true rfl⟩) ⟨st_blind, va_recv hKc hPc (ci := 10) (q0 := 0) rfl rfl, fun U hU hW9 => st_mk hU hW9 hPc hKc hDc hex⟩ rfl rfl hl.1 rfl (lv_room (Nat.le_of_ble_eq_true rfl)) dX12_write_2 ⟨Nat.le_of_ble_eq_true rfl, Nat.le_of_ble_eq_true rfl⟩) hS (fun q _ h => hFc q h) hFc (fun r_1 u9 t9 H1 locs ht9 hvm9 hw9 hB9 hz9 hk9 hS => ?_)
  have hP1 : va_P (dC, dI) cl0 [] H1 := fun k q h => by simp at h
  have hD1 : va_D (va_A [(h0, .inr (10, fx))] s.heap.size) [] := ⟨fun i j p q h => by simp at h, fun k q h => by simp at h⟩
  obtain ⟨hP, hD⟩ := va_join (wr := []) (w1 := []) hP hD [0] [] rfl rfl (by decide) (by decide) hk9 hFc hP1 hD1
  generalize H1 = H at hP hS ⊢
  have hP : va_P (dC, dI) cl0 [] H := hP
  have hD : va_D A [] := hD
  have hw9 : r_1 = none := hw9
  subst hw9
  refine lv_astore_nN (lv' := [(2, .null), (0, .ref h0), (1, .int f0)]) hx hb dX12_write_5 rfl hl (by decide) rfl (fun ls hl => ?_)
  refine lv_aload_nN hx hb dX12_write_6 rfl (lv_at hl 0 rfl) ?_
  refine lv_ifnonnullN hx hb dX12_write_7 ?_
  refine lv_iconst (v := (-1)) hx hb dX12_write_10 (by decide) ?_
  refine W.widen (k := 0) (n := 0) (Nat.le_of_ble_eq_true rfl) (Nat.le_of_ble_eq_true rfl) ?_
  exact W.iret (v := (-1)) hx hb hr (fun t9 ht9 hW9 => ⟨⟨_, (), rfl, rfl, trivial⟩, hS.F ht9⟩) hS.2.2 dX12_write_11
set_option maxHeartbeats 4000000 in
set_option maxRecDepth 100000 in
theorem m_X12_byteAt (l : Launch) (dC : Nat → ClassId) (dI : Nat → Nat → Nat) (sz : Nat) (h0 : Nat) (fx : List Value) (hw0 : Nat) (fw : List Value) (i0 : Int32) (L_fx : fx.length = 18) (g_fx_1 : fx[1]? = some (.ref hw0)) (L_fw : fw.length = 2) (g_fw_1 : fw[1]? = some (.int 0)) : Met l yX12_byteAt (wt yX12_byteAt cX12_byteAt 2 (some .int)) ({ frames := 0, cells := 0, slots := 0, locals := 0 }) (va_Pc [.ref h0, .int i0] (st_U dC dI sz [(h0, .inr (10, fx)), (hw0, .inr (0, fw))] [])) (va_Qi (fun (r : Int32) (_ : Unit) => r = (-1)) (fun (_ : Unit) (_ : State) => True) (va_A [(h0, .inr (10, fx)), (hw0, .inr (0, fw))] sz)) 0 0 (va_A [(h0, .inr (10, fx)), (hw0, .inr (0, fw))] sz) := by
  refine Met.ofW (cc := cX12_byteAt) (maxL := 2) (ret := (some .int)) (by decide) rfl ?_
  intro p e s m args below meth c s₁ B hml hv
  obtain ⟨rfl, hsz, hP, hK, hD0, hex⟩ := hv
  have hx := B.exec
  have hb := B.bytes
  have hr := B.returns
  have hts0 := atoms_spec (ws := wt yX12_byteAt cX12_byteAt 2 (some .int)) B.pre
  have hts : ∀ w ∈ tb, w.before _ s = true := fun w h => hts0 w (List.mem_cons_of_mem _ h)
  have hown : s.vm.findClass RX12 = some m.cls := findClass_of_methodNamed B.named
  have hlocks := B.notSynchronized
  subst hsz
  have hD := hD0.self (sz := s.heap.size)
  generalize hAe : va_A [(h0, .inr (10, fx)), (hw0, .inr (0, fw))] s.heap.size = A at hD ⊢
  have hA : ∀ q : Nat, s.heap.size ≤ q → A q := fun q h => by rw [← hAe]; exact Or.inr h
  have hS : va_S A s.heap s.heap [] := va_S.rf
  have hl := lv_entry ([.ref h0, .int i0]) (n := 2) (Nat.le_of_ble_eq_true rfl)
  rw [lg_entry_eq]
  generalize (lg_sl ([.ref h0, .int i0]) ++ List.replicate (2 - (lg_sl ([.ref h0, .int i0])).length) Slot.unset).toArray = ls at hl ⊢
  have hl : lv_has ls 2 [(0, .ref h0), (1, .int i0)] := hl
  refine lv_iload_n hx hb dX12_byteAt_0 rfl (lv_at hl 1 rfl) ?_
  refine lv_if_lt (tgt := 15) hx hb dX12_byteAt_1 (by decide) (fun c_1 => ?_) (fun c_1 => ?_)
  · refine lv_iconst (v := (-1)) hx hb dX12_byteAt_15 (by decide) ?_
    refine lv_goto (tgt := 27) hx hb dX12_byteAt_16 (by decide) ?_
    refine W.widen (k := 0) (n := 0) (Nat.le_of_ble_eq_true rfl) (Nat.le_of_ble_eq_true rfl) ?_
    exact W.iret (v := (-1)) hx hb hr (fun t9 ht9 hW9 => ⟨⟨_, (), rfl, rfl, trivial⟩, hS.F ht9⟩) hS.2.2 dX12_byteAt_27
  · refine lv_iload_n hx hb dX12_byteAt_4 rfl (lv_at hl 1 rfl) ?_
    refine lv_aload_n hx hb dX12_byteAt_5 rfl (lv_at hl 0 rfl) ?_
    refine va_get (D := (dC, dI)) (ci := 10) (v := .ref hw0) (C := RX12) (T := TX12) (N := 18) hx hb hts inX12 hown hK hP 0 rfl rfl 1 (by decide) (hts _ kw_104) (fun _ h9 => h9) g_fx_1 dX12_byteAt_6 ?_
    refine va_get (D := (dC, dI)) (ci := 0) (v := .int 0) (C := RX0) (T := TX0) (N := 2) hx hb hts inX0 hown hK hP 1 rfl rfl 1 (by decide) (hts _ kw_157) (fun _ h9 => h9) g_fw_1 dX12_byteAt_9 ?_
    refine lv_icmp_lt (tgt := 19) hx hb dX12_byteAt_12 (by decide) (fun c_12 => False.elim (c_1 c_12)) (fun c_12 => ?_)
    refine lv_iconst (v := (-1)) hx hb dX12_byteAt_15 (by decide) ?_
    refine lv_goto (tgt := 27) hx hb dX12_byteAt_16 (by decide) ?_
    refine W.widen (k := 0) (n := 0) (Nat.le_of_ble_eq_true rfl) (Nat.le_of_ble_eq_true rfl) ?_
    exact W.iret (v := (-1)) hx hb hr (fun t9 ht9 hW9 => ⟨⟨_, (), rfl, rfl, trivial⟩, hS.F ht9⟩) hS.2.2 dX12_byteAt_27
set_option maxHeartbeats 4000000 in
set_option maxRecDepth 100000 in
theorem m_X12_stage (l : Launch) (dC : Nat → ClassId) (dI : Nat → Nat → Nat) (sz : Nat) (h0 : Nat) (fx : List Value) (f0 : Int32) (L_fx : fx.length = 18) (g_fx_11 : fx[11]? = some (.int 0)) : Met l yX12_stage (wt yX12_stage cX12_stage 3 (some .boolean)) ({ frames := 2, cells := 0, slots := 0, locals := 43 }) (va_Pc [.ref h0, .int f0] (st_U dC dI sz [(h0, .inr (10, fx))] [])) (va_Qi (fun (r : Int32) (_ : Unit) => r = 0) (fun (_ : Unit) (_ : State) => True) (va_A [(h0, .inr (10, fx))] sz)) 0 0 (va_A [(h0, .inr (10, fx))] sz) := by
  refine Met.ofW (cc := cX12_stage) (maxL := 3) (ret := (some .boolean)) (by decide) rfl ?_
  intro p e s m args below meth c s₁ B hml hv
  obtain ⟨rfl, hsz, hP, hK, hD0, hex⟩ := hv
  have hx := B.exec
  have hb := B.bytes
  have hr := B.returns
  have hts0 := atoms_spec (ws := wt yX12_stage cX12_stage 3 (some .boolean)) B.pre
  have hts : ∀ w ∈ tb, w.before _ s = true := fun w h => hts0 w (List.mem_cons_of_mem _ h)
  have hown : s.vm.findClass RX12 = some m.cls := findClass_of_methodNamed B.named
  have hlocks := B.notSynchronized
  subst hsz
  have hD := hD0.self (sz := s.heap.size)
  generalize hAe : va_A [(h0, .inr (10, fx))] s.heap.size = A at hD ⊢
  have hA : ∀ q : Nat, s.heap.size ≤ q → A q := fun q h => by rw [← hAe]; exact Or.inr h
  have hS : va_S A s.heap s.heap [] := va_S.rf
  have hl := lv_entry ([.ref h0, .int f0]) (n := 3) (Nat.le_of_ble_eq_true rfl)
  rw [lg_entry_eq]
  generalize (lg_sl ([.ref h0, .int f0]) ++ List.replicate (3 - (lg_sl ([.ref h0, .int f0])).length) Slot.unset).toArray = ls at hl ⊢
  have hl : lv_has ls 3 [(0, .ref h0), (1, .int f0)] := hl
  refine lv_aload_n hx hb dX12_stage_0 rfl (lv_at hl 0 rfl) ?_
  refine lv_iload_n hx hb dX12_stage_1 rfl (lv_at hl 1 rfl) ?_
  have hPc := hP.sub (ws' := [(h0, .inr (10, fx))]) [0] rfl
  have hDc := hD.sub (ws' := [(h0, .inr (10, fx))]) [0] (by decide) rfl
  have hKc := hK.sub (tys' := []) [] rfl
  have hFc := va_free (wc := [(h0, .inr (10, fx))]) hD hS hA [0] rfl
  refine va_callq (va_runV (As := [.int f0]) (rest := []) ⟨hx, hb, hml, hown, hts⟩ (m_X12_soundUnitAt l dC dI s.heap.size h0 fx f0 L_fx g_fx_11) (cwV 1 hts (gd_V kw_175 kw_176 kw_177 kw_169 kw_178) rfl rfl rfl (by decide +kernel) ⟨Nat.le_of_ble_eq_true rfl, Nat.le_of_ble_eq_true rfl⟩) ⟨st_blind, va_recv hKc hPc (ci := 10) (q0 := 0) rfl rfl, fun U hU hW9 => st_mk hU hW9 hPc hKc hDc hex⟩ rfl rfl hl.1 rfl (lv_room (Nat.le_of_ble_eq_true rfl)) dX12_stage_2 ⟨Nat.le_of_ble_eq_true rfl, Nat.le_of_ble_eq_true rfl⟩) hS (fun q _ h => hFc q h) hFc (fun r_1 u9 t9 H1 locs ht9 hvm9 hw9 hB9 hz9 hk9 hS => ?_)
  have hP1 : va_P (dC, dI) cl0 [] H1 := fun k q h => by simp at h
  have hD1 : va_D (va_A [(h0, .inr (10, fx))] s.heap.size) [] := ⟨fun i j p q h => by simp at h, fun k q h => by simp at h⟩
  obtain ⟨hP, hD⟩ := va_join (wr := []) (w1 := []) hP hD [0] [] rfl rfl (by decide) (by decide) hk9 hFc hP1 hD1
  generalize H1 = H at hP hS ⊢
  have hP : va_P (dC, dI) cl0 [] H := hP
  have hD : va_D A [] := hD
  have hw9 : r_1 = none := hw9
  subst hw9
  refine lv_astore_nN (lv' := [(2, .null), (0, .ref h0), (1, .int f0)]) hx hb dX12_stage_5 rfl hl (by decide) rfl (fun ls hl => ?_)
  refine lv_aload_nN hx hb dX12_stage_6 rfl (lv_at hl 0 rfl) ?_
  refine lv_ifnonnullN hx hb dX12_stage_7 ?_
  refine lv_iconst (v := 0) hx hb dX12_stage_10 (by decide) ?_
  refine W.widen (k := 0) (n := 0) (Nat.le_of_ble_eq_true rfl) (Nat.le_of_ble_eq_true rfl) ?_
  exact W.zret (v := 0) hx hb hr rfl (fun t9 ht9 hW9 => ⟨⟨_, (), rfl, rfl, trivial⟩, hS.F ht9⟩) hS.2.2 dX12_stage_11
set_option maxHeartbeats 4000000 in
set_option maxRecDepth 100000 in
theorem m_X5_addArgument (l : Launch) (dC : Nat → ClassId) (dI : Nat → Nat → Nat) (sz : Nat) (h0 : Nat) (fm : List Value) (hma : Nat) (cJ : ClassId) (v : Int64) (L_fm : fm.length = 20) (g_fm_6 : fm[6]? = some (.ref hma)) (g_fm_7 : fm[7]? = some (.int 0)) : Met l yX5_addArgument (wt yX5_addArgument cX5_addArgument 3 (some .int)) ({ frames := 0, cells := 0, slots := 0, locals := 0 }) (va_Pc [.ref h0, .long v] (st_U dC dI sz [(h0, .inr (5, fm)), (hma, .inl (cJ, 8, .inr (.inl (fun _ => 0))))] [(cJ, .long)])) (va_Qi (fun (r : Int32) (_ : Unit) => r = 1) (fun (_ : Unit) (_ : State) => True) (va_A [(h0, .inr (5, fm)), (hma, .inl (cJ, 8, .inr (.inl (fun _ => 0))))] sz)) 0 0 (va_A [(h0, .inr (5, fm)), (hma, .inl (cJ, 8, .inr (.inl (fun _ => 0))))] sz) := by
  refine Met.ofW (cc := cX5_addArgument) (maxL := 3) (ret := (some .int)) (by decide) rfl ?_
  intro p e s m args below meth c s₁ B hml hv
  obtain ⟨rfl, hsz, hP, hK, hD0, hex⟩ := hv
  have hx := B.exec
  have hb := B.bytes
  have hr := B.returns
  have hts0 := atoms_spec (ws := wt yX5_addArgument cX5_addArgument 3 (some .int)) B.pre
  have hts : ∀ w ∈ tb, w.before _ s = true := fun w h => hts0 w (List.mem_cons_of_mem _ h)
  have hown : s.vm.findClass RX5 = some m.cls := findClass_of_methodNamed B.named
  have hlocks := B.notSynchronized
  subst hsz
  have hD := hD0.self (sz := s.heap.size)
  generalize hAe : va_A [(h0, .inr (5, fm)), (hma, .inl (cJ, 8, .inr (.inl (fun _ => 0))))] s.heap.size = A at hD ⊢
  have hA : ∀ q : Nat, s.heap.size ≤ q → A q := fun q h => by rw [← hAe]; exact Or.inr h
  have hS : va_S A s.heap s.heap [] := va_S.rf
  have hl := lv_entry ([.ref h0, .long v]) (n := 3) (Nat.le_of_ble_eq_true rfl)
  rw [lg_entry_eq]
  generalize (lg_sl ([.ref h0, .long v]) ++ List.replicate (3 - (lg_sl ([.ref h0, .long v])).length) Slot.unset).toArray = ls at hl ⊢
  have hl : lv_has ls 3 [(0, .ref h0), (1, .long v)] := hl
  refine lv_aload_n hx hb dX5_addArgument_0 rfl (lv_at hl 0 rfl) ?_
  refine va_get (D := (dC, dI)) (ci := 5) (v := .int 0) (C := RX5) (T := TX5) (N := 20) hx hb hts inX5 hown hK hP 0 rfl rfl 7 (by decide) (hts _ kw_179) (fun _ h9 => h9) g_fm_7 dX5_addArgument_1 ?_
  refine lv_bipush (v := 8) hx hb dX5_addArgument_4 (by decide) ?_
  refine lv_icmp_lt (tgt := 11) hx hb dX5_addArgument_6 (by decide) (fun _ => ?_) (fun c9 => absurd (by decide) c9)
  refine lv_aload_n hx hb dX5_addArgument_11 rfl (lv_at hl 0 rfl) ?_
  refine va_get (D := (dC, dI)) (ci := 5) (v := .ref hma) (C := RX5) (T := TX5) (N := 20) hx hb hts inX5 hown hK hP 0 rfl rfl 6 (by decide) (hts _ kw_69) (fun _ h9 => h9) g_fm_6 dX5_addArgument_12 ?_
  refine lv_aload_n hx hb dX5_addArgument_15 rfl (lv_at hl 0 rfl) ?_
  refine va_get (D := (dC, dI)) (ci := 5) (v := .int 0) (C := RX5) (T := TX5) (N := 20) hx hb hts inX5 hown hK hP 0 rfl rfl 7 (by decide) (hts _ kw_179) (fun _ h9 => h9) g_fm_7 dX5_addArgument_16 ?_
  refine lv_lload_n hx hb dX5_addArgument_19 rfl (lv_at hl 1 rfl) ?_
  refine va_last hx hb hK hP hD hS 1 0 rfl rfl (vi rfl) dX5_addArgument_20 (fun H locs hP hD hS => ?_)
  obtain ⟨f_1, e_f_1⟩ : ∃ z, z = vp_updL (fun _ => 0) (0 : Int32).toNatClampNeg v := ⟨_, rfl⟩
  have hP : va_P (dC, dI) cl0 [(h0, .inr (5, fm)), (hma, .inl (cJ, 8, .inr (.inl f_1)))] H := by rw [e_f_1]; exact hP
  have hD : va_D A [(h0, .inr (5, fm)), (hma, .inl (cJ, 8, .inr (.inl f_1)))] := by rw [e_f_1]; exact hD
  refine lv_aload_n hx hb dX5_addArgument_21 rfl (lv_at hl 0 rfl) ?_
  refine lv_dup hx hb dX5_addArgument_22 rfl ?_
  refine va_get (D := (dC, dI)) (ci := 5) (v := .int 0) (C := RX5) (T := TX5) (N := 20) hx hb hts inX5 hown hK hP 0 rfl rfl 7 (by decide) (hts _ kw_179) (fun _ h9 => h9) g_fm_7 dX5_addArgument_23 ?_
  refine lv_iconst (v := 1) hx hb dX5_addArgument_26 (by decide) ?_
  refine lv_iadd hx hb dX5_addArgument_27 ?_
  refine lv_topi (fun z_2 ez_2 => ?_)
  obtain rfl : z_2 = 1 := ez_2.trans (by decide)
  refine va_put (D := (dC, dI)) (ci := 5) (v := .int 1) (ty := .int) (C := RX5) (T := TX5) (N := 20) hx hb hts inX5 tyX5 tyX5_ok nmX5 hown hK hP hD hS 0 rfl rfl 7 (by decide) (hts _ kw_179) (fun _ h9 => h9) rfl (by decide +kernel) rfl rfl (by rw [L_fm]; decide) dX5_addArgument_28 (fun H locs hP hD hS => ?_)
  obtain ⟨fm_3, e_fm_3⟩ : ∃ z, z = fm.set 7 (.int 1) := ⟨_, rfl⟩
  have hP : va_P (dC, dI) cl0 [(h0, .inr (5, fm_3)), (hma, .inl (cJ, 8, .inr (.inl f_1)))] H := by rw [e_fm_3]; exact hP
  have hD : va_D A [(h0, .inr (5, fm_3)), (hma, .inl (cJ, 8, .inr (.inl f_1)))] := by rw [e_fm_3]; exact hD
  have L_fm_3 : fm_3.length = 20 := fx_len e_fm_3 L_fm
  have g_fm_3_6 := fx_ne (j := 6) e_fm_3 g_fm_6 (by decide)
  have g_fm_3_7 := fx_self e_fm_3 (by rw [L_fm]; decide)
  refine lv_aload_n hx hb dX5_addArgument_31 rfl (lv_at hl 0 rfl) ?_
  refine va_get (D := (dC, dI)) (ci := 5) (v := .int 1) (C := RX5) (T := TX5) (N := 20) hx hb hts inX5 hown hK hP 0 rfl rfl 7 (by decide) (hts _ kw_179) (fun _ h9 => h9) g_fm_3_7 dX5_addArgument_32 ?_
  refine W.widen (k := 0) (n := 0) (Nat.le_of_ble_eq_true rfl) (Nat.le_of_ble_eq_true rfl) ?_
  exact W.iret (v := 1) hx hb hr (fun t9 ht9 hW9 => ⟨⟨_, (), rfl, rfl, trivial⟩, hS.F ht9⟩) hS.2.2 dX5_addArgument_35
set_option maxHeartbeats 4000000 in
set_option maxRecDepth 100000 in
theorem m_X5_refusal (l : Launch) (dC : Nat → ClassId) (dI : Nat → Nat → Nat) (sz : Nat) (h0 : Nat) (fm : List Value) (m0 : Int32) (u0 : Int32) (L_fm : fm.length = 20) (g_fm_0 : fm[0]? = some (.null)) : Met l yX5_refusal (wt yX5_refusal cX5_refusal 5 (some .int)) ({ frames := 0, cells := 0, slots := 0, locals := 0 }) (va_Pc [.ref h0, .int m0, .int u0] (st_U dC dI sz [(h0, .inr (5, fm))] [])) (va_Qi (fun (r : Int32) (_ : Unit) => r = (-1)) (fun (_ : Unit) (t : State) => ∃ (fm1 : List Value), (fm1.length = 20) ∧ va_P (dC, dI) cl0 [(h0, .inr (5, fm1))] t.heap ∧ va_K (dC, dI) cl0 [] t ∧ va_D (va_A [(h0, .inr (5, fm))] sz) [(h0, .inr (5, fm1))]) (va_A [(h0, .inr (5, fm))] sz)) 0 0 (va_A [(h0, .inr (5, fm))] sz) := by
  refine Met.ofW (cc := cX5_refusal) (maxL := 5) (ret := (some .int)) (by decide) rfl ?_
  intro p e s m args below meth c s₁ B hml hv
  obtain ⟨rfl, hsz, hP, hK, hD0, hex⟩ := hv
  have hx := B.exec
  have hb := B.bytes
  have hr := B.returns
  have hts0 := atoms_spec (ws := wt yX5_refusal cX5_refusal 5 (some .int)) B.pre
  have hts : ∀ w ∈ tb, w.before _ s = true := fun w h => hts0 w (List.mem_cons_of_mem _ h)
  have hown : s.vm.findClass RX5 = some m.cls := findClass_of_methodNamed B.named
  have hlocks := B.notSynchronized
  subst hsz
  have hD := hD0.self (sz := s.heap.size)
  generalize hAe : va_A [(h0, .inr (5, fm))] s.heap.size = A at hD ⊢
  have hA : ∀ q : Nat, s.heap.size ≤ q → A q := fun q h => by rw [← hAe]; exact Or.inr h
  have hS : va_S A s.heap s.heap [] := va_S.rf
  have hl := lv_entry ([.ref h0, .int m0, .int u0]) (n := 5) (Nat.le_of_ble_eq_true rfl)
  rw [lg_entry_eq]
  generalize (lg_sl ([.ref h0, .int m0, .int u0]) ++ List.replicate (5 - (lg_sl ([.ref h0, .int m0, .int u0])).length) Slot.unset).toArray = ls at hl ⊢
  have hl : lv_has ls 5 [(0, .ref h0), (1, .int m0), (2, .int u0)] := hl
  refine lv_aload_n hx hb dX5_refusal_0 rfl (lv_at hl 0 rfl) ?_
  refine va_get (D := (dC, dI)) (ci := 5) (v := .null) (C := RX5) (T := TX5) (N := 20) hx hb hts inX5 hown hK hP 0 rfl rfl 0 (by decide) (hts _ kw_180) (fun _ h9 => h9) g_fm_0 dX5_refusal_1 ?_
  refine lv_ifnullN (tgt := 18) hx hb dX5_refusal_4 (by decide) ?_
  refine lv_iconst (v := (-1)) hx hb dX5_refusal_18 (by decide) ?_
  refine W.widen (k := 0) (n := 0) (Nat.le_of_ble_eq_true rfl) (Nat.le_of_ble_eq_true rfl) ?_
  have hP9 := hP.sub (ws' := [(h0, .inr (5, fm))]) [0] rfl
  have hD9 := hD.sub (ws' := [(h0, .inr (5, fm))]) [0] (by decide) rfl
  have hK9 := hK.sub (tys' := []) [] rfl
  exact W.iret (v := (-1)) hx hb hr (fun t9 ht9 hW9 => ⟨⟨_, (), rfl, rfl, fm, L_fm, by rw [ht9]; exact hP9, va_K.moved hW9.alike hK9, hD9⟩, hS.F ht9⟩) hS.2.2 dX5_refusal_19
set_option maxHeartbeats 4000000 in
set_option maxRecDepth 100000 in
theorem m_X5_fieldAt (l : Launch) (dC : Nat → ClassId) (dI : Nat → Nat → Nat) (sz : Nat) (h0 : Nat) (fm : List Value) (k0 : Int32) (L_fm : fm.length = 20) (g_fm_0 : fm[0]? = some (.null)) : Met l yX5_fieldAt (wt yX5_fieldAt cX5_fieldAt 2 (some .long)) ({ frames := 0, cells := 0, slots := 0, locals := 0 }) (va_Pc [.ref h0, .int k0] (st_U dC dI sz [(h0, .inr (5, fm))] [])) (va_Ql (fun (r : Int64) (_ : Unit) => r = 0) (fun (_ : Unit) (_ : State) => True) (va_A [(h0, .inr (5, fm))] sz)) 0 0 (va_A [(h0, .inr (5, fm))] sz) := by
  refine Met.ofW (cc := cX5_fieldAt) (maxL := 2) (ret := (some .long)) (by decide) rfl ?_
  intro p e s m args below meth c s₁ B hml hv
  obtain ⟨rfl, hsz, hP, hK, hD0, hex⟩ := hv
  have hx := B.exec
  have hb := B.bytes
  have hr := B.returns
  have hts0 := atoms_spec (ws := wt yX5_fieldAt cX5_fieldAt 2 (some .long)) B.pre
  have hts : ∀ w ∈ tb, w.before _ s = true := fun w h => hts0 w (List.mem_cons_of_mem _ h)
  have hown : s.vm.findClass RX5 = some m.cls := findClass_of_methodNamed B.named
  have hlocks := B.notSynchronized
  subst hsz
  have hD := hD0.self (sz := s.heap.size)
  generalize hAe : va_A [(h0, .inr (5, fm))] s.heap.size = A at hD ⊢
  have hA : ∀ q : Nat, s.heap.size ≤ q → A q := fun q h => by rw [← hAe]; exact Or.inr h
  have hS : va_S A s.heap s.heap [] := va_S.rf
  have hl := lv_entry ([.ref h0, .int k0]) (n := 2) (Nat.le_of_ble_eq_true rfl)
  rw [lg_entry_eq]
  generalize (lg_sl ([.ref h0, .int k0]) ++ List.replicate (2 - (lg_sl ([.ref h0, .int k0])).length) Slot.unset).toArray = ls at hl ⊢
  have hl : lv_has ls 2 [(0, .ref h0), (1, .int k0)] := hl
  refine lv_aload_n hx hb dX5_fieldAt_0 rfl (lv_at hl 0 rfl) ?_
  refine va_get (D := (dC, dI)) (ci := 5) (v := .null) (C := RX5) (T := TX5) (N := 20) hx hb hts inX5 hown hK hP 0 rfl rfl 0 (by decide) (hts _ kw_180) (fun _ h9 => h9) g_fm_0 dX5_fieldAt_1 ?_
  refine lv_ifnullN (tgt := 28) hx hb dX5_fieldAt_4 (by decide) ?_
  refine lv_lconst (v := 0) hx hb dX5_fieldAt_28 (by decide) ?_
  refine lv_goto (tgt := 38) hx hb dX5_fieldAt_29 (by decide) ?_
  refine W.widen (k := 0) (n := 0) (Nat.le_of_ble_eq_true rfl) (Nat.le_of_ble_eq_true rfl) ?_
  exact W.lret (v := 0) hx hb hr (fun t9 ht9 hW9 => ⟨⟨_, (), rfl, rfl, trivial⟩, hS.F ht9⟩) hS.2.2 dX5_fieldAt_38
set_option maxHeartbeats 4000000 in
set_option maxRecDepth 100000 in
theorem m_X5_isArray (l : Launch) (dC : Nat → ClassId) (dI : Nat → Nat → Nat) (sz : Nat) (h0 : Nat) (fm : List Value) (v : Int64) (L_fm : fm.length = 20) (g_fm_5 : fm[5]? = some (.int 0)) : Met l yX5_isArray (wt yX5_isArray cX5_isArray 3 (some .boolean)) ({ frames := 0, cells := 0, slots := 0, locals := 0 }) (va_Pc [.ref h0, .long v] (st_U dC dI sz [(h0, .inr (5, fm))] [])) (va_Qi (fun (r : Int32) (_ : Unit) => r = 0) (fun (_ : Unit) (_ : State) => True) (va_A [(h0, .inr (5, fm))] sz)) 0 0 (va_A [(h0, .inr (5, fm))] sz) := by
  refine Met.ofW (cc := cX5_isArray) (maxL := 3) (ret := (some .boolean)) (by decide) rfl ?_
  intro p e s m args below meth c s₁ B hml hv
  obtain ⟨rfl, hsz, hP, hK, hD0, hex⟩ := hv
  have hx := B.exec
  have hb := B.bytes
  have hr := B.returns
  have hts0 := atoms_spec (ws := wt yX5_isArray cX5_isArray 3 (some .boolean)) B.pre
  have hts : ∀ w ∈ tb, w.before _ s = true := fun w h => hts0 w (List.mem_cons_of_mem _ h)
  have hown : s.vm.findClass RX5 = some m.cls := findClass_of_methodNamed B.named
  have hlocks := B.notSynchronized
  subst hsz
  have hD := hD0.self (sz := s.heap.size)
  generalize hAe : va_A [(h0, .inr (5, fm))] s.heap.size = A at hD ⊢
  have hA : ∀ q : Nat, s.heap.size ≤ q → A q := fun q h => by rw [← hAe]; exact Or.inr h
  have hS : va_S A s.heap s.heap [] := va_S.rf
  have hl := lv_entry ([.ref h0, .long v]) (n := 3) (Nat.le_of_ble_eq_true rfl)
  rw [lg_entry_eq]
  generalize (lg_sl ([.ref h0, .long v]) ++ List.replicate (3 - (lg_sl ([.ref h0, .long v])).length) Slot.unset).toArray = ls at hl ⊢
  have hl : lv_has ls 3 [(0, .ref h0), (1, .long v)] := hl
  refine lv_lload_n hx hb dX5_isArray_0 rfl (lv_at hl 1 rfl) ?_
  refine lv_lconst (v := 1) hx hb dX5_isArray_1 (by decide) ?_
  refine W.lcmp hx hb dX5_isArray_2 ?_
  refine lv_if_lt (tgt := 20) hx hb dX5_isArray_3 (by decide) (fun c_3 => ?_) (fun c_3 => ?_)
  · refine lv_iconst (v := 0) hx hb dX5_isArray_20 (by decide) ?_
    refine W.widen (k := 0) (n := 0) (Nat.le_of_ble_eq_true rfl) (Nat.le_of_ble_eq_true rfl) ?_
    exact W.zret (v := 0) hx hb hr rfl (fun t9 ht9 hW9 => ⟨⟨_, (), rfl, rfl, trivial⟩, hS.F ht9⟩) hS.2.2 dX5_isArray_21
  · refine lv_lload_n hx hb dX5_isArray_6 rfl (lv_at hl 1 rfl) ?_
    refine lv_aload_n hx hb dX5_isArray_7 rfl (lv_at hl 0 rfl) ?_
    refine va_get (D := (dC, dI)) (ci := 5) (v := .int 0) (C := RX5) (T := TX5) (N := 20) hx hb hts inX5 hown hK hP 0 rfl rfl 5 (by decide) (hts _ kw_181) (fun _ h9 => h9) g_fm_5 dX5_isArray_8 ?_
    refine lv_i2l (v := (0 : Int32).toInt64) hx hb dX5_isArray_11 rfl ?_
    refine W.lcmp hx hb dX5_isArray_12 ?_
    refine lv_if_gt (tgt := 20) hx hb dX5_isArray_13 (by decide) (fun c_13 => ?_) (fun c_13 => False.elim (k_cmp c_3 c_13))
    refine lv_iconst (v := 0) hx hb dX5_isArray_20 (by decide) ?_
    refine W.widen (k := 0) (n := 0) (Nat.le_of_ble_eq_true rfl) (Nat.le_of_ble_eq_true rfl) ?_
    exact W.zret (v := 0) hx hb hr rfl (fun t9 ht9 hW9 => ⟨⟨_, (), rfl, rfl, trivial⟩, hS.F ht9⟩) hS.2.2 dX5_isArray_21
set_option maxHeartbeats 4000000 in
set_option maxRecDepth 100000 in
theorem m_X5_lengthOf (l : Launch) (dC : Nat → ClassId) (dI : Nat → Nat → Nat) (sz : Nat) (h0 : Nat) (fm : List Value) (a0 : Int32) (L_fm : fm.length = 20) (g_fm_5 : fm[5]? = some (.int 0)) : Met l yX5_lengthOf (wt yX5_lengthOf cX5_lengthOf 2 (some .int)) ({ frames := 1, cells := 0, slots := 0, locals := 22 }) (va_Pc [.ref h0, .int a0] (st_U dC dI sz [(h0, .inr (5, fm))] [])) (va_Qi (fun (r : Int32) (_ : Unit) => r = (-1)) (fun (_ : Unit) (_ : State) => True) (va_A [(h0, .inr (5, fm))] sz)) 0 0 (va_A [(h0, .inr (5, fm))] sz) := by
  refine Met.ofW (cc := cX5_lengthOf) (maxL := 2) (ret := (some .int)) (by decide) rfl ?_
  intro p e s m args below meth c s₁ B hml hv
  obtain ⟨rfl, hsz, hP, hK, hD0, hex⟩ := hv
  have hx := B.exec
  have hb := B.bytes
  have hr := B.returns
  have hts0 := atoms_spec (ws := wt yX5_lengthOf cX5_lengthOf 2 (some .int)) B.pre
  have hts : ∀ w ∈ tb, w.before _ s = true := fun w h => hts0 w (List.mem_cons_of_mem _ h)
  have hown : s.vm.findClass RX5 = some m.cls := findClass_of_methodNamed B.named
  have hlocks := B.notSynchronized
  subst hsz
  have hD := hD0.self (sz := s.heap.size)
  generalize hAe : va_A [(h0, .inr (5, fm))] s.heap.size = A at hD ⊢
  have hA : ∀ q : Nat, s.heap.size ≤ q → A q := fun q h => by rw [← hAe]; exact Or.inr h
  have hS : va_S A s.heap s.heap [] := va_S.rf
  have hl := lv_entry ([.ref h0, .int a0]) (n := 2) (Nat.le_of_ble_eq_true rfl)
  rw [lg_entry_eq]
  generalize (lg_sl ([.ref h0, .int a0]) ++ List.replicate (2 - (lg_sl ([.ref h0, .int a0])).length) Slot.unset).toArray = ls at hl ⊢
  have hl : lv_has ls 2 [(0, .ref h0), (1, .int a0)] := hl
  refine lv_aload_n hx hb dX5_lengthOf_0 rfl (lv_at hl 0 rfl) ?_
  refine lv_iload_n hx hb dX5_lengthOf_1 rfl (lv_at hl 1 rfl) ?_
  refine lv_i2l (v := (a0).toInt64) hx hb dX5_lengthOf_2 rfl ?_
  have hPc := hP.sub (ws' := [(h0, .inr (5, fm))]) [0] rfl
  have hDc := hD.sub (ws' := [(h0, .inr (5, fm))]) [0] (by decide) rfl
  have hKc := hK.sub (tys' := []) [] rfl
  have hFc := va_free (wc := [(h0, .inr (5, fm))]) hD hS hA [0] rfl
  refine va_calli (va_runV (As := [.long ((a0).toInt64)]) (rest := []) ⟨hx, hb, hml, hown, hts⟩ (m_X5_isArray l dC dI s.heap.size h0 fm ((a0).toInt64) L_fm g_fm_5) (cwV 1 hts (gd_V kw_182 kw_183 kw_184 kw_128 kw_185) rfl rfl rfl (by decide +kernel) ⟨Nat.le_of_ble_eq_true rfl, Nat.le_of_ble_eq_true rfl⟩) ⟨st_blind, va_recv hKc hPc (ci := 5) (q0 := 0) rfl rfl, fun U hU hW9 => st_mk hU hW9 hPc hKc hDc hex⟩ rfl rfl hl.1 rfl (lv_room (Nat.le_of_ble_eq_true rfl)) dX5_lengthOf_3 ⟨Nat.le_of_ble_eq_true rfl, Nat.le_of_ble_eq_true rfl⟩) hS (fun q _ h => hFc q h) hFc (fun r_1 u9 t9 H1 locs ht9 hvm9 hw9 hB9 hz9 hk9 hS => ?_)
  have hP1 : va_P (dC, dI) cl0 [] H1 := fun k q h => by simp at h
  have hD1 : va_D (va_A [(h0, .inr (5, fm))] s.heap.size) [] := ⟨fun i j p q h => by simp at h, fun k q h => by simp at h⟩
  obtain ⟨hP, hD⟩ := va_join (wr := []) (w1 := []) hP hD [0] [] rfl rfl (by decide) (by decide) hk9 hFc hP1 hD1
  generalize H1 = H at hP hS ⊢
  have hP : va_P (dC, dI) cl0 [] H := hP
  have hD : va_D A [] := hD
  have hw9 : r_1 = 0 := hw9
  subst hw9
  refine lv_if_eq (tgt := 25) hx hb dX5_lengthOf_6 (by decide) (fun _ => ?_) (fun c9 => absurd (by decide) c9)
  refine lv_iconst (v := (-1)) hx hb dX5_lengthOf_25 (by decide) ?_
  refine W.widen (k := 0) (n := 0) (Nat.le_of_ble_eq_true rfl) (Nat.le_of_ble_eq_true rfl) ?_
  exact W.iret (v := (-1)) hx hb hr (fun t9 ht9 hW9 => ⟨⟨_, (), rfl, rfl, trivial⟩, hS.F ht9⟩) hS.2.2 dX5_lengthOf_26
set_option maxHeartbeats 4000000 in
set_option maxRecDepth 100000 in
theorem m_X5_elementAt (l : Launch) (dC : Nat → ClassId) (dI : Nat → Nat → Nat) (sz : Nat) (h0 : Nat) (fm : List Value) (a0 : Int32) (i0 : Int32) (L_fm : fm.length = 20) (g_fm_5 : fm[5]? = some (.int 0)) : Met l yX5_elementAt (wt yX5_elementAt cX5_elementAt 3 (some .int)) ({ frames := 2, cells := 0, slots := 0, locals := 43 }) (va_Pc [.ref h0, .int a0, .int i0] (st_U dC dI sz [(h0, .inr (5, fm))] [])) (va_Qi (fun (r : Int32) (_ : Unit) => r = 0) (fun (_ : Unit) (_ : State) => True) (va_A [(h0, .inr (5, fm))] sz)) 0 0 (va_A [(h0, .inr (5, fm))] sz) := by
  refine Met.ofW (cc := cX5_elementAt) (maxL := 3) (ret := (some .int)) (by decide) rfl ?_
  intro p e s m args below meth c s₁ B hml hv
  obtain ⟨rfl, hsz, hP, hK, hD0, hex⟩ := hv
  have hx := B.exec
  have hb := B.bytes
  have hr := B.returns
  have hts0 := atoms_spec (ws := wt yX5_elementAt cX5_elementAt 3 (some .int)) B.pre
  have hts : ∀ w ∈ tb, w.before _ s = true := fun w h => hts0 w (List.mem_cons_of_mem _ h)
  have hown : s.vm.findClass RX5 = some m.cls := findClass_of_methodNamed B.named
  have hlocks := B.notSynchronized
  subst hsz
  have hD := hD0.self (sz := s.heap.size)
  generalize hAe : va_A [(h0, .inr (5, fm))] s.heap.size = A at hD ⊢
  have hA : ∀ q : Nat, s.heap.size ≤ q → A q := fun q h => by rw [← hAe]; exact Or.inr h
  have hS : va_S A s.heap s.heap [] := va_S.rf
  have hl := lv_entry ([.ref h0, .int a0, .int i0]) (n := 3) (Nat.le_of_ble_eq_true rfl)
  rw [lg_entry_eq]
  generalize (lg_sl ([.ref h0, .int a0, .int i0]) ++ List.replicate (3 - (lg_sl ([.ref h0, .int a0, .int i0])).length) Slot.unset).toArray = ls at hl ⊢
  have hl : lv_has ls 3 [(0, .ref h0), (1, .int a0), (2, .int i0)] := hl
  refine lv_iload_n hx hb dX5_elementAt_0 rfl (lv_at hl 2 rfl) ?_
  refine lv_if_lt (tgt := 13) hx hb dX5_elementAt_1 (by decide) (fun c_1 => ?_) (fun c_1 => ?_)
  · refine lv_iconst (v := 0) hx hb dX5_elementAt_13 (by decide) ?_
    refine lv_goto (tgt := 28) hx hb dX5_elementAt_14 (by decide) ?_
    refine W.widen (k := 0) (n := 0) (Nat.le_of_ble_eq_true rfl) (Nat.le_of_ble_eq_true rfl) ?_
    exact W.iret (v := 0) hx hb hr (fun t9 ht9 hW9 => ⟨⟨_, (), rfl, rfl, trivial⟩, hS.F ht9⟩) hS.2.2 dX5_elementAt_28
  · refine lv_iload_n hx hb dX5_elementAt_4 rfl (lv_at hl 2 rfl) ?_
    refine lv_aload_n hx hb dX5_elementAt_5 rfl (lv_at hl 0 rfl) ?_
    refine lv_iload_n hx hb dX5_elementAt_6 rfl (lv_at hl 1 rfl) ?_
    have hPc := hP.sub (ws' := [(h0, .inr (5, fm))]) [0] rfl
    have hDc := hD.sub (ws' := [(h0, .inr (5, fm))]) [0] (by decide) rfl
    have hKc := hK.sub (tys' := []) [] rfl
    have hFc := va_free (wc := [(h0, .inr (5, fm))]) hD hS hA [0] rfl
    refine va_calli (va_runV (As := [.int a0]) (rest := [.int i0]) ⟨hx, hb, hml, hown, hts⟩ (m_X5_lengthOf l dC dI s.heap.size h0 fm a0 L_fm g_fm_5) (cwV 1 hts (gd_V kw_186 kw_187 kw_188 kw_128 kw_189) rfl rfl rfl (by decide +kernel) ⟨Nat.le_of_ble_eq_true rfl, Nat.le_of_ble_eq_true rfl⟩) ⟨st_blind, va_recv hKc hPc (ci := 5) (q0 := 0) rfl rfl, fun U hU hW9 => st_mk hU hW9 hPc hKc hDc hex⟩ rfl rfl hl.1 rfl (lv_room (Nat.le_of_ble_eq_true rfl)) dX5_elementAt_7 ⟨Nat.le_of_ble_eq_true rfl, Nat.le_of_ble_eq_true rfl⟩) hS (fun q _ h => hFc q h) hFc (fun r_1 u9 t9 H1 locs ht9 hvm9 hw9 hB9 hz9 hk9 hS => ?_)
    have hP1 : va_P (dC, dI) cl0 [] H1 := fun k q h => by simp at h
    have hD1 : va_D (va_A [(h0, .inr (5, fm))] s.heap.size) [] := ⟨fun i j p q h => by simp at h, fun k q h => by simp at h⟩
    obtain ⟨hP, hD⟩ := va_join (wr := []) (w1 := []) hP hD [0] [] rfl rfl (by decide) (by decide) hk9 hFc hP1 hD1
    generalize H1 = H at hP hS ⊢
    have hP : va_P (dC, dI) cl0 [] H := hP
    have hD : va_D A [] := hD
    have hw9 : r_1 = (-1) := hw9
    subst hw9
    refine lv_icmp_lt (tgt := 17) hx hb dX5_elementAt_10 (by decide) (fun c_10 => False.elim (k_m1 c_1 c_10)) (fun c_10 => ?_)
    refine lv_iconst (v := 0) hx hb dX5_elementAt_13 (by decide) ?_
    refine lv_goto (tgt := 28) hx hb dX5_elementAt_14 (by decide) ?_
    refine W.widen (k := 0) (n := 0) (Nat.le_of_ble_eq_true rfl) (Nat.le_of_ble_eq_true rfl) ?_
    exact W.iret (v := 0) hx hb hr (fun t9 ht9 hW9 => ⟨⟨_, (), rfl, rfl, trivial⟩, hS.F ht9⟩) hS.2.2 dX5_elementAt_28
set_option maxHeartbeats 4000000 in
set_option maxRecDepth 100000 in
theorem m_X12_argument (l : Launch) (dC : Nat → ClassId) (dI : Nat → Nat → Nat) (sz : Nat) (h0 : Nat) (fx : List Value) (hm : Nat) (fm : List Value) (hma : Nat) (cJ : ClassId) (v : Int64) (L_fx : fx.length = 18) (g_fx_7 : fx[7]? = some (.ref hm)) (L_fm : fm.length = 20) (g_fm_6 : fm[6]? = some (.ref hma)) (g_fm_7 : fm[7]? = some (.int 0)) : Met l yX12_argument (wt yX12_argument cX12_argument 3 (some .int)) ({ frames := 1, cells := 0, slots := 0, locals := 22 }) (va_Pc [.ref h0, .long v] (st_U dC dI sz [(h0, .inr (10, fx)), (hm, .inr (5, fm)), (hma, .inl (cJ, 8, .inr (.inl (fun _ => 0))))] [(cJ, .long)])) (va_Qi (fun (r : Int32) (_ : Unit) => r = 1) (fun (_ : Unit) (_ : State) => True) (va_A [(h0, .inr (10, fx)), (hm, .inr (5, fm)), (hma, .inl (cJ, 8, .inr (.inl (fun _ => 0))))] sz)) 0 0 (va_A [(h0, .inr (10, fx)), (hm, .inr (5, fm)), (hma, .inl (cJ, 8, .inr (.inl (fun _ => 0))))] sz) := by
  refine Met.ofW (cc := cX12_argument) (maxL := 3) (ret := (some .int)) (by decide) rfl ?_
  intro p e s m args below meth c s₁ B hml hv
  obtain ⟨rfl, hsz, hP, hK, hD0, hex⟩ := hv
  have hx := B.exec
  have hb := B.bytes
  have hr := B.returns
  have hts0 := atoms_spec (ws := wt yX12_argument cX12_argument 3 (some .int)) B.pre
  have hts : ∀ w ∈ tb, w.before _ s = true := fun w h => hts0 w (List.mem_cons_of_mem _ h)
  have hown : s.vm.findClass RX12 = some m.cls := findClass_of_methodNamed B.named
  have hlocks := B.notSynchronized
  subst hsz
  have hD := hD0.self (sz := s.heap.size)
  generalize hAe : va_A [(h0, .inr (10, fx)), (hm, .inr (5, fm)), (hma, .inl (cJ, 8, .inr (.inl (fun _ => 0))))] s.heap.size = A at hD ⊢
  have hA : ∀ q : Nat, s.heap.size ≤ q → A q := fun q h => by rw [← hAe]; exact Or.inr h
  have hS : va_S A s.heap s.heap [] := va_S.rf
  have hl := lv_entry ([.ref h0, .long v]) (n := 3) (Nat.le_of_ble_eq_true rfl)
  rw [lg_entry_eq]
  generalize (lg_sl ([.ref h0, .long v]) ++ List.replicate (3 - (lg_sl ([.ref h0, .long v])).length) Slot.unset).toArray = ls at hl ⊢
  have hl : lv_has ls 3 [(0, .ref h0), (1, .long v)] := hl
  refine lv_aload_n hx hb dX12_argument_0 rfl (lv_at hl 0 rfl) ?_
  refine va_get (D := (dC, dI)) (ci := 10) (v := .ref hm) (C := RX12) (T := TX12) (N := 18) hx hb hts inX12 hown hK hP 0 rfl rfl 7 (by decide) (hts _ kw_131) (fun _ h9 => h9) g_fx_7 dX12_argument_1 ?_
  refine lv_lload_n hx hb dX12_argument_4 rfl (lv_at hl 1 rfl) ?_
  have hPc := hP.sub (ws' := [(hm, .inr (5, fm)), (hma, .inl (cJ, 8, .inr (.inl (fun _ => 0))))]) [1, 2] rfl
  have hDc := hD.sub (ws' := [(hm, .inr (5, fm)), (hma, .inl (cJ, 8, .inr (.inl (fun _ => 0))))]) [1, 2] (by decide) rfl
  have hKc := hK.sub (tys' := [(cJ, .long)]) [0] rfl
  have hFc := va_free (wc := [(hm, .inr (5, fm)), (hma, .inl (cJ, 8, .inr (.inl (fun _ => 0))))]) hD hS hA [1, 2] rfl
  refine va_calli (va_runV (As := [.long v]) (rest := []) ⟨hx, hb, hml, hown, hts⟩ (m_X5_addArgument l dC dI s.heap.size hm fm hma cJ v L_fm g_fm_6 g_fm_7) (cwV 1 hts (gd_V kw_190 kw_191 kw_192 kw_128 kw_193) rfl rfl rfl (by decide +kernel) ⟨Nat.le_of_ble_eq_true rfl, Nat.le_of_ble_eq_true rfl⟩) ⟨st_blind, va_recv hKc hPc (ci := 5) (q0 := 0) rfl rfl, fun U hU hW9 => st_mk hU hW9 hPc hKc hDc hex⟩ rfl rfl hl.1 rfl (lv_room (Nat.le_of_ble_eq_true rfl)) dX12_argument_5 ⟨Nat.le_of_ble_eq_true rfl, Nat.le_of_ble_eq_true rfl⟩) hS (fun q _ h => hFc q h) hFc (fun r_1 u9 t9 H1 locs ht9 hvm9 hw9 hB9 hz9 hk9 hS => ?_)
  have hP1 : va_P (dC, dI) cl0 [] H1 := fun k q h => by simp at h
  have hD1 : va_D (va_A [(hm, .inr (5, fm)), (hma, .inl (cJ, 8, .inr (.inl (fun _ => 0))))] s.heap.size) [] := ⟨fun i j p q h => by simp at h, fun k q h => by simp at h⟩
  obtain ⟨hP, hD⟩ := va_join (wr := [(h0, .inr (10, fx))]) (w1 := []) hP hD [1, 2] [0] rfl rfl (by decide) (by decide) hk9 hFc hP1 hD1
  generalize H1 = H at hP hS ⊢
  have hP : va_P (dC, dI) cl0 [(h0, .inr (10, fx))] H := hP
  have hD : va_D A [(h0, .inr (10, fx))] := hD
  have hw9 : r_1 = 1 := hw9
  subst hw9
  refine W.widen (k := 0) (n := 0) (Nat.le_of_ble_eq_true rfl) (Nat.le_of_ble_eq_true rfl) ?_
  exact W.iret (v := 1) hx hb hr (fun t9 ht9 hW9 => ⟨⟨_, (), rfl, rfl, trivial⟩, hS.F ht9⟩) hS.2.2 dX12_argument_8
set_option maxHeartbeats 4000000 in
set_option maxRecDepth 100000 in
theorem m_X12_run (l : Launch) (dC : Nat → ClassId) (dI : Nat → Nat → Nat) (sz : Nat) (h0 : Nat) (fx : List Value) (hm : Nat) (fm : List Value) (m0 : Int32) (u0 : Int32) (L_fx : fx.length = 18) (g_fx_7 : fx[7]? = some (.ref hm)) (L_fm : fm.length = 20) (g_fm_0 : fm[0]? = some (.null)) : Met l yX12_run (wt yX12_run cX12_run 4 (some .int)) ({ frames := 1, cells := 0, slots := 0, locals := 24 }) (va_Pc [.ref h0, .int m0, .int u0] (st_U dC dI sz [(h0, .inr (10, fx)), (hm, .inr (5, fm))] [])) (va_Qi (fun (r : Int32) (_ : Unit) => r = (-1)) (fun (_ : Unit) (_ : State) => True) (va_A [(h0, .inr (10, fx)), (hm, .inr (5, fm))] sz)) 0 0 (va_A [(h0, .inr (10, fx)), (hm, .inr (5, fm))] sz) := by
  refine Met.ofW (cc := cX12_run) (maxL := 4) (ret := (some .int)) (by decide) rfl ?_
  intro p e s m args below meth c s₁ B hml hv
  obtain ⟨rfl, hsz, hP, hK, hD0, hex⟩ := hv
  have hx := B.exec
  have hb := B.bytes
  have hr := B.returns
  have hts0 := atoms_spec (ws := wt yX12_run cX12_run 4 (some .int)) B.pre
  have hts : ∀ w ∈ tb, w.before _ s = true := fun w h => hts0 w (List.mem_cons_of_mem _ h)
  have hown : s.vm.findClass RX12 = some m.cls := findClass_of_methodNamed B.named
  have hlocks := B.notSynchronized
  subst hsz
  have hD := hD0.self (sz := s.heap.size)
  generalize hAe : va_A [(h0, .inr (10, fx)), (hm, .inr (5, fm))] s.heap.size = A at hD ⊢
  have hA : ∀ q : Nat, s.heap.size ≤ q → A q := fun q h => by rw [← hAe]; exact Or.inr h
  have hS : va_S A s.heap s.heap [] := va_S.rf
  have hl := lv_entry ([.ref h0, .int m0, .int u0]) (n := 4) (Nat.le_of_ble_eq_true rfl)
  rw [lg_entry_eq]
  generalize (lg_sl ([.ref h0, .int m0, .int u0]) ++ List.replicate (4 - (lg_sl ([.ref h0, .int m0, .int u0])).length) Slot.unset).toArray = ls at hl ⊢
  have hl : lv_has ls 4 [(0, .ref h0), (1, .int m0), (2, .int u0)] := hl
  refine lv_aload_n hx hb dX12_run_0 rfl (lv_at hl 0 rfl) ?_
  refine va_get (D := (dC, dI)) (ci := 10) (v := .ref hm) (C := RX12) (T := TX12) (N := 18) hx hb hts inX12 hown hK hP 0 rfl rfl 7 (by decide) (hts _ kw_131) (fun _ h9 => h9) g_fx_7 dX12_run_1 ?_
  refine lv_iload_n hx hb dX12_run_4 rfl (lv_at hl 1 rfl) ?_
  refine lv_iload_n hx hb dX12_run_5 rfl (lv_at hl 2 rfl) ?_
  have hPc := hP.sub (ws' := [(hm, .inr (5, fm))]) [1] rfl
  have hDc := hD.sub (ws' := [(hm, .inr (5, fm))]) [1] (by decide) rfl
  have hKc := hK.sub (tys' := []) [] rfl
  have hFc := va_free (wc := [(hm, .inr (5, fm))]) hD hS hA [1] rfl
  refine va_calli (va_runV (As := [.int m0, .int u0]) (rest := []) ⟨hx, hb, hml, hown, hts⟩ (m_X5_refusal l dC dI s.heap.size hm fm m0 u0 L_fm g_fm_0) (cwV 2 hts (gd_V kw_194 kw_195 kw_196 kw_128 kw_197) rfl rfl rfl (by decide +kernel) ⟨Nat.le_of_ble_eq_true rfl, Nat.le_of_ble_eq_true rfl⟩) ⟨st_blind, va_recv hKc hPc (ci := 5) (q0 := 0) rfl rfl, fun U hU hW9 => st_mk hU hW9 hPc hKc hDc hex⟩ rfl rfl hl.1 rfl (lv_room (Nat.le_of_ble_eq_true rfl)) dX12_run_6 ⟨Nat.le_of_ble_eq_true rfl, Nat.le_of_ble_eq_true rfl⟩) hS (fun q _ h => hFc q h) hFc (fun r_1 u9 t9 H1 locs ht9 hvm9 hw9 hB9 hz9 hk9 hS => ?_)
  obtain ⟨fm1_2, L_fm1_2, hP1, hK1, hD1⟩ := hB9
  rw [ht9] at hP1
  have hK1 := va_K.moved hvm9.symm hK1
  obtain ⟨hP, hD⟩ := va_join (wr := [(h0, .inr (10, fx))]) (w1 := [(hm, .inr (5, fm1_2))]) hP hD [1] [0] rfl rfl (by decide) (by decide) hk9 hFc hP1 hD1
  have hK := (hK.sub (tys' := []) [] rfl).app hK1
  generalize H1 = H at hP hS ⊢
  have hP : va_P (dC, dI) cl0 [(h0, .inr (10, fx)), (hm, .inr (5, fm1_2))] H := hP
  have hD : va_D A [(h0, .inr (10, fx)), (hm, .inr (5, fm1_2))] := hD
  have hK : va_K (dC, dI) cl0 [] s := hK
  have hw9 : r_1 = (-1) := hw9
  subst hw9
  refine lv_istore_n (lv' := [(3, .int (-1)), (0, .ref h0), (1, .int m0), (2, .int u0)]) hx hb dX12_run_9 rfl hl (by decide) rfl (fun ls hl => ?_)
  refine lv_iload_n hx hb dX12_run_10 rfl (lv_at hl 0 rfl) ?_
  refine lv_if_ne (tgt := 24) hx hb dX12_run_11 (by decide) (fun _ => ?_) (fun c9 => absurd c9 (by decide))
  refine lv_aload_n hx hb dX12_run_24 rfl (lv_at hl 1 rfl) ?_
  refine va_get (D := (dC, dI)) (ci := 10) (v := .ref hm) (C := RX12) (T := TX12) (N := 18) hx hb hts inX12 hown hK hP 0 rfl rfl 7 (by decide) (hts _ kw_131) (fun _ h9 => h9) g_fx_7 dX12_run_25 ?_
  refine lv_iconst (v := 0) hx hb dX12_run_28 (by decide) ?_
  refine va_put (D := (dC, dI)) (ci := 5) (v := .int 0) (ty := .int) (C := RX5) (T := TX5) (N := 20) hx hb hts inX5 tyX5 tyX5_ok nmX5 hown hK hP hD hS 1 rfl rfl 7 (by decide) (hts _ kw_198) (fun _ h9 => h9) rfl (by decide +kernel) rfl rfl (by rw [L_fm1_2]; decide) dX12_run_29 (fun H locs hP hD hS => ?_)
  obtain ⟨fm1_3, e_fm1_3⟩ : ∃ z, z = fm1_2.set 7 (.int 0) := ⟨_, rfl⟩
  have hP : va_P (dC, dI) cl0 [(h0, .inr (10, fx)), (hm, .inr (5, fm1_3))] H := by rw [e_fm1_3]; exact hP
  have hD : va_D A [(h0, .inr (10, fx)), (hm, .inr (5, fm1_3))] := by rw [e_fm1_3]; exact hD
  have L_fm1_3 : fm1_3.length = 20 := fx_len e_fm1_3 L_fm1_2
  have g_fm1_3_7 := fx_self e_fm1_3 (by rw [L_fm1_2]; decide)
  refine lv_iload_n hx hb dX12_run_32 rfl (lv_at hl 0 rfl) ?_
  refine W.widen (k := 0) (n := 0) (Nat.le_of_ble_eq_true rfl) (Nat.le_of_ble_eq_true rfl) ?_
  exact W.iret (v := (-1)) hx hb hr (fun t9 ht9 hW9 => ⟨⟨_, (), rfl, rfl, trivial⟩, hS.F ht9⟩) hS.2.2 dX12_run_33
set_option maxHeartbeats 4000000 in
set_option maxRecDepth 100000 in
theorem m_X12_result (l : Launch) (dC : Nat → ClassId) (dI : Nat → Nat → Nat) (sz : Nat) (h0 : Nat) (fx : List Value) (hm : Nat) (fm : List Value) (L_fx : fx.length = 18) (g_fx_7 : fx[7]? = some (.ref hm)) (L_fm : fm.length = 20) (g_fm_16 : fm[16]? = some (.long 0)) : Met l yX12_result (wt yX12_result cX12_result 1 (some .long)) ({ frames := 0, cells := 0, slots := 0, locals := 0 }) (va_Pc [.ref h0] (st_U dC dI sz [(h0, .inr (10, fx)), (hm, .inr (5, fm))] [])) (va_Ql (fun (r : Int64) (_ : Unit) => r = 0) (fun (_ : Unit) (_ : State) => True) (va_A [(h0, .inr (10, fx)), (hm, .inr (5, fm))] sz)) 0 0 (va_A [(h0, .inr (10, fx)), (hm, .inr (5, fm))] sz) := by
  refine Met.ofW (cc := cX12_result) (maxL := 1) (ret := (some .long)) (by decide) rfl ?_
  intro p e s m args below meth c s₁ B hml hv
  obtain ⟨rfl, hsz, hP, hK, hD0, hex⟩ := hv
  have hx := B.exec
  have hb := B.bytes
  have hr := B.returns
  have hts0 := atoms_spec (ws := wt yX12_result cX12_result 1 (some .long)) B.pre
  have hts : ∀ w ∈ tb, w.before _ s = true := fun w h => hts0 w (List.mem_cons_of_mem _ h)
  have hown : s.vm.findClass RX12 = some m.cls := findClass_of_methodNamed B.named
  have hlocks := B.notSynchronized
  subst hsz
  have hD := hD0.self (sz := s.heap.size)
  generalize hAe : va_A [(h0, .inr (10, fx)), (hm, .inr (5, fm))] s.heap.size = A at hD ⊢
  have hA : ∀ q : Nat, s.heap.size ≤ q → A q := fun q h => by rw [← hAe]; exact Or.inr h
  have hS : va_S A s.heap s.heap [] := va_S.rf
  have hl := lv_entry ([.ref h0]) (n := 1) (Nat.le_of_ble_eq_true rfl)
  rw [lg_entry_eq]
  generalize (lg_sl ([.ref h0]) ++ List.replicate (1 - (lg_sl ([.ref h0])).length) Slot.unset).toArray = ls at hl ⊢
  have hl : lv_has ls 1 [(0, .ref h0)] := hl
  refine lv_aload_n hx hb dX12_result_0 rfl (lv_at hl 0 rfl) ?_
  refine va_get (D := (dC, dI)) (ci := 10) (v := .ref hm) (C := RX12) (T := TX12) (N := 18) hx hb hts inX12 hown hK hP 0 rfl rfl 7 (by decide) (hts _ kw_131) (fun _ h9 => h9) g_fx_7 dX12_result_1 ?_
  refine va_get (D := (dC, dI)) (ci := 5) (v := .long 0) (C := RX5) (T := TX5) (N := 20) hx hb hts inX5 hown hK hP 1 rfl rfl 16 (by decide) (hts _ kw_199) (fun _ h9 => h9) g_fm_16 dX12_result_4 ?_
  refine W.widen (k := 0) (n := 0) (Nat.le_of_ble_eq_true rfl) (Nat.le_of_ble_eq_true rfl) ?_
  exact W.lret (v := 0) hx hb hr (fun t9 ht9 hW9 => ⟨⟨_, (), rfl, rfl, trivial⟩, hS.F ht9⟩) hS.2.2 dX12_result_7
set_option maxHeartbeats 4000000 in
set_option maxRecDepth 100000 in
theorem m_X12_error (l : Launch) (dC : Nat → ClassId) (dI : Nat → Nat → Nat) (sz : Nat) (h0 : Nat) (fx : List Value) (hm : Nat) (fm : List Value) (L_fx : fx.length = 18) (g_fx_7 : fx[7]? = some (.ref hm)) (L_fm : fm.length = 20) (g_fm_17 : fm[17]? = some (.int (-1))) : Met l yX12_error (wt yX12_error cX12_error 1 (some .int)) ({ frames := 0, cells := 0, slots := 0, locals := 0 }) (va_Pc [.ref h0] (st_U dC dI sz [(h0, .inr (10, fx)), (hm, .inr (5, fm))] [])) (va_Qi (fun (r : Int32) (_ : Unit) => r = (-1)) (fun (_ : Unit) (_ : State) => True) (va_A [(h0, .inr (10, fx)), (hm, .inr (5, fm))] sz)) 0 0 (va_A [(h0, .inr (10, fx)), (hm, .inr (5, fm))] sz) := by
  refine Met.ofW (cc := cX12_error) (maxL := 1) (ret := (some .int)) (by decide) rfl ?_
  intro p e s m args below meth c s₁ B hml hv
  obtain ⟨rfl, hsz, hP, hK, hD0, hex⟩ := hv
  have hx := B.exec
  have hb := B.bytes
  have hr := B.returns
  have hts0 := atoms_spec (ws := wt yX12_error cX12_error 1 (some .int)) B.pre
  have hts : ∀ w ∈ tb, w.before _ s = true := fun w h => hts0 w (List.mem_cons_of_mem _ h)
  have hown : s.vm.findClass RX12 = some m.cls := findClass_of_methodNamed B.named
  have hlocks := B.notSynchronized
  subst hsz
  have hD := hD0.self (sz := s.heap.size)
  generalize hAe : va_A [(h0, .inr (10, fx)), (hm, .inr (5, fm))] s.heap.size = A at hD ⊢
  have hA : ∀ q : Nat, s.heap.size ≤ q → A q := fun q h => by rw [← hAe]; exact Or.inr h
  have hS : va_S A s.heap s.heap [] := va_S.rf
  have hl := lv_entry ([.ref h0]) (n := 1) (Nat.le_of_ble_eq_true rfl)
  rw [lg_entry_eq]
  generalize (lg_sl ([.ref h0]) ++ List.replicate (1 - (lg_sl ([.ref h0])).length) Slot.unset).toArray = ls at hl ⊢
  have hl : lv_has ls 1 [(0, .ref h0)] := hl
  refine lv_aload_n hx hb dX12_error_0 rfl (lv_at hl 0 rfl) ?_
  refine va_get (D := (dC, dI)) (ci := 10) (v := .ref hm) (C := RX12) (T := TX12) (N := 18) hx hb hts inX12 hown hK hP 0 rfl rfl 7 (by decide) (hts _ kw_131) (fun _ h9 => h9) g_fx_7 dX12_error_1 ?_
  refine va_get (D := (dC, dI)) (ci := 5) (v := .int (-1)) (C := RX5) (T := TX5) (N := 20) hx hb hts inX5 hown hK hP 1 rfl rfl 17 (by decide) (hts _ kw_200) (fun _ h9 => h9) g_fm_17 dX12_error_4 ?_
  refine W.widen (k := 0) (n := 0) (Nat.le_of_ble_eq_true rfl) (Nat.le_of_ble_eq_true rfl) ?_
  exact W.iret (v := (-1)) hx hb hr (fun t9 ht9 hW9 => ⟨⟨_, (), rfl, rfl, trivial⟩, hS.F ht9⟩) hS.2.2 dX12_error_7
set_option maxHeartbeats 4000000 in
set_option maxRecDepth 100000 in
theorem m_X12_steps (l : Launch) (dC : Nat → ClassId) (dI : Nat → Nat → Nat) (sz : Nat) (h0 : Nat) (fx : List Value) (hm : Nat) (fm : List Value) (L_fx : fx.length = 18) (g_fx_7 : fx[7]? = some (.ref hm)) (L_fm : fm.length = 20) (g_fm_18 : fm[18]? = some (.int 0)) : Met l yX12_steps (wt yX12_steps cX12_steps 1 (some .int)) ({ frames := 0, cells := 0, slots := 0, locals := 0 }) (va_Pc [.ref h0] (st_U dC dI sz [(h0, .inr (10, fx)), (hm, .inr (5, fm))] [])) (va_Qi (fun (r : Int32) (_ : Unit) => r = 0) (fun (_ : Unit) (_ : State) => True) (va_A [(h0, .inr (10, fx)), (hm, .inr (5, fm))] sz)) 0 0 (va_A [(h0, .inr (10, fx)), (hm, .inr (5, fm))] sz) := by
  refine Met.ofW (cc := cX12_steps) (maxL := 1) (ret := (some .int)) (by decide) rfl ?_
  intro p e s m args below meth c s₁ B hml hv
  obtain ⟨rfl, hsz, hP, hK, hD0, hex⟩ := hv
  have hx := B.exec
  have hb := B.bytes
  have hr := B.returns
  have hts0 := atoms_spec (ws := wt yX12_steps cX12_steps 1 (some .int)) B.pre
  have hts : ∀ w ∈ tb, w.before _ s = true := fun w h => hts0 w (List.mem_cons_of_mem _ h)
  have hown : s.vm.findClass RX12 = some m.cls := findClass_of_methodNamed B.named
  have hlocks := B.notSynchronized
  subst hsz
  have hD := hD0.self (sz := s.heap.size)
  generalize hAe : va_A [(h0, .inr (10, fx)), (hm, .inr (5, fm))] s.heap.size = A at hD ⊢
  have hA : ∀ q : Nat, s.heap.size ≤ q → A q := fun q h => by rw [← hAe]; exact Or.inr h
  have hS : va_S A s.heap s.heap [] := va_S.rf
  have hl := lv_entry ([.ref h0]) (n := 1) (Nat.le_of_ble_eq_true rfl)
  rw [lg_entry_eq]
  generalize (lg_sl ([.ref h0]) ++ List.replicate (1 - (lg_sl ([.ref h0])).length) Slot.unset).toArray = ls at hl ⊢
  have hl : lv_has ls 1 [(0, .ref h0)] := hl
  refine lv_aload_n hx hb dX12_steps_0 rfl (lv_at hl 0 rfl) ?_
  refine va_get (D := (dC, dI)) (ci := 10) (v := .ref hm) (C := RX12) (T := TX12) (N := 18) hx hb hts inX12 hown hK hP 0 rfl rfl 7 (by decide) (hts _ kw_131) (fun _ h9 => h9) g_fx_7 dX12_steps_1 ?_
  refine va_get (D := (dC, dI)) (ci := 5) (v := .int 0) (C := RX5) (T := TX5) (N := 20) hx hb hts inX5 hown hK hP 1 rfl rfl 18 (by decide) (hts _ kw_201) (fun _ h9 => h9) g_fm_18 dX12_steps_4 ?_
  refine W.widen (k := 0) (n := 0) (Nat.le_of_ble_eq_true rfl) (Nat.le_of_ble_eq_true rfl) ?_
  exact W.iret (v := 0) hx hb hr (fun t9 ht9 hW9 => ⟨⟨_, (), rfl, rfl, trivial⟩, hS.F ht9⟩) hS.2.2 dX12_steps_7
set_option maxHeartbeats 4000000 in
set_option maxRecDepth 100000 in
theorem m_X12_strays (l : Launch) (dC : Nat → ClassId) (dI : Nat → Nat → Nat) (sz : Nat) (h0 : Nat) (fx : List Value) (hm : Nat) (fm : List Value) (L_fx : fx.length = 18) (g_fx_7 : fx[7]? = some (.ref hm)) (L_fm : fm.length = 20) (g_fm_19 : fm[19]? = some (.int 0)) : Met l yX12_strays (wt yX12_strays cX12_strays 1 (some .int)) ({ frames := 0, cells := 0, slots := 0, locals := 0 }) (va_Pc [.ref h0] (st_U dC dI sz [(h0, .inr (10, fx)), (hm, .inr (5, fm))] [])) (va_Qi (fun (r : Int32) (_ : Unit) => r = 0) (fun (_ : Unit) (_ : State) => True) (va_A [(h0, .inr (10, fx)), (hm, .inr (5, fm))] sz)) 0 0 (va_A [(h0, .inr (10, fx)), (hm, .inr (5, fm))] sz) := by
  refine Met.ofW (cc := cX12_strays) (maxL := 1) (ret := (some .int)) (by decide) rfl ?_
  intro p e s m args below meth c s₁ B hml hv
  obtain ⟨rfl, hsz, hP, hK, hD0, hex⟩ := hv
  have hx := B.exec
  have hb := B.bytes
  have hr := B.returns
  have hts0 := atoms_spec (ws := wt yX12_strays cX12_strays 1 (some .int)) B.pre
  have hts : ∀ w ∈ tb, w.before _ s = true := fun w h => hts0 w (List.mem_cons_of_mem _ h)
  have hown : s.vm.findClass RX12 = some m.cls := findClass_of_methodNamed B.named
  have hlocks := B.notSynchronized
  subst hsz
  have hD := hD0.self (sz := s.heap.size)
  generalize hAe : va_A [(h0, .inr (10, fx)), (hm, .inr (5, fm))] s.heap.size = A at hD ⊢
  have hA : ∀ q : Nat, s.heap.size ≤ q → A q := fun q h => by rw [← hAe]; exact Or.inr h
  have hS : va_S A s.heap s.heap [] := va_S.rf
  have hl := lv_entry ([.ref h0]) (n := 1) (Nat.le_of_ble_eq_true rfl)
  rw [lg_entry_eq]
  generalize (lg_sl ([.ref h0]) ++ List.replicate (1 - (lg_sl ([.ref h0])).length) Slot.unset).toArray = ls at hl ⊢
  have hl : lv_has ls 1 [(0, .ref h0)] := hl
  refine lv_aload_n hx hb dX12_strays_0 rfl (lv_at hl 0 rfl) ?_
  refine va_get (D := (dC, dI)) (ci := 10) (v := .ref hm) (C := RX12) (T := TX12) (N := 18) hx hb hts inX12 hown hK hP 0 rfl rfl 7 (by decide) (hts _ kw_131) (fun _ h9 => h9) g_fx_7 dX12_strays_1 ?_
  refine va_get (D := (dC, dI)) (ci := 5) (v := .int 0) (C := RX5) (T := TX5) (N := 20) hx hb hts inX5 hown hK hP 1 rfl rfl 19 (by decide) (hts _ kw_202) (fun _ h9 => h9) g_fm_19 dX12_strays_4 ?_
  refine W.widen (k := 0) (n := 0) (Nat.le_of_ble_eq_true rfl) (Nat.le_of_ble_eq_true rfl) ?_
  exact W.iret (v := 0) hx hb hr (fun t9 ht9 hW9 => ⟨⟨_, (), rfl, rfl, trivial⟩, hS.F ht9⟩) hS.2.2 dX12_strays_7
set_option maxHeartbeats 4000000 in
set_option maxRecDepth 100000 in
theorem m_X12_field (l : Launch) (dC : Nat → ClassId) (dI : Nat → Nat → Nat) (sz : Nat) (h0 : Nat) (fx : List Value) (hm : Nat) (fm : List Value) (k0 : Int32) (L_fx : fx.length = 18) (g_fx_7 : fx[7]? = some (.ref hm)) (L_fm : fm.length = 20) (g_fm_0 : fm[0]? = some (.null)) : Met l yX12_field (wt yX12_field cX12_field 2 (some .long)) ({ frames := 1, cells := 0, slots := 0, locals := 21 }) (va_Pc [.ref h0, .int k0] (st_U dC dI sz [(h0, .inr (10, fx)), (hm, .inr (5, fm))] [])) (va_Ql (fun (r : Int64) (_ : Unit) => r = 0) (fun (_ : Unit) (_ : State) => True) (va_A [(h0, .inr (10, fx)), (hm, .inr (5, fm))] sz)) 0 0 (va_A [(h0, .inr (10, fx)), (hm, .inr (5, fm))] sz) := by
  refine Met.ofW (cc := cX12_field) (maxL := 2) (ret := (some .long)) (by decide) rfl ?_
  intro p e s m args below meth c s₁ B hml hv
  obtain ⟨rfl, hsz, hP, hK, hD0, hex⟩ := hv
  have hx := B.exec
  have hb := B.bytes
  have hr := B.returns
  have hts0 := atoms_spec (ws := wt yX12_field cX12_field 2 (some .long)) B.pre
  have hts : ∀ w ∈ tb, w.before _ s = true := fun w h => hts0 w (List.mem_cons_of_mem _ h)
  have hown : s.vm.findClass RX12 = some m.cls := findClass_of_methodNamed B.named
  have hlocks := B.notSynchronized
  subst hsz
  have hD := hD0.self (sz := s.heap.size)
  generalize hAe : va_A [(h0, .inr (10, fx)), (hm, .inr (5, fm))] s.heap.size = A at hD ⊢
  have hA : ∀ q : Nat, s.heap.size ≤ q → A q := fun q h => by rw [← hAe]; exact Or.inr h
  have hS : va_S A s.heap s.heap [] := va_S.rf
  have hl := lv_entry ([.ref h0, .int k0]) (n := 2) (Nat.le_of_ble_eq_true rfl)
  rw [lg_entry_eq]
  generalize (lg_sl ([.ref h0, .int k0]) ++ List.replicate (2 - (lg_sl ([.ref h0, .int k0])).length) Slot.unset).toArray = ls at hl ⊢
  have hl : lv_has ls 2 [(0, .ref h0), (1, .int k0)] := hl
  refine lv_aload_n hx hb dX12_field_0 rfl (lv_at hl 0 rfl) ?_
  refine va_get (D := (dC, dI)) (ci := 10) (v := .ref hm) (C := RX12) (T := TX12) (N := 18) hx hb hts inX12 hown hK hP 0 rfl rfl 7 (by decide) (hts _ kw_131) (fun _ h9 => h9) g_fx_7 dX12_field_1 ?_
  refine lv_iload_n hx hb dX12_field_4 rfl (lv_at hl 1 rfl) ?_
  have hPc := hP.sub (ws' := [(hm, .inr (5, fm))]) [1] rfl
  have hDc := hD.sub (ws' := [(hm, .inr (5, fm))]) [1] (by decide) rfl
  have hKc := hK.sub (tys' := []) [] rfl
  have hFc := va_free (wc := [(hm, .inr (5, fm))]) hD hS hA [1] rfl
  refine va_calll (va_runV (As := [.int k0]) (rest := []) ⟨hx, hb, hml, hown, hts⟩ (m_X5_fieldAt l dC dI s.heap.size hm fm k0 L_fm g_fm_0) (cwV 1 hts (gd_V kw_203 kw_204 kw_205 kw_128 kw_206) rfl rfl rfl (by decide +kernel) ⟨Nat.le_of_ble_eq_true rfl, Nat.le_of_ble_eq_true rfl⟩) ⟨st_blind, va_recv hKc hPc (ci := 5) (q0 := 0) rfl rfl, fun U hU hW9 => st_mk hU hW9 hPc hKc hDc hex⟩ rfl rfl hl.1 rfl (lv_room (Nat.le_of_ble_eq_true rfl)) dX12_field_5 ⟨Nat.le_of_ble_eq_true rfl, Nat.le_of_ble_eq_true rfl⟩) hS (fun q _ h => hFc q h) hFc (fun r_1 u9 t9 H1 locs ht9 hvm9 hw9 hB9 hz9 hk9 hS => ?_)
  have hP1 : va_P (dC, dI) cl0 [] H1 := fun k q h => by simp at h
  have hD1 : va_D (va_A [(hm, .inr (5, fm))] s.heap.size) [] := ⟨fun i j p q h => by simp at h, fun k q h => by simp at h⟩
  obtain ⟨hP, hD⟩ := va_join (wr := [(h0, .inr (10, fx))]) (w1 := []) hP hD [1] [0] rfl rfl (by decide) (by decide) hk9 hFc hP1 hD1
  generalize H1 = H at hP hS ⊢
  have hP : va_P (dC, dI) cl0 [(h0, .inr (10, fx))] H := hP
  have hD : va_D A [(h0, .inr (10, fx))] := hD
  have hw9 : r_1 = 0 := hw9
  subst hw9
  refine W.widen (k := 0) (n := 0) (Nat.le_of_ble_eq_true rfl) (Nat.le_of_ble_eq_true rfl) ?_
  exact W.lret (v := 0) hx hb hr (fun t9 ht9 hW9 => ⟨⟨_, (), rfl, rfl, trivial⟩, hS.F ht9⟩) hS.2.2 dX12_field_8
set_option maxHeartbeats 4000000 in
set_option maxRecDepth 100000 in
theorem m_X12_element (l : Launch) (dC : Nat → ClassId) (dI : Nat → Nat → Nat) (sz : Nat) (h0 : Nat) (fx : List Value) (hm : Nat) (fm : List Value) (a0 : Int32) (i0 : Int32) (L_fx : fx.length = 18) (g_fx_7 : fx[7]? = some (.ref hm)) (L_fm : fm.length = 20) (g_fm_5 : fm[5]? = some (.int 0)) : Met l yX12_element (wt yX12_element cX12_element 3 (some .int)) ({ frames := 3, cells := 0, slots := 0, locals := 65 }) (va_Pc [.ref h0, .int a0, .int i0] (st_U dC dI sz [(h0, .inr (10, fx)), (hm, .inr (5, fm))] [])) (va_Qi (fun (r : Int32) (_ : Unit) => r = 0) (fun (_ : Unit) (_ : State) => True) (va_A [(h0, .inr (10, fx)), (hm, .inr (5, fm))] sz)) 0 0 (va_A [(h0, .inr (10, fx)), (hm, .inr (5, fm))] sz) := by
  refine Met.ofW (cc := cX12_element) (maxL := 3) (ret := (some .int)) (by decide) rfl ?_
  intro p e s m args below meth c s₁ B hml hv
  obtain ⟨rfl, hsz, hP, hK, hD0, hex⟩ := hv
  have hx := B.exec
  have hb := B.bytes
  have hr := B.returns
  have hts0 := atoms_spec (ws := wt yX12_element cX12_element 3 (some .int)) B.pre
  have hts : ∀ w ∈ tb, w.before _ s = true := fun w h => hts0 w (List.mem_cons_of_mem _ h)
  have hown : s.vm.findClass RX12 = some m.cls := findClass_of_methodNamed B.named
  have hlocks := B.notSynchronized
  subst hsz
  have hD := hD0.self (sz := s.heap.size)
  generalize hAe : va_A [(h0, .inr (10, fx)), (hm, .inr (5, fm))] s.heap.size = A at hD ⊢
  have hA : ∀ q : Nat, s.heap.size ≤ q → A q := fun q h => by rw [← hAe]; exact Or.inr h
  have hS : va_S A s.heap s.heap [] := va_S.rf
  have hl := lv_entry ([.ref h0, .int a0, .int i0]) (n := 3) (Nat.le_of_ble_eq_true rfl)
  rw [lg_entry_eq]
  generalize (lg_sl ([.ref h0, .int a0, .int i0]) ++ List.replicate (3 - (lg_sl ([.ref h0, .int a0, .int i0])).length) Slot.unset).toArray = ls at hl ⊢
  have hl : lv_has ls 3 [(0, .ref h0), (1, .int a0), (2, .int i0)] := hl
  refine lv_aload_n hx hb dX12_element_0 rfl (lv_at hl 0 rfl) ?_
  refine va_get (D := (dC, dI)) (ci := 10) (v := .ref hm) (C := RX12) (T := TX12) (N := 18) hx hb hts inX12 hown hK hP 0 rfl rfl 7 (by decide) (hts _ kw_131) (fun _ h9 => h9) g_fx_7 dX12_element_1 ?_
  refine lv_iload_n hx hb dX12_element_4 rfl (lv_at hl 1 rfl) ?_
  refine lv_iload_n hx hb dX12_element_5 rfl (lv_at hl 2 rfl) ?_
  have hPc := hP.sub (ws' := [(hm, .inr (5, fm))]) [1] rfl
  have hDc := hD.sub (ws' := [(hm, .inr (5, fm))]) [1] (by decide) rfl
  have hKc := hK.sub (tys' := []) [] rfl
  have hFc := va_free (wc := [(hm, .inr (5, fm))]) hD hS hA [1] rfl
  refine va_calli (va_runV (As := [.int a0, .int i0]) (rest := []) ⟨hx, hb, hml, hown, hts⟩ (m_X5_elementAt l dC dI s.heap.size hm fm a0 i0 L_fm g_fm_5) (cwV 2 hts (gd_V kw_207 kw_208 kw_209 kw_128 kw_210) rfl rfl rfl (by decide +kernel) ⟨Nat.le_of_ble_eq_true rfl, Nat.le_of_ble_eq_true rfl⟩) ⟨st_blind, va_recv hKc hPc (ci := 5) (q0 := 0) rfl rfl, fun U hU hW9 => st_mk hU hW9 hPc hKc hDc hex⟩ rfl rfl hl.1 rfl (lv_room (Nat.le_of_ble_eq_true rfl)) dX12_element_6 ⟨Nat.le_of_ble_eq_true rfl, Nat.le_of_ble_eq_true rfl⟩) hS (fun q _ h => hFc q h) hFc (fun r_1 u9 t9 H1 locs ht9 hvm9 hw9 hB9 hz9 hk9 hS => ?_)
  have hP1 : va_P (dC, dI) cl0 [] H1 := fun k q h => by simp at h
  have hD1 : va_D (va_A [(hm, .inr (5, fm))] s.heap.size) [] := ⟨fun i j p q h => by simp at h, fun k q h => by simp at h⟩
  obtain ⟨hP, hD⟩ := va_join (wr := [(h0, .inr (10, fx))]) (w1 := []) hP hD [1] [0] rfl rfl (by decide) (by decide) hk9 hFc hP1 hD1
  generalize H1 = H at hP hS ⊢
  have hP : va_P (dC, dI) cl0 [(h0, .inr (10, fx))] H := hP
  have hD : va_D A [(h0, .inr (10, fx))] := hD
  have hw9 : r_1 = 0 := hw9
  subst hw9
  refine W.widen (k := 0) (n := 0) (Nat.le_of_ble_eq_true rfl) (Nat.le_of_ble_eq_true rfl) ?_
  exact W.iret (v := 0) hx hb hr (fun t9 ht9 hW9 => ⟨⟨_, (), rfl, rfl, trivial⟩, hS.F ht9⟩) hS.2.2 dX12_element_9
set_option maxHeartbeats 4000000 in
set_option maxRecDepth 100000 in
theorem m_X12_arrayLength (l : Launch) (dC : Nat → ClassId) (dI : Nat → Nat → Nat) (sz : Nat) (h0 : Nat) (fx : List Value) (hm : Nat) (fm : List Value) (a0 : Int32) (L_fx : fx.length = 18) (g_fx_7 : fx[7]? = some (.ref hm)) (L_fm : fm.length = 20) (g_fm_5 : fm[5]? = some (.int 0)) : Met l yX12_arrayLength (wt yX12_arrayLength cX12_arrayLength 2 (some .int)) ({ frames := 2, cells := 0, slots := 0, locals := 43 }) (va_Pc [.ref h0, .int a0] (st_U dC dI sz [(h0, .inr (10, fx)), (hm, .inr (5, fm))] [])) (va_Qi (fun (r : Int32) (_ : Unit) => r = (-1)) (fun (_ : Unit) (_ : State) => True) (va_A [(h0, .inr (10, fx)), (hm, .inr (5, fm))] sz)) 0 0 (va_A [(h0, .inr (10, fx)), (hm, .inr (5, fm))] sz) := by
  refine Met.ofW (cc := cX12_arrayLength) (maxL := 2) (ret := (some .int)) (by decide) rfl ?_
  intro p e s m args below meth c s₁ B hml hv
  obtain ⟨rfl, hsz, hP, hK, hD0, hex⟩ := hv
  have hx := B.exec
  have hb := B.bytes
  have hr := B.returns
  have hts0 := atoms_spec (ws := wt yX12_arrayLength cX12_arrayLength 2 (some .int)) B.pre
  have hts : ∀ w ∈ tb, w.before _ s = true := fun w h => hts0 w (List.mem_cons_of_mem _ h)
  have hown : s.vm.findClass RX12 = some m.cls := findClass_of_methodNamed B.named
  have hlocks := B.notSynchronized
  subst hsz
  have hD := hD0.self (sz := s.heap.size)
  generalize hAe : va_A [(h0, .inr (10, fx)), (hm, .inr (5, fm))] s.heap.size = A at hD ⊢
  have hA : ∀ q : Nat, s.heap.size ≤ q → A q := fun q h => by rw [← hAe]; exact Or.inr h
  have hS : va_S A s.heap s.heap [] := va_S.rf
  have hl := lv_entry ([.ref h0, .int a0]) (n := 2) (Nat.le_of_ble_eq_true rfl)
  rw [lg_entry_eq]
  generalize (lg_sl ([.ref h0, .int a0]) ++ List.replicate (2 - (lg_sl ([.ref h0, .int a0])).length) Slot.unset).toArray = ls at hl ⊢
  have hl : lv_has ls 2 [(0, .ref h0), (1, .int a0)] := hl
  refine lv_aload_n hx hb dX12_arrayLength_0 rfl (lv_at hl 0 rfl) ?_
  refine va_get (D := (dC, dI)) (ci := 10) (v := .ref hm) (C := RX12) (T := TX12) (N := 18) hx hb hts inX12 hown hK hP 0 rfl rfl 7 (by decide) (hts _ kw_131) (fun _ h9 => h9) g_fx_7 dX12_arrayLength_1 ?_
  refine lv_iload_n hx hb dX12_arrayLength_4 rfl (lv_at hl 1 rfl) ?_
  have hPc := hP.sub (ws' := [(hm, .inr (5, fm))]) [1] rfl
  have hDc := hD.sub (ws' := [(hm, .inr (5, fm))]) [1] (by decide) rfl
  have hKc := hK.sub (tys' := []) [] rfl
  have hFc := va_free (wc := [(hm, .inr (5, fm))]) hD hS hA [1] rfl
  refine va_calli (va_runV (As := [.int a0]) (rest := []) ⟨hx, hb, hml, hown, hts⟩ (m_X5_lengthOf l dC dI s.heap.size hm fm a0 L_fm g_fm_5) (cwV 1 hts (gd_V kw_211 kw_187 kw_188 kw_128 kw_189) rfl rfl rfl (by decide +kernel) ⟨Nat.le_of_ble_eq_true rfl, Nat.le_of_ble_eq_true rfl⟩) ⟨st_blind, va_recv hKc hPc (ci := 5) (q0 := 0) rfl rfl, fun U hU hW9 => st_mk hU hW9 hPc hKc hDc hex⟩ rfl rfl hl.1 rfl (lv_room (Nat.le_of_ble_eq_true rfl)) dX12_arrayLength_5 ⟨Nat.le_of_ble_eq_true rfl, Nat.le_of_ble_eq_true rfl⟩) hS (fun q _ h => hFc q h) hFc (fun r_1 u9 t9 H1 locs ht9 hvm9 hw9 hB9 hz9 hk9 hS => ?_)
  have hP1 : va_P (dC, dI) cl0 [] H1 := fun k q h => by simp at h
  have hD1 : va_D (va_A [(hm, .inr (5, fm))] s.heap.size) [] := ⟨fun i j p q h => by simp at h, fun k q h => by simp at h⟩
  obtain ⟨hP, hD⟩ := va_join (wr := [(h0, .inr (10, fx))]) (w1 := []) hP hD [1] [0] rfl rfl (by decide) (by decide) hk9 hFc hP1 hD1
  generalize H1 = H at hP hS ⊢
  have hP : va_P (dC, dI) cl0 [(h0, .inr (10, fx))] H := hP
  have hD : va_D A [(h0, .inr (10, fx))] := hD
  have hw9 : r_1 = (-1) := hw9
  subst hw9
  refine W.widen (k := 0) (n := 0) (Nat.le_of_ble_eq_true rfl) (Nat.le_of_ble_eq_true rfl) ?_
  exact W.iret (v := (-1)) hx hb hr (fun t9 ht9 hW9 => ⟨⟨_, (), rfl, rfl, trivial⟩, hS.F ht9⟩) hS.2.2 dX12_arrayLength_8
set_option maxHeartbeats 4000000 in
set_option maxRecDepth 100000 in
theorem m_X12_blocks (l : Launch) (dC : Nat → ClassId) (dI : Nat → Nat → Nat) (sz : Nat) (h0 : Nat) (fx : List Value) (f0 : Int32) (m0 : Int32) (L_fx : fx.length = 18) (g_fx_11 : fx[11]? = some (.int 0)) : Met l yX12_blocks (wt yX12_blocks cX12_blocks 4 (some .int)) ({ frames := 2, cells := 0, slots := 0, locals := 44 }) (va_Pc [.ref h0, .int f0, .int m0] (st_U dC dI sz [(h0, .inr (10, fx))] [])) (va_Qi (fun (r : Int32) (_ : Unit) => r = (-1)) (fun (_ : Unit) (_ : State) => True) (va_A [(h0, .inr (10, fx))] sz)) 0 0 (va_A [(h0, .inr (10, fx))] sz) := by
  refine Met.ofW (cc := cX12_blocks) (maxL := 4) (ret := (some .int)) (by decide) rfl ?_
  intro p e s m args below meth c s₁ B hml hv
  obtain ⟨rfl, hsz, hP, hK, hD0, hex⟩ := hv
  have hx := B.exec
  have hb := B.bytes
  have hr := B.returns
  have hts0 := atoms_spec (ws := wt yX12_blocks cX12_blocks 4 (some .int)) B.pre
  have hts : ∀ w ∈ tb, w.before _ s = true := fun w h => hts0 w (List.mem_cons_of_mem _ h)
  have hown : s.vm.findClass RX12 = some m.cls := findClass_of_methodNamed B.named
  have hlocks := B.notSynchronized
  subst hsz
  have hD := hD0.self (sz := s.heap.size)
  generalize hAe : va_A [(h0, .inr (10, fx))] s.heap.size = A at hD ⊢
  have hA : ∀ q : Nat, s.heap.size ≤ q → A q := fun q h => by rw [← hAe]; exact Or.inr h
  have hS : va_S A s.heap s.heap [] := va_S.rf
  have hl := lv_entry ([.ref h0, .int f0, .int m0]) (n := 4) (Nat.le_of_ble_eq_true rfl)
  rw [lg_entry_eq]
  generalize (lg_sl ([.ref h0, .int f0, .int m0]) ++ List.replicate (4 - (lg_sl ([.ref h0, .int f0, .int m0])).length) Slot.unset).toArray = ls at hl ⊢
  have hl : lv_has ls 4 [(0, .ref h0), (1, .int f0), (2, .int m0)] := hl
  refine lv_aload_n hx hb dX12_blocks_0 rfl (lv_at hl 0 rfl) ?_
  refine lv_iload_n hx hb dX12_blocks_1 rfl (lv_at hl 1 rfl) ?_
  refine lv_iload_n hx hb dX12_blocks_2 rfl (lv_at hl 2 rfl) ?_
  have hPc := hP.sub (ws' := [(h0, .inr (10, fx))]) [0] rfl
  have hDc := hD.sub (ws' := [(h0, .inr (10, fx))]) [0] (by decide) rfl
  have hKc := hK.sub (tys' := []) [] rfl
  have hFc := va_free (wc := [(h0, .inr (10, fx))]) hD hS hA [0] rfl
  refine va_callq (va_runV (As := [.int f0, .int m0]) (rest := []) ⟨hx, hb, hml, hown, hts⟩ (m_X12_rowAt l dC dI s.heap.size h0 fx f0 m0 L_fx g_fx_11) (cwV 2 hts (gd_V kw_171 kw_172 kw_173 kw_169 kw_174) rfl rfl rfl (by decide +kernel) ⟨Nat.le_of_ble_eq_true rfl, Nat.le_of_ble_eq_true rfl⟩) ⟨st_blind, va_recv hKc hPc (ci := 10) (q0 := 0) rfl rfl, fun U hU hW9 => st_mk hU hW9 hPc hKc hDc hex⟩ rfl rfl hl.1 rfl (lv_room (Nat.le_of_ble_eq_true rfl)) dX12_blocks_3 ⟨Nat.le_of_ble_eq_true rfl, Nat.le_of_ble_eq_true rfl⟩) hS (fun q _ h => hFc q h) hFc (fun r_1 u9 t9 H1 locs ht9 hvm9 hw9 hB9 hz9 hk9 hS => ?_)
  have hP1 : va_P (dC, dI) cl0 [] H1 := fun k q h => by simp at h
  have hD1 : va_D (va_A [(h0, .inr (10, fx))] s.heap.size) [] := ⟨fun i j p q h => by simp at h, fun k q h => by simp at h⟩
  obtain ⟨hP, hD⟩ := va_join (wr := []) (w1 := []) hP hD [0] [] rfl rfl (by decide) (by decide) hk9 hFc hP1 hD1
  generalize H1 = H at hP hS ⊢
  have hP : va_P (dC, dI) cl0 [] H := hP
  have hD : va_D A [] := hD
  have hw9 : r_1 = none := hw9
  subst hw9
  refine lv_astore_nN (lv' := [(3, .null), (0, .ref h0), (1, .int f0), (2, .int m0)]) hx hb dX12_blocks_6 rfl hl (by decide) rfl (fun ls hl => ?_)
  refine lv_aload_nN hx hb dX12_blocks_7 rfl (lv_at hl 0 rfl) ?_
  refine lv_ifnonnullN hx hb dX12_blocks_8 ?_
  refine lv_iconst (v := (-1)) hx hb dX12_blocks_11 (by decide) ?_
  refine W.widen (k := 0) (n := 0) (Nat.le_of_ble_eq_true rfl) (Nat.le_of_ble_eq_true rfl) ?_
  exact W.iret (v := (-1)) hx hb hr (fun t9 ht9 hW9 => ⟨⟨_, (), rfl, rfl, trivial⟩, hS.F ht9⟩) hS.2.2 dX12_blocks_12
set_option maxHeartbeats 4000000 in
set_option maxRecDepth 100000 in
theorem m_X12_block (l : Launch) (dC : Nat → ClassId) (dI : Nat → Nat → Nat) (sz : Nat) (h0 : Nat) (fx : List Value) (f0 : Int32) (m0 : Int32) (b0 : Int32) (w0 : Int32) (L_fx : fx.length = 18) (g_fx_11 : fx[11]? = some (.int 0)) : Met l yX12_block (wt yX12_block cX12_block 6 (some .int)) ({ frames := 2, cells := 0, slots := 0, locals := 44 }) (va_Pc [.ref h0, .int f0, .int m0, .int b0, .int w0] (st_U dC dI sz [(h0, .inr (10, fx))] [])) (va_Qi (fun (r : Int32) (_ : Unit) => r = (-1)) (fun (_ : Unit) (_ : State) => True) (va_A [(h0, .inr (10, fx))] sz)) 0 0 (va_A [(h0, .inr (10, fx))] sz) := by
  refine Met.ofW (cc := cX12_block) (maxL := 6) (ret := (some .int)) (by decide) rfl ?_
  intro p e s m args below meth c s₁ B hml hv
  obtain ⟨rfl, hsz, hP, hK, hD0, hex⟩ := hv
  have hx := B.exec
  have hb := B.bytes
  have hr := B.returns
  have hts0 := atoms_spec (ws := wt yX12_block cX12_block 6 (some .int)) B.pre
  have hts : ∀ w ∈ tb, w.before _ s = true := fun w h => hts0 w (List.mem_cons_of_mem _ h)
  have hown : s.vm.findClass RX12 = some m.cls := findClass_of_methodNamed B.named
  have hlocks := B.notSynchronized
  subst hsz
  have hD := hD0.self (sz := s.heap.size)
  generalize hAe : va_A [(h0, .inr (10, fx))] s.heap.size = A at hD ⊢
  have hA : ∀ q : Nat, s.heap.size ≤ q → A q := fun q h => by rw [← hAe]; exact Or.inr h
  have hS : va_S A s.heap s.heap [] := va_S.rf
  have hl := lv_entry ([.ref h0, .int f0, .int m0, .int b0, .int w0]) (n := 6) (Nat.le_of_ble_eq_true rfl)
  rw [lg_entry_eq]
  generalize (lg_sl ([.ref h0, .int f0, .int m0, .int b0, .int w0]) ++ List.replicate (6 - (lg_sl ([.ref h0, .int f0, .int m0, .int b0, .int w0])).length) Slot.unset).toArray = ls at hl ⊢
  have hl : lv_has ls 6 [(0, .ref h0), (1, .int f0), (2, .int m0), (3, .int b0), (4, .int w0)] := hl
  refine lv_aload_n hx hb dX12_block_0 rfl (lv_at hl 0 rfl) ?_
  refine lv_iload_n hx hb dX12_block_1 rfl (lv_at hl 1 rfl) ?_
  refine lv_iload_n hx hb dX12_block_2 rfl (lv_at hl 2 rfl) ?_
  have hPc := hP.sub (ws' := [(h0, .inr (10, fx))]) [0] rfl
  have hDc := hD.sub (ws' := [(h0, .inr (10, fx))]) [0] (by decide) rfl
  have hKc := hK.sub (tys' := []) [] rfl
  have hFc := va_free (wc := [(h0, .inr (10, fx))]) hD hS hA [0] rfl
  refine va_callq (va_runV (As := [.int f0, .int m0]) (rest := []) ⟨hx, hb, hml, hown, hts⟩ (m_X12_rowAt l dC dI s.heap.size h0 fx f0 m0 L_fx g_fx_11) (cwV 2 hts (gd_V kw_171 kw_172 kw_173 kw_169 kw_174) rfl rfl rfl (by decide +kernel) ⟨Nat.le_of_ble_eq_true rfl, Nat.le_of_ble_eq_true rfl⟩) ⟨st_blind, va_recv hKc hPc (ci := 10) (q0 := 0) rfl rfl, fun U hU hW9 => st_mk hU hW9 hPc hKc hDc hex⟩ rfl rfl hl.1 rfl (lv_room (Nat.le_of_ble_eq_true rfl)) dX12_block_3 ⟨Nat.le_of_ble_eq_true rfl, Nat.le_of_ble_eq_true rfl⟩) hS (fun q _ h => hFc q h) hFc (fun r_1 u9 t9 H1 locs ht9 hvm9 hw9 hB9 hz9 hk9 hS => ?_)
  have hP1 : va_P (dC, dI) cl0 [] H1 := fun k q h => by simp at h
  have hD1 : va_D (va_A [(h0, .inr (10, fx))] s.heap.size) [] := ⟨fun i j p q h => by simp at h, fun k q h => by simp at h⟩
  obtain ⟨hP, hD⟩ := va_join (wr := []) (w1 := []) hP hD [0] [] rfl rfl (by decide) (by decide) hk9 hFc hP1 hD1
  generalize H1 = H at hP hS ⊢
  have hP : va_P (dC, dI) cl0 [] H := hP
  have hD : va_D A [] := hD
  have hw9 : r_1 = none := hw9
  subst hw9
  refine lv_astoreN (lv' := [(5, .null), (0, .ref h0), (1, .int f0), (2, .int m0), (3, .int b0), (4, .int w0)]) hx hb dX12_block_6 hl (by decide) rfl (fun ls hl => ?_)
  refine lv_aloadN hx hb dX12_block_8 (lv_at hl 0 rfl) ?_
  refine lv_ifnonnullN hx hb dX12_block_10 ?_
  refine lv_iconst (v := (-1)) hx hb dX12_block_13 (by decide) ?_
  refine W.widen (k := 0) (n := 0) (Nat.le_of_ble_eq_true rfl) (Nat.le_of_ble_eq_true rfl) ?_
  exact W.iret (v := (-1)) hx hb hr (fun t9 ht9 hW9 => ⟨⟨_, (), rfl, rfl, trivial⟩, hS.F ht9⟩) hS.2.2 dX12_block_14
set_option maxHeartbeats 4000000 in
set_option maxRecDepth 100000 in
theorem m_X12_edge (l : Launch) (dC : Nat → ClassId) (dI : Nat → Nat → Nat) (sz : Nat) (h0 : Nat) (fx : List Value) (f0 : Int32) (m0 : Int32) (a0 : Int32) (b0 : Int32) (L_fx : fx.length = 18) (g_fx_11 : fx[11]? = some (.int 0)) : Met l yX12_edge (wt yX12_edge cX12_edge 6 (some .boolean)) ({ frames := 2, cells := 0, slots := 0, locals := 44 }) (va_Pc [.ref h0, .int f0, .int m0, .int a0, .int b0] (st_U dC dI sz [(h0, .inr (10, fx))] [])) (va_Qi (fun (r : Int32) (_ : Unit) => r = 0) (fun (_ : Unit) (_ : State) => True) (va_A [(h0, .inr (10, fx))] sz)) 0 0 (va_A [(h0, .inr (10, fx))] sz) := by
  refine Met.ofW (cc := cX12_edge) (maxL := 6) (ret := (some .boolean)) (by decide) rfl ?_
  intro p e s m args below meth c s₁ B hml hv
  obtain ⟨rfl, hsz, hP, hK, hD0, hex⟩ := hv
  have hx := B.exec
  have hb := B.bytes
  have hr := B.returns
  have hts0 := atoms_spec (ws := wt yX12_edge cX12_edge 6 (some .boolean)) B.pre
  have hts : ∀ w ∈ tb, w.before _ s = true := fun w h => hts0 w (List.mem_cons_of_mem _ h)
  have hown : s.vm.findClass RX12 = some m.cls := findClass_of_methodNamed B.named
  have hlocks := B.notSynchronized
  subst hsz
  have hD := hD0.self (sz := s.heap.size)
  generalize hAe : va_A [(h0, .inr (10, fx))] s.heap.size = A at hD ⊢
  have hA : ∀ q : Nat, s.heap.size ≤ q → A q := fun q h => by rw [← hAe]; exact Or.inr h
  have hS : va_S A s.heap s.heap [] := va_S.rf
  have hl := lv_entry ([.ref h0, .int f0, .int m0, .int a0, .int b0]) (n := 6) (Nat.le_of_ble_eq_true rfl)
  rw [lg_entry_eq]
  generalize (lg_sl ([.ref h0, .int f0, .int m0, .int a0, .int b0]) ++ List.replicate (6 - (lg_sl ([.ref h0, .int f0, .int m0, .int a0, .int b0])).length) Slot.unset).toArray = ls at hl ⊢
  have hl : lv_has ls 6 [(0, .ref h0), (1, .int f0), (2, .int m0), (3, .int a0), (4, .int b0)] := hl
  refine lv_aload_n hx hb dX12_edge_0 rfl (lv_at hl 0 rfl) ?_
  refine lv_iload_n hx hb dX12_edge_1 rfl (lv_at hl 1 rfl) ?_
  refine lv_iload_n hx hb dX12_edge_2 rfl (lv_at hl 2 rfl) ?_
  have hPc := hP.sub (ws' := [(h0, .inr (10, fx))]) [0] rfl
  have hDc := hD.sub (ws' := [(h0, .inr (10, fx))]) [0] (by decide) rfl
  have hKc := hK.sub (tys' := []) [] rfl
  have hFc := va_free (wc := [(h0, .inr (10, fx))]) hD hS hA [0] rfl
  refine va_callq (va_runV (As := [.int f0, .int m0]) (rest := []) ⟨hx, hb, hml, hown, hts⟩ (m_X12_rowAt l dC dI s.heap.size h0 fx f0 m0 L_fx g_fx_11) (cwV 2 hts (gd_V kw_171 kw_172 kw_173 kw_169 kw_174) rfl rfl rfl (by decide +kernel) ⟨Nat.le_of_ble_eq_true rfl, Nat.le_of_ble_eq_true rfl⟩) ⟨st_blind, va_recv hKc hPc (ci := 10) (q0 := 0) rfl rfl, fun U hU hW9 => st_mk hU hW9 hPc hKc hDc hex⟩ rfl rfl hl.1 rfl (lv_room (Nat.le_of_ble_eq_true rfl)) dX12_edge_3 ⟨Nat.le_of_ble_eq_true rfl, Nat.le_of_ble_eq_true rfl⟩) hS (fun q _ h => hFc q h) hFc (fun r_1 u9 t9 H1 locs ht9 hvm9 hw9 hB9 hz9 hk9 hS => ?_)
  have hP1 : va_P (dC, dI) cl0 [] H1 := fun k q h => by simp at h
  have hD1 : va_D (va_A [(h0, .inr (10, fx))] s.heap.size) [] := ⟨fun i j p q h => by simp at h, fun k q h => by simp at h⟩
  obtain ⟨hP, hD⟩ := va_join (wr := []) (w1 := []) hP hD [0] [] rfl rfl (by decide) (by decide) hk9 hFc hP1 hD1
  generalize H1 = H at hP hS ⊢
  have hP : va_P (dC, dI) cl0 [] H := hP
  have hD : va_D A [] := hD
  have hw9 : r_1 = none := hw9
  subst hw9
  refine lv_astoreN (lv' := [(5, .null), (0, .ref h0), (1, .int f0), (2, .int m0), (3, .int a0), (4, .int b0)]) hx hb dX12_edge_6 hl (by decide) rfl (fun ls hl => ?_)
  refine lv_aloadN hx hb dX12_edge_8 (lv_at hl 0 rfl) ?_
  refine lv_ifnonnullN hx hb dX12_edge_10 ?_
  refine lv_iconst (v := 0) hx hb dX12_edge_13 (by decide) ?_
  refine W.widen (k := 0) (n := 0) (Nat.le_of_ble_eq_true rfl) (Nat.le_of_ble_eq_true rfl) ?_
  exact W.zret (v := 0) hx hb hr rfl (fun t9 ht9 hW9 => ⟨⟨_, (), rfl, rfl, trivial⟩, hS.F ht9⟩) hS.2.2 dX12_edge_14
set_option maxHeartbeats 4000000 in
set_option maxRecDepth 100000 in
theorem m_X12_count (l : Launch) (dC : Nat → ClassId) (dI : Nat → Nat → Nat) (sz : Nat) (h0 : Nat) (fx : List Value) (f0 : Int32) (L_fx : fx.length = 18) (g_fx_11 : fx[11]? = some (.int 0)) : Met l yX12_count (wt yX12_count cX12_count 7 (some .int)) ({ frames := 2, cells := 0, slots := 0, locals := 43 }) (va_Pc [.ref h0, .int f0] (st_U dC dI sz [(h0, .inr (10, fx))] [])) (va_Qi (fun (r : Int32) (_ : Unit) => r = (-1)) (fun (_ : Unit) (_ : State) => True) (va_A [(h0, .inr (10, fx))] sz)) 0 0 (va_A [(h0, .inr (10, fx))] sz) := by
  refine Met.ofW (cc := cX12_count) (maxL := 7) (ret := (some .int)) (by decide) rfl ?_
  intro p e s m args below meth c s₁ B hml hv
  obtain ⟨rfl, hsz, hP, hK, hD0, hex⟩ := hv
  have hx := B.exec
  have hb := B.bytes
  have hr := B.returns
  have hts0 := atoms_spec (ws := wt yX12_count cX12_count 7 (some .int)) B.pre
  have hts : ∀ w ∈ tb, w.before _ s = true := fun w h => hts0 w (List.mem_cons_of_mem _ h)
  have hown : s.vm.findClass RX12 = some m.cls := findClass_of_methodNamed B.named
  have hlocks := B.notSynchronized
  subst hsz
  have hD := hD0.self (sz := s.heap.size)
  generalize hAe : va_A [(h0, .inr (10, fx))] s.heap.size = A at hD ⊢
  have hA : ∀ q : Nat, s.heap.size ≤ q → A q := fun q h => by rw [← hAe]; exact Or.inr h
  have hS : va_S A s.heap s.heap [] := va_S.rf
  have hl := lv_entry ([.ref h0, .int f0]) (n := 7) (Nat.le_of_ble_eq_true rfl)
  rw [lg_entry_eq]
  generalize (lg_sl ([.ref h0, .int f0]) ++ List.replicate (7 - (lg_sl ([.ref h0, .int f0])).length) Slot.unset).toArray = ls at hl ⊢
  have hl : lv_has ls 7 [(0, .ref h0), (1, .int f0)] := hl
  refine lv_aload_n hx hb dX12_count_0 rfl (lv_at hl 0 rfl) ?_
  refine lv_iload_n hx hb dX12_count_1 rfl (lv_at hl 1 rfl) ?_
  have hPc := hP.sub (ws' := [(h0, .inr (10, fx))]) [0] rfl
  have hDc := hD.sub (ws' := [(h0, .inr (10, fx))]) [0] (by decide) rfl
  have hKc := hK.sub (tys' := []) [] rfl
  have hFc := va_free (wc := [(h0, .inr (10, fx))]) hD hS hA [0] rfl
  refine va_callq (va_runV (As := [.int f0]) (rest := []) ⟨hx, hb, hml, hown, hts⟩ (m_X12_soundUnitAt l dC dI s.heap.size h0 fx f0 L_fx g_fx_11) (cwV 1 hts (gd_V kw_175 kw_176 kw_177 kw_169 kw_178) rfl rfl rfl (by decide +kernel) ⟨Nat.le_of_ble_eq_true rfl, Nat.le_of_ble_eq_true rfl⟩) ⟨st_blind, va_recv hKc hPc (ci := 10) (q0 := 0) rfl rfl, fun U hU hW9 => st_mk hU hW9 hPc hKc hDc hex⟩ rfl rfl hl.1 rfl (lv_room (Nat.le_of_ble_eq_true rfl)) dX12_count_2 ⟨Nat.le_of_ble_eq_true rfl, Nat.le_of_ble_eq_true rfl⟩) hS (fun q _ h => hFc q h) hFc (fun r_1 u9 t9 H1 locs ht9 hvm9 hw9 hB9 hz9 hk9 hS => ?_)
  have hP1 : va_P (dC, dI) cl0 [] H1 := fun k q h => by simp at h
  have hD1 : va_D (va_A [(h0, .inr (10, fx))] s.heap.size) [] := ⟨fun i j p q h => by simp at h, fun k q h => by simp at h⟩
  obtain ⟨hP, hD⟩ := va_join (wr := []) (w1 := []) hP hD [0] [] rfl rfl (by decide) (by decide) hk9 hFc hP1 hD1
  generalize H1 = H at hP hS ⊢
  have hP : va_P (dC, dI) cl0 [] H := hP
  have hD : va_D A [] := hD
  have hw9 : r_1 = none := hw9
  subst hw9
  refine lv_astore_nN (lv' := [(2, .null), (0, .ref h0), (1, .int f0)]) hx hb dX12_count_5 rfl hl (by decide) rfl (fun ls hl => ?_)
  refine lv_aload_nN hx hb dX12_count_6 rfl (lv_at hl 0 rfl) ?_
  refine lv_ifnonnullN hx hb dX12_count_7 ?_
  refine lv_iconst (v := (-1)) hx hb dX12_count_10 (by decide) ?_
  refine W.widen (k := 0) (n := 0) (Nat.le_of_ble_eq_true rfl) (Nat.le_of_ble_eq_true rfl) ?_
  exact W.iret (v := (-1)) hx hb hr (fun t9 ht9 hW9 => ⟨⟨_, (), rfl, rfl, trivial⟩, hS.F ht9⟩) hS.2.2 dX12_count_11
set_option maxHeartbeats 4000000 in
set_option maxRecDepth 100000 in
theorem m_J7_fill_53178 (l : Launch) (dC : Nat → ClassId) (dI : Nat → Nat → Nat) (sz : Nat) (h0 : Nat) (cI : ClassId)  : Met l yJ7_fill_53178 (wt yJ7_fill_53178 cJ7_fill_53178 4 none) ({ frames := 0, cells := 0, slots := 0, locals := 0 }) (va_Pc [.ref h0, .int 0] (st_U dC dI sz [(h0, .inl (cI, 12, .inl (fun _ => 0)))] [(cI, .int)])) (va_Qv (fun _ : Unit => True) (fun (_ : Unit) (_ : State) => True) (va_A [(h0, .inl (cI, 12, .inl (fun _ => 0)))] sz)) 0 0 (va_A [(h0, .inl (cI, 12, .inl (fun _ => 0)))] sz) := by
  refine Met.ofW (cc := cJ7_fill_53178) (maxL := 4) (ret := none) (by decide) rfl ?_
  intro p e s m args below meth c s₁ B hml hv
  obtain ⟨rfl, hsz, hP, hK, hD0, hex⟩ := hv
  have hx := B.exec
  have hb := B.bytes
  have hr := B.returns
  have hts0 := atoms_spec (ws := wt yJ7_fill_53178 cJ7_fill_53178 4 none) B.pre
  have hts : ∀ w ∈ tb, w.before _ s = true := fun w h => hts0 w (List.mem_cons_of_mem _ h)
  have hown : s.vm.findClass RJ7 = some m.cls := findClass_of_methodNamed B.named
  have hlocks := B.notSynchronized
  subst hsz
  have hD := hD0.self (sz := s.heap.size)
  generalize hAe : va_A [(h0, .inl (cI, 12, .inl (fun _ => 0)))] s.heap.size = A at hD ⊢
  have hA : ∀ q : Nat, s.heap.size ≤ q → A q := fun q h => by rw [← hAe]; exact Or.inr h
  have hS : va_S A s.heap s.heap [] := va_S.rf
  have hl := lv_entry ([.ref h0, .int 0]) (n := 4) (Nat.le_of_ble_eq_true rfl)
  rw [lg_entry_eq]
  generalize (lg_sl ([.ref h0, .int 0]) ++ List.replicate (4 - (lg_sl ([.ref h0, .int 0])).length) Slot.unset).toArray = ls at hl ⊢
  have hl : lv_has ls 4 [(0, .ref h0), (1, .int 0)] := hl
  refine lv_iconst (v := 0) hx hb dJ7_fill_53178_0 (by decide) ?_
  refine lv_istore_n (lv' := [(2, .int 0), (0, .ref h0), (1, .int 0)]) hx hb dJ7_fill_53178_1 rfl hl (by decide) rfl (fun ls hl => ?_)
  refine lv_aload_n hx hb dJ7_fill_53178_2 rfl (lv_at hl 1 rfl) ?_
  refine va_alen (v := 12) hx hb hK hP 0 0 rfl rfl rfl dJ7_fill_53178_3 ?_
  refine lv_istore_n (lv' := [(3, .int 12), (2, .int 0), (0, .ref h0), (1, .int 0)]) hx hb dJ7_fill_53178_4 rfl hl (by decide) rfl (fun ls hl => ?_)
  refine lv_iload_n hx hb dJ7_fill_53178_5 rfl (lv_at hl 1 rfl) ?_
  refine lv_iload_n hx hb dJ7_fill_53178_6 rfl (lv_at hl 0 rfl) ?_
  refine lv_icmp_ge (tgt := 20) hx hb dJ7_fill_53178_7 (by decide) (fun c9 => absurd c9 (by decide)) (fun _ => ?_)
  refine lv_aload_n hx hb dJ7_fill_53178_10 rfl (lv_at hl 2 rfl) ?_
  refine lv_iload_n hx hb dJ7_fill_53178_11 rfl (lv_at hl 1 rfl) ?_
  refine lv_iload_n hx hb dJ7_fill_53178_12 rfl (lv_at hl 3 rfl) ?_
  refine va_iast hx hb hK hP hD hS 0 0 rfl rfl (vi rfl) dJ7_fill_53178_13 (fun H locs hP hD hS => ?_)
  obtain ⟨f_1, e_f_1⟩ : ∃ z, z = upd (fun _ => 0) (0 : Int32).toNatClampNeg 0 := ⟨_, rfl⟩
  have hP : va_P (dC, dI) cl0 [(h0, .inl (cI, 12, .inl f_1))] H := by rw [e_f_1]; exact hP
  have hD : va_D A [(h0, .inl (cI, 12, .inl f_1))] := by rw [e_f_1]; exact hD
  refine lv_iinc (v := 1) (lv' := [(2, .int 1), (3, .int 12), (0, .ref h0), (1, .int 0)]) hx hb dJ7_fill_53178_14 hl (k := 1) rfl (by decide) (by decide) rfl (fun ls hl => ?_)
  refine lv_goto (tgt := 5) hx hb dJ7_fill_53178_17 (by decide) ?_
  refine lv_iload_n hx hb dJ7_fill_53178_5 rfl (lv_at hl 0 rfl) ?_
  refine lv_iload_n hx hb dJ7_fill_53178_6 rfl (lv_at hl 1 rfl) ?_
  refine lv_icmp_ge (tgt := 20) hx hb dJ7_fill_53178_7 (by decide) (fun c9 => absurd c9 (by decide)) (fun _ => ?_)
  refine lv_aload_n hx hb dJ7_fill_53178_10 rfl (lv_at hl 2 rfl) ?_
  refine lv_iload_n hx hb dJ7_fill_53178_11 rfl (lv_at hl 0 rfl) ?_
  refine lv_iload_n hx hb dJ7_fill_53178_12 rfl (lv_at hl 3 rfl) ?_
  refine va_iast hx hb hK hP hD hS 0 0 rfl rfl (vi rfl) dJ7_fill_53178_13 (fun H locs hP hD hS => ?_)
  obtain ⟨f_2, e_f_2⟩ : ∃ z, z = upd f_1 (1 : Int32).toNatClampNeg 0 := ⟨_, rfl⟩
  have hP : va_P (dC, dI) cl0 [(h0, .inl (cI, 12, .inl f_2))] H := by rw [e_f_2]; exact hP
  have hD : va_D A [(h0, .inl (cI, 12, .inl f_2))] := by rw [e_f_2]; exact hD
  refine lv_iinc (v := 2) (lv' := [(2, .int 2), (3, .int 12), (0, .ref h0), (1, .int 0)]) hx hb dJ7_fill_53178_14 hl (k := 0) rfl (by decide) (by decide) rfl (fun ls hl => ?_)
  refine lv_goto (tgt := 5) hx hb dJ7_fill_53178_17 (by decide) ?_
  refine lv_iload_n hx hb dJ7_fill_53178_5 rfl (lv_at hl 0 rfl) ?_
  refine lv_iload_n hx hb dJ7_fill_53178_6 rfl (lv_at hl 1 rfl) ?_
  refine lv_icmp_ge (tgt := 20) hx hb dJ7_fill_53178_7 (by decide) (fun c9 => absurd c9 (by decide)) (fun _ => ?_)
  refine lv_aload_n hx hb dJ7_fill_53178_10 rfl (lv_at hl 2 rfl) ?_
  refine lv_iload_n hx hb dJ7_fill_53178_11 rfl (lv_at hl 0 rfl) ?_
  refine lv_iload_n hx hb dJ7_fill_53178_12 rfl (lv_at hl 3 rfl) ?_
  refine va_iast hx hb hK hP hD hS 0 0 rfl rfl (vi rfl) dJ7_fill_53178_13 (fun H locs hP hD hS => ?_)
  obtain ⟨f_3, e_f_3⟩ : ∃ z, z = upd f_2 (2 : Int32).toNatClampNeg 0 := ⟨_, rfl⟩
  have hP : va_P (dC, dI) cl0 [(h0, .inl (cI, 12, .inl f_3))] H := by rw [e_f_3]; exact hP
  have hD : va_D A [(h0, .inl (cI, 12, .inl f_3))] := by rw [e_f_3]; exact hD
  refine lv_iinc (v := 3) (lv' := [(2, .int 3), (3, .int 12), (0, .ref h0), (1, .int 0)]) hx hb dJ7_fill_53178_14 hl (k := 0) rfl (by decide) (by decide) rfl (fun ls hl => ?_)
  refine lv_goto (tgt := 5) hx hb dJ7_fill_53178_17 (by decide) ?_
  refine lv_iload_n hx hb dJ7_fill_53178_5 rfl (lv_at hl 0 rfl) ?_
  refine lv_iload_n hx hb dJ7_fill_53178_6 rfl (lv_at hl 1 rfl) ?_
  refine lv_icmp_ge (tgt := 20) hx hb dJ7_fill_53178_7 (by decide) (fun c9 => absurd c9 (by decide)) (fun _ => ?_)
  refine lv_aload_n hx hb dJ7_fill_53178_10 rfl (lv_at hl 2 rfl) ?_
  refine lv_iload_n hx hb dJ7_fill_53178_11 rfl (lv_at hl 0 rfl) ?_
  refine lv_iload_n hx hb dJ7_fill_53178_12 rfl (lv_at hl 3 rfl) ?_
  refine va_iast hx hb hK hP hD hS 0 0 rfl rfl (vi rfl) dJ7_fill_53178_13 (fun H locs hP hD hS => ?_)
  obtain ⟨f_4, e_f_4⟩ : ∃ z, z = upd f_3 (3 : Int32).toNatClampNeg 0 := ⟨_, rfl⟩
  have hP : va_P (dC, dI) cl0 [(h0, .inl (cI, 12, .inl f_4))] H := by rw [e_f_4]; exact hP
  have hD : va_D A [(h0, .inl (cI, 12, .inl f_4))] := by rw [e_f_4]; exact hD
  refine lv_iinc (v := 4) (lv' := [(2, .int 4), (3, .int 12), (0, .ref h0), (1, .int 0)]) hx hb dJ7_fill_53178_14 hl (k := 0) rfl (by decide) (by decide) rfl (fun ls hl => ?_)
  refine lv_goto (tgt := 5) hx hb dJ7_fill_53178_17 (by decide) ?_
  refine lv_iload_n hx hb dJ7_fill_53178_5 rfl (lv_at hl 0 rfl) ?_
  refine lv_iload_n hx hb dJ7_fill_53178_6 rfl (lv_at hl 1 rfl) ?_
  refine lv_icmp_ge (tgt := 20) hx hb dJ7_fill_53178_7 (by decide) (fun c9 => absurd c9 (by decide)) (fun _ => ?_)
  refine lv_aload_n hx hb dJ7_fill_53178_10 rfl (lv_at hl 2 rfl) ?_
  refine lv_iload_n hx hb dJ7_fill_53178_11 rfl (lv_at hl 0 rfl) ?_
  refine lv_iload_n hx hb dJ7_fill_53178_12 rfl (lv_at hl 3 rfl) ?_
  refine va_iast hx hb hK hP hD hS 0 0 rfl rfl (vi rfl) dJ7_fill_53178_13 (fun H locs hP hD hS => ?_)
  obtain ⟨f_5, e_f_5⟩ : ∃ z, z = upd f_4 (4 : Int32).toNatClampNeg 0 := ⟨_, rfl⟩
  have hP : va_P (dC, dI) cl0 [(h0, .inl (cI, 12, .inl f_5))] H := by rw [e_f_5]; exact hP
  have hD : va_D A [(h0, .inl (cI, 12, .inl f_5))] := by rw [e_f_5]; exact hD
  refine lv_iinc (v := 5) (lv' := [(2, .int 5), (3, .int 12), (0, .ref h0), (1, .int 0)]) hx hb dJ7_fill_53178_14 hl (k := 0) rfl (by decide) (by decide) rfl (fun ls hl => ?_)
  refine lv_goto (tgt := 5) hx hb dJ7_fill_53178_17 (by decide) ?_
  refine lv_iload_n hx hb dJ7_fill_53178_5 rfl (lv_at hl 0 rfl) ?_
  refine lv_iload_n hx hb dJ7_fill_53178_6 rfl (lv_at hl 1 rfl) ?_
  refine lv_icmp_ge (tgt := 20) hx hb dJ7_fill_53178_7 (by decide) (fun c9 => absurd c9 (by decide)) (fun _ => ?_)
  refine lv_aload_n hx hb dJ7_fill_53178_10 rfl (lv_at hl 2 rfl) ?_
  refine lv_iload_n hx hb dJ7_fill_53178_11 rfl (lv_at hl 0 rfl) ?_
  refine lv_iload_n hx hb dJ7_fill_53178_12 rfl (lv_at hl 3 rfl) ?_
  refine va_iast hx hb hK hP hD hS 0 0 rfl rfl (vi rfl) dJ7_fill_53178_13 (fun H locs hP hD hS => ?_)
  obtain ⟨f_6, e_f_6⟩ : ∃ z, z = upd f_5 (5 : Int32).toNatClampNeg 0 := ⟨_, rfl⟩
  have hP : va_P (dC, dI) cl0 [(h0, .inl (cI, 12, .inl f_6))] H := by rw [e_f_6]; exact hP
  have hD : va_D A [(h0, .inl (cI, 12, .inl f_6))] := by rw [e_f_6]; exact hD
  refine lv_iinc (v := 6) (lv' := [(2, .int 6), (3, .int 12), (0, .ref h0), (1, .int 0)]) hx hb dJ7_fill_53178_14 hl (k := 0) rfl (by decide) (by decide) rfl (fun ls hl => ?_)
  refine lv_goto (tgt := 5) hx hb dJ7_fill_53178_17 (by decide) ?_
  refine lv_iload_n hx hb dJ7_fill_53178_5 rfl (lv_at hl 0 rfl) ?_
  refine lv_iload_n hx hb dJ7_fill_53178_6 rfl (lv_at hl 1 rfl) ?_
  refine lv_icmp_ge (tgt := 20) hx hb dJ7_fill_53178_7 (by decide) (fun c9 => absurd c9 (by decide)) (fun _ => ?_)
  refine lv_aload_n hx hb dJ7_fill_53178_10 rfl (lv_at hl 2 rfl) ?_
  refine lv_iload_n hx hb dJ7_fill_53178_11 rfl (lv_at hl 0 rfl) ?_
  refine lv_iload_n hx hb dJ7_fill_53178_12 rfl (lv_at hl 3 rfl) ?_
  refine va_iast hx hb hK hP hD hS 0 0 rfl rfl (vi rfl) dJ7_fill_53178_13 (fun H locs hP hD hS => ?_)
  obtain ⟨f_7, e_f_7⟩ : ∃ z, z = upd f_6 (6 : Int32).toNatClampNeg 0 := ⟨_, rfl⟩
  have hP : va_P (dC, dI) cl0 [(h0, .inl (cI, 12, .inl f_7))] H := by rw [e_f_7]; exact hP
  have hD : va_D A [(h0, .inl (cI, 12, .inl f_7))] := by rw [e_f_7]; exact hD
  refine lv_iinc (v := 7) (lv' := [(2, .int 7), (3, .int 12), (0, .ref h0), (1, .int 0)]) hx hb dJ7_fill_53178_14 hl (k := 0) rfl (by decide) (by decide) rfl (fun ls hl => ?_)
  refine lv_goto (tgt := 5) hx hb dJ7_fill_53178_17 (by decide) ?_
  refine lv_iload_n hx hb dJ7_fill_53178_5 rfl (lv_at hl 0 rfl) ?_
  refine lv_iload_n hx hb dJ7_fill_53178_6 rfl (lv_at hl 1 rfl) ?_
  refine lv_icmp_ge (tgt := 20) hx hb dJ7_fill_53178_7 (by decide) (fun c9 => absurd c9 (by decide)) (fun _ => ?_)
  refine lv_aload_n hx hb dJ7_fill_53178_10 rfl (lv_at hl 2 rfl) ?_
  refine lv_iload_n hx hb dJ7_fill_53178_11 rfl (lv_at hl 0 rfl) ?_
  refine lv_iload_n hx hb dJ7_fill_53178_12 rfl (lv_at hl 3 rfl) ?_
  refine va_iast hx hb hK hP hD hS 0 0 rfl rfl (vi rfl) dJ7_fill_53178_13 (fun H locs hP hD hS => ?_)
  obtain ⟨f_8, e_f_8⟩ : ∃ z, z = upd f_7 (7 : Int32).toNatClampNeg 0 := ⟨_, rfl⟩
  have hP : va_P (dC, dI) cl0 [(h0, .inl (cI, 12, .inl f_8))] H := by rw [e_f_8]; exact hP
  have hD : va_D A [(h0, .inl (cI, 12, .inl f_8))] := by rw [e_f_8]; exact hD
  refine lv_iinc (v := 8) (lv' := [(2, .int 8), (3, .int 12), (0, .ref h0), (1, .int 0)]) hx hb dJ7_fill_53178_14 hl (k := 0) rfl (by decide) (by decide) rfl (fun ls hl => ?_)
  refine lv_goto (tgt := 5) hx hb dJ7_fill_53178_17 (by decide) ?_
  refine lv_iload_n hx hb dJ7_fill_53178_5 rfl (lv_at hl 0 rfl) ?_
  refine lv_iload_n hx hb dJ7_fill_53178_6 rfl (lv_at hl 1 rfl) ?_
  refine lv_icmp_ge (tgt := 20) hx hb dJ7_fill_53178_7 (by decide) (fun c9 => absurd c9 (by decide)) (fun _ => ?_)
  refine lv_aload_n hx hb dJ7_fill_53178_10 rfl (lv_at hl 2 rfl) ?_
  refine lv_iload_n hx hb dJ7_fill_53178_11 rfl (lv_at hl 0 rfl) ?_
  refine lv_iload_n hx hb dJ7_fill_53178_12 rfl (lv_at hl 3 rfl) ?_
  refine va_iast hx hb hK hP hD hS 0 0 rfl rfl (vi rfl) dJ7_fill_53178_13 (fun H locs hP hD hS => ?_)
  obtain ⟨f_9, e_f_9⟩ : ∃ z, z = upd f_8 (8 : Int32).toNatClampNeg 0 := ⟨_, rfl⟩
  have hP : va_P (dC, dI) cl0 [(h0, .inl (cI, 12, .inl f_9))] H := by rw [e_f_9]; exact hP
  have hD : va_D A [(h0, .inl (cI, 12, .inl f_9))] := by rw [e_f_9]; exact hD
  refine lv_iinc (v := 9) (lv' := [(2, .int 9), (3, .int 12), (0, .ref h0), (1, .int 0)]) hx hb dJ7_fill_53178_14 hl (k := 0) rfl (by decide) (by decide) rfl (fun ls hl => ?_)
  refine lv_goto (tgt := 5) hx hb dJ7_fill_53178_17 (by decide) ?_
  refine lv_iload_n hx hb dJ7_fill_53178_5 rfl (lv_at hl 0 rfl) ?_
  refine lv_iload_n hx hb dJ7_fill_53178_6 rfl (lv_at hl 1 rfl) ?_
  refine lv_icmp_ge (tgt := 20) hx hb dJ7_fill_53178_7 (by decide) (fun c9 => absurd c9 (by decide)) (fun _ => ?_)
  refine lv_aload_n hx hb dJ7_fill_53178_10 rfl (lv_at hl 2 rfl) ?_
  refine lv_iload_n hx hb dJ7_fill_53178_11 rfl (lv_at hl 0 rfl) ?_
  refine lv_iload_n hx hb dJ7_fill_53178_12 rfl (lv_at hl 3 rfl) ?_
  refine va_iast hx hb hK hP hD hS 0 0 rfl rfl (vi rfl) dJ7_fill_53178_13 (fun H locs hP hD hS => ?_)
  obtain ⟨f_10, e_f_10⟩ : ∃ z, z = upd f_9 (9 : Int32).toNatClampNeg 0 := ⟨_, rfl⟩
  have hP : va_P (dC, dI) cl0 [(h0, .inl (cI, 12, .inl f_10))] H := by rw [e_f_10]; exact hP
  have hD : va_D A [(h0, .inl (cI, 12, .inl f_10))] := by rw [e_f_10]; exact hD
  refine lv_iinc (v := 10) (lv' := [(2, .int 10), (3, .int 12), (0, .ref h0), (1, .int 0)]) hx hb dJ7_fill_53178_14 hl (k := 0) rfl (by decide) (by decide) rfl (fun ls hl => ?_)
  refine lv_goto (tgt := 5) hx hb dJ7_fill_53178_17 (by decide) ?_
  refine lv_iload_n hx hb dJ7_fill_53178_5 rfl (lv_at hl 0 rfl) ?_
  refine lv_iload_n hx hb dJ7_fill_53178_6 rfl (lv_at hl 1 rfl) ?_
  refine lv_icmp_ge (tgt := 20) hx hb dJ7_fill_53178_7 (by decide) (fun c9 => absurd c9 (by decide)) (fun _ => ?_)
  refine lv_aload_n hx hb dJ7_fill_53178_10 rfl (lv_at hl 2 rfl) ?_
  refine lv_iload_n hx hb dJ7_fill_53178_11 rfl (lv_at hl 0 rfl) ?_
  refine lv_iload_n hx hb dJ7_fill_53178_12 rfl (lv_at hl 3 rfl) ?_
  refine va_iast hx hb hK hP hD hS 0 0 rfl rfl (vi rfl) dJ7_fill_53178_13 (fun H locs hP hD hS => ?_)
  obtain ⟨f_11, e_f_11⟩ : ∃ z, z = upd f_10 (10 : Int32).toNatClampNeg 0 := ⟨_, rfl⟩
  have hP : va_P (dC, dI) cl0 [(h0, .inl (cI, 12, .inl f_11))] H := by rw [e_f_11]; exact hP
  have hD : va_D A [(h0, .inl (cI, 12, .inl f_11))] := by rw [e_f_11]; exact hD
  refine lv_iinc (v := 11) (lv' := [(2, .int 11), (3, .int 12), (0, .ref h0), (1, .int 0)]) hx hb dJ7_fill_53178_14 hl (k := 0) rfl (by decide) (by decide) rfl (fun ls hl => ?_)
  refine lv_goto (tgt := 5) hx hb dJ7_fill_53178_17 (by decide) ?_
  refine lv_iload_n hx hb dJ7_fill_53178_5 rfl (lv_at hl 0 rfl) ?_
  refine lv_iload_n hx hb dJ7_fill_53178_6 rfl (lv_at hl 1 rfl) ?_
  refine lv_icmp_ge (tgt := 20) hx hb dJ7_fill_53178_7 (by decide) (fun c9 => absurd c9 (by decide)) (fun _ => ?_)
  refine lv_aload_n hx hb dJ7_fill_53178_10 rfl (lv_at hl 2 rfl) ?_
  refine lv_iload_n hx hb dJ7_fill_53178_11 rfl (lv_at hl 0 rfl) ?_
  refine lv_iload_n hx hb dJ7_fill_53178_12 rfl (lv_at hl 3 rfl) ?_
  refine va_iast hx hb hK hP hD hS 0 0 rfl rfl (vi rfl) dJ7_fill_53178_13 (fun H locs hP hD hS => ?_)
  obtain ⟨f_12, e_f_12⟩ : ∃ z, z = upd f_11 (11 : Int32).toNatClampNeg 0 := ⟨_, rfl⟩
  have hP : va_P (dC, dI) cl0 [(h0, .inl (cI, 12, .inl f_12))] H := by rw [e_f_12]; exact hP
  have hD : va_D A [(h0, .inl (cI, 12, .inl f_12))] := by rw [e_f_12]; exact hD
  refine lv_iinc (v := 12) (lv' := [(2, .int 12), (3, .int 12), (0, .ref h0), (1, .int 0)]) hx hb dJ7_fill_53178_14 hl (k := 0) rfl (by decide) (by decide) rfl (fun ls hl => ?_)
  refine lv_goto (tgt := 5) hx hb dJ7_fill_53178_17 (by decide) ?_
  refine lv_iload_n hx hb dJ7_fill_53178_5 rfl (lv_at hl 0 rfl) ?_
  refine lv_iload_n hx hb dJ7_fill_53178_6 rfl (lv_at hl 1 rfl) ?_
  refine lv_icmp_ge (tgt := 20) hx hb dJ7_fill_53178_7 (by decide) (fun _ => ?_) (fun c9 => absurd (by decide) c9)
  refine W.widen (k := 0) (n := 0) (Nat.le_of_ble_eq_true rfl) (Nat.le_of_ble_eq_true rfl) ?_
  exact W.vret hx hb hr (fun t9 ht9 hW9 => ⟨⟨(), rfl, trivial, trivial⟩, hS.F ht9⟩) hS.2.2 dJ7_fill_53178_20
set_option maxHeartbeats 4000000 in
set_option maxRecDepth 100000 in
theorem m_X9_forgetApplied (l : Launch) (dC : Nat → ClassId) (dI : Nat → Nat → Nat) (sz : Nat) (h0 : Nat) (fq : List Value) (ha : Nat) (cI : ClassId) (L_fq : fq.length = 6) (g_fq_1 : fq[1]? = some (.ref ha)) : Met l yX9_forgetApplied (wt yX9_forgetApplied cX9_forgetApplied 1 none) ({ frames := 1, cells := 0, slots := 0, locals := 23 }) (va_Pc [.ref h0] (st_U dC dI sz [(h0, .inr (8, fq)), (ha, .inl (cI, 12, .inl (fun _ => 0)))] [(cI, .int)])) (va_Qv (fun _ : Unit => True) (fun (_ : Unit) (_ : State) => True) (va_A [(h0, .inr (8, fq)), (ha, .inl (cI, 12, .inl (fun _ => 0)))] sz)) 0 0 (va_A [(h0, .inr (8, fq)), (ha, .inl (cI, 12, .inl (fun _ => 0)))] sz) := by
  refine Met.ofW (cc := cX9_forgetApplied) (maxL := 1) (ret := none) (by decide) rfl ?_
  intro p e s m args below meth c s₁ B hml hv
  obtain ⟨rfl, hsz, hP, hK, hD0, hex⟩ := hv
  have hx := B.exec
  have hb := B.bytes
  have hr := B.returns
  have hts0 := atoms_spec (ws := wt yX9_forgetApplied cX9_forgetApplied 1 none) B.pre
  have hts : ∀ w ∈ tb, w.before _ s = true := fun w h => hts0 w (List.mem_cons_of_mem _ h)
  have hown : s.vm.findClass RX9 = some m.cls := findClass_of_methodNamed B.named
  have hlocks := B.notSynchronized
  subst hsz
  have hD := hD0.self (sz := s.heap.size)
  generalize hAe : va_A [(h0, .inr (8, fq)), (ha, .inl (cI, 12, .inl (fun _ => 0)))] s.heap.size = A at hD ⊢
  have hA : ∀ q : Nat, s.heap.size ≤ q → A q := fun q h => by rw [← hAe]; exact Or.inr h
  have hS : va_S A s.heap s.heap [] := va_S.rf
  have hl := lv_entry ([.ref h0]) (n := 1) (Nat.le_of_ble_eq_true rfl)
  rw [lg_entry_eq]
  generalize (lg_sl ([.ref h0]) ++ List.replicate (1 - (lg_sl ([.ref h0])).length) Slot.unset).toArray = ls at hl ⊢
  have hl : lv_has ls 1 [(0, .ref h0)] := hl
  refine lv_aload_n hx hb dX9_forgetApplied_0 rfl (lv_at hl 0 rfl) ?_
  refine va_get (D := (dC, dI)) (ci := 8) (v := .ref ha) (C := RX9) (T := TX9) (N := 6) hx hb hts inX9 hown hK hP 0 rfl rfl 1 (by decide) (hts _ kw_96) (fun _ h9 => h9) g_fq_1 dX9_forgetApplied_1 ?_
  refine lv_iconst (v := 0) hx hb dX9_forgetApplied_4 (by decide) ?_
  have hPc := hP.sub (ws' := [(ha, .inl (cI, 12, .inl (fun _ => 0)))]) [1] rfl
  have hDc := hD.sub (ws' := [(ha, .inl (cI, 12, .inl (fun _ => 0)))]) [1] (by decide) rfl
  have hKc := hK.sub (tys' := [(cI, .int)]) [0] rfl
  have hFc := va_free (wc := [(ha, .inl (cI, 12, .inl (fun _ => 0)))]) hD hS hA [1] rfl
  refine va_callv (va_runS (As := [.ref ha, .int 0]) (rest := []) ⟨hx, hb, hml, hown, hts⟩ (m_J7_fill_53178 l dC dI s.heap.size ha cI ) (va_cwS 2 hts (gd_S kw_212 kw_213 kw_214 kw_215) rfl rfl rfl (by decide +kernel) ⟨Nat.le_of_ble_eq_true rfl, Nat.le_of_ble_eq_true rfl⟩) ⟨st_blind, fun U hU hW9 => st_mk hU hW9 hPc hKc hDc hex⟩ rfl rfl hl.1 rfl (lv_room (Nat.le_of_ble_eq_true rfl)) dX9_forgetApplied_5 ⟨Nat.le_of_ble_eq_true rfl, Nat.le_of_ble_eq_true rfl⟩) hS (fun q _ h => hFc q h) hFc (fun  u9 t9 H1 locs ht9 hvm9 hw9 hB9 hz9 hk9 hS => ?_)
  have hP1 : va_P (dC, dI) cl0 [] H1 := fun k q h => by simp at h
  have hD1 : va_D (va_A [(ha, .inl (cI, 12, .inl (fun _ => 0)))] s.heap.size) [] := ⟨fun i j p q h => by simp at h, fun k q h => by simp at h⟩
  obtain ⟨hP, hD⟩ := va_join (wr := [(h0, .inr (8, fq))]) (w1 := []) hP hD [1] [0] rfl rfl (by decide) (by decide) hk9 hFc hP1 hD1
  generalize H1 = H at hP hS ⊢
  have hP : va_P (dC, dI) cl0 [(h0, .inr (8, fq))] H := hP
  have hD : va_D A [(h0, .inr (8, fq))] := hD
  refine W.widen (k := 0) (n := 0) (Nat.le_of_ble_eq_true rfl) (Nat.le_of_ble_eq_true rfl) ?_
  exact W.vret hx hb hr (fun t9 ht9 hW9 => ⟨⟨(), rfl, trivial, trivial⟩, hS.F ht9⟩) hS.2.2 dX9_forgetApplied_8
set_option maxHeartbeats 4000000 in
set_option maxRecDepth 100000 in
theorem m_X9_appliedAt (l : Launch) (dC : Nat → ClassId) (dI : Nat → Nat → Nat) (sz : Nat) (h0 : Nat) (fq : List Value) (ha : Nat) (cI : ClassId) (r0 : Int32) (L_fq : fq.length = 6) (g_fq_1 : fq[1]? = some (.ref ha)) : Met l yX9_appliedAt (wt yX9_appliedAt cX9_appliedAt 2 (some .int)) ({ frames := 0, cells := 0, slots := 0, locals := 0 }) (va_Pc [.ref h0, .int r0] (st_U dC dI sz [(h0, .inr (8, fq)), (ha, .inl (cI, 12, .inl (fun _ => 0)))] [(cI, .int)])) (va_Qi (fun (r : Int32) (_ : Unit) => r = 0) (fun (_ : Unit) (_ : State) => True) (va_A [(h0, .inr (8, fq)), (ha, .inl (cI, 12, .inl (fun _ => 0)))] sz)) 0 0 (va_A [(h0, .inr (8, fq)), (ha, .inl (cI, 12, .inl (fun _ => 0)))] sz) := by
  refine Met.ofW (cc := cX9_appliedAt) (maxL := 2) (ret := (some .int)) (by decide) rfl ?_
  intro p e s m args below meth c s₁ B hml hv
  obtain ⟨rfl, hsz, hP, hK, hD0, hex⟩ := hv
  have hx := B.exec
  have hb := B.bytes
  have hr := B.returns
  have hts0 := atoms_spec (ws := wt yX9_appliedAt cX9_appliedAt 2 (some .int)) B.pre
  have hts : ∀ w ∈ tb, w.before _ s = true := fun w h => hts0 w (List.mem_cons_of_mem _ h)
  have hown : s.vm.findClass RX9 = some m.cls := findClass_of_methodNamed B.named
  have hlocks := B.notSynchronized
  subst hsz
  have hD := hD0.self (sz := s.heap.size)
  generalize hAe : va_A [(h0, .inr (8, fq)), (ha, .inl (cI, 12, .inl (fun _ => 0)))] s.heap.size = A at hD ⊢
  have hA : ∀ q : Nat, s.heap.size ≤ q → A q := fun q h => by rw [← hAe]; exact Or.inr h
  have hS : va_S A s.heap s.heap [] := va_S.rf
  have hl := lv_entry ([.ref h0, .int r0]) (n := 2) (Nat.le_of_ble_eq_true rfl)
  rw [lg_entry_eq]
  generalize (lg_sl ([.ref h0, .int r0]) ++ List.replicate (2 - (lg_sl ([.ref h0, .int r0])).length) Slot.unset).toArray = ls at hl ⊢
  have hl : lv_has ls 2 [(0, .ref h0), (1, .int r0)] := hl
  refine lv_iload_n hx hb dX9_appliedAt_0 rfl (lv_at hl 1 rfl) ?_
  refine lv_if_lt (tgt := 13) hx hb dX9_appliedAt_1 (by decide) (fun c_1 => ?_) (fun c_1 => ?_)
  · refine lv_iconst (v := 0) hx hb dX9_appliedAt_13 (by decide) ?_
    refine lv_goto (tgt := 23) hx hb dX9_appliedAt_14 (by decide) ?_
    refine W.widen (k := 0) (n := 0) (Nat.le_of_ble_eq_true rfl) (Nat.le_of_ble_eq_true rfl) ?_
    exact W.iret (v := 0) hx hb hr (fun t9 ht9 hW9 => ⟨⟨_, (), rfl, rfl, trivial⟩, hS.F ht9⟩) hS.2.2 dX9_appliedAt_23
  · refine lv_iload_n hx hb dX9_appliedAt_4 rfl (lv_at hl 1 rfl) ?_
    refine lv_aload_n hx hb dX9_appliedAt_5 rfl (lv_at hl 0 rfl) ?_
    refine va_get (D := (dC, dI)) (ci := 8) (v := .ref ha) (C := RX9) (T := TX9) (N := 6) hx hb hts inX9 hown hK hP 0 rfl rfl 1 (by decide) (hts _ kw_96) (fun _ h9 => h9) g_fq_1 dX9_appliedAt_6 ?_
    refine va_alen (v := 12) hx hb hK hP 1 0 rfl rfl rfl dX9_appliedAt_9 ?_
    refine lv_icmp_lt (tgt := 17) hx hb dX9_appliedAt_10 (by decide) (fun c_10 => ?_) (fun c_10 => ?_)
    · refine lv_aload_n hx hb dX9_appliedAt_17 rfl (lv_at hl 0 rfl) ?_
      refine va_get (D := (dC, dI)) (ci := 8) (v := .ref ha) (C := RX9) (T := TX9) (N := 6) hx hb hts inX9 hown hK hP 0 rfl rfl 1 (by decide) (hts _ kw_96) (fun _ h9 => h9) g_fq_1 dX9_appliedAt_18 ?_
      refine lv_iload_n hx hb dX9_appliedAt_21 rfl (lv_at hl 1 rfl) ?_
      refine va_iald hx hb hK hP 1 0 rfl rfl (k_in12 c_1 c_10) dX9_appliedAt_22 ?_
      refine lv_topi (fun z9 ez9 => ?_)
      obtain rfl : z9 = 0 := ez9
      refine W.widen (k := 0) (n := 0) (Nat.le_of_ble_eq_true rfl) (Nat.le_of_ble_eq_true rfl) ?_
      exact W.iret (v := 0) hx hb hr (fun t9 ht9 hW9 => ⟨⟨_, (), rfl, rfl, trivial⟩, hS.F ht9⟩) hS.2.2 dX9_appliedAt_23
    · refine lv_iconst (v := 0) hx hb dX9_appliedAt_13 (by decide) ?_
      refine lv_goto (tgt := 23) hx hb dX9_appliedAt_14 (by decide) ?_
      refine W.widen (k := 0) (n := 0) (Nat.le_of_ble_eq_true rfl) (Nat.le_of_ble_eq_true rfl) ?_
      exact W.iret (v := 0) hx hb hr (fun t9 ht9 hW9 => ⟨⟨_, (), rfl, rfl, trivial⟩, hS.F ht9⟩) hS.2.2 dX9_appliedAt_23
set_option maxHeartbeats 4000000 in
set_option maxRecDepth 100000 in
theorem m_X12_improve (l : Launch) (dC : Nat → ClassId) (dI : Nat → Nat → Nat) (sz : Nat) (h0 : Nat) (fx : List Value) (hs : Nat) (fq : List Value) (hsa : Nat) (cI : ClassId) (f0 : Int32) (u0 : Int32) (L_fx : fx.length = 18) (g_fx_9 : fx[9]? = some (.ref hs)) (g_fx_11 : fx[11]? = some (.int 0)) (L_fq : fq.length = 6) (g_fq_1 : fq[1]? = some (.ref hsa)) : Met l yX12_improve (wt yX12_improve cX12_improve 5 (some .int)) ({ frames := 2, cells := 0, slots := 0, locals := 43 }) (va_Pc [.ref h0, .int f0, .int u0] (st_U dC dI sz [(h0, .inr (10, fx)), (hs, .inr (8, fq)), (hsa, .inl (cI, 12, .inl (fun _ => 0)))] [(cI, .int)])) (va_Qi (fun (r : Int32) (_ : Unit) => r = (-1)) (fun (_ : Unit) (_ : State) => True) (va_A [(h0, .inr (10, fx)), (hs, .inr (8, fq)), (hsa, .inl (cI, 12, .inl (fun _ => 0)))] sz)) 0 0 (va_A [(h0, .inr (10, fx)), (hs, .inr (8, fq)), (hsa, .inl (cI, 12, .inl (fun _ => 0)))] sz) := by
  refine Met.ofW (cc := cX12_improve) (maxL := 5) (ret := (some .int)) (by decide) rfl ?_
  intro p e s m args below meth c s₁ B hml hv
  obtain ⟨rfl, hsz, hP, hK, hD0, hex⟩ := hv
  have hx := B.exec
  have hb := B.bytes
  have hr := B.returns
  have hts0 := atoms_spec (ws := wt yX12_improve cX12_improve 5 (some .int)) B.pre
  have hts : ∀ w ∈ tb, w.before _ s = true := fun w h => hts0 w (List.mem_cons_of_mem _ h)
  have hown : s.vm.findClass RX12 = some m.cls := findClass_of_methodNamed B.named
  have hlocks := B.notSynchronized
  subst hsz
  have hD := hD0.self (sz := s.heap.size)
  generalize hAe : va_A [(h0, .inr (10, fx)), (hs, .inr (8, fq)), (hsa, .inl (cI, 12, .inl (fun _ => 0)))] s.heap.size = A at hD ⊢
  have hA : ∀ q : Nat, s.heap.size ≤ q → A q := fun q h => by rw [← hAe]; exact Or.inr h
  have hS : va_S A s.heap s.heap [] := va_S.rf
  have hl := lv_entry ([.ref h0, .int f0, .int u0]) (n := 5) (Nat.le_of_ble_eq_true rfl)
  rw [lg_entry_eq]
  generalize (lg_sl ([.ref h0, .int f0, .int u0]) ++ List.replicate (5 - (lg_sl ([.ref h0, .int f0, .int u0])).length) Slot.unset).toArray = ls at hl ⊢
  have hl : lv_has ls 5 [(0, .ref h0), (1, .int f0), (2, .int u0)] := hl
  refine lv_aload_n hx hb dX12_improve_0 rfl (lv_at hl 0 rfl) ?_
  refine va_get (D := (dC, dI)) (ci := 10) (v := .ref hs) (C := RX12) (T := TX12) (N := 18) hx hb hts inX12 hown hK hP 0 rfl rfl 9 (by decide) (hts _ kw_143) (fun _ h9 => h9) g_fx_9 dX12_improve_1 ?_
  have hPc := hP.sub (ws' := [(hs, .inr (8, fq)), (hsa, .inl (cI, 12, .inl (fun _ => 0)))]) [1, 2] rfl
  have hDc := hD.sub (ws' := [(hs, .inr (8, fq)), (hsa, .inl (cI, 12, .inl (fun _ => 0)))]) [1, 2] (by decide) rfl
  have hKc := hK.sub (tys' := [(cI, .int)]) [0] rfl
  have hFc := va_free (wc := [(hs, .inr (8, fq)), (hsa, .inl (cI, 12, .inl (fun _ => 0)))]) hD hS hA [1, 2] rfl
  refine va_callv (va_runV (As := []) (rest := []) ⟨hx, hb, hml, hown, hts⟩ (m_X9_forgetApplied l dC dI s.heap.size hs fq hsa cI L_fq g_fq_1) (cwV 0 hts (gd_V kw_216 kw_217 kw_218 kw_140 kw_219) rfl rfl rfl (by decide +kernel) ⟨Nat.le_of_ble_eq_true rfl, Nat.le_of_ble_eq_true rfl⟩) ⟨st_blind, va_recv hKc hPc (ci := 8) (q0 := 0) rfl rfl, fun U hU hW9 => st_mk hU hW9 hPc hKc hDc hex⟩ rfl rfl hl.1 rfl (lv_room (Nat.le_of_ble_eq_true rfl)) dX12_improve_4 ⟨Nat.le_of_ble_eq_true rfl, Nat.le_of_ble_eq_true rfl⟩) hS (fun q _ h => hFc q h) hFc (fun  u9 t9 H1 locs ht9 hvm9 hw9 hB9 hz9 hk9 hS => ?_)
  have hP1 : va_P (dC, dI) cl0 [] H1 := fun k q h => by simp at h
  have hD1 : va_D (va_A [(hs, .inr (8, fq)), (hsa, .inl (cI, 12, .inl (fun _ => 0)))] s.heap.size) [] := ⟨fun i j p q h => by simp at h, fun k q h => by simp at h⟩
  obtain ⟨hP, hD⟩ := va_join (wr := [(h0, .inr (10, fx))]) (w1 := []) hP hD [1, 2] [0] rfl rfl (by decide) (by decide) hk9 hFc hP1 hD1
  generalize H1 = H at hP hS ⊢
  have hP : va_P (dC, dI) cl0 [(h0, .inr (10, fx))] H := hP
  have hD : va_D A [(h0, .inr (10, fx))] := hD
  refine lv_aload_n hx hb dX12_improve_7 rfl (lv_at hl 0 rfl) ?_
  refine lv_iload_n hx hb dX12_improve_8 rfl (lv_at hl 1 rfl) ?_
  have hPc := hP.sub (ws' := [(h0, .inr (10, fx))]) [0] rfl
  have hDc := hD.sub (ws' := [(h0, .inr (10, fx))]) [0] (by decide) rfl
  have hKc := hK.sub (tys' := []) [] rfl
  have hFc := va_free (wc := [(h0, .inr (10, fx))]) hD hS hA [0] rfl
  refine va_callq (va_runV (As := [.int f0]) (rest := []) ⟨hx, hb, hml, hown, hts⟩ (m_X12_soundUnitAt l dC dI H.size h0 fx f0 L_fx g_fx_11) (cwV 1 hts (gd_V kw_175 kw_176 kw_177 kw_169 kw_178) rfl rfl rfl (by decide +kernel) ⟨Nat.le_of_ble_eq_true rfl, Nat.le_of_ble_eq_true rfl⟩) ⟨st_blind, va_recv hKc hPc (ci := 10) (q0 := 0) rfl rfl, fun U hU hW9 => st_mk hU hW9 hPc hKc hDc hex⟩ rfl rfl hl.1 rfl (lv_room (Nat.le_of_ble_eq_true rfl)) dX12_improve_9 ⟨Nat.le_of_ble_eq_true rfl, Nat.le_of_ble_eq_true rfl⟩) hS (fun q _ h => hFc q h) hFc (fun r_1 u9 t9 H1 locs ht9 hvm9 hw9 hB9 hz9 hk9 hS => ?_)
  have hP1 : va_P (dC, dI) cl0 [] H1 := fun k q h => by simp at h
  have hD1 : va_D (va_A [(h0, .inr (10, fx))] H.size) [] := ⟨fun i j p q h => by simp at h, fun k q h => by simp at h⟩
  obtain ⟨hP, hD⟩ := va_join (wr := []) (w1 := []) hP hD [0] [] rfl rfl (by decide) (by decide) hk9 hFc hP1 hD1
  generalize H1 = H at hP hS ⊢
  have hP : va_P (dC, dI) cl0 [] H := hP
  have hD : va_D A [] := hD
  have hw9 : r_1 = none := hw9
  subst hw9
  refine lv_astore_nN (lv' := [(3, .null), (0, .ref h0), (1, .int f0), (2, .int u0)]) hx hb dX12_improve_12 rfl hl (by decide) rfl (fun ls hl => ?_)
  refine lv_aload_nN hx hb dX12_improve_13 rfl (lv_at hl 0 rfl) ?_
  refine lv_ifnullN (tgt := 28) hx hb dX12_improve_14 (by decide) ?_
  refine lv_iconst (v := (-1)) hx hb dX12_improve_28 (by decide) ?_
  refine W.widen (k := 0) (n := 0) (Nat.le_of_ble_eq_true rfl) (Nat.le_of_ble_eq_true rfl) ?_
  exact W.iret (v := (-1)) hx hb hr (fun t9 ht9 hW9 => ⟨⟨_, (), rfl, rfl, trivial⟩, hS.F ht9⟩) hS.2.2 dX12_improve_29
set_option maxHeartbeats 4000000 in
set_option maxRecDepth 100000 in
theorem m_X12_applied (l : Launch) (dC : Nat → ClassId) (dI : Nat → Nat → Nat) (sz : Nat) (h0 : Nat) (fx : List Value) (hs : Nat) (fq : List Value) (hsa : Nat) (cI : ClassId) (r0 : Int32) (L_fx : fx.length = 18) (g_fx_9 : fx[9]? = some (.ref hs)) (L_fq : fq.length = 6) (g_fq_1 : fq[1]? = some (.ref hsa)) : Met l yX12_applied (wt yX12_applied cX12_applied 2 (some .int)) ({ frames := 1, cells := 0, slots := 0, locals := 21 }) (va_Pc [.ref h0, .int r0] (st_U dC dI sz [(h0, .inr (10, fx)), (hs, .inr (8, fq)), (hsa, .inl (cI, 12, .inl (fun _ => 0)))] [(cI, .int)])) (va_Qi (fun (r : Int32) (_ : Unit) => r = 0) (fun (_ : Unit) (_ : State) => True) (va_A [(h0, .inr (10, fx)), (hs, .inr (8, fq)), (hsa, .inl (cI, 12, .inl (fun _ => 0)))] sz)) 0 0 (va_A [(h0, .inr (10, fx)), (hs, .inr (8, fq)), (hsa, .inl (cI, 12, .inl (fun _ => 0)))] sz) := by
  refine Met.ofW (cc := cX12_applied) (maxL := 2) (ret := (some .int)) (by decide) rfl ?_
  intro p e s m args below meth c s₁ B hml hv
  obtain ⟨rfl, hsz, hP, hK, hD0, hex⟩ := hv
  have hx := B.exec
  have hb := B.bytes
  have hr := B.returns
  have hts0 := atoms_spec (ws := wt yX12_applied cX12_applied 2 (some .int)) B.pre
  have hts : ∀ w ∈ tb, w.before _ s = true := fun w h => hts0 w (List.mem_cons_of_mem _ h)
  have hown : s.vm.findClass RX12 = some m.cls := findClass_of_methodNamed B.named
  have hlocks := B.notSynchronized
  subst hsz
  have hD := hD0.self (sz := s.heap.size)
  generalize hAe : va_A [(h0, .inr (10, fx)), (hs, .inr (8, fq)), (hsa, .inl (cI, 12, .inl (fun _ => 0)))] s.heap.size = A at hD ⊢
  have hA : ∀ q : Nat, s.heap.size ≤ q → A q := fun q h => by rw [← hAe]; exact Or.inr h
  have hS : va_S A s.heap s.heap [] := va_S.rf
  have hl := lv_entry ([.ref h0, .int r0]) (n := 2) (Nat.le_of_ble_eq_true rfl)
  rw [lg_entry_eq]
  generalize (lg_sl ([.ref h0, .int r0]) ++ List.replicate (2 - (lg_sl ([.ref h0, .int r0])).length) Slot.unset).toArray = ls at hl ⊢
  have hl : lv_has ls 2 [(0, .ref h0), (1, .int r0)] := hl
  refine lv_aload_n hx hb dX12_applied_0 rfl (lv_at hl 0 rfl) ?_
  refine va_get (D := (dC, dI)) (ci := 10) (v := .ref hs) (C := RX12) (T := TX12) (N := 18) hx hb hts inX12 hown hK hP 0 rfl rfl 9 (by decide) (hts _ kw_143) (fun _ h9 => h9) g_fx_9 dX12_applied_1 ?_
  refine lv_iload_n hx hb dX12_applied_4 rfl (lv_at hl 1 rfl) ?_
  have hPc := hP.sub (ws' := [(hs, .inr (8, fq)), (hsa, .inl (cI, 12, .inl (fun _ => 0)))]) [1, 2] rfl
  have hDc := hD.sub (ws' := [(hs, .inr (8, fq)), (hsa, .inl (cI, 12, .inl (fun _ => 0)))]) [1, 2] (by decide) rfl
  have hKc := hK.sub (tys' := [(cI, .int)]) [0] rfl
  have hFc := va_free (wc := [(hs, .inr (8, fq)), (hsa, .inl (cI, 12, .inl (fun _ => 0)))]) hD hS hA [1, 2] rfl
  refine va_calli (va_runV (As := [.int r0]) (rest := []) ⟨hx, hb, hml, hown, hts⟩ (m_X9_appliedAt l dC dI s.heap.size hs fq hsa cI r0 L_fq g_fq_1) (cwV 1 hts (gd_V kw_220 kw_221 kw_222 kw_140 kw_223) rfl rfl rfl (by decide +kernel) ⟨Nat.le_of_ble_eq_true rfl, Nat.le_of_ble_eq_true rfl⟩) ⟨st_blind, va_recv hKc hPc (ci := 8) (q0 := 0) rfl rfl, fun U hU hW9 => st_mk hU hW9 hPc hKc hDc hex⟩ rfl rfl hl.1 rfl (lv_room (Nat.le_of_ble_eq_true rfl)) dX12_applied_5 ⟨Nat.le_of_ble_eq_true rfl, Nat.le_of_ble_eq_true rfl⟩) hS (fun q _ h => hFc q h) hFc (fun r_1 u9 t9 H1 locs ht9 hvm9 hw9 hB9 hz9 hk9 hS => ?_)
  have hP1 : va_P (dC, dI) cl0 [] H1 := fun k q h => by simp at h
  have hD1 : va_D (va_A [(hs, .inr (8, fq)), (hsa, .inl (cI, 12, .inl (fun _ => 0)))] s.heap.size) [] := ⟨fun i j p q h => by simp at h, fun k q h => by simp at h⟩
  obtain ⟨hP, hD⟩ := va_join (wr := [(h0, .inr (10, fx))]) (w1 := []) hP hD [1, 2] [0] rfl rfl (by decide) (by decide) hk9 hFc hP1 hD1
  generalize H1 = H at hP hS ⊢
  have hP : va_P (dC, dI) cl0 [(h0, .inr (10, fx))] H := hP
  have hD : va_D A [(h0, .inr (10, fx))] := hD
  have hw9 : r_1 = 0 := hw9
  subst hw9
  refine W.widen (k := 0) (n := 0) (Nat.le_of_ble_eq_true rfl) (Nat.le_of_ble_eq_true rfl) ?_
  exact W.iret (v := 0) hx hb hr (fun t9 ht9 hW9 => ⟨⟨_, (), rfl, rfl, trivial⟩, hS.F ht9⟩) hS.2.2 dX12_applied_8
end
section
set_option maxHeartbeats 400000 in
set_option maxRecDepth 100000 in
theorem m_X7_breaks (l : Launch) (dC : Nat → ClassId) (dI : Nat → Nat → Nat) (sz : Nat) (h0 : Nat) (fr : List Value) (r0 : Int32) (p0 : Int32) (L_fr : fr.length = 17) : Met l yX7_breaks (wt yX7_breaks cX7_breaks 3 (some .boolean)) ({ frames := 0, cells := 0, slots := 0, locals := 0 }) (va_Pc [.ref h0, .int r0, .int p0] (st_U dC dI sz [(h0, .inr (6, fr))] [])) (va_Qi (fun (r : Int32) (_ : Unit) => r = 0) (fun (_ : Unit) (t : State) => ∃ (fr1 : List Value), (fr1.length = 17) ∧ (fr1[2]? = some (.int r0)) ∧ (fr1[3]? = some (.int p0)) ∧ va_P (dC, dI) cl0 [(h0, .inr (6, fr1))] t.heap ∧ va_K (dC, dI) cl0 [] t ∧ va_D (va_A [(h0, .inr (6, fr))] sz) [(h0, .inr (6, fr1))]) (va_A [(h0, .inr (6, fr))] sz)) 0 0 (va_A [(h0, .inr (6, fr))] sz) := by
  refine Met.ofW (cc := cX7_breaks) (maxL := 3) (ret := (some .boolean)) (by decide) rfl ?_
  intro p e s m args below meth c s₁ B hml hv
  obtain ⟨rfl, hsz, hP, hK, hD0, hex⟩ := hv
  have hx := B.exec
  have hb := B.bytes
  have hr := B.returns
  have hts0 := atoms_spec (ws := wt yX7_breaks cX7_breaks 3 (some .boolean)) B.pre
  have hts : ∀ w ∈ tb, w.before _ s = true := fun w h => hts0 w (List.mem_cons_of_mem _ h)
  have hown : s.vm.findClass RX7 = some m.cls := findClass_of_methodNamed B.named
  have hlocks := B.notSynchronized
  subst hsz
  have hD := hD0.self (sz := s.heap.size)
  generalize hAe : va_A [(h0, .inr (6, fr))] s.heap.size = A at hD ⊢
  have hA : ∀ q : Nat, s.heap.size ≤ q → A q := fun q h => by rw [← hAe]; exact Or.inr h
  have hS : va_S A s.heap s.heap [] := va_S.rf
  have hl := lv_entry ([.ref h0, .int r0, .int p0]) (n := 3) (Nat.le_of_ble_eq_true rfl)
  rw [lg_entry_eq]
  generalize (lg_sl ([.ref h0, .int r0, .int p0]) ++ List.replicate (3 - (lg_sl ([.ref h0, .int r0, .int p0])).length) Slot.unset).toArray = ls at hl ⊢
  have hl : lv_has ls 3 [(0, .ref h0), (1, .int r0), (2, .int p0)] := hl
  refine lv_aload_n hx hb dX7_breaks_0 rfl (lv_at hl 0 rfl) ?_
  refine lv_iload_n hx hb dX7_breaks_1 rfl (lv_at hl 1 rfl) ?_
  refine va_put (D := (dC, dI)) (ci := 6) (v := .int r0) (ty := .int) (C := RX7) (T := TX7) (N := 17) hx hb hts inX7 tyX7 tyX7_ok nmX7 hown hK hP hD hS 0 rfl rfl 2 (by decide) (hts _ kw_224) (fun _ h9 => h9) rfl (by decide +kernel) rfl rfl (by rw [L_fr]; decide) dX7_breaks_2 (fun H locs hP hD hS => ?_)
  obtain ⟨fr_1, e_fr_1⟩ : ∃ z, z = fr.set 2 (.int r0) := ⟨_, rfl⟩
  have hP : va_P (dC, dI) cl0 [(h0, .inr (6, fr_1))] H := by rw [e_fr_1]; exact hP
  have hD : va_D A [(h0, .inr (6, fr_1))] := by rw [e_fr_1]; exact hD
  have L_fr_1 : fr_1.length = 17 := fx_len e_fr_1 L_fr
  have g_fr_1_2 := fx_self e_fr_1 (by rw [L_fr]; decide)
  refine lv_aload_n hx hb dX7_breaks_5 rfl (lv_at hl 0 rfl) ?_
  refine lv_iload_n hx hb dX7_breaks_6 rfl (lv_at hl 2 rfl) ?_
  refine va_put (D := (dC, dI)) (ci := 6) (v := .int p0) (ty := .int) (C := RX7) (T := TX7) (N := 17) hx hb hts inX7 tyX7 tyX7_ok nmX7 hown hK hP hD hS 0 rfl rfl 3 (by decide) (hts _ kw_33) (fun _ h9 => h9) rfl (by decide +kernel) rfl rfl (by rw [L_fr_1]; decide) dX7_breaks_7 (fun H locs hP hD hS => ?_)
  obtain ⟨fr_2, e_fr_2⟩ : ∃ z, z = fr_1.set 3 (.int p0) := ⟨_, rfl⟩
  have hP : va_P (dC, dI) cl0 [(h0, .inr (6, fr_2))] H := by rw [e_fr_2]; exact hP
  have hD : va_D A [(h0, .inr (6, fr_2))] := by rw [e_fr_2]; exact hD
  have L_fr_2 : fr_2.length = 17 := fx_len e_fr_2 L_fr_1
  have g_fr_2_2 := fx_ne (j := 2) e_fr_2 g_fr_1_2 (by decide)
  have g_fr_2_3 := fx_self e_fr_2 (by rw [L_fr_1]; decide)
  refine lv_iconst (v := 0) hx hb dX7_breaks_10 (by decide) ?_
  refine W.widen (k := 0) (n := 0) (Nat.le_of_ble_eq_true rfl) (Nat.le_of_ble_eq_true rfl) ?_
  have hP9 := hP.sub (ws' := [(h0, .inr (6, fr_2))]) [0] rfl
  have hD9 := hD.sub (ws' := [(h0, .inr (6, fr_2))]) [0] (by decide) rfl
  have hK9 := hK.sub (tys' := []) [] rfl
  exact W.zret (v := 0) hx hb hr rfl (fun t9 ht9 hW9 => ⟨⟨_, (), rfl, rfl, fr_2, L_fr_2, g_fr_2_2, g_fr_2_3, by rw [ht9]; exact hP9, va_K.moved hW9.alike hK9, hD9⟩, hS.F ht9⟩) hS.2.2 dX7_breaks_11
set_option maxHeartbeats 400000 in
set_option maxRecDepth 100000 in
theorem m_X7_magicHolds (l : Launch) (dC : Nat → ClassId) (dI : Nat → Nat → Nat) (sz : Nat) (h0 : Nat) (fr : List Value) (L_fr : fr.length = 17) (g_fr_1 : fr[1]? = some (.int 0)) : Met l yX7_magicHolds (wt yX7_magicHolds cX7_magicHolds 2 (some .boolean)) ({ frames := 1, cells := 0, slots := 0, locals := 22 }) (va_Pc [.ref h0] (st_E mg dC dI sz [(h0, .inr (6, fr))] [])) (va_Qi (fun (r : Int32) (_ : Unit) => r = 0) (fun (_ : Unit) (t : State) => ∃ (fr1 : List Value), (fr1.length = 17) ∧ (fr1[2]? = some (.int 2)) ∧ (fr1[3]? = some (.int 0)) ∧ va_P (dC, dI) cl0 [(h0, .inr (6, fr1))] t.heap ∧ va_K (dC, dI) cl0 [] t ∧ va_D (va_A [(h0, .inr (6, fr))] sz) [(h0, .inr (6, fr1))]) (va_A [(h0, .inr (6, fr))] sz)) 0 0 (va_A [(h0, .inr (6, fr))] sz) := by
  refine Met.ofW (cc := cX7_magicHolds) (maxL := 2) (ret := (some .boolean)) (by decide) rfl ?_
  intro p e s m args below meth c s₁ B hml hv
  obtain ⟨rfl, ⟨hsz, hP, hK, hD0, hex⟩, hE⟩ := hv
  have hx := B.exec
  have hb := B.bytes
  have hr := B.returns
  have hts0 := atoms_spec (ws := wt yX7_magicHolds cX7_magicHolds 2 (some .boolean)) B.pre
  have hts : ∀ w ∈ tb, w.before _ s = true := fun w h => hts0 w (List.mem_cons_of_mem _ h)
  have hown : s.vm.findClass RX7 = some m.cls := findClass_of_methodNamed B.named
  have hlocks := B.notSynchronized
  subst hsz
  have hD := hD0.self (sz := s.heap.size)
  generalize hAe : va_A [(h0, .inr (6, fr))] s.heap.size = A at hD hE ⊢
  obtain ⟨tM, hZM, hTM⟩ := id hE
  have hA : ∀ q : Nat, s.heap.size ≤ q → A q := fun q h => by rw [← hAe]; exact Or.inr h
  have hS : va_S A s.heap s.heap [] := va_S.rf
  have hl := lv_entry ([.ref h0]) (n := 2) (Nat.le_of_ble_eq_true rfl)
  rw [lg_entry_eq]
  generalize (lg_sl ([.ref h0]) ++ List.replicate (2 - (lg_sl ([.ref h0])).length) Slot.unset).toArray = ls at hl ⊢
  have hl : lv_has ls 2 [(0, .ref h0)] := hl
  refine lv_iconst (v := 0) hx hb dX7_magicHolds_0 (by decide) ?_
  refine lv_istore_n (lv' := [(1, .int 0), (0, .ref h0)]) hx hb dX7_magicHolds_1 rfl hl (by decide) rfl (fun ls hl => ?_)
  refine lv_iload_n hx hb dX7_magicHolds_2 rfl (lv_at hl 0 rfl) ?_
  refine va_getsN (C := "CodeFoundry") (n := "MAGIC") (d := "[I") hx hb hZM hS hown (va_Nw.use rfl (nw_of nn_X7_97 hex)) (fun _ h9 => h9) dX7_magicHolds_3 ?_
  refine va_tlen (v := 8) hx hb hTM hS rfl dX7_magicHolds_6 ?_
  refine lv_icmp_ge (tgt := 54) hx hb dX7_magicHolds_7 (by decide) (fun c9 => absurd c9 (by decide)) (fun _ => ?_)
  refine lv_iload_n hx hb dX7_magicHolds_10 rfl (lv_at hl 0 rfl) ?_
  refine lv_aload_n hx hb dX7_magicHolds_11 rfl (lv_at hl 1 rfl) ?_
  refine va_get (D := (dC, dI)) (ci := 6) (v := .int 0) (C := RX7) (T := TX7) (N := 17) hx hb hts inX7 hown hK hP 0 rfl rfl 1 (by decide) (hts _ kw_225) (fun _ h9 => h9) g_fr_1 dX7_magicHolds_12 ?_
  refine lv_icmp_lt (tgt := 28) hx hb dX7_magicHolds_15 (by decide) (fun c9 => absurd c9 (by decide)) (fun _ => ?_)
  refine lv_aload_n hx hb dX7_magicHolds_18 rfl (lv_at hl 1 rfl) ?_
  refine lv_iconst (v := 2) hx hb dX7_magicHolds_19 (by decide) ?_
  refine lv_aload_n hx hb dX7_magicHolds_20 rfl (lv_at hl 1 rfl) ?_
  refine va_get (D := (dC, dI)) (ci := 6) (v := .int 0) (C := RX7) (T := TX7) (N := 17) hx hb hts inX7 hown hK hP 0 rfl rfl 1 (by decide) (hts _ kw_225) (fun _ h9 => h9) g_fr_1 dX7_magicHolds_21 ?_
  have hPc := hP.sub (ws' := [(h0, .inr (6, fr))]) [0] rfl
  have hDc := hD.sub (ws' := [(h0, .inr (6, fr))]) [0] (by decide) rfl
  have hKc := hK.sub (tys' := []) [] rfl
  have hFc := va_free (wc := [(h0, .inr (6, fr))]) hD hS hA [0] rfl
  refine va_calli (va_runV (As := [.int 2, .int 0]) (rest := []) ⟨hx, hb, hml, hown, hts⟩ (m_X7_breaks l dC dI s.heap.size h0 fr 2 0 L_fr) (cwV 2 hts (gd_V kw_226 kw_227 kw_228 kw_41 kw_229) rfl rfl rfl (by decide +kernel) ⟨Nat.le_of_ble_eq_true rfl, Nat.le_of_ble_eq_true rfl⟩) ⟨st_blind, va_recv hKc hPc (ci := 6) (q0 := 0) rfl rfl, fun U hU hW9 => st_mk hU hW9 hPc hKc hDc hex⟩ rfl rfl hl.1 rfl (lv_room (Nat.le_of_ble_eq_true rfl)) dX7_magicHolds_24 ⟨Nat.le_of_ble_eq_true rfl, Nat.le_of_ble_eq_true rfl⟩) hS (fun q _ h => hFc q h) hFc (fun r_1 u9 t9 H1 locs ht9 hvm9 hw9 hB9 hz9 hk9 hS => ?_)
  obtain ⟨fr1_2, L_fr1_2, g_fr1_2_2, g_fr1_2_3, hP1, hK1, hD1⟩ := hB9
  rw [ht9] at hP1
  have hK1 := va_K.moved hvm9.symm hK1
  obtain ⟨hP, hD⟩ := va_join (wr := []) (w1 := [(h0, .inr (6, fr1_2))]) hP hD [0] [] rfl rfl (by decide) (by decide) hk9 hFc hP1 hD1
  have hK := (hK.sub (tys' := []) [] rfl).app hK1
  generalize H1 = H at hP hS ⊢
  have hP : va_P (dC, dI) cl0 [(h0, .inr (6, fr1_2))] H := hP
  have hD : va_D A [(h0, .inr (6, fr1_2))] := hD
  have hK : va_K (dC, dI) cl0 [] s := hK
  have hw9 : r_1 = 0 := hw9
  subst hw9
  refine W.widen (k := 0) (n := 0) (Nat.le_of_ble_eq_true rfl) (Nat.le_of_ble_eq_true rfl) ?_
  have hP9 := hP.sub (ws' := [(h0, .inr (6, fr1_2))]) [0] rfl
  have hD9 := hD.sub (ws' := [(h0, .inr (6, fr1_2))]) [0] (by decide) rfl
  have hK9 := hK.sub (tys' := []) [] rfl
  exact W.zret (v := 0) hx hb hr rfl (fun t9 ht9 hW9 => ⟨⟨_, (), rfl, rfl, fr1_2, L_fr1_2, g_fr1_2_2, g_fr1_2_3, by rw [ht9]; exact hP9, va_K.moved hW9.alike hK9, hD9⟩, hS.F ht9⟩) hS.2.2 dX7_magicHolds_27
set_option maxHeartbeats 400000 in
set_option maxRecDepth 100000 in
theorem m_X7_isSound (l : Launch) (dC : Nat → ClassId) (dI : Nat → Nat → Nat) (sz : Nat) (h0 : Nat) (fr : List Value) (hsr : Nat) (fb : List Value) (hd : Nat) (L_fr : fr.length = 17) (L_fb : fb.length = 2) (g_fb_0 : fb[0]? = some (.ref hd)) (g_fb_1 : fb[1]? = some (.int 0)) : Met l yX7_isSound (wt yX7_isSound cX7_isSound 2 (some .boolean)) ({ frames := 2, cells := 0, slots := 0, locals := 43 }) (va_Pc [.ref h0, .ref hsr] (st_E mg dC dI sz [(h0, .inr (6, fr)), (hsr, .inr (0, fb))] [])) (va_Qi (fun (r : Int32) (_ : Unit) => r = 0) (fun (_ : Unit) (t : State) => ∃ (fr1 : List Value), (fr1.length = 17) ∧ (fr1[2]? = some (.int 2)) ∧ (fr1[3]? = some (.int 0)) ∧ va_P (dC, dI) cl0 [(h0, .inr (6, fr1)), (hsr, .inr (0, fb))] t.heap ∧ va_K (dC, dI) cl0 [] t ∧ va_D (va_A [(h0, .inr (6, fr)), (hsr, .inr (0, fb))] sz) [(h0, .inr (6, fr1)), (hsr, .inr (0, fb))]) (va_A [(h0, .inr (6, fr)), (hsr, .inr (0, fb))] sz)) 0 0 (va_A [(h0, .inr (6, fr)), (hsr, .inr (0, fb))] sz) := by
  refine Met.ofW (cc := cX7_isSound) (maxL := 2) (ret := (some .boolean)) (by decide) rfl ?_
  intro p e s m args below meth c s₁ B hml hv
  obtain ⟨rfl, ⟨hsz, hP, hK, hD0, hex⟩, hE⟩ := hv
  have hx := B.exec
  have hb := B.bytes
  have hr := B.returns
  have hts0 := atoms_spec (ws := wt yX7_isSound cX7_isSound 2 (some .boolean)) B.pre
  have hts : ∀ w ∈ tb, w.before _ s = true := fun w h => hts0 w (List.mem_cons_of_mem _ h)
  have hown : s.vm.findClass RX7 = some m.cls := findClass_of_methodNamed B.named
  have hlocks := B.notSynchronized
  subst hsz
  have hD := hD0.self (sz := s.heap.size)
  generalize hAe : va_A [(h0, .inr (6, fr)), (hsr, .inr (0, fb))] s.heap.size = A at hD hE ⊢
  obtain ⟨tM, hZM, hTM⟩ := id hE
  have hA : ∀ q : Nat, s.heap.size ≤ q → A q := fun q h => by rw [← hAe]; exact Or.inr h
  have hS : va_S A s.heap s.heap [] := va_S.rf
  have hl := lv_entry ([.ref h0, .ref hsr]) (n := 2) (Nat.le_of_ble_eq_true rfl)
  rw [lg_entry_eq]
  generalize (lg_sl ([.ref h0, .ref hsr]) ++ List.replicate (2 - (lg_sl ([.ref h0, .ref hsr])).length) Slot.unset).toArray = ls at hl ⊢
  have hl : lv_has ls 2 [(0, .ref h0), (1, .ref hsr)] := hl
  refine lv_aload_n hx hb dX7_isSound_0 rfl (lv_at hl 0 rfl) ?_
  refine lv_aload_n hx hb dX7_isSound_1 rfl (lv_at hl 1 rfl) ?_
  refine va_get (D := (dC, dI)) (ci := 0) (v := .ref hd) (C := RX0) (T := TX0) (N := 2) hx hb hts inX0 hown hK hP 1 rfl rfl 0 (by decide) (hts _ kw_230) (fun _ h9 => h9) g_fb_0 dX7_isSound_2 ?_
  refine va_put (D := (dC, dI)) (ci := 6) (v := .ref hd) (ty := (.array .byte)) (C := RX7) (T := TX7) (N := 17) hx hb hts inX7 tyX7 tyX7_ok nmX7 hown hK hP hD hS 0 rfl rfl 0 (by decide) (hts _ kw_32) (fun _ h9 => h9) rfl (by decide +kernel) rfl rfl (by rw [L_fr]; decide) dX7_isSound_5 (fun H locs hP hD hS => ?_)
  obtain ⟨fr_1, e_fr_1⟩ : ∃ z, z = fr.set 0 (.ref hd) := ⟨_, rfl⟩
  have hP : va_P (dC, dI) cl0 [(h0, .inr (6, fr_1)), (hsr, .inr (0, fb))] H := by rw [e_fr_1]; exact hP
  have hD : va_D A [(h0, .inr (6, fr_1)), (hsr, .inr (0, fb))] := by rw [e_fr_1]; exact hD
  have L_fr_1 : fr_1.length = 17 := fx_len e_fr_1 L_fr
  have g_fr_1_0 := fx_self e_fr_1 (by rw [L_fr]; decide)
  refine lv_aload_n hx hb dX7_isSound_8 rfl (lv_at hl 0 rfl) ?_
  refine lv_aload_n hx hb dX7_isSound_9 rfl (lv_at hl 1 rfl) ?_
  refine va_get (D := (dC, dI)) (ci := 0) (v := .int 0) (C := RX0) (T := TX0) (N := 2) hx hb hts inX0 hown hK hP 1 rfl rfl 1 (by decide) (hts _ kw_231) (fun _ h9 => h9) g_fb_1 dX7_isSound_10 ?_
  refine va_put (D := (dC, dI)) (ci := 6) (v := .int 0) (ty := .int) (C := RX7) (T := TX7) (N := 17) hx hb hts inX7 tyX7 tyX7_ok nmX7 hown hK hP hD hS 0 rfl rfl 1 (by decide) (hts _ kw_225) (fun _ h9 => h9) rfl (by decide +kernel) rfl rfl (by rw [L_fr_1]; decide) dX7_isSound_13 (fun H locs hP hD hS => ?_)
  obtain ⟨fr_2, e_fr_2⟩ : ∃ z, z = fr_1.set 1 (.int 0) := ⟨_, rfl⟩
  have hP : va_P (dC, dI) cl0 [(h0, .inr (6, fr_2)), (hsr, .inr (0, fb))] H := by rw [e_fr_2]; exact hP
  have hD : va_D A [(h0, .inr (6, fr_2)), (hsr, .inr (0, fb))] := by rw [e_fr_2]; exact hD
  have L_fr_2 : fr_2.length = 17 := fx_len e_fr_2 L_fr_1
  have g_fr_2_0 := fx_ne (j := 0) e_fr_2 g_fr_1_0 (by decide)
  have g_fr_2_1 := fx_self e_fr_2 (by rw [L_fr_1]; decide)
  refine lv_aload_n hx hb dX7_isSound_16 rfl (lv_at hl 0 rfl) ?_
  refine lv_iconst (v := 0) hx hb dX7_isSound_17 (by decide) ?_
  refine va_put (D := (dC, dI)) (ci := 6) (v := .int 0) (ty := .int) (C := RX7) (T := TX7) (N := 17) hx hb hts inX7 tyX7 tyX7_ok nmX7 hown hK hP hD hS 0 rfl rfl 2 (by decide) (hts _ kw_224) (fun _ h9 => h9) rfl (by decide +kernel) rfl rfl (by rw [L_fr_2]; decide) dX7_isSound_18 (fun H locs hP hD hS => ?_)
  obtain ⟨fr_3, e_fr_3⟩ : ∃ z, z = fr_2.set 2 (.int 0) := ⟨_, rfl⟩
  have hP : va_P (dC, dI) cl0 [(h0, .inr (6, fr_3)), (hsr, .inr (0, fb))] H := by rw [e_fr_3]; exact hP
  have hD : va_D A [(h0, .inr (6, fr_3)), (hsr, .inr (0, fb))] := by rw [e_fr_3]; exact hD
  have L_fr_3 : fr_3.length = 17 := fx_len e_fr_3 L_fr_2
  have g_fr_3_0 := fx_ne (j := 0) e_fr_3 g_fr_2_0 (by decide)
  have g_fr_3_1 := fx_ne (j := 1) e_fr_3 g_fr_2_1 (by decide)
  have g_fr_3_2 := fx_self e_fr_3 (by rw [L_fr_2]; decide)
  refine lv_aload_n hx hb dX7_isSound_21 rfl (lv_at hl 0 rfl) ?_
  refine lv_iconst (v := (-1)) hx hb dX7_isSound_22 (by decide) ?_
  refine va_put (D := (dC, dI)) (ci := 6) (v := .int (-1)) (ty := .int) (C := RX7) (T := TX7) (N := 17) hx hb hts inX7 tyX7 tyX7_ok nmX7 hown hK hP hD hS 0 rfl rfl 3 (by decide) (hts _ kw_33) (fun _ h9 => h9) rfl (by decide +kernel) rfl rfl (by rw [L_fr_3]; decide) dX7_isSound_23 (fun H locs hP hD hS => ?_)
  obtain ⟨fr_4, e_fr_4⟩ : ∃ z, z = fr_3.set 3 (.int (-1)) := ⟨_, rfl⟩
  have hP : va_P (dC, dI) cl0 [(h0, .inr (6, fr_4)), (hsr, .inr (0, fb))] H := by rw [e_fr_4]; exact hP
  have hD : va_D A [(h0, .inr (6, fr_4)), (hsr, .inr (0, fb))] := by rw [e_fr_4]; exact hD
  have L_fr_4 : fr_4.length = 17 := fx_len e_fr_4 L_fr_3
  have g_fr_4_0 := fx_ne (j := 0) e_fr_4 g_fr_3_0 (by decide)
  have g_fr_4_1 := fx_ne (j := 1) e_fr_4 g_fr_3_1 (by decide)
  have g_fr_4_2 := fx_ne (j := 2) e_fr_4 g_fr_3_2 (by decide)
  have g_fr_4_3 := fx_self e_fr_4 (by rw [L_fr_3]; decide)
  refine lv_aload_n hx hb dX7_isSound_26 rfl (lv_at hl 0 rfl) ?_
  refine lv_iconst (v := 0) hx hb dX7_isSound_27 (by decide) ?_
  refine va_put (D := (dC, dI)) (ci := 6) (v := .int 0) (ty := .int) (C := RX7) (T := TX7) (N := 17) hx hb hts inX7 tyX7 tyX7_ok nmX7 hown hK hP hD hS 0 rfl rfl 15 (by decide) (hts _ kw_232) (fun _ h9 => h9) rfl (by decide +kernel) rfl rfl (by rw [L_fr_4]; decide) dX7_isSound_28 (fun H locs hP hD hS => ?_)
  obtain ⟨fr_5, e_fr_5⟩ : ∃ z, z = fr_4.set 15 (.int 0) := ⟨_, rfl⟩
  have hP : va_P (dC, dI) cl0 [(h0, .inr (6, fr_5)), (hsr, .inr (0, fb))] H := by rw [e_fr_5]; exact hP
  have hD : va_D A [(h0, .inr (6, fr_5)), (hsr, .inr (0, fb))] := by rw [e_fr_5]; exact hD
  have L_fr_5 : fr_5.length = 17 := fx_len e_fr_5 L_fr_4
  have g_fr_5_0 := fx_ne (j := 0) e_fr_5 g_fr_4_0 (by decide)
  have g_fr_5_1 := fx_ne (j := 1) e_fr_5 g_fr_4_1 (by decide)
  have g_fr_5_2 := fx_ne (j := 2) e_fr_5 g_fr_4_2 (by decide)
  have g_fr_5_3 := fx_ne (j := 3) e_fr_5 g_fr_4_3 (by decide)
  have g_fr_5_15 := fx_self e_fr_5 (by rw [L_fr_4]; decide)
  refine lv_aload_n hx hb dX7_isSound_31 rfl (lv_at hl 0 rfl) ?_
  have hPc := hP.sub (ws' := [(h0, .inr (6, fr_5))]) [0] rfl
  have hDc := hD.sub (ws' := [(h0, .inr (6, fr_5))]) [0] (by decide) rfl
  have hKc := hK.sub (tys' := []) [] rfl
  have hFc := va_free (wc := [(h0, .inr (6, fr_5))]) hD hS hA [0] rfl
  refine va_calli (va_runV (As := []) (rest := []) ⟨hx, hb, hml, hown, hts⟩ (m_X7_magicHolds l dC dI H.size h0 fr_5 L_fr_5 g_fr_5_1) (cwV 0 hts (gd_V kw_233 kw_234 kw_235 kw_41 kw_236) rfl rfl rfl (by decide +kernel) ⟨Nat.le_of_ble_eq_true rfl, Nat.le_of_ble_eq_true rfl⟩) ⟨(st_blindE mg_calling), va_recv hKc hPc (ci := 6) (q0 := 0) rfl rfl, fun U hU hW9 => st_mkE hU hW9 hPc hKc hDc hex (mg_pass hE hS hFc hU hW9)⟩ rfl rfl hl.1 rfl (lv_room (Nat.le_of_ble_eq_true rfl)) dX7_isSound_32 ⟨Nat.le_of_ble_eq_true rfl, Nat.le_of_ble_eq_true rfl⟩) hS (fun q _ h => hFc q h) hFc (fun r_6 u9 t9 H1 locs ht9 hvm9 hw9 hB9 hz9 hk9 hS => ?_)
  obtain ⟨fr1_7, L_fr1_7, g_fr1_7_2, g_fr1_7_3, hP1, hK1, hD1⟩ := hB9
  rw [ht9] at hP1
  have hK1 := va_K.moved hvm9.symm hK1
  obtain ⟨hP, hD⟩ := va_join (wr := [(hsr, .inr (0, fb))]) (w1 := [(h0, .inr (6, fr1_7))]) hP hD [0] [1] rfl rfl (by decide) (by decide) hk9 hFc hP1 hD1
  have hK := (hK.sub (tys' := []) [] rfl).app hK1
  generalize H1 = H at hP hS ⊢
  have hP : va_P (dC, dI) cl0 [(hsr, .inr (0, fb)), (h0, .inr (6, fr1_7))] H := hP
  have hD : va_D A [(hsr, .inr (0, fb)), (h0, .inr (6, fr1_7))] := hD
  have hK : va_K (dC, dI) cl0 [] s := hK
  have hw9 : r_6 = 0 := hw9
  subst hw9
  refine lv_if_eq (tgt := 150) hx hb dX7_isSound_35 (by decide) (fun _ => ?_) (fun c9 => absurd (by decide) c9)
  refine lv_iconst (v := 0) hx hb dX7_isSound_150 (by decide) ?_
  refine W.widen (k := 0) (n := 0) (Nat.le_of_ble_eq_true rfl) (Nat.le_of_ble_eq_true rfl) ?_
  have hP9 := hP.sub (ws' := [(h0, .inr (6, fr1_7)), (hsr, .inr (0, fb))]) [1, 0] rfl
  have hD9 := hD.sub (ws' := [(h0, .inr (6, fr1_7)), (hsr, .inr (0, fb))]) [1, 0] (by decide) rfl
  have hK9 := hK.sub (tys' := []) [] rfl
  exact W.zret (v := 0) hx hb hr rfl (fun t9 ht9 hW9 => ⟨⟨_, (), rfl, rfl, fr1_7, L_fr1_7, g_fr1_7_2, g_fr1_7_3, by rw [ht9]; exact hP9, va_K.moved hW9.alike hK9, hD9⟩, hS.F ht9⟩) hS.2.2 dX7_isSound_151
set_option maxHeartbeats 400000 in
set_option maxRecDepth 100000 in
theorem m_X2_unitOf (l : Launch) (dC : Nat → ClassId) (dI : Nat → Nat → Nat) (sz : Nat) (h0 : Nat) (fc : List Value) (hrd : Nat) (fr : List Value) (hsr : Nat) (fb : List Value) (hd : Nat) (L_fc : fc.length = 12) (g_fc_0 : fc[0]? = some (.ref hrd)) (L_fr : fr.length = 17) (L_fb : fb.length = 2) (g_fb_0 : fb[0]? = some (.ref hd)) (g_fb_1 : fb[1]? = some (.int 0)) : Met l yX2_unitOf (wt yX2_unitOf cX2_unitOf 4 (some (.object "CodeFoundry$Unit"))) ({ frames := 3, cells := 0, slots := 0, locals := 64 }) (va_Pc [.ref h0, .ref hsr] (st_E mg dC dI sz [(h0, .inr (2, fc)), (hrd, .inr (6, fr)), (hsr, .inr (0, fb))] [])) (va_Qq (fun (r : Option Nat) (_ : Unit) => r = none) (fun (_ : Unit) (t : State) => ∃ (fr1 : List Value), (fr1.length = 17) ∧ (fr1[2]? = some (.int 2)) ∧ (fr1[3]? = some (.int 0)) ∧ va_P (dC, dI) cl0 [(h0, .inr (2, fc)), (hrd, .inr (6, fr1)), (hsr, .inr (0, fb))] t.heap ∧ va_K (dC, dI) cl0 [] t ∧ va_D (va_A [(h0, .inr (2, fc)), (hrd, .inr (6, fr)), (hsr, .inr (0, fb))] sz) [(h0, .inr (2, fc)), (hrd, .inr (6, fr1)), (hsr, .inr (0, fb))]) (va_A [(h0, .inr (2, fc)), (hrd, .inr (6, fr)), (hsr, .inr (0, fb))] sz)) 0 0 (va_A [(h0, .inr (2, fc)), (hrd, .inr (6, fr)), (hsr, .inr (0, fb))] sz) := by
  refine Met.ofW (cc := cX2_unitOf) (maxL := 4) (ret := (some (.object "CodeFoundry$Unit"))) (by decide) rfl ?_
  intro p e s m args below meth c s₁ B hml hv
  obtain ⟨rfl, ⟨hsz, hP, hK, hD0, hex⟩, hE⟩ := hv
  have hx := B.exec
  have hb := B.bytes
  have hr := B.returns
  have hts0 := atoms_spec (ws := wt yX2_unitOf cX2_unitOf 4 (some (.object "CodeFoundry$Unit"))) B.pre
  have hts : ∀ w ∈ tb, w.before _ s = true := fun w h => hts0 w (List.mem_cons_of_mem _ h)
  have hown : s.vm.findClass RX2 = some m.cls := findClass_of_methodNamed B.named
  have hlocks := B.notSynchronized
  subst hsz
  have hD := hD0.self (sz := s.heap.size)
  generalize hAe : va_A [(h0, .inr (2, fc)), (hrd, .inr (6, fr)), (hsr, .inr (0, fb))] s.heap.size = A at hD hE ⊢
  obtain ⟨tM, hZM, hTM⟩ := id hE
  have hA : ∀ q : Nat, s.heap.size ≤ q → A q := fun q h => by rw [← hAe]; exact Or.inr h
  have hS : va_S A s.heap s.heap [] := va_S.rf
  have hl := lv_entry ([.ref h0, .ref hsr]) (n := 4) (Nat.le_of_ble_eq_true rfl)
  rw [lg_entry_eq]
  generalize (lg_sl ([.ref h0, .ref hsr]) ++ List.replicate (4 - (lg_sl ([.ref h0, .ref hsr])).length) Slot.unset).toArray = ls at hl ⊢
  have hl : lv_has ls 4 [(0, .ref h0), (1, .ref hsr)] := hl
  refine lv_aload_n hx hb dX2_unitOf_0 rfl (lv_at hl 0 rfl) ?_
  refine va_get (D := (dC, dI)) (ci := 2) (v := .ref hrd) (C := RX2) (T := TX2) (N := 12) hx hb hts inX2 hown hK hP 0 rfl rfl 0 (by decide) (hts _ kw_44) (fun _ h9 => h9) g_fc_0 dX2_unitOf_1 ?_
  refine lv_aload_n hx hb dX2_unitOf_4 rfl (lv_at hl 1 rfl) ?_
  have hPc := hP.sub (ws' := [(hrd, .inr (6, fr)), (hsr, .inr (0, fb))]) [1, 2] rfl
  have hDc := hD.sub (ws' := [(hrd, .inr (6, fr)), (hsr, .inr (0, fb))]) [1, 2] (by decide) rfl
  have hKc := hK.sub (tys' := []) [] rfl
  have hFc := va_free (wc := [(hrd, .inr (6, fr)), (hsr, .inr (0, fb))]) hD hS hA [1, 2] rfl
  refine va_calli (va_runV (As := [.ref hsr]) (rest := []) ⟨hx, hb, hml, hown, hts⟩ (m_X7_isSound l dC dI s.heap.size hrd fr hsr fb hd L_fr L_fb g_fb_0 g_fb_1) (cwV 1 hts (gd_V kw_237 kw_238 kw_239 kw_41 kw_240) rfl rfl rfl (by decide +kernel) ⟨Nat.le_of_ble_eq_true rfl, Nat.le_of_ble_eq_true rfl⟩) ⟨(st_blindE mg_calling), va_recv hKc hPc (ci := 6) (q0 := 0) rfl rfl, fun U hU hW9 => st_mkE hU hW9 hPc hKc hDc hex (mg_pass hE hS hFc hU hW9)⟩ rfl rfl hl.1 rfl (lv_room (Nat.le_of_ble_eq_true rfl)) dX2_unitOf_5 ⟨Nat.le_of_ble_eq_true rfl, Nat.le_of_ble_eq_true rfl⟩) hS (fun q _ h => hFc q h) hFc (fun r_1 u9 t9 H1 locs ht9 hvm9 hw9 hB9 hz9 hk9 hS => ?_)
  obtain ⟨fr1_2, L_fr1_2, g_fr1_2_2, g_fr1_2_3, hP1, hK1, hD1⟩ := hB9
  rw [ht9] at hP1
  have hK1 := va_K.moved hvm9.symm hK1
  obtain ⟨hP, hD⟩ := va_join (wr := [(h0, .inr (2, fc))]) (w1 := [(hrd, .inr (6, fr1_2)), (hsr, .inr (0, fb))]) hP hD [1, 2] [0] rfl rfl (by decide) (by decide) hk9 hFc hP1 hD1
  have hK := (hK.sub (tys' := []) [] rfl).app hK1
  generalize H1 = H at hP hS ⊢
  have hP : va_P (dC, dI) cl0 [(h0, .inr (2, fc)), (hrd, .inr (6, fr1_2)), (hsr, .inr (0, fb))] H := hP
  have hD : va_D A [(h0, .inr (2, fc)), (hrd, .inr (6, fr1_2)), (hsr, .inr (0, fb))] := hD
  have hK : va_K (dC, dI) cl0 [] s := hK
  have hw9 : r_1 = 0 := hw9
  subst hw9
  refine lv_if_eq (tgt := 32) hx hb dX2_unitOf_8 (by decide) (fun _ => ?_) (fun c9 => absurd (by decide) c9)
  refine lv_null hx hb dX2_unitOf_32 ?_
  refine W.widen (k := 0) (n := 0) (Nat.le_of_ble_eq_true rfl) (Nat.le_of_ble_eq_true rfl) ?_
  have hP9 := hP.sub (ws' := [(h0, .inr (2, fc)), (hrd, .inr (6, fr1_2)), (hsr, .inr (0, fb))]) [0, 1, 2] rfl
  have hD9 := hD.sub (ws' := [(h0, .inr (2, fc)), (hrd, .inr (6, fr1_2)), (hsr, .inr (0, fb))]) [0, 1, 2] (by decide) rfl
  have hK9 := hK.sub (tys' := []) [] rfl
  exact W.aret (v := .null) hx hb hr (Or.inl ⟨_, rfl⟩) (Or.inl rfl) (fun t9 ht9 hW9 => ⟨⟨none, (), rfl, rfl, fr1_2, L_fr1_2, g_fr1_2_2, g_fr1_2_3, by rw [ht9]; exact hP9, va_K.moved hW9.alike hK9, hD9⟩, hS.F ht9⟩) hS.2.2 dX2_unitOf_33
set_option maxHeartbeats 400000 in
set_option maxRecDepth 100000 in
theorem m_X12_keep (l : Launch) (dC : Nat → ClassId) (dI : Nat → Nat → Nat) (sz : Nat) (h0 : Nat) (fx : List Value) (L_fx : fx.length = 18) : Met l yX12_keep (wt yX12_keep cX12_keep 3 (some .int)) ({ frames := 0, cells := 0, slots := 0, locals := 0 }) (va_Pc [.ref h0, .null, .int (-1)] (st_U dC dI sz [(h0, .inr (10, fx))] [])) (va_Qi (fun (r : Int32) (_ : Unit) => r = (-1)) (fun (_ : Unit) (_ : State) => True) (va_A [(h0, .inr (10, fx))] sz)) 0 0 (va_A [(h0, .inr (10, fx))] sz) := by
  refine Met.ofW (cc := cX12_keep) (maxL := 3) (ret := (some .int)) (by decide) rfl ?_
  intro p e s m args below meth c s₁ B hml hv
  obtain ⟨rfl, hsz, hP, hK, hD0, hex⟩ := hv
  have hx := B.exec
  have hb := B.bytes
  have hr := B.returns
  have hts0 := atoms_spec (ws := wt yX12_keep cX12_keep 3 (some .int)) B.pre
  have hts : ∀ w ∈ tb, w.before _ s = true := fun w h => hts0 w (List.mem_cons_of_mem _ h)
  have hown : s.vm.findClass RX12 = some m.cls := findClass_of_methodNamed B.named
  have hlocks := B.notSynchronized
  subst hsz
  have hD := hD0.self (sz := s.heap.size)
  generalize hAe : va_A [(h0, .inr (10, fx))] s.heap.size = A at hD ⊢
  have hA : ∀ q : Nat, s.heap.size ≤ q → A q := fun q h => by rw [← hAe]; exact Or.inr h
  have hS : va_S A s.heap s.heap [] := va_S.rf
  have hl := lv_entry ([.ref h0, .null, .int (-1)]) (n := 3) (Nat.le_of_ble_eq_true rfl)
  rw [lg_entry_eq]
  generalize (lg_sl ([.ref h0, .null, .int (-1)]) ++ List.replicate (3 - (lg_sl ([.ref h0, .null, .int (-1)])).length) Slot.unset).toArray = ls at hl ⊢
  have hl : lv_has ls 3 [(0, .ref h0), (1, .null), (2, .int (-1))] := hl
  refine lv_aload_nN hx hb dX12_keep_0 rfl (lv_at hl 1 rfl) ?_
  refine lv_ifnullN (tgt := 13) hx hb dX12_keep_1 (by decide) ?_
  refine lv_iload_n hx hb dX12_keep_13 rfl (lv_at hl 2 rfl) ?_
  refine W.widen (k := 0) (n := 0) (Nat.le_of_ble_eq_true rfl) (Nat.le_of_ble_eq_true rfl) ?_
  exact W.iret (v := (-1)) hx hb hr (fun t9 ht9 hW9 => ⟨⟨_, (), rfl, rfl, trivial⟩, hS.F ht9⟩) hS.2.2 dX12_keep_14
set_option maxHeartbeats 400000 in
set_option maxRecDepth 100000 in
theorem m_X12_file (l : Launch) (dC : Nat → ClassId) (dI : Nat → Nat → Nat) (sz : Nat) (h0 : Nat) (fx : List Value) (hc : Nat) (fc : List Value) (hrd : Nat) (fr : List Value) (hsr : Nat) (fb : List Value) (hd : Nat) (L_fx : fx.length = 18) (g_fx_0 : fx[0]? = some (.ref hsr)) (g_fx_4 : fx[4]? = some (.ref hc)) (g_fx_11 : fx[11]? = some (.int 0)) (L_fc : fc.length = 12) (g_fc_0 : fc[0]? = some (.ref hrd)) (L_fr : fr.length = 17) (L_fb : fb.length = 2) (g_fb_0 : fb[0]? = some (.ref hd)) (g_fb_1 : fb[1]? = some (.int 0)) : Met l yX12_file (wt yX12_file cX12_file 2 (some .int)) ({ frames := 4, cells := 0, slots := 0, locals := 87 }) (va_Pc [.ref h0] (st_E mg dC dI sz [(h0, .inr (10, fx)), (hc, .inr (2, fc)), (hrd, .inr (6, fr)), (hsr, .inr (0, fb))] [])) (va_Qi (fun (r : Int32) (_ : Unit) => r = (-1)) (fun (_ : Unit) (_ : State) => True) (va_A [(h0, .inr (10, fx)), (hc, .inr (2, fc)), (hrd, .inr (6, fr)), (hsr, .inr (0, fb))] sz)) 0 0 (va_A [(h0, .inr (10, fx)), (hc, .inr (2, fc)), (hrd, .inr (6, fr)), (hsr, .inr (0, fb))] sz) := by
  refine Met.ofW (cc := cX12_file) (maxL := 2) (ret := (some .int)) (by decide) rfl ?_
  intro p e s m args below meth c s₁ B hml hv
  obtain ⟨rfl, ⟨hsz, hP, hK, hD0, hex⟩, hE⟩ := hv
  have hx := B.exec
  have hb := B.bytes
  have hr := B.returns
  have hts0 := atoms_spec (ws := wt yX12_file cX12_file 2 (some .int)) B.pre
  have hts : ∀ w ∈ tb, w.before _ s = true := fun w h => hts0 w (List.mem_cons_of_mem _ h)
  have hown : s.vm.findClass RX12 = some m.cls := findClass_of_methodNamed B.named
  have hlocks := B.notSynchronized
  subst hsz
  have hD := hD0.self (sz := s.heap.size)
  generalize hAe : va_A [(h0, .inr (10, fx)), (hc, .inr (2, fc)), (hrd, .inr (6, fr)), (hsr, .inr (0, fb))] s.heap.size = A at hD hE ⊢
  obtain ⟨tM, hZM, hTM⟩ := id hE
  have hA : ∀ q : Nat, s.heap.size ≤ q → A q := fun q h => by rw [← hAe]; exact Or.inr h
  have hS : va_S A s.heap s.heap [] := va_S.rf
  have hl := lv_entry ([.ref h0]) (n := 2) (Nat.le_of_ble_eq_true rfl)
  rw [lg_entry_eq]
  generalize (lg_sl ([.ref h0]) ++ List.replicate (2 - (lg_sl ([.ref h0])).length) Slot.unset).toArray = ls at hl ⊢
  have hl : lv_has ls 2 [(0, .ref h0)] := hl
  refine lv_aload_n hx hb dX12_file_0 rfl (lv_at hl 0 rfl) ?_
  refine va_get (D := (dC, dI)) (ci := 10) (v := .int 0) (C := RX12) (T := TX12) (N := 18) hx hb hts inX12 hown hK hP 0 rfl rfl 11 (by decide) (hts _ kw_165) (fun _ h9 => h9) g_fx_11 dX12_file_1 ?_
  refine lv_bipush (v := 12) hx hb dX12_file_4 (by decide) ?_
  refine lv_icmp_lt (tgt := 12) hx hb dX12_file_6 (by decide) (fun _ => ?_) (fun c9 => absurd (by decide) c9)
  refine lv_aload_n hx hb dX12_file_12 rfl (lv_at hl 0 rfl) ?_
  refine va_get (D := (dC, dI)) (ci := 10) (v := .ref hc) (C := RX12) (T := TX12) (N := 18) hx hb hts inX12 hown hK hP 0 rfl rfl 4 (by decide) (hts _ kw_113) (fun _ h9 => h9) g_fx_4 dX12_file_13 ?_
  refine lv_aload_n hx hb dX12_file_16 rfl (lv_at hl 0 rfl) ?_
  refine va_get (D := (dC, dI)) (ci := 10) (v := .ref hsr) (C := RX12) (T := TX12) (N := 18) hx hb hts inX12 hown hK hP 0 rfl rfl 0 (by decide) (hts _ kw_103) (fun _ h9 => h9) g_fx_0 dX12_file_17 ?_
  have hPc := hP.sub (ws' := [(hc, .inr (2, fc)), (hrd, .inr (6, fr)), (hsr, .inr (0, fb))]) [1, 2, 3] rfl
  have hDc := hD.sub (ws' := [(hc, .inr (2, fc)), (hrd, .inr (6, fr)), (hsr, .inr (0, fb))]) [1, 2, 3] (by decide) rfl
  have hKc := hK.sub (tys' := []) [] rfl
  have hFc := va_free (wc := [(hc, .inr (2, fc)), (hrd, .inr (6, fr)), (hsr, .inr (0, fb))]) hD hS hA [1, 2, 3] rfl
  refine va_callq (va_runV (As := [.ref hsr]) (rest := []) ⟨hx, hb, hml, hown, hts⟩ (m_X2_unitOf l dC dI s.heap.size hc fc hrd fr hsr fb hd L_fc g_fc_0 L_fr L_fb g_fb_0 g_fb_1) (cwV 1 hts (gd_V kw_241 kw_242 kw_243 kw_110 kw_244) rfl rfl rfl (by decide +kernel) ⟨Nat.le_of_ble_eq_true rfl, Nat.le_of_ble_eq_true rfl⟩) ⟨(st_blindE mg_calling), va_recv hKc hPc (ci := 2) (q0 := 0) rfl rfl, fun U hU hW9 => st_mkE hU hW9 hPc hKc hDc hex (mg_pass hE hS hFc hU hW9)⟩ rfl rfl hl.1 rfl (lv_room (Nat.le_of_ble_eq_true rfl)) dX12_file_20 ⟨Nat.le_of_ble_eq_true rfl, Nat.le_of_ble_eq_true rfl⟩) hS (fun q _ h => hFc q h) hFc (fun r_1 u9 t9 H1 locs ht9 hvm9 hw9 hB9 hz9 hk9 hS => ?_)
  obtain ⟨fr1_2, L_fr1_2, g_fr1_2_2, g_fr1_2_3, hP1, hK1, hD1⟩ := hB9
  rw [ht9] at hP1
  have hK1 := va_K.moved hvm9.symm hK1
  obtain ⟨hP, hD⟩ := va_join (wr := [(h0, .inr (10, fx))]) (w1 := [(hc, .inr (2, fc)), (hrd, .inr (6, fr1_2)), (hsr, .inr (0, fb))]) hP hD [1, 2, 3] [0] rfl rfl (by decide) (by decide) hk9 hFc hP1 hD1
  have hK := (hK.sub (tys' := []) [] rfl).app hK1
  generalize H1 = H at hP hS ⊢
  have hP : va_P (dC, dI) cl0 [(h0, .inr (10, fx)), (hc, .inr (2, fc)), (hrd, .inr (6, fr1_2)), (hsr, .inr (0, fb))] H := hP
  have hD : va_D A [(h0, .inr (10, fx)), (hc, .inr (2, fc)), (hrd, .inr (6, fr1_2)), (hsr, .inr (0, fb))] := hD
  have hK : va_K (dC, dI) cl0 [] s := hK
  have hw9 : r_1 = none := hw9
  subst hw9
  refine lv_astore_nN (lv' := [(1, .null), (0, .ref h0)]) hx hb dX12_file_23 rfl hl (by decide) rfl (fun ls hl => ?_)
  refine lv_aload_n hx hb dX12_file_24 rfl (lv_at hl 1 rfl) ?_
  refine va_get (D := (dC, dI)) (ci := 10) (v := .ref hsr) (C := RX12) (T := TX12) (N := 18) hx hb hts inX12 hown hK hP 0 rfl rfl 0 (by decide) (hts _ kw_103) (fun _ h9 => h9) g_fx_0 dX12_file_25 ?_
  refine lv_iconst (v := 0) hx hb dX12_file_28 (by decide) ?_
  refine va_put (D := (dC, dI)) (ci := 0) (v := .int 0) (ty := .int) (C := RX0) (T := TX0) (N := 2) hx hb hts inX0 tyX0 tyX0_ok nmX0 hown hK hP hD hS 3 rfl rfl 1 (by decide) (hts _ kw_157) (fun _ h9 => h9) rfl (by decide +kernel) rfl rfl (by rw [L_fb]; decide) dX12_file_29 (fun H locs hP hD hS => ?_)
  obtain ⟨fb_3, e_fb_3⟩ : ∃ z, z = fb.set 1 (.int 0) := ⟨_, rfl⟩
  have hP : va_P (dC, dI) cl0 [(h0, .inr (10, fx)), (hc, .inr (2, fc)), (hrd, .inr (6, fr1_2)), (hsr, .inr (0, fb_3))] H := by rw [e_fb_3]; exact hP
  have hD : va_D A [(h0, .inr (10, fx)), (hc, .inr (2, fc)), (hrd, .inr (6, fr1_2)), (hsr, .inr (0, fb_3))] := by rw [e_fb_3]; exact hD
  have L_fb_3 : fb_3.length = 2 := fx_len e_fb_3 L_fb
  have g_fb_3_0 := fx_ne (j := 0) e_fb_3 g_fb_0 (by decide)
  have g_fb_3_1 := fx_self e_fb_3 (by rw [L_fb]; decide)
  refine lv_aload_n hx hb dX12_file_32 rfl (lv_at hl 1 rfl) ?_
  refine lv_aload_n hx hb dX12_file_33 rfl (lv_at hl 1 rfl) ?_
  refine va_get (D := (dC, dI)) (ci := 10) (v := .ref hc) (C := RX12) (T := TX12) (N := 18) hx hb hts inX12 hown hK hP 0 rfl rfl 4 (by decide) (hts _ kw_113) (fun _ h9 => h9) g_fx_4 dX12_file_34 ?_
  refine va_get (D := (dC, dI)) (ci := 2) (v := .ref hrd) (C := RX2) (T := TX2) (N := 12) hx hb hts inX2 hown hK hP 1 rfl rfl 0 (by decide) (hts _ kw_245) (fun _ h9 => h9) g_fc_0 dX12_file_37 ?_
  refine va_get (D := (dC, dI)) (ci := 6) (v := .int 2) (C := RX7) (T := TX7) (N := 17) hx hb hts inX7 hown hK hP 2 rfl rfl 2 (by decide) (hts _ kw_246) (fun _ h9 => h9) g_fr1_2_2 dX12_file_40 ?_
  refine va_put (D := (dC, dI)) (ci := 10) (v := .int 2) (ty := .int) (C := RX12) (T := TX12) (N := 18) hx hb hts inX12 tyX12 tyX12_ok nmX12 hown hK hP hD hS 0 rfl rfl 13 (by decide) (hts _ kw_164) (fun _ h9 => h9) rfl (by decide +kernel) rfl rfl (by rw [L_fx]; decide) dX12_file_43 (fun H locs hP hD hS => ?_)
  obtain ⟨fx_4, e_fx_4⟩ : ∃ z, z = fx.set 13 (.int 2) := ⟨_, rfl⟩
  have hP : va_P (dC, dI) cl0 [(h0, .inr (10, fx_4)), (hc, .inr (2, fc)), (hrd, .inr (6, fr1_2)), (hsr, .inr (0, fb_3))] H := by rw [e_fx_4]; exact hP
  have hD : va_D A [(h0, .inr (10, fx_4)), (hc, .inr (2, fc)), (hrd, .inr (6, fr1_2)), (hsr, .inr (0, fb_3))] := by rw [e_fx_4]; exact hD
  have L_fx_4 : fx_4.length = 18 := fx_len e_fx_4 L_fx
  have g_fx_4_0 := fx_ne (j := 0) e_fx_4 g_fx_0 (by decide)
  have g_fx_4_4 := fx_ne (j := 4) e_fx_4 g_fx_4 (by decide)
  have g_fx_4_11 := fx_ne (j := 11) e_fx_4 g_fx_11 (by decide)
  have g_fx_4_13 := fx_self e_fx_4 (by rw [L_fx]; decide)
  refine lv_aload_n hx hb dX12_file_46 rfl (lv_at hl 1 rfl) ?_
  refine lv_aload_n hx hb dX12_file_47 rfl (lv_at hl 1 rfl) ?_
  refine va_get (D := (dC, dI)) (ci := 10) (v := .ref hc) (C := RX12) (T := TX12) (N := 18) hx hb hts inX12 hown hK hP 0 rfl rfl 4 (by decide) (hts _ kw_113) (fun _ h9 => h9) g_fx_4_4 dX12_file_48 ?_
  refine va_get (D := (dC, dI)) (ci := 2) (v := .ref hrd) (C := RX2) (T := TX2) (N := 12) hx hb hts inX2 hown hK hP 1 rfl rfl 0 (by decide) (hts _ kw_245) (fun _ h9 => h9) g_fc_0 dX12_file_51 ?_
  refine va_get (D := (dC, dI)) (ci := 6) (v := .int 0) (C := RX7) (T := TX7) (N := 17) hx hb hts inX7 hown hK hP 2 rfl rfl 3 (by decide) (hts _ kw_247) (fun _ h9 => h9) g_fr1_2_3 dX12_file_54 ?_
  refine va_put (D := (dC, dI)) (ci := 10) (v := .int 0) (ty := .int) (C := RX12) (T := TX12) (N := 18) hx hb hts inX12 tyX12 tyX12_ok nmX12 hown hK hP hD hS 0 rfl rfl 14 (by decide) (hts _ kw_144) (fun _ h9 => h9) rfl (by decide +kernel) rfl rfl (by rw [L_fx_4]; decide) dX12_file_57 (fun H locs hP hD hS => ?_)
  obtain ⟨fx_5, e_fx_5⟩ : ∃ z, z = fx_4.set 14 (.int 0) := ⟨_, rfl⟩
  have hP : va_P (dC, dI) cl0 [(h0, .inr (10, fx_5)), (hc, .inr (2, fc)), (hrd, .inr (6, fr1_2)), (hsr, .inr (0, fb_3))] H := by rw [e_fx_5]; exact hP
  have hD : va_D A [(h0, .inr (10, fx_5)), (hc, .inr (2, fc)), (hrd, .inr (6, fr1_2)), (hsr, .inr (0, fb_3))] := by rw [e_fx_5]; exact hD
  have L_fx_5 : fx_5.length = 18 := fx_len e_fx_5 L_fx_4
  have g_fx_5_0 := fx_ne (j := 0) e_fx_5 g_fx_4_0 (by decide)
  have g_fx_5_4 := fx_ne (j := 4) e_fx_5 g_fx_4_4 (by decide)
  have g_fx_5_11 := fx_ne (j := 11) e_fx_5 g_fx_4_11 (by decide)
  have g_fx_5_13 := fx_ne (j := 13) e_fx_5 g_fx_4_13 (by decide)
  have g_fx_5_14 := fx_self e_fx_5 (by rw [L_fx_4]; decide)
  refine lv_aload_n hx hb dX12_file_60 rfl (lv_at hl 1 rfl) ?_
  refine lv_aload_nN hx hb dX12_file_61 rfl (lv_at hl 0 rfl) ?_
  refine lv_iconst (v := (-1)) hx hb dX12_file_62 (by decide) ?_
  have hPc := hP.sub (ws' := [(h0, .inr (10, fx_5))]) [0] rfl
  have hDc := hD.sub (ws' := [(h0, .inr (10, fx_5))]) [0] (by decide) rfl
  have hKc := hK.sub (tys' := []) [] rfl
  have hFc := va_free (wc := [(h0, .inr (10, fx_5))]) hD hS hA [0] rfl
  refine va_calli (va_runV (As := [.null, .int (-1)]) (rest := []) ⟨hx, hb, hml, hown, hts⟩ (m_X12_keep l dC dI H.size h0 fx_5 L_fx_5) (cwV 2 hts (gd_V kw_248 kw_249 kw_250 kw_169 kw_251) rfl rfl rfl (by decide +kernel) ⟨Nat.le_of_ble_eq_true rfl, Nat.le_of_ble_eq_true rfl⟩) ⟨st_blind, va_recv hKc hPc (ci := 10) (q0 := 0) rfl rfl, fun U hU hW9 => st_mk hU hW9 hPc hKc hDc hex⟩ rfl rfl hl.1 rfl (lv_room (Nat.le_of_ble_eq_true rfl)) dX12_file_63 ⟨Nat.le_of_ble_eq_true rfl, Nat.le_of_ble_eq_true rfl⟩) hS (fun q _ h => hFc q h) hFc (fun r_6 u9 t9 H1 locs ht9 hvm9 hw9 hB9 hz9 hk9 hS => ?_)
  have hP1 : va_P (dC, dI) cl0 [] H1 := fun k q h => by simp at h
  have hD1 : va_D (va_A [(h0, .inr (10, fx_5))] H.size) [] := ⟨fun i j p q h => by simp at h, fun k q h => by simp at h⟩
  obtain ⟨hP, hD⟩ := va_join (wr := [(hc, .inr (2, fc)), (hrd, .inr (6, fr1_2)), (hsr, .inr (0, fb_3))]) (w1 := []) hP hD [0] [1, 2, 3] rfl rfl (by decide) (by decide) hk9 hFc hP1 hD1
  generalize H1 = H at hP hS ⊢
  have hP : va_P (dC, dI) cl0 [(hc, .inr (2, fc)), (hrd, .inr (6, fr1_2)), (hsr, .inr (0, fb_3))] H := hP
  have hD : va_D A [(hc, .inr (2, fc)), (hrd, .inr (6, fr1_2)), (hsr, .inr (0, fb_3))] := hD
  have hw9 : r_6 = (-1) := hw9
  subst hw9
  refine W.widen (k := 0) (n := 0) (Nat.le_of_ble_eq_true rfl) (Nat.le_of_ble_eq_true rfl) ?_
  exact W.iret (v := (-1)) hx hb hr (fun t9 ht9 hW9 => ⟨⟨_, (), rfl, rfl, trivial⟩, hS.F ht9⟩) hS.2.2 dX12_file_66
end
