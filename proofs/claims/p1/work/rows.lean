section
def RJ7 : String := "java/util/Arrays"
def RJxb5711 : String := "java/lang/IllegalStateException"
def TJxb5711 : u_T := fun k => match k with
  | _ => ("", "", "", false)
def RL : String := "CodeFoundryLaw"
def RX0 : String := "CodeFoundry$Bytes"
def TX0 : u_T := fun k => match k with
  | 0 => ("CodeFoundry$Bytes", "data", "[B", false)
  | _ => ("CodeFoundry$Bytes", "count", "I", false)
def tyX0 : Nat → FieldType := fun k => match k with
  | 0 => .array .byte
  | _ => .int
theorem nmX0 : ∀ a, a < 2 → ∀ b, b < 2 → a ≠ b → (TX0 a).2.1 ≠ (TX0 b).2.1 := by decide +kernel
theorem tyX0_ok : ∀ k, k < 2 → parseFieldDescriptor (TX0 k).2.2.1 = some (tyX0 k) := by decide +kernel
def RX1 : String := "CodeFoundry$Checker"
def TX1 : u_T := fun k => match k with
  | 0 => ("CodeFoundry$Checker", "heights", "LCodeFoundry$Heights;", true)
  | 1 => ("CodeFoundry$Checker", "before", "[B", false)
  | 2 => ("CodeFoundry$Checker", "come", "[Z", false)
  | 3 => ("CodeFoundry$Checker", "waiting", "[Z", false)
  | 4 => ("CodeFoundry$Checker", "now", "[B", true)
  | 5 => ("CodeFoundry$Checker", "top", "I", false)
  | 6 => ("CodeFoundry$Checker", "bad", "Z", false)
  | 7 => ("CodeFoundry$Checker", "changed", "Z", false)
  | 8 => ("CodeFoundry$Checker", "unit", "LCodeFoundry$Unit;", false)
  | _ => ("CodeFoundry$Checker", "row", "LCodeFoundry$Row;", false)
def tyX1 : Nat → FieldType := fun k => match k with
  | 0 => .object "CodeFoundry$Heights"
  | 1 => .array .byte
  | 2 => .array .boolean
  | 3 => .array .boolean
  | 4 => .array .byte
  | 5 => .int
  | 6 => .boolean
  | 7 => .boolean
  | 8 => .object "CodeFoundry$Unit"
  | _ => .object "CodeFoundry$Row"
theorem nmX1 : ∀ a, a < 10 → ∀ b, b < 10 → a ≠ b → (TX1 a).2.1 ≠ (TX1 b).2.1 := by decide +kernel
theorem tyX1_ok : ∀ k, k < 10 → parseFieldDescriptor (TX1 k).2.2.1 = some (tyX1 k) := by decide +kernel
def RX11 : String := "CodeFoundry$Writer"
def TX11 : u_T := fun k => match k with
  | 0 => ("CodeFoundry$Writer", "pool", "LCodeFoundry$Bytes;", true)
  | 1 => ("CodeFoundry$Writer", "rest", "LCodeFoundry$Bytes;", true)
  | 2 => ("CodeFoundry$Writer", "wanted", "LCodeFoundry$Bytes;", true)
  | 3 => ("CodeFoundry$Writer", "entryAt", "[I", true)
  | 4 => ("CodeFoundry$Writer", "entryEnd", "[I", true)
  | 5 => ("CodeFoundry$Writer", "poolCount", "I", false)
  | 6 => ("CodeFoundry$Writer", "tooMany", "Z", false)
  | 7 => ("CodeFoundry$Writer", "unit", "LCodeFoundry$Unit;", false)
  | 8 => ("CodeFoundry$Writer", "codeName", "I", false)
  | 9 => ("CodeFoundry$Writer", "ownClass", "I", false)
  | 10 => ("CodeFoundry$Writer", "fieldName", "[I", true)
  | 11 => ("CodeFoundry$Writer", "fieldType", "[I", true)
  | 12 => ("CodeFoundry$Writer", "fieldEntry", "[I", true)
  | 13 => ("CodeFoundry$Writer", "methodEntry", "[I", true)
  | 14 => ("CodeFoundry$Writer", "heights", "LCodeFoundry$Heights;", true)
  | 15 => ("CodeFoundry$Writer", "row", "LCodeFoundry$Row;", false)
  | 16 => ("CodeFoundry$Writer", "needs", "[I", false)
  | _ => ("CodeFoundry$Writer", "offsets", "[I", false)
def tyX11 : Nat → FieldType := fun k => match k with
  | 0 => .object "CodeFoundry$Bytes"
  | 1 => .object "CodeFoundry$Bytes"
  | 2 => .object "CodeFoundry$Bytes"
  | 3 => .array .int
  | 4 => .array .int
  | 5 => .int
  | 6 => .boolean
  | 7 => .object "CodeFoundry$Unit"
  | 8 => .int
  | 9 => .int
  | 10 => .array .int
  | 11 => .array .int
  | 12 => .array .int
  | 13 => .array .int
  | 14 => .object "CodeFoundry$Heights"
  | 15 => .object "CodeFoundry$Row"
  | 16 => .array .int
  | _ => .array .int
theorem nmX11 : ∀ a, a < 18 → ∀ b, b < 18 → a ≠ b → (TX11 a).2.1 ≠ (TX11 b).2.1 := by decide +kernel
theorem tyX11_ok : ∀ k, k < 18 → parseFieldDescriptor (TX11 k).2.2.1 = some (tyX11 k) := by decide +kernel
def RX12 : String := "CodeFoundry"
def TX12 : u_T := fun k => match k with
  | 0 => ("CodeFoundry", "tray", "LCodeFoundry$Bytes;", true)
  | 1 => ("CodeFoundry", "written", "LCodeFoundry$Bytes;", true)
  | 2 => ("CodeFoundry", "draft", "LCodeFoundry$Bytes;", true)
  | 3 => ("CodeFoundry", "units", "[LCodeFoundry$Unit;", true)
  | 4 => ("CodeFoundry", "reader", "LCodeFoundry$CodeReader;", true)
  | 5 => ("CodeFoundry", "checker", "LCodeFoundry$Checker;", true)
  | 6 => ("CodeFoundry", "writer", "LCodeFoundry$Writer;", true)
  | 7 => ("CodeFoundry", "machine", "LCodeFoundry$Machine;", true)
  | 8 => ("CodeFoundry", "graph", "LCodeFoundry$Graph;", true)
  | 9 => ("CodeFoundry", "smith", "LCodeFoundry$Smith;", true)
  | 10 => ("CodeFoundry", "fed", "I", false)
  | 11 => ("CodeFoundry", "unitCount", "I", false)
  | 12 => ("CodeFoundry", "begun", "I", false)
  | 13 => ("CodeFoundry", "brokenRule", "I", false)
  | 14 => ("CodeFoundry", "brokenPlace", "I", false)
  | 15 => ("CodeFoundry", "faultMethod", "I", false)
  | 16 => ("CodeFoundry", "faultAt", "I", false)
  | _ => ("CodeFoundry", "writtenFile", "I", false)
def tyX12 : Nat → FieldType := fun k => match k with
  | 0 => .object "CodeFoundry$Bytes"
  | 1 => .object "CodeFoundry$Bytes"
  | 2 => .object "CodeFoundry$Bytes"
  | 3 => .array (.object "CodeFoundry$Unit")
  | 4 => .object "CodeFoundry$CodeReader"
  | 5 => .object "CodeFoundry$Checker"
  | 6 => .object "CodeFoundry$Writer"
  | 7 => .object "CodeFoundry$Machine"
  | 8 => .object "CodeFoundry$Graph"
  | 9 => .object "CodeFoundry$Smith"
  | 10 => .int
  | 11 => .int
  | 12 => .int
  | 13 => .int
  | 14 => .int
  | 15 => .int
  | 16 => .int
  | _ => .int
theorem nmX12 : ∀ a, a < 18 → ∀ b, b < 18 → a ≠ b → (TX12 a).2.1 ≠ (TX12 b).2.1 := by decide +kernel
theorem tyX12_ok : ∀ k, k < 18 → parseFieldDescriptor (TX12 k).2.2.1 = some (tyX12 k) := by decide +kernel
def RX13 : String := "CodeFoundryModel$File"
def TX13 : u_T := fun k => match k with
  | 0 => ("CodeFoundryModel$File", "own", "Ljava/lang/String;", false)
  | 1 => ("CodeFoundryModel$File", "above", "Ljava/lang/String;", false)
  | 2 => ("CodeFoundryModel$File", "pool", "I", false)
  | 3 => ("CodeFoundryModel$File", "fields", "I", false)
  | 4 => ("CodeFoundryModel$File", "methods", "I", false)
  | 5 => ("CodeFoundryModel$File", "fieldNames", "[Ljava/lang/String;", true)
  | 6 => ("CodeFoundryModel$File", "fieldTypes", "[Ljava/lang/String;", true)
  | 7 => ("CodeFoundryModel$File", "fieldLetters", "[Ljava/lang/String;", true)
  | 8 => ("CodeFoundryModel$File", "methodNames", "[Ljava/lang/String;", true)
  | 9 => ("CodeFoundryModel$File", "methodTypes", "[Ljava/lang/String;", true)
  | 10 => ("CodeFoundryModel$File", "takes", "[Ljava/lang/String;", true)
  | 11 => ("CodeFoundryModel$File", "gives", "[Ljava/lang/String;", true)
  | 12 => ("CodeFoundryModel$File", "mostStack", "[I", true)
  | 13 => ("CodeFoundryModel$File", "mostLocals", "[I", true)
  | 14 => ("CodeFoundryModel$File", "firsts", "[I", true)
  | 15 => ("CodeFoundryModel$File", "lengths", "[I", true)
  | 16 => ("CodeFoundryModel$File", "catchFirsts", "[I", true)
  | 17 => ("CodeFoundryModel$File", "catchCounts", "[I", true)
  | 18 => ("CodeFoundryModel$File", "rows", "[I", false)
  | 19 => ("CodeFoundryModel$File", "tables", "[I", false)
  | 20 => ("CodeFoundryModel$File", "catches", "[I", false)
  | 21 => ("CodeFoundryModel$File", "checked", "I", false)
  | _ => ("CodeFoundryModel$File", "states", "[I", false)
def tyX13 : Nat → FieldType := fun k => match k with
  | 0 => .object "java/lang/String"
  | 1 => .object "java/lang/String"
  | 2 => .int
  | 3 => .int
  | 4 => .int
  | 5 => .array (.object "java/lang/String")
  | 6 => .array (.object "java/lang/String")
  | 7 => .array (.object "java/lang/String")
  | 8 => .array (.object "java/lang/String")
  | 9 => .array (.object "java/lang/String")
  | 10 => .array (.object "java/lang/String")
  | 11 => .array (.object "java/lang/String")
  | 12 => .array .int
  | 13 => .array .int
  | 14 => .array .int
  | 15 => .array .int
  | 16 => .array .int
  | 17 => .array .int
  | 18 => .array .int
  | 19 => .array .int
  | 20 => .array .int
  | 21 => .int
  | _ => .array .int
theorem nmX13 : ∀ a, a < 23 → ∀ b, b < 23 → a ≠ b → (TX13 a).2.1 ≠ (TX13 b).2.1 := by decide +kernel
theorem tyX13_ok : ∀ k, k < 23 → parseFieldDescriptor (TX13 k).2.2.1 = some (tyX13 k) := by decide +kernel
def RX14 : String := "CodeFoundryModel"
def TX14 : u_T := fun k => match k with
  | 0 => ("CodeFoundryModel", "files", "[LCodeFoundryModel$File;", true)
  | 1 => ("CodeFoundryModel", "fileCount", "I", false)
  | 2 => ("CodeFoundryModel", "made", "I", false)
  | 3 => ("CodeFoundryModel", "tray", "[B", true)
  | 4 => ("CodeFoundryModel", "trayed", "I", false)
  | 5 => ("CodeFoundryModel", "fed", "I", false)
  | 6 => ("CodeFoundryModel", "stop", "Ljava/lang/IllegalStateException;", true)
  | 7 => ("CodeFoundryModel", "brokenRule", "I", false)
  | 8 => ("CodeFoundryModel", "brokenPlace", "I", false)
  | 9 => ("CodeFoundryModel", "toldRule", "I", false)
  | 10 => ("CodeFoundryModel", "toldPlace", "I", false)
  | 11 => ("CodeFoundryModel", "src", "[B", false)
  | 12 => ("CodeFoundryModel", "srcSize", "I", false)
  | 13 => ("CodeFoundryModel", "next", "I", false)
  | 14 => ("CodeFoundryModel", "poolCount", "I", false)
  | 15 => ("CodeFoundryModel", "tags", "[I", true)
  | 16 => ("CodeFoundryModel", "tagPlaces", "[I", true)
  | 17 => ("CodeFoundryModel", "firstOf", "[I", true)
  | 18 => ("CodeFoundryModel", "secondOf", "[I", true)
  | 19 => ("CodeFoundryModel", "worthOf", "[J", true)
  | 20 => ("CodeFoundryModel", "classAt", "I", false)
  | 21 => ("CodeFoundryModel", "memberCount", "I", false)
  | 22 => ("CodeFoundryModel", "fieldCount", "I", false)
  | 23 => ("CodeFoundryModel", "methodsAt", "I", false)
  | 24 => ("CodeFoundryModel", "memberAt", "[I", true)
  | 25 => ("CodeFoundryModel", "attributes", "I", false)
  | 26 => ("CodeFoundryModel", "attributeAt", "[I", true)
  | 27 => ("CodeFoundryModel", "attributeOwner", "[I", true)
  | 28 => ("CodeFoundryModel", "behind", "I", false)
  | 29 => ("CodeFoundryModel", "stackOf", "[I", true)
  | 30 => ("CodeFoundryModel", "localsOf", "[I", true)
  | 31 => ("CodeFoundryModel", "codeAts", "[I", true)
  | 32 => ("CodeFoundryModel", "codeSizes", "[I", true)
  | 33 => ("CodeFoundryModel", "catchAts", "[I", true)
  | 34 => ("CodeFoundryModel", "catchesOf", "[I", true)
  | 35 => ("CodeFoundryModel", "codeEnd", "I", false)
  | 36 => ("CodeFoundryModel", "codeAt", "I", false)
  | 37 => ("CodeFoundryModel", "codeSize", "I", false)
  | 38 => ("CodeFoundryModel", "numberAt", "[I", true)
  | 39 => ("CodeFoundryModel", "instructions", "I", false)
  | 40 => ("CodeFoundryModel", "newRows", "[I", true)
  | 41 => ("CodeFoundryModel", "newCount", "I", false)
  | 42 => ("CodeFoundryModel", "newTables", "[I", true)
  | 43 => ("CodeFoundryModel", "newTableSize", "I", false)
  | 44 => ("CodeFoundryModel", "newCatches", "[I", true)
  | 45 => ("CodeFoundryModel", "newCatchCount", "I", false)
  | 46 => ("CodeFoundryModel", "mostLocals", "I", false)
  | 47 => ("CodeFoundryModel", "own", "LCodeFoundryModel$File;", false)
  | 48 => ("CodeFoundryModel", "rows", "[I", false)
  | 49 => ("CodeFoundryModel", "tables", "[I", false)
  | 50 => ("CodeFoundryModel", "catches", "[I", false)
  | 51 => ("CodeFoundryModel", "rowFirst", "I", false)
  | 52 => ("CodeFoundryModel", "count", "I", false)
  | 53 => ("CodeFoundryModel", "catchFirst", "I", false)
  | 54 => ("CodeFoundryModel", "catchCount", "I", false)
  | 55 => ("CodeFoundryModel", "heights", "[I", true)
  | 56 => ("CodeFoundryModel", "heightMost", "I", false)
  | 57 => ("CodeFoundryModel", "isMoving", "Z", false)
  | 58 => ("CodeFoundryModel", "types", "[B", true)
  | 59 => ("CodeFoundryModel", "isCome", "[Z", true)
  | 60 => ("CodeFoundryModel", "locals", "[B", true)
  | 61 => ("CodeFoundryModel", "pile", "[B", true)
  | 62 => ("CodeFoundryModel", "top", "I", false)
  | 63 => ("CodeFoundryModel", "fits", "Z", false)
  | 64 => ("CodeFoundryModel", "faultMethod", "I", false)
  | 65 => ("CodeFoundryModel", "faultAt", "I", false)
  | 66 => ("CodeFoundryModel", "newStates", "[I", true)
  | 67 => ("CodeFoundryModel", "tagOf", "[I", true)
  | 68 => ("CodeFoundryModel", "numberOf", "[I", true)
  | 69 => ("CodeFoundryModel", "oneOf", "[I", true)
  | 70 => ("CodeFoundryModel", "otherOf", "[I", true)
  | 71 => ("CodeFoundryModel", "valueOf", "[J", true)
  | 72 => ("CodeFoundryModel", "textOf", "[Ljava/lang/String;", true)
  | 73 => ("CodeFoundryModel", "needed", "I", false)
  | 74 => ("CodeFoundryModel", "nextNumber", "I", false)
  | 75 => ("CodeFoundryModel", "writing", "[B", false)
  | 76 => ("CodeFoundryModel", "told", "[B", false)
  | 77 => ("CodeFoundryModel", "outSize", "I", false)
  | 78 => ("CodeFoundryModel", "toldSize", "I", false)
  | 79 => ("CodeFoundryModel", "offsets", "[I", true)
  | 80 => ("CodeFoundryModel", "stage", "LCodeFoundryModel$File;", false)
  | 81 => ("CodeFoundryModel", "fieldValues", "[J", true)
  | 82 => ("CodeFoundryModel", "elements", "[I", true)
  | 83 => ("CodeFoundryModel", "arrayFirsts", "[I", true)
  | 84 => ("CodeFoundryModel", "arrayLengths", "[I", true)
  | 85 => ("CodeFoundryModel", "arrays", "I", false)
  | 86 => ("CodeFoundryModel", "elementsMade", "I", false)
  | 87 => ("CodeFoundryModel", "arguments", "[J", true)
  | 88 => ("CodeFoundryModel", "argumentCount", "I", false)
  | 89 => ("CodeFoundryModel", "running", "[I", true)
  | 90 => ("CodeFoundryModel", "places", "[I", true)
  | 91 => ("CodeFoundryModel", "tops", "[I", true)
  | 92 => ("CodeFoundryModel", "slots", "[J", true)
  | 93 => ("CodeFoundryModel", "piles", "[J", true)
  | 94 => ("CodeFoundryModel", "slotTags", "[B", true)
  | 95 => ("CodeFoundryModel", "pileTags", "[B", true)
  | 96 => ("CodeFoundryModel", "strayCount", "I", false)
  | 97 => ("CodeFoundryModel", "frames", "I", false)
  | 98 => ("CodeFoundryModel", "outcome", "I", false)
  | 99 => ("CodeFoundryModel", "errorThrown", "I", false)
  | 100 => ("CodeFoundryModel", "stepsDone", "I", false)
  | 101 => ("CodeFoundryModel", "given", "J", false)
  | 102 => ("CodeFoundryModel", "lastError", "I", false)
  | 103 => ("CodeFoundryModel", "blockStart", "[I", true)
  | 104 => ("CodeFoundryModel", "blockOf", "[I", true)
  | 105 => ("CodeFoundryModel", "blockCount", "I", false)
  | 106 => ("CodeFoundryModel", "graphFile", "I", false)
  | 107 => ("CodeFoundryModel", "graphMethod", "I", false)
  | 108 => ("CodeFoundryModel", "edgeFirst", "[I", true)
  | 109 => ("CodeFoundryModel", "edgeTo", "[I", true)
  | 110 => ("CodeFoundryModel", "edgeCount", "I", false)
  | 111 => ("CodeFoundryModel", "isReached", "[Z", true)
  | 112 => ("CodeFoundryModel", "above", "[I", true)
  | 113 => ("CodeFoundryModel", "nearest", "[I", true)
  | 114 => ("CodeFoundryModel", "isHead", "[Z", true)
  | 115 => ("CodeFoundryModel", "depths", "[I", true)
  | 116 => ("CodeFoundryModel", "isMarked", "[Z", true)
  | 117 => ("CodeFoundryModel", "ranks", "[I", true)
  | 118 => ("CodeFoundryModel", "draft", "LCodeFoundryModel$File;", true)
  | 119 => ("CodeFoundryModel", "draftRows", "[I", true)
  | 120 => ("CodeFoundryModel", "draftTables", "[I", true)
  | 121 => ("CodeFoundryModel", "draftCatches", "[I", true)
  | 122 => ("CodeFoundryModel", "draftCount", "I", false)
  | 123 => ("CodeFoundryModel", "draftCatchCount", "I", false)
  | 124 => ("CodeFoundryModel", "didRule", "[I", true)
  | 125 => ("CodeFoundryModel", "ops", "[I", true)
  | 126 => ("CodeFoundryModel", "ones", "[I", true)
  | 127 => ("CodeFoundryModel", "others", "[I", true)
  | 128 => ("CodeFoundryModel", "gone", "[Z", true)
  | 129 => ("CodeFoundryModel", "size", "I", false)
  | 130 => ("CodeFoundryModel", "froms", "[I", true)
  | 131 => ("CodeFoundryModel", "tos", "[I", true)
  | 132 => ("CodeFoundryModel", "bys", "[I", true)
  | 133 => ("CodeFoundryModel", "errors", "[I", true)
  | 134 => ("CodeFoundryModel", "isOut", "[Z", true)
  | 135 => ("CodeFoundryModel", "caughtCount", "I", false)
  | 136 => ("CodeFoundryModel", "aimed", "[Z", true)
  | 137 => ("CodeFoundryModel", "isMet", "[Z", true)
  | 138 => ("CodeFoundryModel", "seenBy", "[I", true)
  | 139 => ("CodeFoundryModel", "seen", "I", false)
  | 140 => ("CodeFoundryModel", "liveBefore", "[I", true)
  | 141 => ("CodeFoundryModel", "newPlaces", "[I", true)
  | _ => ("CodeFoundryModel", "rowOf", "[I", true)
def tyX14 : Nat → FieldType := fun k => match k with
  | 0 => .array (.object "CodeFoundryModel$File")
  | 1 => .int
  | 2 => .int
  | 3 => .array .byte
  | 4 => .int
  | 5 => .int
  | 6 => .object "java/lang/IllegalStateException"
  | 7 => .int
  | 8 => .int
  | 9 => .int
  | 10 => .int
  | 11 => .array .byte
  | 12 => .int
  | 13 => .int
  | 14 => .int
  | 15 => .array .int
  | 16 => .array .int
  | 17 => .array .int
  | 18 => .array .int
  | 19 => .array .long
  | 20 => .int
  | 21 => .int
  | 22 => .int
  | 23 => .int
  | 24 => .array .int
  | 25 => .int
  | 26 => .array .int
  | 27 => .array .int
  | 28 => .int
  | 29 => .array .int
  | 30 => .array .int
  | 31 => .array .int
  | 32 => .array .int
  | 33 => .array .int
  | 34 => .array .int
  | 35 => .int
  | 36 => .int
  | 37 => .int
  | 38 => .array .int
  | 39 => .int
  | 40 => .array .int
  | 41 => .int
  | 42 => .array .int
  | 43 => .int
  | 44 => .array .int
  | 45 => .int
  | 46 => .int
  | 47 => .object "CodeFoundryModel$File"
  | 48 => .array .int
  | 49 => .array .int
  | 50 => .array .int
  | 51 => .int
  | 52 => .int
  | 53 => .int
  | 54 => .int
  | 55 => .array .int
  | 56 => .int
  | 57 => .boolean
  | 58 => .array .byte
  | 59 => .array .boolean
  | 60 => .array .byte
  | 61 => .array .byte
  | 62 => .int
  | 63 => .boolean
  | 64 => .int
  | 65 => .int
  | 66 => .array .int
  | 67 => .array .int
  | 68 => .array .int
  | 69 => .array .int
  | 70 => .array .int
  | 71 => .array .long
  | 72 => .array (.object "java/lang/String")
  | 73 => .int
  | 74 => .int
  | 75 => .array .byte
  | 76 => .array .byte
  | 77 => .int
  | 78 => .int
  | 79 => .array .int
  | 80 => .object "CodeFoundryModel$File"
  | 81 => .array .long
  | 82 => .array .int
  | 83 => .array .int
  | 84 => .array .int
  | 85 => .int
  | 86 => .int
  | 87 => .array .long
  | 88 => .int
  | 89 => .array .int
  | 90 => .array .int
  | 91 => .array .int
  | 92 => .array .long
  | 93 => .array .long
  | 94 => .array .byte
  | 95 => .array .byte
  | 96 => .int
  | 97 => .int
  | 98 => .int
  | 99 => .int
  | 100 => .int
  | 101 => .long
  | 102 => .int
  | 103 => .array .int
  | 104 => .array .int
  | 105 => .int
  | 106 => .int
  | 107 => .int
  | 108 => .array .int
  | 109 => .array .int
  | 110 => .int
  | 111 => .array .boolean
  | 112 => .array .int
  | 113 => .array .int
  | 114 => .array .boolean
  | 115 => .array .int
  | 116 => .array .boolean
  | 117 => .array .int
  | 118 => .object "CodeFoundryModel$File"
  | 119 => .array .int
  | 120 => .array .int
  | 121 => .array .int
  | 122 => .int
  | 123 => .int
  | 124 => .array .int
  | 125 => .array .int
  | 126 => .array .int
  | 127 => .array .int
  | 128 => .array .boolean
  | 129 => .int
  | 130 => .array .int
  | 131 => .array .int
  | 132 => .array .int
  | 133 => .array .int
  | 134 => .array .boolean
  | 135 => .int
  | 136 => .array .boolean
  | 137 => .array .boolean
  | 138 => .array .int
  | 139 => .int
  | 140 => .array .int
  | 141 => .array .int
  | _ => .array .int
theorem nmX14 : ∀ a, a < 143 → ∀ b, b < 143 → a ≠ b → (TX14 a).2.1 ≠ (TX14 b).2.1 := by decide +kernel
theorem tyX14_ok : ∀ k, k < 143 → parseFieldDescriptor (TX14 k).2.2.1 = some (tyX14 k) := by decide +kernel
def RX2 : String := "CodeFoundry$CodeReader"
def TX2 : u_T := fun k => match k with
  | 0 => ("CodeFoundry$CodeReader", "file", "LCodeFoundry$Reader;", true)
  | 1 => ("CodeFoundry$CodeReader", "code", "I", false)
  | 2 => ("CodeFoundry$CodeReader", "size", "I", false)
  | 3 => ("CodeFoundry$CodeReader", "maxStack", "I", false)
  | 4 => ("CodeFoundry$CodeReader", "maxLocals", "I", false)
  | 5 => ("CodeFoundry$CodeReader", "catchesAt", "I", false)
  | 6 => ("CodeFoundry$CodeReader", "catchCount", "I", false)
  | 7 => ("CodeFoundry$CodeReader", "numberAt", "[I", true)
  | 8 => ("CodeFoundry$CodeReader", "instructions", "I", false)
  | 9 => ("CodeFoundry$CodeReader", "op", "I", false)
  | 10 => ("CodeFoundry$CodeReader", "arg", "J", false)
  | _ => ("CodeFoundry$CodeReader", "offset", "I", false)
def tyX2 : Nat → FieldType := fun k => match k with
  | 0 => .object "CodeFoundry$Reader"
  | 1 => .int
  | 2 => .int
  | 3 => .int
  | 4 => .int
  | 5 => .int
  | 6 => .int
  | 7 => .array .int
  | 8 => .int
  | 9 => .int
  | 10 => .long
  | _ => .int
theorem nmX2 : ∀ a, a < 12 → ∀ b, b < 12 → a ≠ b → (TX2 a).2.1 ≠ (TX2 b).2.1 := by decide +kernel
theorem tyX2_ok : ∀ k, k < 12 → parseFieldDescriptor (TX2 k).2.2.1 = some (tyX2 k) := by decide +kernel
def RX3 : String := "CodeFoundry$Graph"
def TX3 : u_T := fun k => match k with
  | 0 => ("CodeFoundry$Graph", "row", "LCodeFoundry$Row;", false)
  | 1 => ("CodeFoundry$Graph", "count", "I", false)
  | 2 => ("CodeFoundry$Graph", "start", "[I", false)
  | 3 => ("CodeFoundry$Graph", "blockOf", "[I", false)
  | 4 => ("CodeFoundry$Graph", "edgeAt", "[I", false)
  | 5 => ("CodeFoundry$Graph", "edges", "[I", false)
  | 6 => ("CodeFoundry$Graph", "backAt", "[I", false)
  | 7 => ("CodeFoundry$Graph", "backs", "[I", false)
  | 8 => ("CodeFoundry$Graph", "reached", "[Z", false)
  | 9 => ("CodeFoundry$Graph", "dominators", "[J", false)
  | 10 => ("CodeFoundry$Graph", "words", "I", false)
  | 11 => ("CodeFoundry$Graph", "dominator", "[I", false)
  | 12 => ("CodeFoundry$Graph", "latches", "[I", false)
  | 13 => ("CodeFoundry$Graph", "depth", "[I", false)
  | 14 => ("CodeFoundry$Graph", "seen", "[I", false)
  | _ => ("CodeFoundry$Graph", "waiting", "[I", false)
def tyX3 : Nat → FieldType := fun k => match k with
  | 0 => .object "CodeFoundry$Row"
  | 1 => .int
  | 2 => .array .int
  | 3 => .array .int
  | 4 => .array .int
  | 5 => .array .int
  | 6 => .array .int
  | 7 => .array .int
  | 8 => .array .boolean
  | 9 => .array .long
  | 10 => .int
  | 11 => .array .int
  | 12 => .array .int
  | 13 => .array .int
  | 14 => .array .int
  | _ => .array .int
theorem nmX3 : ∀ a, a < 16 → ∀ b, b < 16 → a ≠ b → (TX3 a).2.1 ≠ (TX3 b).2.1 := by decide +kernel
theorem tyX3_ok : ∀ k, k < 16 → parseFieldDescriptor (TX3 k).2.2.1 = some (tyX3 k) := by decide +kernel
def RX4 : String := "CodeFoundry$Heights"
def TX4 : u_T := fun k => match k with
  | 0 => ("CodeFoundry$Heights", "come", "[I", false)
  | 1 => ("CodeFoundry$Heights", "waiting", "[I", false)
  | 2 => ("CodeFoundry$Heights", "wrong", "[Z", false)
  | 3 => ("CodeFoundry$Heights", "unit", "LCodeFoundry$Unit;", false)
  | 4 => ("CodeFoundry$Heights", "row", "LCodeFoundry$Row;", false)
  | 5 => ("CodeFoundry$Heights", "limit", "I", false)
  | 6 => ("CodeFoundry$Heights", "changed", "Z", false)
  | _ => ("CodeFoundry$Heights", "most", "I", false)
def tyX4 : Nat → FieldType := fun k => match k with
  | 0 => .array .int
  | 1 => .array .int
  | 2 => .array .boolean
  | 3 => .object "CodeFoundry$Unit"
  | 4 => .object "CodeFoundry$Row"
  | 5 => .int
  | 6 => .boolean
  | _ => .int
theorem nmX4 : ∀ a, a < 8 → ∀ b, b < 8 → a ≠ b → (TX4 a).2.1 ≠ (TX4 b).2.1 := by decide +kernel
theorem tyX4_ok : ∀ k, k < 8 → parseFieldDescriptor (TX4 k).2.2.1 = some (tyX4 k) := by decide +kernel
def RX5 : String := "CodeFoundry$Machine"
def TX5 : u_T := fun k => match k with
  | 0 => ("CodeFoundry$Machine", "unit", "LCodeFoundry$Unit;", false)
  | 1 => ("CodeFoundry$Machine", "fields", "[J", true)
  | 2 => ("CodeFoundry$Machine", "heap", "[I", false)
  | 3 => ("CodeFoundry$Machine", "heapUsed", "I", false)
  | 4 => ("CodeFoundry$Machine", "arrayAt", "[I", false)
  | 5 => ("CodeFoundry$Machine", "arrays", "I", false)
  | 6 => ("CodeFoundry$Machine", "arguments", "[J", true)
  | 7 => ("CodeFoundry$Machine", "argumentCount", "I", false)
  | 8 => ("CodeFoundry$Machine", "locals", "[J", false)
  | 9 => ("CodeFoundry$Machine", "stack", "[J", false)
  | 10 => ("CodeFoundry$Machine", "frames", "[I", true)
  | 11 => ("CodeFoundry$Machine", "depth", "I", false)
  | 12 => ("CodeFoundry$Machine", "row", "LCodeFoundry$Row;", false)
  | 13 => ("CodeFoundry$Machine", "pc", "I", false)
  | 14 => ("CodeFoundry$Machine", "top", "I", false)
  | 15 => ("CodeFoundry$Machine", "outcome", "I", false)
  | 16 => ("CodeFoundry$Machine", "lastResult", "J", false)
  | 17 => ("CodeFoundry$Machine", "lastError", "I", false)
  | 18 => ("CodeFoundry$Machine", "lastSteps", "I", false)
  | _ => ("CodeFoundry$Machine", "strays", "I", false)
def tyX5 : Nat → FieldType := fun k => match k with
  | 0 => .object "CodeFoundry$Unit"
  | 1 => .array .long
  | 2 => .array .int
  | 3 => .int
  | 4 => .array .int
  | 5 => .int
  | 6 => .array .long
  | 7 => .int
  | 8 => .array .long
  | 9 => .array .long
  | 10 => .array .int
  | 11 => .int
  | 12 => .object "CodeFoundry$Row"
  | 13 => .int
  | 14 => .int
  | 15 => .int
  | 16 => .long
  | 17 => .int
  | 18 => .int
  | _ => .int
theorem nmX5 : ∀ a, a < 20 → ∀ b, b < 20 → a ≠ b → (TX5 a).2.1 ≠ (TX5 b).2.1 := by decide +kernel
theorem tyX5_ok : ∀ k, k < 20 → parseFieldDescriptor (TX5 k).2.2.1 = some (tyX5 k) := by decide +kernel
def RX7 : String := "CodeFoundry$Reader"
def TX7 : u_T := fun k => match k with
  | 0 => ("CodeFoundry$Reader", "data", "[B", false)
  | 1 => ("CodeFoundry$Reader", "end", "I", false)
  | 2 => ("CodeFoundry$Reader", "brokenRule", "I", false)
  | 3 => ("CodeFoundry$Reader", "brokenPlace", "I", false)
  | 4 => ("CodeFoundry$Reader", "entry", "[I", true)
  | 5 => ("CodeFoundry$Reader", "poolCount", "I", false)
  | 6 => ("CodeFoundry$Reader", "headAt", "I", false)
  | 7 => ("CodeFoundry$Reader", "fieldCount", "I", false)
  | 8 => ("CodeFoundry$Reader", "methodCount", "I", false)
  | 9 => ("CodeFoundry$Reader", "memberAt", "[I", true)
  | 10 => ("CodeFoundry$Reader", "codeAt", "[I", true)
  | 11 => ("CodeFoundry$Reader", "codeEnd", "[I", true)
  | 12 => ("CodeFoundry$Reader", "takes", "I", false)
  | 13 => ("CodeFoundry$Reader", "places", "I", false)
  | 14 => ("CodeFoundry$Reader", "gives", "I", false)
  | 15 => ("CodeFoundry$Reader", "p", "I", false)
  | _ => ("CodeFoundry$Reader", "attributesAt", "I", false)
def tyX7 : Nat → FieldType := fun k => match k with
  | 0 => .array .byte
  | 1 => .int
  | 2 => .int
  | 3 => .int
  | 4 => .array .int
  | 5 => .int
  | 6 => .int
  | 7 => .int
  | 8 => .int
  | 9 => .array .int
  | 10 => .array .int
  | 11 => .array .int
  | 12 => .int
  | 13 => .int
  | 14 => .int
  | 15 => .int
  | _ => .int
theorem nmX7 : ∀ a, a < 17 → ∀ b, b < 17 → a ≠ b → (TX7 a).2.1 ≠ (TX7 b).2.1 := by decide +kernel
theorem tyX7_ok : ∀ k, k < 17 → parseFieldDescriptor (TX7 k).2.2.1 = some (tyX7 k) := by decide +kernel
def RX8 : String := "CodeFoundry$Row"
def TX8 : u_T := fun k => match k with
  | 0 => ("CodeFoundry$Row", "op", "[I", false)
  | 1 => ("CodeFoundry$Row", "arg", "[J", false)
  | 2 => ("CodeFoundry$Row", "count", "I", false)
  | 3 => ("CodeFoundry$Row", "table", "[I", false)
  | 4 => ("CodeFoundry$Row", "tableCount", "I", false)
  | 5 => ("CodeFoundry$Row", "catchFrom", "[I", false)
  | 6 => ("CodeFoundry$Row", "catchTo", "[I", false)
  | 7 => ("CodeFoundry$Row", "catchAt", "[I", false)
  | 8 => ("CodeFoundry$Row", "catchKind", "[I", false)
  | 9 => ("CodeFoundry$Row", "catchCount", "I", false)
  | 10 => ("CodeFoundry$Row", "maxStack", "I", false)
  | 11 => ("CodeFoundry$Row", "number", "I", false)
  | 12 => ("CodeFoundry$Row", "heights", "[B", false)
  | 13 => ("CodeFoundry$Row", "lowLocals", "[J", false)
  | _ => ("CodeFoundry$Row", "highLocals", "[J", false)
def tyX8 : Nat → FieldType := fun k => match k with
  | 0 => .array .int
  | 1 => .array .long
  | 2 => .int
  | 3 => .array .int
  | 4 => .int
  | 5 => .array .int
  | 6 => .array .int
  | 7 => .array .int
  | 8 => .array .int
  | 9 => .int
  | 10 => .int
  | 11 => .int
  | 12 => .array .byte
  | 13 => .array .long
  | _ => .array .long
theorem nmX8 : ∀ a, a < 15 → ∀ b, b < 15 → a ≠ b → (TX8 a).2.1 ≠ (TX8 b).2.1 := by decide +kernel
theorem tyX8_ok : ∀ k, k < 15 → parseFieldDescriptor (TX8 k).2.2.1 = some (tyX8 k) := by decide +kernel
def RX9 : String := "CodeFoundry$Smith"
def TX9 : u_T := fun k => match k with
  | 0 => ("CodeFoundry$Smith", "row", "LCodeFoundry$Row;", false)
  | 1 => ("CodeFoundry$Smith", "applied", "[I", true)
  | 2 => ("CodeFoundry$Smith", "marked", "[Z", false)
  | 3 => ("CodeFoundry$Smith", "reached", "[Z", false)
  | 4 => ("CodeFoundry$Smith", "live", "[I", false)
  | _ => ("CodeFoundry$Smith", "newPlace", "[I", false)
def tyX9 : Nat → FieldType := fun k => match k with
  | 0 => .object "CodeFoundry$Row"
  | 1 => .array .int
  | 2 => .array .boolean
  | 3 => .array .boolean
  | 4 => .array .int
  | _ => .array .int
theorem nmX9 : ∀ a, a < 6 → ∀ b, b < 6 → a ≠ b → (TX9 a).2.1 ≠ (TX9 b).2.1 := by decide +kernel
theorem tyX9_ok : ∀ k, k < 6 → parseFieldDescriptor (TX9 k).2.2.1 = some (tyX9 k) := by decide +kernel
def yJ7_fill_53178 : MethodName := ⟨RJ7, "fill", "([II)V"⟩
abbrev cJ7_fill_53178 : ByteArray := prog_31_method_103_code
def yX0_init : MethodName := ⟨RX0, "<init>", "()V"⟩
abbrev cX0_init : ByteArray := prog_2_method_1_code
def yX0_put : MethodName := ⟨RX0, "put", "(I)V"⟩
abbrev cX0_put : ByteArray := prog_2_method_2_code
def yX0_put2 : MethodName := ⟨RX0, "put2", "(I)V"⟩
abbrev cX0_put2 : ByteArray := prog_2_method_3_code
def yX0_put4 : MethodName := ⟨RX0, "put4", "(I)V"⟩
abbrev cX0_put4 : ByteArray := prog_2_method_4_code
def yX11_init : MethodName := ⟨RX11, "<init>", "()V"⟩
abbrev cX11_init : ByteArray := prog_13_method_1_code
def yX12_applied : MethodName := ⟨RX12, "applied", "(I)I"⟩
abbrev cX12_applied : ByteArray := prog_1_method_29_code
def yX12_argument : MethodName := ⟨RX12, "argument", "(J)I"⟩
abbrev cX12_argument : ByteArray := prog_1_method_17_code
def yX12_arrayLength : MethodName := ⟨RX12, "arrayLength", "(I)I"⟩
abbrev cX12_arrayLength : ByteArray := prog_1_method_24_code
def yX12_at : MethodName := ⟨RX12, "at", "()I"⟩
abbrev cX12_at : ByteArray := prog_1_method_11_code
def yX12_block : MethodName := ⟨RX12, "block", "(IIII)I"⟩
abbrev cX12_block : ByteArray := prog_1_method_26_code
def yX12_blocks : MethodName := ⟨RX12, "blocks", "(II)I"⟩
abbrev cX12_blocks : ByteArray := prog_1_method_25_code
def yX12_byteAt : MethodName := ⟨RX12, "byteAt", "(I)I"⟩
abbrev cX12_byteAt : ByteArray := prog_1_method_15_code
def yX12_count : MethodName := ⟨RX12, "count", "(I)I"⟩
abbrev cX12_count : ByteArray := prog_1_method_30_code
def yX12_edge : MethodName := ⟨RX12, "edge", "(IIII)Z"⟩
abbrev cX12_edge : ByteArray := prog_1_method_27_code
def yX12_element : MethodName := ⟨RX12, "element", "(II)I"⟩
abbrev cX12_element : ByteArray := prog_1_method_23_code
def yX12_end : MethodName := ⟨RX12, "end", "(I)Z"⟩
abbrev cX12_end : ByteArray := prog_1_method_3_code
def yX12_error : MethodName := ⟨RX12, "error", "()I"⟩
abbrev cX12_error : ByteArray := prog_1_method_20_code
def yX12_feed : MethodName := ⟨RX12, "feed", "(IIIII)I"⟩
abbrev cX12_feed : ByteArray := prog_1_method_2_code
def yX12_field : MethodName := ⟨RX12, "field", "(I)J"⟩
abbrev cX12_field : ByteArray := prog_1_method_22_code
def yX12_height : MethodName := ⟨RX12, "height", "(III)I"⟩
abbrev cX12_height : ByteArray := prog_1_method_12_code
def yX12_improve : MethodName := ⟨RX12, "improve", "(II)I"⟩
abbrev cX12_improve : ByteArray := prog_1_method_28_code
def yX12_init : MethodName := ⟨RX12, "<init>", "()V"⟩
abbrev cX12_init : ByteArray := prog_1_method_1_code
def yX12_length : MethodName := ⟨RX12, "length", "(II)I"⟩
abbrev cX12_length : ByteArray := prog_1_method_8_code
def yX12_local : MethodName := ⟨RX12, "local", "(IIII)I"⟩
abbrev cX12_local : ByteArray := prog_1_method_13_code
def yX12_method : MethodName := ⟨RX12, "method", "()I"⟩
abbrev cX12_method : ByteArray := prog_1_method_10_code
def yX12_place : MethodName := ⟨RX12, "place", "()I"⟩
abbrev cX12_place : ByteArray := prog_1_method_6_code
def yX12_result : MethodName := ⟨RX12, "result", "()J"⟩
abbrev cX12_result : ByteArray := prog_1_method_19_code
def yX12_rowAt : MethodName := ⟨RX12, "rowAt", "(II)LCodeFoundry$Row;"⟩
abbrev cX12_rowAt : ByteArray := prog_1_method_34_code
def yX12_rule : MethodName := ⟨RX12, "rule", "()I"⟩
abbrev cX12_rule : ByteArray := prog_1_method_5_code
def yX12_run : MethodName := ⟨RX12, "run", "(II)I"⟩
abbrev cX12_run : ByteArray := prog_1_method_18_code
def yX12_size : MethodName := ⟨RX12, "size", "(II)I"⟩
abbrev cX12_size : ByteArray := prog_1_method_7_code
def yX12_soundUnitAt : MethodName := ⟨RX12, "soundUnitAt", "(I)LCodeFoundry$Unit;"⟩
abbrev cX12_soundUnitAt : ByteArray := prog_1_method_33_code
def yX12_stage : MethodName := ⟨RX12, "stage", "(I)Z"⟩
abbrev cX12_stage : ByteArray := prog_1_method_16_code
def yX12_steps : MethodName := ⟨RX12, "steps", "()I"⟩
abbrev cX12_steps : ByteArray := prog_1_method_21_code
def yX12_strays : MethodName := ⟨RX12, "strays", "()I"⟩
abbrev cX12_strays : ByteArray := prog_1_method_31_code
def yX12_unitAt : MethodName := ⟨RX12, "unitAt", "(I)LCodeFoundry$Unit;"⟩
abbrev cX12_unitAt : ByteArray := prog_1_method_32_code
def yX12_verify : MethodName := ⟨RX12, "verify", "(I)I"⟩
abbrev cX12_verify : ByteArray := prog_1_method_9_code
def yX12_write : MethodName := ⟨RX12, "write", "(I)I"⟩
abbrev cX12_write : ByteArray := prog_1_method_14_code
def yX13_init : MethodName := ⟨RX13, "<init>", "()V"⟩
abbrev cX13_init : ByteArray := prog_16_method_1_code
def yX1_init : MethodName := ⟨RX1, "<init>", "()V"⟩
abbrev cX1_init : ByteArray := prog_3_method_1_code
def yX2_init : MethodName := ⟨RX2, "<init>", "()V"⟩
abbrev cX2_init : ByteArray := prog_4_method_1_code
def yX3_init : MethodName := ⟨RX3, "<init>", "()V"⟩
abbrev cX3_init : ByteArray := prog_5_method_1_code
def yX4_init : MethodName := ⟨RX4, "<init>", "()V"⟩
abbrev cX4_init : ByteArray := prog_6_method_1_code
def yX5_addArgument : MethodName := ⟨RX5, "addArgument", "(J)I"⟩
abbrev cX5_addArgument : ByteArray := prog_7_method_3_code
def yX5_elementAt : MethodName := ⟨RX5, "elementAt", "(II)I"⟩
abbrev cX5_elementAt : ByteArray := prog_7_method_6_code
def yX5_fieldAt : MethodName := ⟨RX5, "fieldAt", "(I)J"⟩
abbrev cX5_fieldAt : ByteArray := prog_7_method_4_code
def yX5_init : MethodName := ⟨RX5, "<init>", "()V"⟩
abbrev cX5_init : ByteArray := prog_7_method_1_code
def yX5_isArray : MethodName := ⟨RX5, "isArray", "(J)Z"⟩
abbrev cX5_isArray : ByteArray := prog_7_method_7_code
def yX5_lengthOf : MethodName := ⟨RX5, "lengthOf", "(I)I"⟩
abbrev cX5_lengthOf : ByteArray := prog_7_method_5_code
def yX5_refusal : MethodName := ⟨RX5, "refusal", "(II)I"⟩
abbrev cX5_refusal : ByteArray := prog_7_method_10_code
def yX7_init : MethodName := ⟨RX7, "<init>", "()V"⟩
abbrev cX7_init : ByteArray := prog_9_method_1_code
def yX8_init : MethodName := ⟨RX8, "<init>", "(III)V"⟩
abbrev cX8_init : ByteArray := prog_10_method_1_code
def yX9_appliedAt : MethodName := ⟨RX9, "appliedAt", "(I)I"⟩
abbrev cX9_appliedAt : ByteArray := prog_11_method_3_code
def yX9_forgetApplied : MethodName := ⟨RX9, "forgetApplied", "()V"⟩
abbrev cX9_forgetApplied : ByteArray := prog_11_method_2_code
def yX9_init : MethodName := ⟨RX9, "<init>", "()V"⟩
abbrev cX9_init : ByteArray := prog_11_method_1_code
def cl0 : List vw_C := [(RX0, TX0, 2), (RX1, TX1, 10), (RX2, TX2, 12), (RX3, TX3, 16), (RX4, TX4, 8), (RX5, TX5, 20), (RX7, TX7, 17), (RX8, TX8, 15), (RX9, TX9, 6), (RX11, TX11, 18), (RX12, TX12, 18), (RX13, TX13, 23), (RX14, TX14, 143), (RJxb5711, TJxb5711, 0)]
end
section
theorem dJ7_fill_53178_0 : decode cJ7_fill_53178 0 = .ok (.iconst 0, 1) := by decide +kernel
theorem dJ7_fill_53178_1 : decode cJ7_fill_53178 1 = .ok (.istore_n 2, 1) := by decide +kernel
theorem dJ7_fill_53178_2 : decode cJ7_fill_53178 2 = .ok (.aload_n 0, 1) := by decide +kernel
theorem dJ7_fill_53178_3 : decode cJ7_fill_53178 3 = .ok (.arraylength, 1) := by decide +kernel
theorem dJ7_fill_53178_4 : decode cJ7_fill_53178 4 = .ok (.istore_n 3, 1) := by decide +kernel
theorem dJ7_fill_53178_5 : decode cJ7_fill_53178 5 = .ok (.iload_n 2, 1) := by decide +kernel
theorem dJ7_fill_53178_6 : decode cJ7_fill_53178 6 = .ok (.iload_n 3, 1) := by decide +kernel
theorem dJ7_fill_53178_7 : decode cJ7_fill_53178 7 = .ok (.if_icmp .ge 13, 3) := by decide +kernel
theorem dJ7_fill_53178_10 : decode cJ7_fill_53178 10 = .ok (.aload_n 0, 1) := by decide +kernel
theorem dJ7_fill_53178_11 : decode cJ7_fill_53178 11 = .ok (.iload_n 2, 1) := by decide +kernel
theorem dJ7_fill_53178_12 : decode cJ7_fill_53178 12 = .ok (.iload_n 1, 1) := by decide +kernel
theorem dJ7_fill_53178_13 : decode cJ7_fill_53178 13 = .ok (.iastore, 1) := by decide +kernel
theorem dJ7_fill_53178_14 : decode cJ7_fill_53178 14 = .ok (.iinc 2 1, 3) := by decide +kernel
theorem dJ7_fill_53178_17 : decode cJ7_fill_53178 17 = .ok (.goto (-12), 3) := by decide +kernel
theorem dJ7_fill_53178_20 : decode cJ7_fill_53178 20 = .ok (.return_, 1) := by decide +kernel
theorem dX0_init_0 : decode cX0_init 0 = .ok (.aload_n 0, 1) := by decide +kernel
theorem dX0_init_1 : decode cX0_init 1 = .ok (.invokespecial 1, 3) := by decide +kernel
theorem dX0_init_4 : decode cX0_init 4 = .ok (.aload_n 0, 1) := by decide +kernel
theorem dX0_init_5 : decode cX0_init 5 = .ok (.bipush 64, 2) := by decide +kernel
theorem dX0_init_7 : decode cX0_init 7 = .ok (.newarray .byte, 2) := by decide +kernel
theorem dX0_init_9 : decode cX0_init 9 = .ok (.putfield 7, 3) := by decide +kernel
theorem dX0_init_12 : decode cX0_init 12 = .ok (.return_, 1) := by decide +kernel
theorem dX0_put_0 : decode cX0_put 0 = .ok (.aload_n 0, 1) := by decide +kernel
theorem dX0_put_1 : decode cX0_put 1 = .ok (.getfield 13, 3) := by decide +kernel
theorem dX0_put_4 : decode cX0_put 4 = .ok (.aload_n 0, 1) := by decide +kernel
theorem dX0_put_5 : decode cX0_put 5 = .ok (.getfield 7, 3) := by decide +kernel
theorem dX0_put_8 : decode cX0_put 8 = .ok (.arraylength, 1) := by decide +kernel
theorem dX0_put_9 : decode cX0_put 9 = .ok (.if_icmp .lt 21, 3) := by decide +kernel
theorem dX0_put_30 : decode cX0_put 30 = .ok (.aload_n 0, 1) := by decide +kernel
theorem dX0_put_31 : decode cX0_put 31 = .ok (.getfield 7, 3) := by decide +kernel
theorem dX0_put_34 : decode cX0_put 34 = .ok (.aload_n 0, 1) := by decide +kernel
theorem dX0_put_35 : decode cX0_put 35 = .ok (.getfield 13, 3) := by decide +kernel
theorem dX0_put_38 : decode cX0_put 38 = .ok (.iload_n 1, 1) := by decide +kernel
theorem dX0_put_39 : decode cX0_put 39 = .ok (.i2b, 1) := by decide +kernel
theorem dX0_put_40 : decode cX0_put 40 = .ok (.bastore, 1) := by decide +kernel
theorem dX0_put_41 : decode cX0_put 41 = .ok (.aload_n 0, 1) := by decide +kernel
theorem dX0_put_42 : decode cX0_put 42 = .ok (.dup, 1) := by decide +kernel
theorem dX0_put_43 : decode cX0_put 43 = .ok (.getfield 13, 3) := by decide +kernel
theorem dX0_put_46 : decode cX0_put 46 = .ok (.iconst 1, 1) := by decide +kernel
theorem dX0_put_47 : decode cX0_put 47 = .ok (.iadd, 1) := by decide +kernel
theorem dX0_put_48 : decode cX0_put 48 = .ok (.putfield 13, 3) := by decide +kernel
theorem dX0_put_51 : decode cX0_put 51 = .ok (.return_, 1) := by decide +kernel
theorem dX0_put2_0 : decode cX0_put2 0 = .ok (.aload_n 0, 1) := by decide +kernel
theorem dX0_put2_1 : decode cX0_put2 1 = .ok (.iload_n 1, 1) := by decide +kernel
theorem dX0_put2_2 : decode cX0_put2 2 = .ok (.bipush 8, 2) := by decide +kernel
theorem dX0_put2_4 : decode cX0_put2 4 = .ok (.ishr, 1) := by decide +kernel
theorem dX0_put2_5 : decode cX0_put2 5 = .ok (.invokevirtual 23, 3) := by decide +kernel
theorem dX0_put2_8 : decode cX0_put2 8 = .ok (.aload_n 0, 1) := by decide +kernel
theorem dX0_put2_9 : decode cX0_put2 9 = .ok (.iload_n 1, 1) := by decide +kernel
theorem dX0_put2_10 : decode cX0_put2 10 = .ok (.invokevirtual 23, 3) := by decide +kernel
theorem dX0_put2_13 : decode cX0_put2 13 = .ok (.return_, 1) := by decide +kernel
theorem dX0_put4_0 : decode cX0_put4 0 = .ok (.aload_n 0, 1) := by decide +kernel
theorem dX0_put4_1 : decode cX0_put4 1 = .ok (.iload_n 1, 1) := by decide +kernel
theorem dX0_put4_2 : decode cX0_put4 2 = .ok (.bipush 16, 2) := by decide +kernel
theorem dX0_put4_4 : decode cX0_put4 4 = .ok (.ishr, 1) := by decide +kernel
theorem dX0_put4_5 : decode cX0_put4 5 = .ok (.invokevirtual 27, 3) := by decide +kernel
theorem dX0_put4_8 : decode cX0_put4 8 = .ok (.aload_n 0, 1) := by decide +kernel
theorem dX0_put4_9 : decode cX0_put4 9 = .ok (.iload_n 1, 1) := by decide +kernel
theorem dX0_put4_10 : decode cX0_put4 10 = .ok (.invokevirtual 27, 3) := by decide +kernel
theorem dX0_put4_13 : decode cX0_put4 13 = .ok (.return_, 1) := by decide +kernel
theorem dX11_init_0 : decode cX11_init 0 = .ok (.aload_n 0, 1) := by decide +kernel
theorem dX11_init_1 : decode cX11_init 1 = .ok (.invokespecial 3, 3) := by decide +kernel
theorem dX11_init_4 : decode cX11_init 4 = .ok (.aload_n 0, 1) := by decide +kernel
theorem dX11_init_5 : decode cX11_init 5 = .ok (.new 9, 3) := by decide +kernel
theorem dX11_init_8 : decode cX11_init 8 = .ok (.dup, 1) := by decide +kernel
theorem dX11_init_9 : decode cX11_init 9 = .ok (.invokespecial 11, 3) := by decide +kernel
theorem dX11_init_12 : decode cX11_init 12 = .ok (.putfield 12, 3) := by decide +kernel
theorem dX11_init_15 : decode cX11_init 15 = .ok (.aload_n 0, 1) := by decide +kernel
theorem dX11_init_16 : decode cX11_init 16 = .ok (.new 9, 3) := by decide +kernel
theorem dX11_init_19 : decode cX11_init 19 = .ok (.dup, 1) := by decide +kernel
theorem dX11_init_20 : decode cX11_init 20 = .ok (.invokespecial 11, 3) := by decide +kernel
theorem dX11_init_23 : decode cX11_init 23 = .ok (.putfield 18, 3) := by decide +kernel
theorem dX11_init_26 : decode cX11_init 26 = .ok (.aload_n 0, 1) := by decide +kernel
theorem dX11_init_27 : decode cX11_init 27 = .ok (.new 9, 3) := by decide +kernel
theorem dX11_init_30 : decode cX11_init 30 = .ok (.dup, 1) := by decide +kernel
theorem dX11_init_31 : decode cX11_init 31 = .ok (.invokespecial 11, 3) := by decide +kernel
theorem dX11_init_34 : decode cX11_init 34 = .ok (.putfield 21, 3) := by decide +kernel
theorem dX11_init_37 : decode cX11_init 37 = .ok (.aload_n 0, 1) := by decide +kernel
theorem dX11_init_38 : decode cX11_init 38 = .ok (.sipush 500, 3) := by decide +kernel
theorem dX11_init_41 : decode cX11_init 41 = .ok (.newarray .int, 2) := by decide +kernel
theorem dX11_init_43 : decode cX11_init 43 = .ok (.putfield 24, 3) := by decide +kernel
theorem dX11_init_46 : decode cX11_init 46 = .ok (.aload_n 0, 1) := by decide +kernel
theorem dX11_init_47 : decode cX11_init 47 = .ok (.sipush 500, 3) := by decide +kernel
theorem dX11_init_50 : decode cX11_init 50 = .ok (.newarray .int, 2) := by decide +kernel
theorem dX11_init_52 : decode cX11_init 52 = .ok (.putfield 28, 3) := by decide +kernel
theorem dX11_init_55 : decode cX11_init 55 = .ok (.aload_n 0, 1) := by decide +kernel
theorem dX11_init_56 : decode cX11_init 56 = .ok (.bipush 24, 2) := by decide +kernel
theorem dX11_init_58 : decode cX11_init 58 = .ok (.newarray .int, 2) := by decide +kernel
theorem dX11_init_60 : decode cX11_init 60 = .ok (.putfield 31, 3) := by decide +kernel
theorem dX11_init_63 : decode cX11_init 63 = .ok (.aload_n 0, 1) := by decide +kernel
theorem dX11_init_64 : decode cX11_init 64 = .ok (.bipush 24, 2) := by decide +kernel
theorem dX11_init_66 : decode cX11_init 66 = .ok (.newarray .int, 2) := by decide +kernel
theorem dX11_init_68 : decode cX11_init 68 = .ok (.putfield 34, 3) := by decide +kernel
theorem dX11_init_71 : decode cX11_init 71 = .ok (.aload_n 0, 1) := by decide +kernel
theorem dX11_init_72 : decode cX11_init 72 = .ok (.bipush 24, 2) := by decide +kernel
theorem dX11_init_74 : decode cX11_init 74 = .ok (.newarray .int, 2) := by decide +kernel
theorem dX11_init_76 : decode cX11_init 76 = .ok (.putfield 37, 3) := by decide +kernel
theorem dX11_init_79 : decode cX11_init 79 = .ok (.aload_n 0, 1) := by decide +kernel
theorem dX11_init_80 : decode cX11_init 80 = .ok (.bipush 24, 2) := by decide +kernel
theorem dX11_init_82 : decode cX11_init 82 = .ok (.newarray .int, 2) := by decide +kernel
theorem dX11_init_84 : decode cX11_init 84 = .ok (.putfield 40, 3) := by decide +kernel
theorem dX11_init_87 : decode cX11_init 87 = .ok (.aload_n 0, 1) := by decide +kernel
theorem dX11_init_88 : decode cX11_init 88 = .ok (.new 43, 3) := by decide +kernel
theorem dX11_init_91 : decode cX11_init 91 = .ok (.dup, 1) := by decide +kernel
theorem dX11_init_92 : decode cX11_init 92 = .ok (.invokespecial 45, 3) := by decide +kernel
theorem dX11_init_95 : decode cX11_init 95 = .ok (.putfield 46, 3) := by decide +kernel
theorem dX11_init_98 : decode cX11_init 98 = .ok (.aload_n 0, 1) := by decide +kernel
theorem dX11_init_99 : decode cX11_init 99 = .ok (.iconst 0, 1) := by decide +kernel
theorem dX11_init_100 : decode cX11_init 100 = .ok (.newarray .int, 2) := by decide +kernel
theorem dX11_init_102 : decode cX11_init 102 = .ok (.putfield 50, 3) := by decide +kernel
theorem dX11_init_105 : decode cX11_init 105 = .ok (.aload_n 0, 1) := by decide +kernel
theorem dX11_init_106 : decode cX11_init 106 = .ok (.iconst 0, 1) := by decide +kernel
theorem dX11_init_107 : decode cX11_init 107 = .ok (.newarray .int, 2) := by decide +kernel
theorem dX11_init_109 : decode cX11_init 109 = .ok (.putfield 53, 3) := by decide +kernel
theorem dX11_init_112 : decode cX11_init 112 = .ok (.return_, 1) := by decide +kernel
theorem dX12_applied_0 : decode cX12_applied 0 = .ok (.aload_n 0, 1) := by decide +kernel
theorem dX12_applied_1 : decode cX12_applied 1 = .ok (.getfield 66, 3) := by decide +kernel
theorem dX12_applied_4 : decode cX12_applied 4 = .ok (.iload_n 1, 1) := by decide +kernel
theorem dX12_applied_5 : decode cX12_applied 5 = .ok (.invokevirtual 244, 3) := by decide +kernel
theorem dX12_applied_8 : decode cX12_applied 8 = .ok (.ireturn, 1) := by decide +kernel
theorem dX12_argument_0 : decode cX12_argument 0 = .ok (.aload_n 0, 1) := by decide +kernel
theorem dX12_argument_1 : decode cX12_argument 1 = .ok (.getfield 52, 3) := by decide +kernel
theorem dX12_argument_4 : decode cX12_argument 4 = .ok (.lload_n 1, 1) := by decide +kernel
theorem dX12_argument_5 : decode cX12_argument 5 = .ok (.invokevirtual 182, 3) := by decide +kernel
theorem dX12_argument_8 : decode cX12_argument 8 = .ok (.ireturn, 1) := by decide +kernel
theorem dX12_arrayLength_0 : decode cX12_arrayLength 0 = .ok (.aload_n 0, 1) := by decide +kernel
theorem dX12_arrayLength_1 : decode cX12_arrayLength 1 = .ok (.getfield 52, 3) := by decide +kernel
theorem dX12_arrayLength_4 : decode cX12_arrayLength 4 = .ok (.iload_n 1, 1) := by decide +kernel
theorem dX12_arrayLength_5 : decode cX12_arrayLength 5 = .ok (.invokevirtual 212, 3) := by decide +kernel
theorem dX12_arrayLength_8 : decode cX12_arrayLength 8 = .ok (.ireturn, 1) := by decide +kernel
theorem dX12_at_0 : decode cX12_at 0 = .ok (.aload_n 0, 1) := by decide +kernel
theorem dX12_at_1 : decode cX12_at 1 = .ok (.getfield 77, 3) := by decide +kernel
theorem dX12_at_4 : decode cX12_at 4 = .ok (.ireturn, 1) := by decide +kernel
theorem dX12_block_0 : decode cX12_block 0 = .ok (.aload_n 0, 1) := by decide +kernel
theorem dX12_block_1 : decode cX12_block 1 = .ok (.iload_n 1, 1) := by decide +kernel
theorem dX12_block_2 : decode cX12_block 2 = .ok (.iload_n 2, 1) := by decide +kernel
theorem dX12_block_3 : decode cX12_block 3 = .ok (.invokevirtual 132, 3) := by decide +kernel
theorem dX12_block_6 : decode cX12_block 6 = .ok (.astore 5, 2) := by decide +kernel
theorem dX12_block_8 : decode cX12_block 8 = .ok (.aload 5, 2) := by decide +kernel
theorem dX12_block_10 : decode cX12_block 10 = .ok (.ifnonnull 5, 3) := by decide +kernel
theorem dX12_block_13 : decode cX12_block 13 = .ok (.iconst (-1), 1) := by decide +kernel
theorem dX12_block_14 : decode cX12_block 14 = .ok (.ireturn, 1) := by decide +kernel
theorem dX12_blocks_0 : decode cX12_blocks 0 = .ok (.aload_n 0, 1) := by decide +kernel
theorem dX12_blocks_1 : decode cX12_blocks 1 = .ok (.iload_n 1, 1) := by decide +kernel
theorem dX12_blocks_2 : decode cX12_blocks 2 = .ok (.iload_n 2, 1) := by decide +kernel
theorem dX12_blocks_3 : decode cX12_blocks 3 = .ok (.invokevirtual 132, 3) := by decide +kernel
theorem dX12_blocks_6 : decode cX12_blocks 6 = .ok (.astore_n 3, 1) := by decide +kernel
theorem dX12_blocks_7 : decode cX12_blocks 7 = .ok (.aload_n 3, 1) := by decide +kernel
theorem dX12_blocks_8 : decode cX12_blocks 8 = .ok (.ifnonnull 5, 3) := by decide +kernel
theorem dX12_blocks_11 : decode cX12_blocks 11 = .ok (.iconst (-1), 1) := by decide +kernel
end
section
theorem dX12_blocks_12 : decode cX12_blocks 12 = .ok (.ireturn, 1) := by decide +kernel
theorem dX12_byteAt_0 : decode cX12_byteAt 0 = .ok (.iload_n 1, 1) := by decide +kernel
theorem dX12_byteAt_1 : decode cX12_byteAt 1 = .ok (.ifCond .lt 14, 3) := by decide +kernel
theorem dX12_byteAt_4 : decode cX12_byteAt 4 = .ok (.iload_n 1, 1) := by decide +kernel
theorem dX12_byteAt_5 : decode cX12_byteAt 5 = .ok (.aload_n 0, 1) := by decide +kernel
theorem dX12_byteAt_6 : decode cX12_byteAt 6 = .ok (.getfield 16, 3) := by decide +kernel
theorem dX12_byteAt_9 : decode cX12_byteAt 9 = .ok (.getfield 83, 3) := by decide +kernel
theorem dX12_byteAt_12 : decode cX12_byteAt 12 = .ok (.if_icmp .lt 7, 3) := by decide +kernel
theorem dX12_byteAt_15 : decode cX12_byteAt 15 = .ok (.iconst (-1), 1) := by decide +kernel
theorem dX12_byteAt_16 : decode cX12_byteAt 16 = .ok (.goto 11, 3) := by decide +kernel
theorem dX12_byteAt_27 : decode cX12_byteAt 27 = .ok (.ireturn, 1) := by decide +kernel
theorem dX12_count_0 : decode cX12_count 0 = .ok (.aload_n 0, 1) := by decide +kernel
theorem dX12_count_1 : decode cX12_count 1 = .ok (.iload_n 1, 1) := by decide +kernel
theorem dX12_count_2 : decode cX12_count 2 = .ok (.invokevirtual 152, 3) := by decide +kernel
theorem dX12_count_5 : decode cX12_count 5 = .ok (.astore_n 2, 1) := by decide +kernel
theorem dX12_count_6 : decode cX12_count 6 = .ok (.aload_n 2, 1) := by decide +kernel
theorem dX12_count_7 : decode cX12_count 7 = .ok (.ifnonnull 5, 3) := by decide +kernel
theorem dX12_count_10 : decode cX12_count 10 = .ok (.iconst (-1), 1) := by decide +kernel
theorem dX12_count_11 : decode cX12_count 11 = .ok (.ireturn, 1) := by decide +kernel
theorem dX12_edge_0 : decode cX12_edge 0 = .ok (.aload_n 0, 1) := by decide +kernel
theorem dX12_edge_1 : decode cX12_edge 1 = .ok (.iload_n 1, 1) := by decide +kernel
theorem dX12_edge_2 : decode cX12_edge 2 = .ok (.iload_n 2, 1) := by decide +kernel
theorem dX12_edge_3 : decode cX12_edge 3 = .ok (.invokevirtual 132, 3) := by decide +kernel
theorem dX12_edge_6 : decode cX12_edge 6 = .ok (.astore 5, 2) := by decide +kernel
theorem dX12_edge_8 : decode cX12_edge 8 = .ok (.aload 5, 2) := by decide +kernel
theorem dX12_edge_10 : decode cX12_edge 10 = .ok (.ifnonnull 5, 3) := by decide +kernel
theorem dX12_edge_13 : decode cX12_edge 13 = .ok (.iconst 0, 1) := by decide +kernel
theorem dX12_edge_14 : decode cX12_edge 14 = .ok (.ireturn, 1) := by decide +kernel
theorem dX12_element_0 : decode cX12_element 0 = .ok (.aload_n 0, 1) := by decide +kernel
theorem dX12_element_1 : decode cX12_element 1 = .ok (.getfield 52, 3) := by decide +kernel
theorem dX12_element_4 : decode cX12_element 4 = .ok (.iload_n 1, 1) := by decide +kernel
theorem dX12_element_5 : decode cX12_element 5 = .ok (.iload_n 2, 1) := by decide +kernel
theorem dX12_element_6 : decode cX12_element 6 = .ok (.invokevirtual 209, 3) := by decide +kernel
theorem dX12_element_9 : decode cX12_element 9 = .ok (.ireturn, 1) := by decide +kernel
theorem dX12_end_0 : decode cX12_end 0 = .ok (.iload_n 1, 1) := by decide +kernel
theorem dX12_end_1 : decode cX12_end 1 = .ok (.ifCond .lt 14, 3) := by decide +kernel
theorem dX12_end_4 : decode cX12_end 4 = .ok (.iload_n 1, 1) := by decide +kernel
theorem dX12_end_5 : decode cX12_end 5 = .ok (.aload_n 0, 1) := by decide +kernel
theorem dX12_end_6 : decode cX12_end 6 = .ok (.getfield 10, 3) := by decide +kernel
theorem dX12_end_9 : decode cX12_end 9 = .ok (.getfield 83, 3) := by decide +kernel
theorem dX12_end_12 : decode cX12_end 12 = .ok (.if_icmp .le 5, 3) := by decide +kernel
theorem dX12_end_15 : decode cX12_end 15 = .ok (.iconst 0, 1) := by decide +kernel
theorem dX12_end_16 : decode cX12_end 16 = .ok (.ireturn, 1) := by decide +kernel
theorem dX12_end_17 : decode cX12_end 17 = .ok (.aload_n 0, 1) := by decide +kernel
theorem dX12_end_18 : decode cX12_end 18 = .ok (.getfield 10, 3) := by decide +kernel
theorem dX12_end_21 : decode cX12_end 21 = .ok (.iload_n 1, 1) := by decide +kernel
theorem dX12_end_22 : decode cX12_end 22 = .ok (.putfield 83, 3) := by decide +kernel
theorem dX12_end_25 : decode cX12_end 25 = .ok (.iconst 1, 1) := by decide +kernel
theorem dX12_end_26 : decode cX12_end 26 = .ok (.ireturn, 1) := by decide +kernel
theorem dX12_error_0 : decode cX12_error 0 = .ok (.aload_n 0, 1) := by decide +kernel
theorem dX12_error_1 : decode cX12_error 1 = .ok (.getfield 52, 3) := by decide +kernel
theorem dX12_error_4 : decode cX12_error 4 = .ok (.getfield 199, 3) := by decide +kernel
theorem dX12_error_7 : decode cX12_error 7 = .ok (.ireturn, 1) := by decide +kernel
theorem dX12_feed_0 : decode cX12_feed 0 = .ok (.aload_n 0, 1) := by decide +kernel
theorem dX12_feed_1 : decode cX12_feed 1 = .ok (.getfield 10, 3) := by decide +kernel
theorem dX12_feed_4 : decode cX12_feed 4 = .ok (.getfield 83, 3) := by decide +kernel
theorem dX12_feed_7 : decode cX12_feed 7 = .ok (.bipush 20, 2) := by decide +kernel
theorem dX12_feed_9 : decode cX12_feed 9 = .ok (.iadd, 1) := by decide +kernel
theorem dX12_feed_10 : decode cX12_feed 10 = .ok (.sipush 16000, 3) := by decide +kernel
theorem dX12_feed_13 : decode cX12_feed 13 = .ok (.if_icmp .gt 15, 3) := by decide +kernel
theorem dX12_feed_16 : decode cX12_feed 16 = .ok (.aload_n 0, 1) := by decide +kernel
theorem dX12_feed_17 : decode cX12_feed 17 = .ok (.getfield 86, 3) := by decide +kernel
theorem dX12_feed_20 : decode cX12_feed 20 = .ok (.bipush 20, 2) := by decide +kernel
theorem dX12_feed_22 : decode cX12_feed 22 = .ok (.iadd, 1) := by decide +kernel
theorem dX12_feed_23 : decode cX12_feed 23 = .ok (.ldc 89, 2) := by decide +kernel
theorem dX12_feed_25 : decode cX12_feed 25 = .ok (.if_icmp .le 5, 3) := by decide +kernel
theorem dX12_feed_30 : decode cX12_feed 30 = .ok (.aload_n 0, 1) := by decide +kernel
theorem dX12_feed_31 : decode cX12_feed 31 = .ok (.getfield 10, 3) := by decide +kernel
theorem dX12_feed_34 : decode cX12_feed 34 = .ok (.iload_n 1, 1) := by decide +kernel
theorem dX12_feed_35 : decode cX12_feed 35 = .ok (.invokevirtual 90, 3) := by decide +kernel
theorem dX12_feed_38 : decode cX12_feed 38 = .ok (.aload_n 0, 1) := by decide +kernel
theorem dX12_feed_39 : decode cX12_feed 39 = .ok (.getfield 10, 3) := by decide +kernel
theorem dX12_feed_42 : decode cX12_feed 42 = .ok (.iload_n 2, 1) := by decide +kernel
theorem dX12_feed_43 : decode cX12_feed 43 = .ok (.invokevirtual 90, 3) := by decide +kernel
theorem dX12_feed_46 : decode cX12_feed 46 = .ok (.aload_n 0, 1) := by decide +kernel
theorem dX12_feed_47 : decode cX12_feed 47 = .ok (.getfield 10, 3) := by decide +kernel
theorem dX12_feed_50 : decode cX12_feed 50 = .ok (.iload_n 3, 1) := by decide +kernel
theorem dX12_feed_51 : decode cX12_feed 51 = .ok (.invokevirtual 90, 3) := by decide +kernel
theorem dX12_feed_54 : decode cX12_feed 54 = .ok (.aload_n 0, 1) := by decide +kernel
theorem dX12_feed_55 : decode cX12_feed 55 = .ok (.getfield 10, 3) := by decide +kernel
theorem dX12_feed_58 : decode cX12_feed 58 = .ok (.iload 4, 2) := by decide +kernel
theorem dX12_feed_60 : decode cX12_feed 60 = .ok (.invokevirtual 90, 3) := by decide +kernel
theorem dX12_feed_63 : decode cX12_feed 63 = .ok (.aload_n 0, 1) := by decide +kernel
theorem dX12_feed_64 : decode cX12_feed 64 = .ok (.getfield 10, 3) := by decide +kernel
theorem dX12_feed_67 : decode cX12_feed 67 = .ok (.iload 5, 2) := by decide +kernel
theorem dX12_feed_69 : decode cX12_feed 69 = .ok (.invokevirtual 90, 3) := by decide +kernel
theorem dX12_feed_72 : decode cX12_feed 72 = .ok (.aload_n 0, 1) := by decide +kernel
theorem dX12_feed_73 : decode cX12_feed 73 = .ok (.dup, 1) := by decide +kernel
theorem dX12_feed_74 : decode cX12_feed 74 = .ok (.getfield 86, 3) := by decide +kernel
theorem dX12_feed_77 : decode cX12_feed 77 = .ok (.bipush 20, 2) := by decide +kernel
theorem dX12_feed_79 : decode cX12_feed 79 = .ok (.iadd, 1) := by decide +kernel
theorem dX12_feed_80 : decode cX12_feed 80 = .ok (.putfield 86, 3) := by decide +kernel
theorem dX12_feed_83 : decode cX12_feed 83 = .ok (.aload_n 0, 1) := by decide +kernel
theorem dX12_feed_84 : decode cX12_feed 84 = .ok (.getfield 10, 3) := by decide +kernel
theorem dX12_feed_87 : decode cX12_feed 87 = .ok (.getfield 83, 3) := by decide +kernel
theorem dX12_feed_90 : decode cX12_feed 90 = .ok (.ireturn, 1) := by decide +kernel
theorem dX12_field_0 : decode cX12_field 0 = .ok (.aload_n 0, 1) := by decide +kernel
theorem dX12_field_1 : decode cX12_field 1 = .ok (.getfield 52, 3) := by decide +kernel
theorem dX12_field_4 : decode cX12_field 4 = .ok (.iload_n 1, 1) := by decide +kernel
theorem dX12_field_5 : decode cX12_field 5 = .ok (.invokevirtual 205, 3) := by decide +kernel
theorem dX12_field_8 : decode cX12_field 8 = .ok (.lreturn, 1) := by decide +kernel
theorem dX12_height_0 : decode cX12_height 0 = .ok (.aload_n 0, 1) := by decide +kernel
theorem dX12_height_1 : decode cX12_height 1 = .ok (.iload_n 1, 1) := by decide +kernel
theorem dX12_height_2 : decode cX12_height 2 = .ok (.invokevirtual 152, 3) := by decide +kernel
theorem dX12_height_5 : decode cX12_height 5 = .ok (.ifnonnull 7, 3) := by decide +kernel
theorem dX12_height_8 : decode cX12_height 8 = .ok (.aconst_null, 1) := by decide +kernel
theorem dX12_height_9 : decode cX12_height 9 = .ok (.goto 9, 3) := by decide +kernel
theorem dX12_height_18 : decode cX12_height 18 = .ok (.astore 4, 2) := by decide +kernel
theorem dX12_height_20 : decode cX12_height 20 = .ok (.aload 4, 2) := by decide +kernel
theorem dX12_height_22 : decode cX12_height 22 = .ok (.ifnonnull 7, 3) := by decide +kernel
theorem dX12_height_25 : decode cX12_height 25 = .ok (.iconst (-1), 1) := by decide +kernel
theorem dX12_height_26 : decode cX12_height 26 = .ok (.goto 9, 3) := by decide +kernel
theorem dX12_height_35 : decode cX12_height 35 = .ok (.ireturn, 1) := by decide +kernel
theorem dX12_improve_0 : decode cX12_improve 0 = .ok (.aload_n 0, 1) := by decide +kernel
theorem dX12_improve_1 : decode cX12_improve 1 = .ok (.getfield 66, 3) := by decide +kernel
theorem dX12_improve_4 : decode cX12_improve 4 = .ok (.invokevirtual 226, 3) := by decide +kernel
theorem dX12_improve_7 : decode cX12_improve 7 = .ok (.aload_n 0, 1) := by decide +kernel
theorem dX12_improve_8 : decode cX12_improve 8 = .ok (.iload_n 1, 1) := by decide +kernel
theorem dX12_improve_9 : decode cX12_improve 9 = .ok (.invokevirtual 152, 3) := by decide +kernel
theorem dX12_improve_12 : decode cX12_improve 12 = .ok (.astore_n 3, 1) := by decide +kernel
theorem dX12_improve_13 : decode cX12_improve 13 = .ok (.aload_n 3, 1) := by decide +kernel
theorem dX12_improve_14 : decode cX12_improve 14 = .ok (.ifnull 14, 3) := by decide +kernel
theorem dX12_improve_28 : decode cX12_improve 28 = .ok (.iconst (-1), 1) := by decide +kernel
theorem dX12_improve_29 : decode cX12_improve 29 = .ok (.ireturn, 1) := by decide +kernel
theorem dX12_init_0 : decode cX12_init 0 = .ok (.aload_n 0, 1) := by decide +kernel
theorem dX12_init_1 : decode cX12_init 1 = .ok (.invokespecial 1, 3) := by decide +kernel
theorem dX12_init_4 : decode cX12_init 4 = .ok (.aload_n 0, 1) := by decide +kernel
theorem dX12_init_5 : decode cX12_init 5 = .ok (.new 7, 3) := by decide +kernel
theorem dX12_init_8 : decode cX12_init 8 = .ok (.dup, 1) := by decide +kernel
theorem dX12_init_9 : decode cX12_init 9 = .ok (.invokespecial 9, 3) := by decide +kernel
theorem dX12_init_12 : decode cX12_init 12 = .ok (.putfield 10, 3) := by decide +kernel
theorem dX12_init_15 : decode cX12_init 15 = .ok (.aload_n 0, 1) := by decide +kernel
theorem dX12_init_16 : decode cX12_init 16 = .ok (.new 7, 3) := by decide +kernel
theorem dX12_init_19 : decode cX12_init 19 = .ok (.dup, 1) := by decide +kernel
theorem dX12_init_20 : decode cX12_init 20 = .ok (.invokespecial 9, 3) := by decide +kernel
theorem dX12_init_23 : decode cX12_init 23 = .ok (.putfield 16, 3) := by decide +kernel
theorem dX12_init_26 : decode cX12_init 26 = .ok (.aload_n 0, 1) := by decide +kernel
theorem dX12_init_27 : decode cX12_init 27 = .ok (.new 7, 3) := by decide +kernel
theorem dX12_init_30 : decode cX12_init 30 = .ok (.dup, 1) := by decide +kernel
theorem dX12_init_31 : decode cX12_init 31 = .ok (.invokespecial 9, 3) := by decide +kernel
theorem dX12_init_34 : decode cX12_init 34 = .ok (.putfield 19, 3) := by decide +kernel
theorem dX12_init_37 : decode cX12_init 37 = .ok (.aload_n 0, 1) := by decide +kernel
theorem dX12_init_38 : decode cX12_init 38 = .ok (.bipush 12, 2) := by decide +kernel
theorem dX12_init_40 : decode cX12_init 40 = .ok (.anewarray 22, 3) := by decide +kernel
theorem dX12_init_43 : decode cX12_init 43 = .ok (.putfield 24, 3) := by decide +kernel
theorem dX12_init_46 : decode cX12_init 46 = .ok (.aload_n 0, 1) := by decide +kernel
theorem dX12_init_47 : decode cX12_init 47 = .ok (.new 28, 3) := by decide +kernel
theorem dX12_init_50 : decode cX12_init 50 = .ok (.dup, 1) := by decide +kernel
theorem dX12_init_51 : decode cX12_init 51 = .ok (.invokespecial 30, 3) := by decide +kernel
theorem dX12_init_54 : decode cX12_init 54 = .ok (.putfield 31, 3) := by decide +kernel
end
section
theorem dX12_init_57 : decode cX12_init 57 = .ok (.aload_n 0, 1) := by decide +kernel
theorem dX12_init_58 : decode cX12_init 58 = .ok (.new 35, 3) := by decide +kernel
theorem dX12_init_61 : decode cX12_init 61 = .ok (.dup, 1) := by decide +kernel
theorem dX12_init_62 : decode cX12_init 62 = .ok (.invokespecial 37, 3) := by decide +kernel
theorem dX12_init_65 : decode cX12_init 65 = .ok (.putfield 38, 3) := by decide +kernel
theorem dX12_init_68 : decode cX12_init 68 = .ok (.aload_n 0, 1) := by decide +kernel
theorem dX12_init_69 : decode cX12_init 69 = .ok (.new 42, 3) := by decide +kernel
theorem dX12_init_72 : decode cX12_init 72 = .ok (.dup, 1) := by decide +kernel
theorem dX12_init_73 : decode cX12_init 73 = .ok (.invokespecial 44, 3) := by decide +kernel
theorem dX12_init_76 : decode cX12_init 76 = .ok (.putfield 45, 3) := by decide +kernel
theorem dX12_init_79 : decode cX12_init 79 = .ok (.aload_n 0, 1) := by decide +kernel
theorem dX12_init_80 : decode cX12_init 80 = .ok (.new 49, 3) := by decide +kernel
theorem dX12_init_83 : decode cX12_init 83 = .ok (.dup, 1) := by decide +kernel
theorem dX12_init_84 : decode cX12_init 84 = .ok (.invokespecial 51, 3) := by decide +kernel
theorem dX12_init_87 : decode cX12_init 87 = .ok (.putfield 52, 3) := by decide +kernel
theorem dX12_init_90 : decode cX12_init 90 = .ok (.aload_n 0, 1) := by decide +kernel
theorem dX12_init_91 : decode cX12_init 91 = .ok (.new 56, 3) := by decide +kernel
theorem dX12_init_94 : decode cX12_init 94 = .ok (.dup, 1) := by decide +kernel
theorem dX12_init_95 : decode cX12_init 95 = .ok (.invokespecial 58, 3) := by decide +kernel
theorem dX12_init_98 : decode cX12_init 98 = .ok (.putfield 59, 3) := by decide +kernel
theorem dX12_init_101 : decode cX12_init 101 = .ok (.aload_n 0, 1) := by decide +kernel
theorem dX12_init_102 : decode cX12_init 102 = .ok (.new 63, 3) := by decide +kernel
theorem dX12_init_105 : decode cX12_init 105 = .ok (.dup, 1) := by decide +kernel
theorem dX12_init_106 : decode cX12_init 106 = .ok (.invokespecial 65, 3) := by decide +kernel
theorem dX12_init_109 : decode cX12_init 109 = .ok (.putfield 66, 3) := by decide +kernel
theorem dX12_init_112 : decode cX12_init 112 = .ok (.aload_n 0, 1) := by decide +kernel
theorem dX12_init_113 : decode cX12_init 113 = .ok (.iconst (-1), 1) := by decide +kernel
theorem dX12_init_114 : decode cX12_init 114 = .ok (.putfield 70, 3) := by decide +kernel
theorem dX12_init_117 : decode cX12_init 117 = .ok (.aload_n 0, 1) := by decide +kernel
theorem dX12_init_118 : decode cX12_init 118 = .ok (.iconst (-1), 1) := by decide +kernel
theorem dX12_init_119 : decode cX12_init 119 = .ok (.putfield 74, 3) := by decide +kernel
theorem dX12_init_122 : decode cX12_init 122 = .ok (.aload_n 0, 1) := by decide +kernel
theorem dX12_init_123 : decode cX12_init 123 = .ok (.iconst (-1), 1) := by decide +kernel
theorem dX12_init_124 : decode cX12_init 124 = .ok (.putfield 77, 3) := by decide +kernel
theorem dX12_init_127 : decode cX12_init 127 = .ok (.aload_n 0, 1) := by decide +kernel
theorem dX12_init_128 : decode cX12_init 128 = .ok (.iconst (-1), 1) := by decide +kernel
theorem dX12_init_129 : decode cX12_init 129 = .ok (.putfield 80, 3) := by decide +kernel
theorem dX12_init_132 : decode cX12_init 132 = .ok (.return_, 1) := by decide +kernel
theorem dX12_length_0 : decode cX12_length 0 = .ok (.aload_n 0, 1) := by decide +kernel
theorem dX12_length_1 : decode cX12_length 1 = .ok (.iload_n 1, 1) := by decide +kernel
theorem dX12_length_2 : decode cX12_length 2 = .ok (.iload_n 2, 1) := by decide +kernel
theorem dX12_length_3 : decode cX12_length 3 = .ok (.invokevirtual 132, 3) := by decide +kernel
theorem dX12_length_6 : decode cX12_length 6 = .ok (.astore_n 3, 1) := by decide +kernel
theorem dX12_length_7 : decode cX12_length 7 = .ok (.aload_n 3, 1) := by decide +kernel
theorem dX12_length_8 : decode cX12_length 8 = .ok (.ifnonnull 7, 3) := by decide +kernel
theorem dX12_length_11 : decode cX12_length 11 = .ok (.iconst (-1), 1) := by decide +kernel
theorem dX12_length_12 : decode cX12_length 12 = .ok (.goto 7, 3) := by decide +kernel
theorem dX12_length_19 : decode cX12_length 19 = .ok (.ireturn, 1) := by decide +kernel
theorem dX12_local_0 : decode cX12_local 0 = .ok (.aload_n 0, 1) := by decide +kernel
theorem dX12_local_1 : decode cX12_local 1 = .ok (.iload_n 1, 1) := by decide +kernel
theorem dX12_local_2 : decode cX12_local 2 = .ok (.invokevirtual 152, 3) := by decide +kernel
theorem dX12_local_5 : decode cX12_local 5 = .ok (.ifnonnull 7, 3) := by decide +kernel
theorem dX12_local_8 : decode cX12_local 8 = .ok (.aconst_null, 1) := by decide +kernel
theorem dX12_local_9 : decode cX12_local 9 = .ok (.goto 9, 3) := by decide +kernel
theorem dX12_local_18 : decode cX12_local 18 = .ok (.astore 5, 2) := by decide +kernel
theorem dX12_local_20 : decode cX12_local 20 = .ok (.aload 5, 2) := by decide +kernel
theorem dX12_local_22 : decode cX12_local 22 = .ok (.ifnull 24, 3) := by decide +kernel
theorem dX12_local_46 : decode cX12_local 46 = .ok (.iconst (-1), 1) := by decide +kernel
theorem dX12_local_47 : decode cX12_local 47 = .ok (.ireturn, 1) := by decide +kernel
theorem dX12_method_0 : decode cX12_method 0 = .ok (.aload_n 0, 1) := by decide +kernel
theorem dX12_method_1 : decode cX12_method 1 = .ok (.getfield 74, 3) := by decide +kernel
theorem dX12_method_4 : decode cX12_method 4 = .ok (.ireturn, 1) := by decide +kernel
theorem dX12_place_0 : decode cX12_place 0 = .ok (.aload_n 0, 1) := by decide +kernel
theorem dX12_place_1 : decode cX12_place 1 = .ok (.getfield 70, 3) := by decide +kernel
theorem dX12_place_4 : decode cX12_place 4 = .ok (.ireturn, 1) := by decide +kernel
theorem dX12_result_0 : decode cX12_result 0 = .ok (.aload_n 0, 1) := by decide +kernel
theorem dX12_result_1 : decode cX12_result 1 = .ok (.getfield 52, 3) := by decide +kernel
theorem dX12_result_4 : decode cX12_result 4 = .ok (.getfield 195, 3) := by decide +kernel
theorem dX12_result_7 : decode cX12_result 7 = .ok (.lreturn, 1) := by decide +kernel
theorem dX12_rowAt_0 : decode cX12_rowAt 0 = .ok (.aload_n 0, 1) := by decide +kernel
theorem dX12_rowAt_1 : decode cX12_rowAt 1 = .ok (.iload_n 1, 1) := by decide +kernel
theorem dX12_rowAt_2 : decode cX12_rowAt 2 = .ok (.invokevirtual 116, 3) := by decide +kernel
theorem dX12_rowAt_5 : decode cX12_rowAt 5 = .ok (.astore_n 3, 1) := by decide +kernel
theorem dX12_rowAt_6 : decode cX12_rowAt 6 = .ok (.aload_n 3, 1) := by decide +kernel
theorem dX12_rowAt_7 : decode cX12_rowAt 7 = .ok (.ifnonnull 7, 3) := by decide +kernel
theorem dX12_rowAt_10 : decode cX12_rowAt 10 = .ok (.aconst_null, 1) := by decide +kernel
theorem dX12_rowAt_11 : decode cX12_rowAt 11 = .ok (.goto 8, 3) := by decide +kernel
theorem dX12_rowAt_19 : decode cX12_rowAt 19 = .ok (.areturn, 1) := by decide +kernel
theorem dX12_rule_0 : decode cX12_rule 0 = .ok (.aload_n 0, 1) := by decide +kernel
theorem dX12_rule_1 : decode cX12_rule 1 = .ok (.getfield 110, 3) := by decide +kernel
theorem dX12_rule_4 : decode cX12_rule 4 = .ok (.ireturn, 1) := by decide +kernel
theorem dX12_run_0 : decode cX12_run 0 = .ok (.aload_n 0, 1) := by decide +kernel
theorem dX12_run_1 : decode cX12_run 1 = .ok (.getfield 52, 3) := by decide +kernel
theorem dX12_run_4 : decode cX12_run 4 = .ok (.iload_n 1, 1) := by decide +kernel
theorem dX12_run_5 : decode cX12_run 5 = .ok (.iload_n 2, 1) := by decide +kernel
theorem dX12_run_6 : decode cX12_run 6 = .ok (.invokevirtual 186, 3) := by decide +kernel
theorem dX12_run_9 : decode cX12_run 9 = .ok (.istore_n 3, 1) := by decide +kernel
theorem dX12_run_10 : decode cX12_run 10 = .ok (.iload_n 3, 1) := by decide +kernel
theorem dX12_run_11 : decode cX12_run 11 = .ok (.ifCond .ne 13, 3) := by decide +kernel
theorem dX12_run_24 : decode cX12_run 24 = .ok (.aload_n 0, 1) := by decide +kernel
theorem dX12_run_25 : decode cX12_run 25 = .ok (.getfield 52, 3) := by decide +kernel
theorem dX12_run_28 : decode cX12_run 28 = .ok (.iconst 0, 1) := by decide +kernel
theorem dX12_run_29 : decode cX12_run 29 = .ok (.putfield 192, 3) := by decide +kernel
theorem dX12_run_32 : decode cX12_run 32 = .ok (.iload_n 3, 1) := by decide +kernel
theorem dX12_run_33 : decode cX12_run 33 = .ok (.ireturn, 1) := by decide +kernel
theorem dX12_size_0 : decode cX12_size 0 = .ok (.aload_n 0, 1) := by decide +kernel
theorem dX12_size_1 : decode cX12_size 1 = .ok (.iload_n 1, 1) := by decide +kernel
theorem dX12_size_2 : decode cX12_size 2 = .ok (.invokevirtual 116, 3) := by decide +kernel
theorem dX12_size_5 : decode cX12_size 5 = .ok (.astore_n 3, 1) := by decide +kernel
theorem dX12_size_6 : decode cX12_size 6 = .ok (.aload_n 3, 1) := by decide +kernel
theorem dX12_size_7 : decode cX12_size 7 = .ok (.ifnonnull 5, 3) := by decide +kernel
theorem dX12_size_10 : decode cX12_size 10 = .ok (.iconst (-1), 1) := by decide +kernel
theorem dX12_size_11 : decode cX12_size 11 = .ok (.ireturn, 1) := by decide +kernel
theorem dX12_soundUnitAt_0 : decode cX12_soundUnitAt 0 = .ok (.aload_n 0, 1) := by decide +kernel
theorem dX12_soundUnitAt_1 : decode cX12_soundUnitAt 1 = .ok (.iload_n 1, 1) := by decide +kernel
theorem dX12_soundUnitAt_2 : decode cX12_soundUnitAt 2 = .ok (.invokevirtual 116, 3) := by decide +kernel
theorem dX12_soundUnitAt_5 : decode cX12_soundUnitAt 5 = .ok (.astore_n 2, 1) := by decide +kernel
theorem dX12_soundUnitAt_6 : decode cX12_soundUnitAt 6 = .ok (.aload_n 2, 1) := by decide +kernel
theorem dX12_soundUnitAt_7 : decode cX12_soundUnitAt 7 = .ok (.ifnull 17, 3) := by decide +kernel
theorem dX12_soundUnitAt_24 : decode cX12_soundUnitAt 24 = .ok (.aconst_null, 1) := by decide +kernel
theorem dX12_soundUnitAt_25 : decode cX12_soundUnitAt 25 = .ok (.goto 4, 3) := by decide +kernel
theorem dX12_soundUnitAt_29 : decode cX12_soundUnitAt 29 = .ok (.areturn, 1) := by decide +kernel
theorem dX12_stage_0 : decode cX12_stage 0 = .ok (.aload_n 0, 1) := by decide +kernel
theorem dX12_stage_1 : decode cX12_stage 1 = .ok (.iload_n 1, 1) := by decide +kernel
theorem dX12_stage_2 : decode cX12_stage 2 = .ok (.invokevirtual 152, 3) := by decide +kernel
theorem dX12_stage_5 : decode cX12_stage 5 = .ok (.astore_n 2, 1) := by decide +kernel
theorem dX12_stage_6 : decode cX12_stage 6 = .ok (.aload_n 2, 1) := by decide +kernel
theorem dX12_stage_7 : decode cX12_stage 7 = .ok (.ifnonnull 5, 3) := by decide +kernel
theorem dX12_stage_10 : decode cX12_stage 10 = .ok (.iconst 0, 1) := by decide +kernel
theorem dX12_stage_11 : decode cX12_stage 11 = .ok (.ireturn, 1) := by decide +kernel
theorem dX12_steps_0 : decode cX12_steps 0 = .ok (.aload_n 0, 1) := by decide +kernel
theorem dX12_steps_1 : decode cX12_steps 1 = .ok (.getfield 52, 3) := by decide +kernel
theorem dX12_steps_4 : decode cX12_steps 4 = .ok (.getfield 202, 3) := by decide +kernel
theorem dX12_steps_7 : decode cX12_steps 7 = .ok (.ireturn, 1) := by decide +kernel
theorem dX12_strays_0 : decode cX12_strays 0 = .ok (.aload_n 0, 1) := by decide +kernel
theorem dX12_strays_1 : decode cX12_strays 1 = .ok (.getfield 52, 3) := by decide +kernel
theorem dX12_strays_4 : decode cX12_strays 4 = .ok (.getfield 259, 3) := by decide +kernel
theorem dX12_strays_7 : decode cX12_strays 7 = .ok (.ireturn, 1) := by decide +kernel
theorem dX12_unitAt_0 : decode cX12_unitAt 0 = .ok (.iload_n 1, 1) := by decide +kernel
theorem dX12_unitAt_1 : decode cX12_unitAt 1 = .ok (.ifCond .lt 11, 3) := by decide +kernel
theorem dX12_unitAt_4 : decode cX12_unitAt 4 = .ok (.iload_n 1, 1) := by decide +kernel
theorem dX12_unitAt_5 : decode cX12_unitAt 5 = .ok (.aload_n 0, 1) := by decide +kernel
theorem dX12_unitAt_6 : decode cX12_unitAt 6 = .ok (.getfield 94, 3) := by decide +kernel
theorem dX12_unitAt_9 : decode cX12_unitAt 9 = .ok (.if_icmp .lt 7, 3) := by decide +kernel
theorem dX12_unitAt_12 : decode cX12_unitAt 12 = .ok (.aconst_null, 1) := by decide +kernel
theorem dX12_unitAt_13 : decode cX12_unitAt 13 = .ok (.goto 9, 3) := by decide +kernel
theorem dX12_unitAt_22 : decode cX12_unitAt 22 = .ok (.areturn, 1) := by decide +kernel
theorem dX12_verify_0 : decode cX12_verify 0 = .ok (.aload_n 0, 1) := by decide +kernel
theorem dX12_verify_1 : decode cX12_verify 1 = .ok (.iconst (-1), 1) := by decide +kernel
theorem dX12_verify_2 : decode cX12_verify 2 = .ok (.putfield 74, 3) := by decide +kernel
theorem dX12_verify_5 : decode cX12_verify 5 = .ok (.aload_n 0, 1) := by decide +kernel
theorem dX12_verify_6 : decode cX12_verify 6 = .ok (.iconst (-1), 1) := by decide +kernel
theorem dX12_verify_7 : decode cX12_verify 7 = .ok (.putfield 77, 3) := by decide +kernel
theorem dX12_verify_10 : decode cX12_verify 10 = .ok (.aload_n 0, 1) := by decide +kernel
theorem dX12_verify_11 : decode cX12_verify 11 = .ok (.iload_n 1, 1) := by decide +kernel
theorem dX12_verify_12 : decode cX12_verify 12 = .ok (.invokevirtual 116, 3) := by decide +kernel
theorem dX12_verify_15 : decode cX12_verify 15 = .ok (.astore_n 2, 1) := by decide +kernel
theorem dX12_verify_16 : decode cX12_verify 16 = .ok (.aload_n 2, 1) := by decide +kernel
theorem dX12_verify_17 : decode cX12_verify 17 = .ok (.ifnonnull 5, 3) := by decide +kernel
theorem dX12_verify_20 : decode cX12_verify 20 = .ok (.iconst (-1), 1) := by decide +kernel
end
section
theorem dX12_verify_21 : decode cX12_verify 21 = .ok (.ireturn, 1) := by decide +kernel
theorem dX12_write_0 : decode cX12_write 0 = .ok (.aload_n 0, 1) := by decide +kernel
theorem dX12_write_1 : decode cX12_write 1 = .ok (.iload_n 1, 1) := by decide +kernel
theorem dX12_write_2 : decode cX12_write 2 = .ok (.invokevirtual 152, 3) := by decide +kernel
theorem dX12_write_5 : decode cX12_write 5 = .ok (.astore_n 2, 1) := by decide +kernel
theorem dX12_write_6 : decode cX12_write 6 = .ok (.aload_n 2, 1) := by decide +kernel
theorem dX12_write_7 : decode cX12_write 7 = .ok (.ifnonnull 5, 3) := by decide +kernel
theorem dX12_write_10 : decode cX12_write 10 = .ok (.iconst (-1), 1) := by decide +kernel
theorem dX12_write_11 : decode cX12_write 11 = .ok (.ireturn, 1) := by decide +kernel
theorem dX1_init_0 : decode cX1_init 0 = .ok (.aload_n 0, 1) := by decide +kernel
theorem dX1_init_1 : decode cX1_init 1 = .ok (.invokespecial 3, 3) := by decide +kernel
theorem dX1_init_4 : decode cX1_init 4 = .ok (.aload_n 0, 1) := by decide +kernel
theorem dX1_init_5 : decode cX1_init 5 = .ok (.new 9, 3) := by decide +kernel
theorem dX1_init_8 : decode cX1_init 8 = .ok (.dup, 1) := by decide +kernel
theorem dX1_init_9 : decode cX1_init 9 = .ok (.invokespecial 11, 3) := by decide +kernel
theorem dX1_init_12 : decode cX1_init 12 = .ok (.putfield 12, 3) := by decide +kernel
theorem dX1_init_15 : decode cX1_init 15 = .ok (.aload_n 0, 1) := by decide +kernel
theorem dX1_init_16 : decode cX1_init 16 = .ok (.iconst 0, 1) := by decide +kernel
theorem dX1_init_17 : decode cX1_init 17 = .ok (.newarray .byte, 2) := by decide +kernel
theorem dX1_init_19 : decode cX1_init 19 = .ok (.putfield 18, 3) := by decide +kernel
theorem dX1_init_22 : decode cX1_init 22 = .ok (.aload_n 0, 1) := by decide +kernel
theorem dX1_init_23 : decode cX1_init 23 = .ok (.iconst 0, 1) := by decide +kernel
theorem dX1_init_24 : decode cX1_init 24 = .ok (.newarray .boolean, 2) := by decide +kernel
theorem dX1_init_26 : decode cX1_init 26 = .ok (.putfield 22, 3) := by decide +kernel
theorem dX1_init_29 : decode cX1_init 29 = .ok (.aload_n 0, 1) := by decide +kernel
theorem dX1_init_30 : decode cX1_init 30 = .ok (.iconst 0, 1) := by decide +kernel
theorem dX1_init_31 : decode cX1_init 31 = .ok (.newarray .boolean, 2) := by decide +kernel
theorem dX1_init_33 : decode cX1_init 33 = .ok (.putfield 26, 3) := by decide +kernel
theorem dX1_init_36 : decode cX1_init 36 = .ok (.aload_n 0, 1) := by decide +kernel
theorem dX1_init_37 : decode cX1_init 37 = .ok (.bipush 48, 2) := by decide +kernel
theorem dX1_init_39 : decode cX1_init 39 = .ok (.newarray .byte, 2) := by decide +kernel
theorem dX1_init_41 : decode cX1_init 41 = .ok (.putfield 29, 3) := by decide +kernel
theorem dX1_init_44 : decode cX1_init 44 = .ok (.return_, 1) := by decide +kernel
theorem dX2_init_0 : decode cX2_init 0 = .ok (.aload_n 0, 1) := by decide +kernel
theorem dX2_init_1 : decode cX2_init 1 = .ok (.invokespecial 3, 3) := by decide +kernel
theorem dX2_init_4 : decode cX2_init 4 = .ok (.aload_n 0, 1) := by decide +kernel
theorem dX2_init_5 : decode cX2_init 5 = .ok (.new 9, 3) := by decide +kernel
theorem dX2_init_8 : decode cX2_init 8 = .ok (.dup, 1) := by decide +kernel
theorem dX2_init_9 : decode cX2_init 9 = .ok (.invokespecial 11, 3) := by decide +kernel
theorem dX2_init_12 : decode cX2_init 12 = .ok (.putfield 12, 3) := by decide +kernel
theorem dX2_init_15 : decode cX2_init 15 = .ok (.aload_n 0, 1) := by decide +kernel
theorem dX2_init_16 : decode cX2_init 16 = .ok (.sipush 1201, 3) := by decide +kernel
theorem dX2_init_19 : decode cX2_init 19 = .ok (.newarray .int, 2) := by decide +kernel
theorem dX2_init_21 : decode cX2_init 21 = .ok (.putfield 18, 3) := by decide +kernel
theorem dX2_init_24 : decode cX2_init 24 = .ok (.return_, 1) := by decide +kernel
theorem dX3_init_0 : decode cX3_init 0 = .ok (.aload_n 0, 1) := by decide +kernel
theorem dX3_init_1 : decode cX3_init 1 = .ok (.invokespecial 3, 3) := by decide +kernel
theorem dX3_init_4 : decode cX3_init 4 = .ok (.aload_n 0, 1) := by decide +kernel
theorem dX3_init_5 : decode cX3_init 5 = .ok (.iconst 0, 1) := by decide +kernel
theorem dX3_init_6 : decode cX3_init 6 = .ok (.newarray .int, 2) := by decide +kernel
theorem dX3_init_8 : decode cX3_init 8 = .ok (.putfield 9, 3) := by decide +kernel
theorem dX3_init_11 : decode cX3_init 11 = .ok (.aload_n 0, 1) := by decide +kernel
theorem dX3_init_12 : decode cX3_init 12 = .ok (.iconst 0, 1) := by decide +kernel
theorem dX3_init_13 : decode cX3_init 13 = .ok (.newarray .int, 2) := by decide +kernel
theorem dX3_init_15 : decode cX3_init 15 = .ok (.putfield 15, 3) := by decide +kernel
theorem dX3_init_18 : decode cX3_init 18 = .ok (.aload_n 0, 1) := by decide +kernel
theorem dX3_init_19 : decode cX3_init 19 = .ok (.iconst 0, 1) := by decide +kernel
theorem dX3_init_20 : decode cX3_init 20 = .ok (.newarray .int, 2) := by decide +kernel
theorem dX3_init_22 : decode cX3_init 22 = .ok (.putfield 18, 3) := by decide +kernel
theorem dX3_init_25 : decode cX3_init 25 = .ok (.aload_n 0, 1) := by decide +kernel
theorem dX3_init_26 : decode cX3_init 26 = .ok (.bipush 16, 2) := by decide +kernel
theorem dX3_init_28 : decode cX3_init 28 = .ok (.newarray .int, 2) := by decide +kernel
theorem dX3_init_30 : decode cX3_init 30 = .ok (.putfield 21, 3) := by decide +kernel
theorem dX3_init_33 : decode cX3_init 33 = .ok (.aload_n 0, 1) := by decide +kernel
theorem dX3_init_34 : decode cX3_init 34 = .ok (.iconst 0, 1) := by decide +kernel
theorem dX3_init_35 : decode cX3_init 35 = .ok (.newarray .int, 2) := by decide +kernel
theorem dX3_init_37 : decode cX3_init 37 = .ok (.putfield 24, 3) := by decide +kernel
theorem dX3_init_40 : decode cX3_init 40 = .ok (.aload_n 0, 1) := by decide +kernel
theorem dX3_init_41 : decode cX3_init 41 = .ok (.iconst 0, 1) := by decide +kernel
theorem dX3_init_42 : decode cX3_init 42 = .ok (.newarray .int, 2) := by decide +kernel
theorem dX3_init_44 : decode cX3_init 44 = .ok (.putfield 27, 3) := by decide +kernel
theorem dX3_init_47 : decode cX3_init 47 = .ok (.aload_n 0, 1) := by decide +kernel
theorem dX3_init_48 : decode cX3_init 48 = .ok (.iconst 0, 1) := by decide +kernel
theorem dX3_init_49 : decode cX3_init 49 = .ok (.newarray .boolean, 2) := by decide +kernel
theorem dX3_init_51 : decode cX3_init 51 = .ok (.putfield 30, 3) := by decide +kernel
theorem dX3_init_54 : decode cX3_init 54 = .ok (.aload_n 0, 1) := by decide +kernel
theorem dX3_init_55 : decode cX3_init 55 = .ok (.iconst 0, 1) := by decide +kernel
theorem dX3_init_56 : decode cX3_init 56 = .ok (.newarray .long, 2) := by decide +kernel
theorem dX3_init_58 : decode cX3_init 58 = .ok (.putfield 34, 3) := by decide +kernel
theorem dX3_init_61 : decode cX3_init 61 = .ok (.aload_n 0, 1) := by decide +kernel
theorem dX3_init_62 : decode cX3_init 62 = .ok (.iconst 0, 1) := by decide +kernel
theorem dX3_init_63 : decode cX3_init 63 = .ok (.newarray .int, 2) := by decide +kernel
theorem dX3_init_65 : decode cX3_init 65 = .ok (.putfield 38, 3) := by decide +kernel
theorem dX3_init_68 : decode cX3_init 68 = .ok (.aload_n 0, 1) := by decide +kernel
theorem dX3_init_69 : decode cX3_init 69 = .ok (.iconst 0, 1) := by decide +kernel
theorem dX3_init_70 : decode cX3_init 70 = .ok (.newarray .int, 2) := by decide +kernel
theorem dX3_init_72 : decode cX3_init 72 = .ok (.putfield 41, 3) := by decide +kernel
theorem dX3_init_75 : decode cX3_init 75 = .ok (.aload_n 0, 1) := by decide +kernel
theorem dX3_init_76 : decode cX3_init 76 = .ok (.iconst 0, 1) := by decide +kernel
theorem dX3_init_77 : decode cX3_init 77 = .ok (.newarray .int, 2) := by decide +kernel
theorem dX3_init_79 : decode cX3_init 79 = .ok (.putfield 44, 3) := by decide +kernel
theorem dX3_init_82 : decode cX3_init 82 = .ok (.aload_n 0, 1) := by decide +kernel
theorem dX3_init_83 : decode cX3_init 83 = .ok (.iconst 0, 1) := by decide +kernel
theorem dX3_init_84 : decode cX3_init 84 = .ok (.newarray .int, 2) := by decide +kernel
theorem dX3_init_86 : decode cX3_init 86 = .ok (.putfield 47, 3) := by decide +kernel
theorem dX3_init_89 : decode cX3_init 89 = .ok (.aload_n 0, 1) := by decide +kernel
theorem dX3_init_90 : decode cX3_init 90 = .ok (.iconst 0, 1) := by decide +kernel
theorem dX3_init_91 : decode cX3_init 91 = .ok (.newarray .int, 2) := by decide +kernel
theorem dX3_init_93 : decode cX3_init 93 = .ok (.putfield 50, 3) := by decide +kernel
theorem dX3_init_96 : decode cX3_init 96 = .ok (.return_, 1) := by decide +kernel
theorem dX4_init_0 : decode cX4_init 0 = .ok (.aload_n 0, 1) := by decide +kernel
theorem dX4_init_1 : decode cX4_init 1 = .ok (.invokespecial 3, 3) := by decide +kernel
theorem dX4_init_4 : decode cX4_init 4 = .ok (.aload_n 0, 1) := by decide +kernel
theorem dX4_init_5 : decode cX4_init 5 = .ok (.iconst 0, 1) := by decide +kernel
theorem dX4_init_6 : decode cX4_init 6 = .ok (.newarray .int, 2) := by decide +kernel
theorem dX4_init_8 : decode cX4_init 8 = .ok (.putfield 9, 3) := by decide +kernel
theorem dX4_init_11 : decode cX4_init 11 = .ok (.aload_n 0, 1) := by decide +kernel
theorem dX4_init_12 : decode cX4_init 12 = .ok (.iconst 0, 1) := by decide +kernel
theorem dX4_init_13 : decode cX4_init 13 = .ok (.newarray .int, 2) := by decide +kernel
theorem dX4_init_15 : decode cX4_init 15 = .ok (.putfield 15, 3) := by decide +kernel
theorem dX4_init_18 : decode cX4_init 18 = .ok (.aload_n 0, 1) := by decide +kernel
theorem dX4_init_19 : decode cX4_init 19 = .ok (.iconst 0, 1) := by decide +kernel
theorem dX4_init_20 : decode cX4_init 20 = .ok (.newarray .boolean, 2) := by decide +kernel
theorem dX4_init_22 : decode cX4_init 22 = .ok (.putfield 18, 3) := by decide +kernel
theorem dX4_init_25 : decode cX4_init 25 = .ok (.return_, 1) := by decide +kernel
theorem dX5_addArgument_0 : decode cX5_addArgument 0 = .ok (.aload_n 0, 1) := by decide +kernel
theorem dX5_addArgument_1 : decode cX5_addArgument 1 = .ok (.getfield 54, 3) := by decide +kernel
theorem dX5_addArgument_4 : decode cX5_addArgument 4 = .ok (.bipush 8, 2) := by decide +kernel
theorem dX5_addArgument_6 : decode cX5_addArgument 6 = .ok (.if_icmp .lt 5, 3) := by decide +kernel
theorem dX5_addArgument_11 : decode cX5_addArgument 11 = .ok (.aload_n 0, 1) := by decide +kernel
theorem dX5_addArgument_12 : decode cX5_addArgument 12 = .ok (.getfield 22, 3) := by decide +kernel
theorem dX5_addArgument_15 : decode cX5_addArgument 15 = .ok (.aload_n 0, 1) := by decide +kernel
theorem dX5_addArgument_16 : decode cX5_addArgument 16 = .ok (.getfield 54, 3) := by decide +kernel
theorem dX5_addArgument_19 : decode cX5_addArgument 19 = .ok (.lload_n 1, 1) := by decide +kernel
theorem dX5_addArgument_20 : decode cX5_addArgument 20 = .ok (.lastore, 1) := by decide +kernel
theorem dX5_addArgument_21 : decode cX5_addArgument 21 = .ok (.aload_n 0, 1) := by decide +kernel
theorem dX5_addArgument_22 : decode cX5_addArgument 22 = .ok (.dup, 1) := by decide +kernel
theorem dX5_addArgument_23 : decode cX5_addArgument 23 = .ok (.getfield 54, 3) := by decide +kernel
theorem dX5_addArgument_26 : decode cX5_addArgument 26 = .ok (.iconst 1, 1) := by decide +kernel
theorem dX5_addArgument_27 : decode cX5_addArgument 27 = .ok (.iadd, 1) := by decide +kernel
theorem dX5_addArgument_28 : decode cX5_addArgument 28 = .ok (.putfield 54, 3) := by decide +kernel
theorem dX5_addArgument_31 : decode cX5_addArgument 31 = .ok (.aload_n 0, 1) := by decide +kernel
theorem dX5_addArgument_32 : decode cX5_addArgument 32 = .ok (.getfield 54, 3) := by decide +kernel
theorem dX5_addArgument_35 : decode cX5_addArgument 35 = .ok (.ireturn, 1) := by decide +kernel
theorem dX5_elementAt_0 : decode cX5_elementAt 0 = .ok (.iload_n 2, 1) := by decide +kernel
theorem dX5_elementAt_1 : decode cX5_elementAt 1 = .ok (.ifCond .lt 12, 3) := by decide +kernel
theorem dX5_elementAt_4 : decode cX5_elementAt 4 = .ok (.iload_n 2, 1) := by decide +kernel
theorem dX5_elementAt_5 : decode cX5_elementAt 5 = .ok (.aload_n 0, 1) := by decide +kernel
theorem dX5_elementAt_6 : decode cX5_elementAt 6 = .ok (.iload_n 1, 1) := by decide +kernel
theorem dX5_elementAt_7 : decode cX5_elementAt 7 = .ok (.invokevirtual 70, 3) := by decide +kernel
theorem dX5_elementAt_10 : decode cX5_elementAt 10 = .ok (.if_icmp .lt 7, 3) := by decide +kernel
theorem dX5_elementAt_13 : decode cX5_elementAt 13 = .ok (.iconst 0, 1) := by decide +kernel
theorem dX5_elementAt_14 : decode cX5_elementAt 14 = .ok (.goto 14, 3) := by decide +kernel
theorem dX5_elementAt_28 : decode cX5_elementAt 28 = .ok (.ireturn, 1) := by decide +kernel
theorem dX5_fieldAt_0 : decode cX5_fieldAt 0 = .ok (.aload_n 0, 1) := by decide +kernel
theorem dX5_fieldAt_1 : decode cX5_fieldAt 1 = .ok (.getfield 38, 3) := by decide +kernel
theorem dX5_fieldAt_4 : decode cX5_fieldAt 4 = .ok (.ifnull 24, 3) := by decide +kernel
theorem dX5_fieldAt_28 : decode cX5_fieldAt 28 = .ok (.lconst 0, 1) := by decide +kernel
theorem dX5_fieldAt_29 : decode cX5_fieldAt 29 = .ok (.goto 9, 3) := by decide +kernel
theorem dX5_fieldAt_38 : decode cX5_fieldAt 38 = .ok (.lreturn, 1) := by decide +kernel
end
section
theorem dX5_init_0 : decode cX5_init 0 = .ok (.aload_n 0, 1) := by decide +kernel
theorem dX5_init_1 : decode cX5_init 1 = .ok (.invokespecial 3, 3) := by decide +kernel
theorem dX5_init_4 : decode cX5_init 4 = .ok (.aload_n 0, 1) := by decide +kernel
theorem dX5_init_5 : decode cX5_init 5 = .ok (.bipush 24, 2) := by decide +kernel
theorem dX5_init_7 : decode cX5_init 7 = .ok (.newarray .long, 2) := by decide +kernel
theorem dX5_init_9 : decode cX5_init 9 = .ok (.putfield 9, 3) := by decide +kernel
theorem dX5_init_12 : decode cX5_init 12 = .ok (.aload_n 0, 1) := by decide +kernel
theorem dX5_init_13 : decode cX5_init 13 = .ok (.iconst 0, 1) := by decide +kernel
theorem dX5_init_14 : decode cX5_init 14 = .ok (.newarray .int, 2) := by decide +kernel
theorem dX5_init_16 : decode cX5_init 16 = .ok (.putfield 15, 3) := by decide +kernel
theorem dX5_init_19 : decode cX5_init 19 = .ok (.aload_n 0, 1) := by decide +kernel
theorem dX5_init_20 : decode cX5_init 20 = .ok (.bipush 8, 2) := by decide +kernel
theorem dX5_init_22 : decode cX5_init 22 = .ok (.newarray .int, 2) := by decide +kernel
theorem dX5_init_24 : decode cX5_init 24 = .ok (.putfield 19, 3) := by decide +kernel
theorem dX5_init_27 : decode cX5_init 27 = .ok (.aload_n 0, 1) := by decide +kernel
theorem dX5_init_28 : decode cX5_init 28 = .ok (.bipush 8, 2) := by decide +kernel
theorem dX5_init_30 : decode cX5_init 30 = .ok (.newarray .long, 2) := by decide +kernel
theorem dX5_init_32 : decode cX5_init 32 = .ok (.putfield 22, 3) := by decide +kernel
theorem dX5_init_35 : decode cX5_init 35 = .ok (.aload_n 0, 1) := by decide +kernel
theorem dX5_init_36 : decode cX5_init 36 = .ok (.iconst 0, 1) := by decide +kernel
theorem dX5_init_37 : decode cX5_init 37 = .ok (.newarray .long, 2) := by decide +kernel
theorem dX5_init_39 : decode cX5_init 39 = .ok (.putfield 25, 3) := by decide +kernel
theorem dX5_init_42 : decode cX5_init 42 = .ok (.aload_n 0, 1) := by decide +kernel
theorem dX5_init_43 : decode cX5_init 43 = .ok (.iconst 0, 1) := by decide +kernel
theorem dX5_init_44 : decode cX5_init 44 = .ok (.newarray .long, 2) := by decide +kernel
theorem dX5_init_46 : decode cX5_init 46 = .ok (.putfield 28, 3) := by decide +kernel
theorem dX5_init_49 : decode cX5_init 49 = .ok (.aload_n 0, 1) := by decide +kernel
theorem dX5_init_50 : decode cX5_init 50 = .ok (.sipush 180, 3) := by decide +kernel
theorem dX5_init_53 : decode cX5_init 53 = .ok (.newarray .int, 2) := by decide +kernel
theorem dX5_init_55 : decode cX5_init 55 = .ok (.putfield 31, 3) := by decide +kernel
theorem dX5_init_58 : decode cX5_init 58 = .ok (.aload_n 0, 1) := by decide +kernel
theorem dX5_init_59 : decode cX5_init 59 = .ok (.iconst (-1), 1) := by decide +kernel
theorem dX5_init_60 : decode cX5_init 60 = .ok (.putfield 34, 3) := by decide +kernel
theorem dX5_init_63 : decode cX5_init 63 = .ok (.return_, 1) := by decide +kernel
theorem dX5_isArray_0 : decode cX5_isArray 0 = .ok (.lload_n 1, 1) := by decide +kernel
theorem dX5_isArray_1 : decode cX5_isArray 1 = .ok (.lconst 1, 1) := by decide +kernel
theorem dX5_isArray_2 : decode cX5_isArray 2 = .ok (.lcmp, 1) := by decide +kernel
theorem dX5_isArray_3 : decode cX5_isArray 3 = .ok (.ifCond .lt 17, 3) := by decide +kernel
theorem dX5_isArray_6 : decode cX5_isArray 6 = .ok (.lload_n 1, 1) := by decide +kernel
theorem dX5_isArray_7 : decode cX5_isArray 7 = .ok (.aload_n 0, 1) := by decide +kernel
theorem dX5_isArray_8 : decode cX5_isArray 8 = .ok (.getfield 51, 3) := by decide +kernel
theorem dX5_isArray_11 : decode cX5_isArray 11 = .ok (.i2l, 1) := by decide +kernel
theorem dX5_isArray_12 : decode cX5_isArray 12 = .ok (.lcmp, 1) := by decide +kernel
theorem dX5_isArray_13 : decode cX5_isArray 13 = .ok (.ifCond .gt 7, 3) := by decide +kernel
theorem dX5_isArray_20 : decode cX5_isArray 20 = .ok (.iconst 0, 1) := by decide +kernel
theorem dX5_isArray_21 : decode cX5_isArray 21 = .ok (.ireturn, 1) := by decide +kernel
theorem dX5_lengthOf_0 : decode cX5_lengthOf 0 = .ok (.aload_n 0, 1) := by decide +kernel
theorem dX5_lengthOf_1 : decode cX5_lengthOf 1 = .ok (.iload_n 1, 1) := by decide +kernel
theorem dX5_lengthOf_2 : decode cX5_lengthOf 2 = .ok (.i2l, 1) := by decide +kernel
theorem dX5_lengthOf_3 : decode cX5_lengthOf 3 = .ok (.invokevirtual 62, 3) := by decide +kernel
theorem dX5_lengthOf_6 : decode cX5_lengthOf 6 = .ok (.ifCond .eq 19, 3) := by decide +kernel
theorem dX5_lengthOf_25 : decode cX5_lengthOf 25 = .ok (.iconst (-1), 1) := by decide +kernel
theorem dX5_lengthOf_26 : decode cX5_lengthOf 26 = .ok (.ireturn, 1) := by decide +kernel
theorem dX5_refusal_0 : decode cX5_refusal 0 = .ok (.aload_n 0, 1) := by decide +kernel
theorem dX5_refusal_1 : decode cX5_refusal 1 = .ok (.getfield 38, 3) := by decide +kernel
theorem dX5_refusal_4 : decode cX5_refusal 4 = .ok (.ifnull 14, 3) := by decide +kernel
theorem dX5_refusal_18 : decode cX5_refusal 18 = .ok (.iconst (-1), 1) := by decide +kernel
theorem dX5_refusal_19 : decode cX5_refusal 19 = .ok (.ireturn, 1) := by decide +kernel
theorem dX7_init_0 : decode cX7_init 0 = .ok (.aload_n 0, 1) := by decide +kernel
theorem dX7_init_1 : decode cX7_init 1 = .ok (.invokespecial 3, 3) := by decide +kernel
theorem dX7_init_4 : decode cX7_init 4 = .ok (.aload_n 0, 1) := by decide +kernel
theorem dX7_init_5 : decode cX7_init 5 = .ok (.iconst 0, 1) := by decide +kernel
theorem dX7_init_6 : decode cX7_init 6 = .ok (.newarray .byte, 2) := by decide +kernel
theorem dX7_init_8 : decode cX7_init 8 = .ok (.putfield 9, 3) := by decide +kernel
theorem dX7_init_11 : decode cX7_init 11 = .ok (.aload_n 0, 1) := by decide +kernel
theorem dX7_init_12 : decode cX7_init 12 = .ok (.iconst (-1), 1) := by decide +kernel
theorem dX7_init_13 : decode cX7_init 13 = .ok (.putfield 15, 3) := by decide +kernel
theorem dX7_init_16 : decode cX7_init 16 = .ok (.aload_n 0, 1) := by decide +kernel
theorem dX7_init_17 : decode cX7_init 17 = .ok (.sipush 500, 3) := by decide +kernel
theorem dX7_init_20 : decode cX7_init 20 = .ok (.newarray .int, 2) := by decide +kernel
theorem dX7_init_22 : decode cX7_init 22 = .ok (.putfield 19, 3) := by decide +kernel
theorem dX7_init_25 : decode cX7_init 25 = .ok (.aload_n 0, 1) := by decide +kernel
theorem dX7_init_26 : decode cX7_init 26 = .ok (.bipush 48, 2) := by decide +kernel
theorem dX7_init_28 : decode cX7_init 28 = .ok (.newarray .int, 2) := by decide +kernel
theorem dX7_init_30 : decode cX7_init 30 = .ok (.putfield 23, 3) := by decide +kernel
theorem dX7_init_33 : decode cX7_init 33 = .ok (.aload_n 0, 1) := by decide +kernel
theorem dX7_init_34 : decode cX7_init 34 = .ok (.bipush 24, 2) := by decide +kernel
theorem dX7_init_36 : decode cX7_init 36 = .ok (.newarray .int, 2) := by decide +kernel
theorem dX7_init_38 : decode cX7_init 38 = .ok (.putfield 26, 3) := by decide +kernel
theorem dX7_init_41 : decode cX7_init 41 = .ok (.aload_n 0, 1) := by decide +kernel
theorem dX7_init_42 : decode cX7_init 42 = .ok (.bipush 24, 2) := by decide +kernel
theorem dX7_init_44 : decode cX7_init 44 = .ok (.newarray .int, 2) := by decide +kernel
theorem dX7_init_46 : decode cX7_init 46 = .ok (.putfield 29, 3) := by decide +kernel
theorem dX7_init_49 : decode cX7_init 49 = .ok (.return_, 1) := by decide +kernel
theorem dX8_init_0 : decode cX8_init 0 = .ok (.aload_n 0, 1) := by decide +kernel
theorem dX8_init_1 : decode cX8_init 1 = .ok (.invokespecial 3, 3) := by decide +kernel
theorem dX8_init_4 : decode cX8_init 4 = .ok (.aload_n 0, 1) := by decide +kernel
theorem dX8_init_5 : decode cX8_init 5 = .ok (.iload_n 1, 1) := by decide +kernel
theorem dX8_init_6 : decode cX8_init 6 = .ok (.newarray .int, 2) := by decide +kernel
theorem dX8_init_8 : decode cX8_init 8 = .ok (.putfield 9, 3) := by decide +kernel
theorem dX8_init_11 : decode cX8_init 11 = .ok (.aload_n 0, 1) := by decide +kernel
theorem dX8_init_12 : decode cX8_init 12 = .ok (.iload_n 1, 1) := by decide +kernel
theorem dX8_init_13 : decode cX8_init 13 = .ok (.newarray .long, 2) := by decide +kernel
theorem dX8_init_15 : decode cX8_init 15 = .ok (.putfield 15, 3) := by decide +kernel
theorem dX8_init_18 : decode cX8_init 18 = .ok (.aload_n 0, 1) := by decide +kernel
theorem dX8_init_19 : decode cX8_init 19 = .ok (.iload_n 2, 1) := by decide +kernel
theorem dX8_init_20 : decode cX8_init 20 = .ok (.newarray .int, 2) := by decide +kernel
theorem dX8_init_22 : decode cX8_init 22 = .ok (.putfield 19, 3) := by decide +kernel
theorem dX8_init_25 : decode cX8_init 25 = .ok (.aload_n 0, 1) := by decide +kernel
theorem dX8_init_26 : decode cX8_init 26 = .ok (.iload_n 3, 1) := by decide +kernel
theorem dX8_init_27 : decode cX8_init 27 = .ok (.newarray .int, 2) := by decide +kernel
theorem dX8_init_29 : decode cX8_init 29 = .ok (.putfield 22, 3) := by decide +kernel
theorem dX8_init_32 : decode cX8_init 32 = .ok (.aload_n 0, 1) := by decide +kernel
theorem dX8_init_33 : decode cX8_init 33 = .ok (.iload_n 3, 1) := by decide +kernel
theorem dX8_init_34 : decode cX8_init 34 = .ok (.newarray .int, 2) := by decide +kernel
theorem dX8_init_36 : decode cX8_init 36 = .ok (.putfield 25, 3) := by decide +kernel
theorem dX8_init_39 : decode cX8_init 39 = .ok (.aload_n 0, 1) := by decide +kernel
theorem dX8_init_40 : decode cX8_init 40 = .ok (.iload_n 3, 1) := by decide +kernel
theorem dX8_init_41 : decode cX8_init 41 = .ok (.newarray .int, 2) := by decide +kernel
theorem dX8_init_43 : decode cX8_init 43 = .ok (.putfield 28, 3) := by decide +kernel
theorem dX8_init_46 : decode cX8_init 46 = .ok (.aload_n 0, 1) := by decide +kernel
theorem dX8_init_47 : decode cX8_init 47 = .ok (.iload_n 3, 1) := by decide +kernel
theorem dX8_init_48 : decode cX8_init 48 = .ok (.newarray .int, 2) := by decide +kernel
theorem dX8_init_50 : decode cX8_init 50 = .ok (.putfield 31, 3) := by decide +kernel
theorem dX8_init_53 : decode cX8_init 53 = .ok (.return_, 1) := by decide +kernel
theorem dX9_appliedAt_0 : decode cX9_appliedAt 0 = .ok (.iload_n 1, 1) := by decide +kernel
theorem dX9_appliedAt_1 : decode cX9_appliedAt 1 = .ok (.ifCond .lt 12, 3) := by decide +kernel
theorem dX9_appliedAt_4 : decode cX9_appliedAt 4 = .ok (.iload_n 1, 1) := by decide +kernel
theorem dX9_appliedAt_5 : decode cX9_appliedAt 5 = .ok (.aload_n 0, 1) := by decide +kernel
theorem dX9_appliedAt_6 : decode cX9_appliedAt 6 = .ok (.getfield 20, 3) := by decide +kernel
theorem dX9_appliedAt_9 : decode cX9_appliedAt 9 = .ok (.arraylength, 1) := by decide +kernel
theorem dX9_appliedAt_10 : decode cX9_appliedAt 10 = .ok (.if_icmp .lt 7, 3) := by decide +kernel
theorem dX9_appliedAt_13 : decode cX9_appliedAt 13 = .ok (.iconst 0, 1) := by decide +kernel
theorem dX9_appliedAt_14 : decode cX9_appliedAt 14 = .ok (.goto 9, 3) := by decide +kernel
theorem dX9_appliedAt_17 : decode cX9_appliedAt 17 = .ok (.aload_n 0, 1) := by decide +kernel
theorem dX9_appliedAt_18 : decode cX9_appliedAt 18 = .ok (.getfield 20, 3) := by decide +kernel
theorem dX9_appliedAt_21 : decode cX9_appliedAt 21 = .ok (.iload_n 1, 1) := by decide +kernel
theorem dX9_appliedAt_22 : decode cX9_appliedAt 22 = .ok (.iaload, 1) := by decide +kernel
theorem dX9_appliedAt_23 : decode cX9_appliedAt 23 = .ok (.ireturn, 1) := by decide +kernel
theorem dX9_forgetApplied_0 : decode cX9_forgetApplied 0 = .ok (.aload_n 0, 1) := by decide +kernel
theorem dX9_forgetApplied_1 : decode cX9_forgetApplied 1 = .ok (.getfield 20, 3) := by decide +kernel
theorem dX9_forgetApplied_4 : decode cX9_forgetApplied 4 = .ok (.iconst 0, 1) := by decide +kernel
theorem dX9_forgetApplied_5 : decode cX9_forgetApplied 5 = .ok (.invokestatic 37, 3) := by decide +kernel
theorem dX9_forgetApplied_8 : decode cX9_forgetApplied 8 = .ok (.return_, 1) := by decide +kernel
theorem dX9_init_0 : decode cX9_init 0 = .ok (.aload_n 0, 1) := by decide +kernel
theorem dX9_init_1 : decode cX9_init 1 = .ok (.invokespecial 3, 3) := by decide +kernel
theorem dX9_init_4 : decode cX9_init 4 = .ok (.aload_n 0, 1) := by decide +kernel
theorem dX9_init_5 : decode cX9_init 5 = .ok (.new 9, 3) := by decide +kernel
theorem dX9_init_8 : decode cX9_init 8 = .ok (.dup, 1) := by decide +kernel
theorem dX9_init_9 : decode cX9_init 9 = .ok (.iconst 0, 1) := by decide +kernel
theorem dX9_init_10 : decode cX9_init 10 = .ok (.iconst 0, 1) := by decide +kernel
theorem dX9_init_11 : decode cX9_init 11 = .ok (.iconst 0, 1) := by decide +kernel
theorem dX9_init_12 : decode cX9_init 12 = .ok (.invokespecial 11, 3) := by decide +kernel
theorem dX9_init_15 : decode cX9_init 15 = .ok (.putfield 14, 3) := by decide +kernel
theorem dX9_init_18 : decode cX9_init 18 = .ok (.aload_n 0, 1) := by decide +kernel
theorem dX9_init_19 : decode cX9_init 19 = .ok (.bipush 12, 2) := by decide +kernel
theorem dX9_init_21 : decode cX9_init 21 = .ok (.newarray .int, 2) := by decide +kernel
theorem dX9_init_23 : decode cX9_init 23 = .ok (.putfield 20, 3) := by decide +kernel
theorem dX9_init_26 : decode cX9_init 26 = .ok (.aload_n 0, 1) := by decide +kernel
theorem dX9_init_27 : decode cX9_init 27 = .ok (.iconst 0, 1) := by decide +kernel
end
section
theorem dX9_init_28 : decode cX9_init 28 = .ok (.newarray .boolean, 2) := by decide +kernel
theorem dX9_init_30 : decode cX9_init 30 = .ok (.putfield 24, 3) := by decide +kernel
theorem dX9_init_33 : decode cX9_init 33 = .ok (.aload_n 0, 1) := by decide +kernel
theorem dX9_init_34 : decode cX9_init 34 = .ok (.iconst 0, 1) := by decide +kernel
theorem dX9_init_35 : decode cX9_init 35 = .ok (.newarray .boolean, 2) := by decide +kernel
theorem dX9_init_37 : decode cX9_init 37 = .ok (.putfield 28, 3) := by decide +kernel
theorem dX9_init_40 : decode cX9_init 40 = .ok (.aload_n 0, 1) := by decide +kernel
theorem dX9_init_41 : decode cX9_init 41 = .ok (.iconst 0, 1) := by decide +kernel
theorem dX9_init_42 : decode cX9_init 42 = .ok (.newarray .int, 2) := by decide +kernel
theorem dX9_init_44 : decode cX9_init 44 = .ok (.putfield 31, 3) := by decide +kernel
theorem dX9_init_47 : decode cX9_init 47 = .ok (.aload_n 0, 1) := by decide +kernel
theorem dX9_init_48 : decode cX9_init 48 = .ok (.iconst 0, 1) := by decide +kernel
theorem dX9_init_49 : decode cX9_init 49 = .ok (.newarray .int, 2) := by decide +kernel
theorem dX9_init_51 : decode cX9_init 51 = .ok (.putfield 34, 3) := by decide +kernel
theorem dX9_init_54 : decode cX9_init 54 = .ok (.return_, 1) := by decide +kernel
end
section
theorem pl_in {ws : List Cond} (ps : List Nat) (h : ws = ps.filterMap (fun i => tables_1[i]?)) : ∀ w ∈ ws, w ∈ tables_1 := by
  intro w hw
  rw [h] at hw
  obtain ⟨i, -, hi⟩ := List.mem_filterMap.mp hw
  exact List.mem_of_getElem? hi
def lw_okq (q : MethodName × Nat) : Prop := (q.1.cls ≠ "java/lang/invoke/MethodHandle" ∧ q.1.cls ≠ "java/lang/invoke/VarHandle") ∧ Cond.instantiable q.1.cls q.2 ∈ tables_1 ∧ Cond.privateMethod q.1 ∈ tables_1 ∧ Cond.instanceMethod q.1 ∈ tables_1
theorem lw_p0 : lw_okq (yX12_unitAt, 18) := ⟨⟨by decide +kernel, by decide +kernel⟩, List.mem_of_getElem? (i := 33) (by decide +kernel), List.mem_of_getElem? (i := 1190) (by decide +kernel), List.mem_of_getElem? (i := 1191) (by decide +kernel)⟩
theorem lw_p1 : lw_okq (yX12_rowAt, 18) := ⟨⟨by decide +kernel, by decide +kernel⟩, List.mem_of_getElem? (i := 33) (by decide +kernel), List.mem_of_getElem? (i := 1198) (by decide +kernel), List.mem_of_getElem? (i := 1199) (by decide +kernel)⟩
theorem lw_p2 : lw_okq (yX12_soundUnitAt, 18) := ⟨⟨by decide +kernel, by decide +kernel⟩, List.mem_of_getElem? (i := 33) (by decide +kernel), List.mem_of_getElem? (i := 1456) (by decide +kernel), List.mem_of_getElem? (i := 1457) (by decide +kernel)⟩
theorem lw_p3 : lw_okq (yX5_isArray, 20) := ⟨⟨by decide +kernel, by decide +kernel⟩, List.mem_of_getElem? (i := 313) (by decide +kernel), List.mem_of_getElem? (i := 1676) (by decide +kernel), List.mem_of_getElem? (i := 1677) (by decide +kernel)⟩
def lw_privs : List (MethodName × Nat) := [(yX12_unitAt, 18), (yX12_rowAt, 18), (yX12_soundUnitAt, 18), (yX5_isArray, 20)]
theorem lw_privs_ok : ∀ q ∈ lw_privs, lw_okq q := List.forall_mem_cons.mpr ⟨lw_p0, List.forall_mem_cons.mpr ⟨lw_p1, List.forall_mem_cons.mpr ⟨lw_p2, List.forall_mem_cons.mpr ⟨lw_p3, fun _ h => absurd h List.not_mem_nil⟩⟩⟩⟩
def lw_tbl : List Cond := k2_sels lw_privs ++ tables_1
def tbr_0 : List Cond := [Cond.methodLink RX0 1 objectInit, Cond.instanceMethod objectInit, Cond.code objectInit ⟨#[0xb1]⟩ 1 none, Cond.arrayClass .byte, Cond.fieldLink RX0 7 "CodeFoundry$Bytes" "data" "[B", Cond.methodLink RX4 3 objectInit, Cond.arrayClass .int, Cond.fieldLink RX4 9 "CodeFoundry$Heights" "come" "[I", Cond.fieldLink RX4 15 "CodeFoundry$Heights" "waiting" "[I", Cond.arrayClass .boolean, Cond.fieldLink RX4 18 "CodeFoundry$Heights" "wrong" "[Z", Cond.methodLink RX8 3 objectInit, Cond.fieldLink RX8 9 "CodeFoundry$Row" "op" "[I", Cond.arrayClass .long, Cond.fieldLink RX8 15 "CodeFoundry$Row" "arg" "[J", Cond.fieldLink RX8 19 "CodeFoundry$Row" "table" "[I", Cond.fieldLink RX8 22 "CodeFoundry$Row" "catchFrom" "[I", Cond.fieldLink RX8 25 "CodeFoundry$Row" "catchTo" "[I", Cond.fieldLink RX8 28 "CodeFoundry$Row" "catchAt" "[I", Cond.fieldLink RX8 31 "CodeFoundry$Row" "catchKind" "[I", Cond.methodLink RX1 3 objectInit, Cond.classLink RX1 9 RX4, Cond.instantiable RX4 8, Cond.initialized RX4, Cond.code yX4_init cX4_init 1 none, Cond.instanceMethod yX4_init, Cond.fieldLink RX1 12 "CodeFoundry$Checker" "heights" "LCodeFoundry$Heights;", Cond.fieldLink RX1 18 "CodeFoundry$Checker" "before" "[B", Cond.fieldLink RX1 22 "CodeFoundry$Checker" "come" "[Z", Cond.fieldLink RX1 26 "CodeFoundry$Checker" "waiting" "[Z", Cond.fieldLink RX1 29 "CodeFoundry$Checker" "now" "[B", Cond.methodLink RX7 3 objectInit, Cond.fieldLink RX7 9 "CodeFoundry$Reader" "data" "[B", Cond.fieldLink RX7 15 "CodeFoundry$Reader" "brokenPlace" "I", Cond.fieldLink RX7 19 "CodeFoundry$Reader" "entry" "[I", Cond.fieldLink RX7 23 "CodeFoundry$Reader" "memberAt" "[I", Cond.fieldLink RX7 26 "CodeFoundry$Reader" "codeAt" "[I", Cond.fieldLink RX7 29 "CodeFoundry$Reader" "codeEnd" "[I", Cond.methodLink RX2 3 objectInit, Cond.classLink RX2 9 RX7]
def tbr_1 : List Cond := [Cond.instantiable RX7 17, Cond.initialized RX7, Cond.code yX7_init cX7_init 1 none, Cond.instanceMethod yX7_init, Cond.fieldLink RX2 12 "CodeFoundry$CodeReader" "file" "LCodeFoundry$Reader;", Cond.fieldLink RX2 18 "CodeFoundry$CodeReader" "numberAt" "[I", Cond.methodLink RX11 3 objectInit, Cond.classLink RX11 9 RX0, Cond.instantiable RX0 2, Cond.initialized RX0, Cond.code yX0_init cX0_init 1 none, Cond.instanceMethod yX0_init, Cond.fieldLink RX11 12 "CodeFoundry$Writer" "pool" "LCodeFoundry$Bytes;", Cond.fieldLink RX11 18 "CodeFoundry$Writer" "rest" "LCodeFoundry$Bytes;", Cond.fieldLink RX11 21 "CodeFoundry$Writer" "wanted" "LCodeFoundry$Bytes;", Cond.fieldLink RX11 24 "CodeFoundry$Writer" "entryAt" "[I", Cond.fieldLink RX11 28 "CodeFoundry$Writer" "entryEnd" "[I", Cond.fieldLink RX11 31 "CodeFoundry$Writer" "fieldName" "[I", Cond.fieldLink RX11 34 "CodeFoundry$Writer" "fieldType" "[I", Cond.fieldLink RX11 37 "CodeFoundry$Writer" "fieldEntry" "[I", Cond.fieldLink RX11 40 "CodeFoundry$Writer" "methodEntry" "[I", Cond.classLink RX11 43 RX4, Cond.fieldLink RX11 46 "CodeFoundry$Writer" "heights" "LCodeFoundry$Heights;", Cond.fieldLink RX11 50 "CodeFoundry$Writer" "needs" "[I", Cond.fieldLink RX11 53 "CodeFoundry$Writer" "offsets" "[I", Cond.methodLink RX5 3 objectInit, Cond.fieldLink RX5 9 "CodeFoundry$Machine" "fields" "[J", Cond.fieldLink RX5 15 "CodeFoundry$Machine" "heap" "[I", Cond.fieldLink RX5 19 "CodeFoundry$Machine" "arrayAt" "[I", Cond.fieldLink RX5 22 "CodeFoundry$Machine" "arguments" "[J", Cond.fieldLink RX5 25 "CodeFoundry$Machine" "locals" "[J", Cond.fieldLink RX5 28 "CodeFoundry$Machine" "stack" "[J", Cond.fieldLink RX5 31 "CodeFoundry$Machine" "frames" "[I", Cond.fieldLink RX5 34 "CodeFoundry$Machine" "lastError" "I", Cond.methodLink RX3 3 objectInit, Cond.fieldLink RX3 9 "CodeFoundry$Graph" "start" "[I", Cond.fieldLink RX3 15 "CodeFoundry$Graph" "blockOf" "[I", Cond.fieldLink RX3 18 "CodeFoundry$Graph" "edgeAt" "[I", Cond.fieldLink RX3 21 "CodeFoundry$Graph" "edges" "[I", Cond.fieldLink RX3 24 "CodeFoundry$Graph" "backAt" "[I"]
def tbr_2 : List Cond := [Cond.fieldLink RX3 27 "CodeFoundry$Graph" "backs" "[I", Cond.fieldLink RX3 30 "CodeFoundry$Graph" "reached" "[Z", Cond.fieldLink RX3 34 "CodeFoundry$Graph" "dominators" "[J", Cond.fieldLink RX3 38 "CodeFoundry$Graph" "dominator" "[I", Cond.fieldLink RX3 41 "CodeFoundry$Graph" "latches" "[I", Cond.fieldLink RX3 44 "CodeFoundry$Graph" "depth" "[I", Cond.fieldLink RX3 47 "CodeFoundry$Graph" "seen" "[I", Cond.fieldLink RX3 50 "CodeFoundry$Graph" "waiting" "[I", Cond.methodLink RX9 3 objectInit, Cond.classLink RX9 9 RX8, Cond.instantiable RX8 15, Cond.initialized RX8, Cond.methodLink RX9 11 yX8_init, Cond.code yX8_init cX8_init 4 none, Cond.instanceMethod yX8_init, Cond.fieldLink RX9 14 "CodeFoundry$Smith" "row" "LCodeFoundry$Row;", Cond.fieldLink RX9 20 "CodeFoundry$Smith" "applied" "[I", Cond.fieldLink RX9 24 "CodeFoundry$Smith" "marked" "[Z", Cond.fieldLink RX9 28 "CodeFoundry$Smith" "reached" "[Z", Cond.fieldLink RX9 31 "CodeFoundry$Smith" "live" "[I", Cond.fieldLink RX9 34 "CodeFoundry$Smith" "newPlace" "[I", Cond.methodLink RX12 1 objectInit, Cond.classLink RX12 7 RX0, Cond.fieldLink RX12 10 "CodeFoundry" "tray" "LCodeFoundry$Bytes;", Cond.fieldLink RX12 16 "CodeFoundry" "written" "LCodeFoundry$Bytes;", Cond.fieldLink RX12 19 "CodeFoundry" "draft" "LCodeFoundry$Bytes;", Cond.classLink RX12 22 "CodeFoundry$Unit", Cond.fieldLink RX12 24 "CodeFoundry" "units" "[LCodeFoundry$Unit;", Cond.classLink RX12 28 RX2, Cond.instantiable RX2 12, Cond.initialized RX2, Cond.code yX2_init cX2_init 1 none, Cond.instanceMethod yX2_init, Cond.fieldLink RX12 31 "CodeFoundry" "reader" "LCodeFoundry$CodeReader;", Cond.classLink RX12 35 RX1, Cond.instantiable RX1 10, Cond.initialized RX1, Cond.code yX1_init cX1_init 1 none, Cond.instanceMethod yX1_init, Cond.fieldLink RX12 38 "CodeFoundry" "checker" "LCodeFoundry$Checker;"]
def tbr_3 : List Cond := [Cond.classLink RX12 42 RX11, Cond.instantiable RX11 18, Cond.initialized RX11, Cond.code yX11_init cX11_init 1 none, Cond.instanceMethod yX11_init, Cond.fieldLink RX12 45 "CodeFoundry" "writer" "LCodeFoundry$Writer;", Cond.classLink RX12 49 RX5, Cond.instantiable RX5 20, Cond.initialized RX5, Cond.code yX5_init cX5_init 1 none, Cond.instanceMethod yX5_init, Cond.fieldLink RX12 52 "CodeFoundry" "machine" "LCodeFoundry$Machine;", Cond.classLink RX12 56 RX3, Cond.instantiable RX3 16, Cond.initialized RX3, Cond.code yX3_init cX3_init 1 none, Cond.instanceMethod yX3_init, Cond.fieldLink RX12 59 "CodeFoundry" "graph" "LCodeFoundry$Graph;", Cond.classLink RX12 63 RX9, Cond.instantiable RX9 6, Cond.initialized RX9, Cond.code yX9_init cX9_init 1 none, Cond.instanceMethod yX9_init, Cond.fieldLink RX12 66 "CodeFoundry" "smith" "LCodeFoundry$Smith;", Cond.fieldLink RX12 70 "CodeFoundry" "brokenPlace" "I", Cond.fieldLink RX12 74 "CodeFoundry" "faultMethod" "I", Cond.fieldLink RX12 77 "CodeFoundry" "faultAt" "I", Cond.fieldLink RX12 80 "CodeFoundry" "writtenFile" "I", Cond.fieldLink RX0 13 "CodeFoundry$Bytes" "count" "I", Cond.methodLink RX0 23 yX0_put, Cond.instanceMethod yX0_put, Cond.selects RX0 yX0_put yX0_put, Cond.code yX0_put cX0_put 2 none, Cond.methodLink RX0 27 yX0_put2, Cond.instanceMethod yX0_put2, Cond.selects RX0 yX0_put2 yX0_put2, Cond.code yX0_put2 cX0_put2 2 none, Cond.fieldLink RX12 83 "CodeFoundry$Bytes" "count" "I", Cond.fieldLink RX12 86 "CodeFoundry" "fed" "I", Cond.constant RX12 89 (65536)]
def tbr_4 : List Cond := [Cond.methodLink RX12 90 yX0_put4, Cond.instanceMethod yX0_put4, Cond.selects RX0 yX0_put4 yX0_put4, Cond.code yX0_put4 cX0_put4 2 none, Cond.fieldLink RX12 110 "CodeFoundry" "brokenRule" "I", Cond.fieldLink RX12 94 "CodeFoundry" "unitCount" "I", Cond.methodLink RX12 116 yX12_unitAt, Cond.instanceMethod yX12_unitAt, Cond.selects RX12 yX12_unitAt yX12_unitAt, Cond.initialized RX12, Cond.code yX12_unitAt cX12_unitAt 2 (some (.object "CodeFoundry$Unit")), Cond.methodLink RX12 132 yX12_rowAt, Cond.instanceMethod yX12_rowAt, Cond.selects RX12 yX12_rowAt yX12_rowAt, Cond.code yX12_rowAt cX12_rowAt 4 (some (.object "CodeFoundry$Row")), Cond.methodLink RX12 152 yX12_soundUnitAt, Cond.instanceMethod yX12_soundUnitAt, Cond.selects RX12 yX12_soundUnitAt yX12_soundUnitAt, Cond.code yX12_soundUnitAt cX12_soundUnitAt 3 (some (.object "CodeFoundry$Unit")), Cond.fieldLink RX5 54 "CodeFoundry$Machine" "argumentCount" "I", Cond.fieldLink RX5 38 "CodeFoundry$Machine" "unit" "LCodeFoundry$Unit;", Cond.fieldLink RX5 51 "CodeFoundry$Machine" "arrays" "I", Cond.methodLink RX5 62 yX5_isArray, Cond.instanceMethod yX5_isArray, Cond.selects RX5 yX5_isArray yX5_isArray, Cond.code yX5_isArray cX5_isArray 3 (some .boolean), Cond.methodLink RX5 70 yX5_lengthOf, Cond.instanceMethod yX5_lengthOf, Cond.selects RX5 yX5_lengthOf yX5_lengthOf, Cond.code yX5_lengthOf cX5_lengthOf 2 (some .int), Cond.methodLink RX12 182 yX5_addArgument, Cond.instanceMethod yX5_addArgument, Cond.selects RX5 yX5_addArgument yX5_addArgument, Cond.code yX5_addArgument cX5_addArgument 3 (some .int), Cond.methodLink RX12 186 yX5_refusal, Cond.instanceMethod yX5_refusal, Cond.selects RX5 yX5_refusal yX5_refusal, Cond.code yX5_refusal cX5_refusal 5 (some .int), Cond.fieldLink RX12 192 "CodeFoundry$Machine" "argumentCount" "I", Cond.fieldLink RX12 195 "CodeFoundry$Machine" "lastResult" "J"]
def tbr_5 : List Cond := [Cond.fieldLink RX12 199 "CodeFoundry$Machine" "lastError" "I", Cond.fieldLink RX12 202 "CodeFoundry$Machine" "lastSteps" "I", Cond.fieldLink RX12 259 "CodeFoundry$Machine" "strays" "I", Cond.methodLink RX12 205 yX5_fieldAt, Cond.instanceMethod yX5_fieldAt, Cond.selects RX5 yX5_fieldAt yX5_fieldAt, Cond.code yX5_fieldAt cX5_fieldAt 2 (some .long), Cond.methodLink RX12 209 yX5_elementAt, Cond.instanceMethod yX5_elementAt, Cond.selects RX5 yX5_elementAt yX5_elementAt, Cond.code yX5_elementAt cX5_elementAt 3 (some .int), Cond.methodLink RX12 212 yX5_lengthOf, Cond.methodLink RX9 37 yJ7_fill_53178, Cond.static yJ7_fill_53178, Cond.initialized RJ7, Cond.code yJ7_fill_53178 cJ7_fill_53178 4 none, Cond.methodLink RX12 226 yX9_forgetApplied, Cond.instanceMethod yX9_forgetApplied, Cond.selects RX9 yX9_forgetApplied yX9_forgetApplied, Cond.code yX9_forgetApplied cX9_forgetApplied 1 none, Cond.methodLink RX12 244 yX9_appliedAt, Cond.instanceMethod yX9_appliedAt, Cond.selects RX9 yX9_appliedAt yX9_appliedAt, Cond.code yX9_appliedAt cX9_appliedAt 2 (some .int)]
def tb : List Cond := (u_ws RX0 TX0 2 ++ (u_ws RX1 TX1 10 ++ (u_ws RX2 TX2 12 ++ (u_ws RX3 TX3 16 ++ (u_ws RX4 TX4 8 ++ (u_ws RX5 TX5 20 ++ (u_ws RX7 TX7 17 ++ (u_ws RX8 TX8 15 ++ (u_ws RX9 TX9 6 ++ (u_ws RX11 TX11 18 ++ (u_ws RX12 TX12 18 ++ (u_ws RX13 TX13 23 ++ (u_ws RX14 TX14 143 ++ (tbr_0 ++ (tbr_1 ++ (tbr_2 ++ (tbr_3 ++ (tbr_4 ++ tbr_5))))))))))))))))))
abbrev wt (y : MethodName) (c : ByteArray) (n : Nat) (r : Option FieldType) : List Cond := Cond.code y c n r :: tb
theorem inX0 : ∀ w ∈ u_ws RX0 TX0 2, w ∈ tb := fun _ h => List.mem_append_left _ h
theorem inX1 : ∀ w ∈ u_ws RX1 TX1 10, w ∈ tb := fun _ h => List.mem_append_right _ (List.mem_append_left _ h)
theorem inX2 : ∀ w ∈ u_ws RX2 TX2 12, w ∈ tb := fun _ h => List.mem_append_right _ (List.mem_append_right _ (List.mem_append_left _ h))
theorem inX3 : ∀ w ∈ u_ws RX3 TX3 16, w ∈ tb := fun _ h => List.mem_append_right _ (List.mem_append_right _ (List.mem_append_right _ (List.mem_append_left _ h)))
theorem inX4 : ∀ w ∈ u_ws RX4 TX4 8, w ∈ tb := fun _ h => List.mem_append_right _ (List.mem_append_right _ (List.mem_append_right _ (List.mem_append_right _ (List.mem_append_left _ h))))
theorem inX5 : ∀ w ∈ u_ws RX5 TX5 20, w ∈ tb := fun _ h => List.mem_append_right _ (List.mem_append_right _ (List.mem_append_right _ (List.mem_append_right _ (List.mem_append_right _ (List.mem_append_left _ h)))))
theorem inX7 : ∀ w ∈ u_ws RX7 TX7 17, w ∈ tb := fun _ h => List.mem_append_right _ (List.mem_append_right _ (List.mem_append_right _ (List.mem_append_right _ (List.mem_append_right _ (List.mem_append_right _ (List.mem_append_left _ h))))))
theorem inX8 : ∀ w ∈ u_ws RX8 TX8 15, w ∈ tb := fun _ h => List.mem_append_right _ (List.mem_append_right _ (List.mem_append_right _ (List.mem_append_right _ (List.mem_append_right _ (List.mem_append_right _ (List.mem_append_right _ (List.mem_append_left _ h)))))))
theorem inX9 : ∀ w ∈ u_ws RX9 TX9 6, w ∈ tb := fun _ h => List.mem_append_right _ (List.mem_append_right _ (List.mem_append_right _ (List.mem_append_right _ (List.mem_append_right _ (List.mem_append_right _ (List.mem_append_right _ (List.mem_append_right _ (List.mem_append_left _ h))))))))
theorem inX11 : ∀ w ∈ u_ws RX11 TX11 18, w ∈ tb := fun _ h => List.mem_append_right _ (List.mem_append_right _ (List.mem_append_right _ (List.mem_append_right _ (List.mem_append_right _ (List.mem_append_right _ (List.mem_append_right _ (List.mem_append_right _ (List.mem_append_right _ (List.mem_append_left _ h)))))))))
theorem inX12 : ∀ w ∈ u_ws RX12 TX12 18, w ∈ tb := fun _ h => List.mem_append_right _ (List.mem_append_right _ (List.mem_append_right _ (List.mem_append_right _ (List.mem_append_right _ (List.mem_append_right _ (List.mem_append_right _ (List.mem_append_right _ (List.mem_append_right _ (List.mem_append_right _ (List.mem_append_left _ h))))))))))
theorem inX13 : ∀ w ∈ u_ws RX13 TX13 23, w ∈ tb := fun _ h => List.mem_append_right _ (List.mem_append_right _ (List.mem_append_right _ (List.mem_append_right _ (List.mem_append_right _ (List.mem_append_right _ (List.mem_append_right _ (List.mem_append_right _ (List.mem_append_right _ (List.mem_append_right _ (List.mem_append_right _ (List.mem_append_left _ h)))))))))))
theorem inX14 : ∀ w ∈ u_ws RX14 TX14 143, w ∈ tb := fun _ h => List.mem_append_right _ (List.mem_append_right _ (List.mem_append_right _ (List.mem_append_right _ (List.mem_append_right _ (List.mem_append_right _ (List.mem_append_right _ (List.mem_append_right _ (List.mem_append_right _ (List.mem_append_right _ (List.mem_append_right _ (List.mem_append_right _ (List.mem_append_left _ h))))))))))))
theorem tbi_0 : ∀ w ∈ tbr_0, w ∈ tb := fun _ h => List.mem_append_right _ (List.mem_append_right _ (List.mem_append_right _ (List.mem_append_right _ (List.mem_append_right _ (List.mem_append_right _ (List.mem_append_right _ (List.mem_append_right _ (List.mem_append_right _ (List.mem_append_right _ (List.mem_append_right _ (List.mem_append_right _ (List.mem_append_right _ (List.mem_append_left _ h)))))))))))))
theorem tbi_1 : ∀ w ∈ tbr_1, w ∈ tb := fun _ h => List.mem_append_right _ (List.mem_append_right _ (List.mem_append_right _ (List.mem_append_right _ (List.mem_append_right _ (List.mem_append_right _ (List.mem_append_right _ (List.mem_append_right _ (List.mem_append_right _ (List.mem_append_right _ (List.mem_append_right _ (List.mem_append_right _ (List.mem_append_right _ (List.mem_append_right _ (List.mem_append_left _ h))))))))))))))
theorem tbi_2 : ∀ w ∈ tbr_2, w ∈ tb := fun _ h => List.mem_append_right _ (List.mem_append_right _ (List.mem_append_right _ (List.mem_append_right _ (List.mem_append_right _ (List.mem_append_right _ (List.mem_append_right _ (List.mem_append_right _ (List.mem_append_right _ (List.mem_append_right _ (List.mem_append_right _ (List.mem_append_right _ (List.mem_append_right _ (List.mem_append_right _ (List.mem_append_right _ (List.mem_append_left _ h)))))))))))))))
theorem tbi_3 : ∀ w ∈ tbr_3, w ∈ tb := fun _ h => List.mem_append_right _ (List.mem_append_right _ (List.mem_append_right _ (List.mem_append_right _ (List.mem_append_right _ (List.mem_append_right _ (List.mem_append_right _ (List.mem_append_right _ (List.mem_append_right _ (List.mem_append_right _ (List.mem_append_right _ (List.mem_append_right _ (List.mem_append_right _ (List.mem_append_right _ (List.mem_append_right _ (List.mem_append_right _ (List.mem_append_left _ h))))))))))))))))
theorem tbi_4 : ∀ w ∈ tbr_4, w ∈ tb := fun _ h => List.mem_append_right _ (List.mem_append_right _ (List.mem_append_right _ (List.mem_append_right _ (List.mem_append_right _ (List.mem_append_right _ (List.mem_append_right _ (List.mem_append_right _ (List.mem_append_right _ (List.mem_append_right _ (List.mem_append_right _ (List.mem_append_right _ (List.mem_append_right _ (List.mem_append_right _ (List.mem_append_right _ (List.mem_append_right _ (List.mem_append_right _ (List.mem_append_left _ h)))))))))))))))))
theorem tbi_5 : ∀ w ∈ tbr_5, w ∈ tb := fun _ h => List.mem_append_right _ (List.mem_append_right _ (List.mem_append_right _ (List.mem_append_right _ (List.mem_append_right _ (List.mem_append_right _ (List.mem_append_right _ (List.mem_append_right _ (List.mem_append_right _ (List.mem_append_right _ (List.mem_append_right _ (List.mem_append_right _ (List.mem_append_right _ (List.mem_append_right _ (List.mem_append_right _ (List.mem_append_right _ (List.mem_append_right _ (List.mem_append_right _ (h))))))))))))))))))
theorem kw_0 : Cond.methodLink RX0 1 objectInit ∈ tb := tbi_0 _ (List.mem_of_getElem? (i := 0) rfl)
theorem kw_1 : Cond.instanceMethod objectInit ∈ tb := tbi_0 _ (List.mem_of_getElem? (i := 1) rfl)
theorem kw_2 : Cond.code objectInit ⟨#[0xb1]⟩ 1 none ∈ tb := tbi_0 _ (List.mem_of_getElem? (i := 2) rfl)
theorem kw_3 : Cond.arrayClass .byte ∈ tb := tbi_0 _ (List.mem_of_getElem? (i := 3) rfl)
theorem kw_4 : Cond.fieldLink RX0 7 "CodeFoundry$Bytes" "data" "[B" ∈ tb := tbi_0 _ (List.mem_of_getElem? (i := 4) rfl)
theorem kw_5 : Cond.methodLink RX4 3 objectInit ∈ tb := tbi_0 _ (List.mem_of_getElem? (i := 5) rfl)
theorem kw_6 : Cond.arrayClass .int ∈ tb := tbi_0 _ (List.mem_of_getElem? (i := 6) rfl)
theorem kw_7 : Cond.fieldLink RX4 9 "CodeFoundry$Heights" "come" "[I" ∈ tb := tbi_0 _ (List.mem_of_getElem? (i := 7) rfl)
theorem kw_8 : Cond.fieldLink RX4 15 "CodeFoundry$Heights" "waiting" "[I" ∈ tb := tbi_0 _ (List.mem_of_getElem? (i := 8) rfl)
theorem kw_9 : Cond.arrayClass .boolean ∈ tb := tbi_0 _ (List.mem_of_getElem? (i := 9) rfl)
theorem kw_10 : Cond.fieldLink RX4 18 "CodeFoundry$Heights" "wrong" "[Z" ∈ tb := tbi_0 _ (List.mem_of_getElem? (i := 10) rfl)
theorem kw_11 : Cond.methodLink RX8 3 objectInit ∈ tb := tbi_0 _ (List.mem_of_getElem? (i := 11) rfl)
theorem kw_12 : Cond.fieldLink RX8 9 "CodeFoundry$Row" "op" "[I" ∈ tb := tbi_0 _ (List.mem_of_getElem? (i := 12) rfl)
theorem kw_13 : Cond.arrayClass .long ∈ tb := tbi_0 _ (List.mem_of_getElem? (i := 13) rfl)
theorem kw_14 : Cond.fieldLink RX8 15 "CodeFoundry$Row" "arg" "[J" ∈ tb := tbi_0 _ (List.mem_of_getElem? (i := 14) rfl)
theorem kw_15 : Cond.fieldLink RX8 19 "CodeFoundry$Row" "table" "[I" ∈ tb := tbi_0 _ (List.mem_of_getElem? (i := 15) rfl)
theorem kw_16 : Cond.fieldLink RX8 22 "CodeFoundry$Row" "catchFrom" "[I" ∈ tb := tbi_0 _ (List.mem_of_getElem? (i := 16) rfl)
theorem kw_17 : Cond.fieldLink RX8 25 "CodeFoundry$Row" "catchTo" "[I" ∈ tb := tbi_0 _ (List.mem_of_getElem? (i := 17) rfl)
theorem kw_18 : Cond.fieldLink RX8 28 "CodeFoundry$Row" "catchAt" "[I" ∈ tb := tbi_0 _ (List.mem_of_getElem? (i := 18) rfl)
theorem kw_19 : Cond.fieldLink RX8 31 "CodeFoundry$Row" "catchKind" "[I" ∈ tb := tbi_0 _ (List.mem_of_getElem? (i := 19) rfl)
theorem kw_20 : Cond.methodLink RX1 3 objectInit ∈ tb := tbi_0 _ (List.mem_of_getElem? (i := 20) rfl)
theorem kw_21 : Cond.classLink RX1 9 RX4 ∈ tb := tbi_0 _ (List.mem_of_getElem? (i := 21) rfl)
theorem kw_22 : Cond.instantiable RX4 8 ∈ tb := tbi_0 _ (List.mem_of_getElem? (i := 22) rfl)
theorem kw_23 : Cond.initialized RX4 ∈ tb := tbi_0 _ (List.mem_of_getElem? (i := 23) rfl)
theorem kw_24 : Cond.code yX4_init cX4_init 1 none ∈ tb := tbi_0 _ (List.mem_of_getElem? (i := 24) rfl)
theorem kw_25 : Cond.instanceMethod yX4_init ∈ tb := tbi_0 _ (List.mem_of_getElem? (i := 25) rfl)
theorem kw_26 : Cond.fieldLink RX1 12 "CodeFoundry$Checker" "heights" "LCodeFoundry$Heights;" ∈ tb := tbi_0 _ (List.mem_of_getElem? (i := 26) rfl)
theorem kw_27 : Cond.fieldLink RX1 18 "CodeFoundry$Checker" "before" "[B" ∈ tb := tbi_0 _ (List.mem_of_getElem? (i := 27) rfl)
theorem kw_28 : Cond.fieldLink RX1 22 "CodeFoundry$Checker" "come" "[Z" ∈ tb := tbi_0 _ (List.mem_of_getElem? (i := 28) rfl)
theorem kw_29 : Cond.fieldLink RX1 26 "CodeFoundry$Checker" "waiting" "[Z" ∈ tb := tbi_0 _ (List.mem_of_getElem? (i := 29) rfl)
theorem kw_30 : Cond.fieldLink RX1 29 "CodeFoundry$Checker" "now" "[B" ∈ tb := tbi_0 _ (List.mem_of_getElem? (i := 30) rfl)
theorem kw_31 : Cond.methodLink RX7 3 objectInit ∈ tb := tbi_0 _ (List.mem_of_getElem? (i := 31) rfl)
theorem kw_32 : Cond.fieldLink RX7 9 "CodeFoundry$Reader" "data" "[B" ∈ tb := tbi_0 _ (List.mem_of_getElem? (i := 32) rfl)
theorem kw_33 : Cond.fieldLink RX7 15 "CodeFoundry$Reader" "brokenPlace" "I" ∈ tb := tbi_0 _ (List.mem_of_getElem? (i := 33) rfl)
theorem kw_34 : Cond.fieldLink RX7 19 "CodeFoundry$Reader" "entry" "[I" ∈ tb := tbi_0 _ (List.mem_of_getElem? (i := 34) rfl)
theorem kw_35 : Cond.fieldLink RX7 23 "CodeFoundry$Reader" "memberAt" "[I" ∈ tb := tbi_0 _ (List.mem_of_getElem? (i := 35) rfl)
theorem kw_36 : Cond.fieldLink RX7 26 "CodeFoundry$Reader" "codeAt" "[I" ∈ tb := tbi_0 _ (List.mem_of_getElem? (i := 36) rfl)
theorem kw_37 : Cond.fieldLink RX7 29 "CodeFoundry$Reader" "codeEnd" "[I" ∈ tb := tbi_0 _ (List.mem_of_getElem? (i := 37) rfl)
theorem kw_38 : Cond.methodLink RX2 3 objectInit ∈ tb := tbi_0 _ (List.mem_of_getElem? (i := 38) rfl)
theorem kw_39 : Cond.classLink RX2 9 RX7 ∈ tb := tbi_0 _ (List.mem_of_getElem? (i := 39) rfl)
theorem kw_40 : Cond.instantiable RX7 17 ∈ tb := tbi_1 _ (List.mem_of_getElem? (i := 0) rfl)
theorem kw_41 : Cond.initialized RX7 ∈ tb := tbi_1 _ (List.mem_of_getElem? (i := 1) rfl)
theorem kw_42 : Cond.code yX7_init cX7_init 1 none ∈ tb := tbi_1 _ (List.mem_of_getElem? (i := 2) rfl)
theorem kw_43 : Cond.instanceMethod yX7_init ∈ tb := tbi_1 _ (List.mem_of_getElem? (i := 3) rfl)
theorem kw_44 : Cond.fieldLink RX2 12 "CodeFoundry$CodeReader" "file" "LCodeFoundry$Reader;" ∈ tb := tbi_1 _ (List.mem_of_getElem? (i := 4) rfl)
theorem kw_45 : Cond.fieldLink RX2 18 "CodeFoundry$CodeReader" "numberAt" "[I" ∈ tb := tbi_1 _ (List.mem_of_getElem? (i := 5) rfl)
theorem kw_46 : Cond.methodLink RX11 3 objectInit ∈ tb := tbi_1 _ (List.mem_of_getElem? (i := 6) rfl)
theorem kw_47 : Cond.classLink RX11 9 RX0 ∈ tb := tbi_1 _ (List.mem_of_getElem? (i := 7) rfl)
theorem kw_48 : Cond.instantiable RX0 2 ∈ tb := tbi_1 _ (List.mem_of_getElem? (i := 8) rfl)
theorem kw_49 : Cond.initialized RX0 ∈ tb := tbi_1 _ (List.mem_of_getElem? (i := 9) rfl)
theorem kw_50 : Cond.code yX0_init cX0_init 1 none ∈ tb := tbi_1 _ (List.mem_of_getElem? (i := 10) rfl)
theorem kw_51 : Cond.instanceMethod yX0_init ∈ tb := tbi_1 _ (List.mem_of_getElem? (i := 11) rfl)
theorem kw_52 : Cond.fieldLink RX11 12 "CodeFoundry$Writer" "pool" "LCodeFoundry$Bytes;" ∈ tb := tbi_1 _ (List.mem_of_getElem? (i := 12) rfl)
theorem kw_53 : Cond.fieldLink RX11 18 "CodeFoundry$Writer" "rest" "LCodeFoundry$Bytes;" ∈ tb := tbi_1 _ (List.mem_of_getElem? (i := 13) rfl)
theorem kw_54 : Cond.fieldLink RX11 21 "CodeFoundry$Writer" "wanted" "LCodeFoundry$Bytes;" ∈ tb := tbi_1 _ (List.mem_of_getElem? (i := 14) rfl)
theorem kw_55 : Cond.fieldLink RX11 24 "CodeFoundry$Writer" "entryAt" "[I" ∈ tb := tbi_1 _ (List.mem_of_getElem? (i := 15) rfl)
theorem kw_56 : Cond.fieldLink RX11 28 "CodeFoundry$Writer" "entryEnd" "[I" ∈ tb := tbi_1 _ (List.mem_of_getElem? (i := 16) rfl)
theorem kw_57 : Cond.fieldLink RX11 31 "CodeFoundry$Writer" "fieldName" "[I" ∈ tb := tbi_1 _ (List.mem_of_getElem? (i := 17) rfl)
theorem kw_58 : Cond.fieldLink RX11 34 "CodeFoundry$Writer" "fieldType" "[I" ∈ tb := tbi_1 _ (List.mem_of_getElem? (i := 18) rfl)
theorem kw_59 : Cond.fieldLink RX11 37 "CodeFoundry$Writer" "fieldEntry" "[I" ∈ tb := tbi_1 _ (List.mem_of_getElem? (i := 19) rfl)
theorem kw_60 : Cond.fieldLink RX11 40 "CodeFoundry$Writer" "methodEntry" "[I" ∈ tb := tbi_1 _ (List.mem_of_getElem? (i := 20) rfl)
theorem kw_61 : Cond.classLink RX11 43 RX4 ∈ tb := tbi_1 _ (List.mem_of_getElem? (i := 21) rfl)
theorem kw_62 : Cond.fieldLink RX11 46 "CodeFoundry$Writer" "heights" "LCodeFoundry$Heights;" ∈ tb := tbi_1 _ (List.mem_of_getElem? (i := 22) rfl)
theorem kw_63 : Cond.fieldLink RX11 50 "CodeFoundry$Writer" "needs" "[I" ∈ tb := tbi_1 _ (List.mem_of_getElem? (i := 23) rfl)
theorem kw_64 : Cond.fieldLink RX11 53 "CodeFoundry$Writer" "offsets" "[I" ∈ tb := tbi_1 _ (List.mem_of_getElem? (i := 24) rfl)
theorem kw_65 : Cond.methodLink RX5 3 objectInit ∈ tb := tbi_1 _ (List.mem_of_getElem? (i := 25) rfl)
theorem kw_66 : Cond.fieldLink RX5 9 "CodeFoundry$Machine" "fields" "[J" ∈ tb := tbi_1 _ (List.mem_of_getElem? (i := 26) rfl)
theorem kw_67 : Cond.fieldLink RX5 15 "CodeFoundry$Machine" "heap" "[I" ∈ tb := tbi_1 _ (List.mem_of_getElem? (i := 27) rfl)
theorem kw_68 : Cond.fieldLink RX5 19 "CodeFoundry$Machine" "arrayAt" "[I" ∈ tb := tbi_1 _ (List.mem_of_getElem? (i := 28) rfl)
theorem kw_69 : Cond.fieldLink RX5 22 "CodeFoundry$Machine" "arguments" "[J" ∈ tb := tbi_1 _ (List.mem_of_getElem? (i := 29) rfl)
theorem kw_70 : Cond.fieldLink RX5 25 "CodeFoundry$Machine" "locals" "[J" ∈ tb := tbi_1 _ (List.mem_of_getElem? (i := 30) rfl)
theorem kw_71 : Cond.fieldLink RX5 28 "CodeFoundry$Machine" "stack" "[J" ∈ tb := tbi_1 _ (List.mem_of_getElem? (i := 31) rfl)
theorem kw_72 : Cond.fieldLink RX5 31 "CodeFoundry$Machine" "frames" "[I" ∈ tb := tbi_1 _ (List.mem_of_getElem? (i := 32) rfl)
theorem kw_73 : Cond.fieldLink RX5 34 "CodeFoundry$Machine" "lastError" "I" ∈ tb := tbi_1 _ (List.mem_of_getElem? (i := 33) rfl)
theorem kw_74 : Cond.methodLink RX3 3 objectInit ∈ tb := tbi_1 _ (List.mem_of_getElem? (i := 34) rfl)
theorem kw_75 : Cond.fieldLink RX3 9 "CodeFoundry$Graph" "start" "[I" ∈ tb := tbi_1 _ (List.mem_of_getElem? (i := 35) rfl)
theorem kw_76 : Cond.fieldLink RX3 15 "CodeFoundry$Graph" "blockOf" "[I" ∈ tb := tbi_1 _ (List.mem_of_getElem? (i := 36) rfl)
theorem kw_77 : Cond.fieldLink RX3 18 "CodeFoundry$Graph" "edgeAt" "[I" ∈ tb := tbi_1 _ (List.mem_of_getElem? (i := 37) rfl)
theorem kw_78 : Cond.fieldLink RX3 21 "CodeFoundry$Graph" "edges" "[I" ∈ tb := tbi_1 _ (List.mem_of_getElem? (i := 38) rfl)
theorem kw_79 : Cond.fieldLink RX3 24 "CodeFoundry$Graph" "backAt" "[I" ∈ tb := tbi_1 _ (List.mem_of_getElem? (i := 39) rfl)
theorem kw_80 : Cond.fieldLink RX3 27 "CodeFoundry$Graph" "backs" "[I" ∈ tb := tbi_2 _ (List.mem_of_getElem? (i := 0) rfl)
theorem kw_81 : Cond.fieldLink RX3 30 "CodeFoundry$Graph" "reached" "[Z" ∈ tb := tbi_2 _ (List.mem_of_getElem? (i := 1) rfl)
theorem kw_82 : Cond.fieldLink RX3 34 "CodeFoundry$Graph" "dominators" "[J" ∈ tb := tbi_2 _ (List.mem_of_getElem? (i := 2) rfl)
theorem kw_83 : Cond.fieldLink RX3 38 "CodeFoundry$Graph" "dominator" "[I" ∈ tb := tbi_2 _ (List.mem_of_getElem? (i := 3) rfl)
theorem kw_84 : Cond.fieldLink RX3 41 "CodeFoundry$Graph" "latches" "[I" ∈ tb := tbi_2 _ (List.mem_of_getElem? (i := 4) rfl)
theorem kw_85 : Cond.fieldLink RX3 44 "CodeFoundry$Graph" "depth" "[I" ∈ tb := tbi_2 _ (List.mem_of_getElem? (i := 5) rfl)
theorem kw_86 : Cond.fieldLink RX3 47 "CodeFoundry$Graph" "seen" "[I" ∈ tb := tbi_2 _ (List.mem_of_getElem? (i := 6) rfl)
theorem kw_87 : Cond.fieldLink RX3 50 "CodeFoundry$Graph" "waiting" "[I" ∈ tb := tbi_2 _ (List.mem_of_getElem? (i := 7) rfl)
theorem kw_88 : Cond.methodLink RX9 3 objectInit ∈ tb := tbi_2 _ (List.mem_of_getElem? (i := 8) rfl)
theorem kw_89 : Cond.classLink RX9 9 RX8 ∈ tb := tbi_2 _ (List.mem_of_getElem? (i := 9) rfl)
theorem kw_90 : Cond.instantiable RX8 15 ∈ tb := tbi_2 _ (List.mem_of_getElem? (i := 10) rfl)
theorem kw_91 : Cond.initialized RX8 ∈ tb := tbi_2 _ (List.mem_of_getElem? (i := 11) rfl)
theorem kw_92 : Cond.methodLink RX9 11 yX8_init ∈ tb := tbi_2 _ (List.mem_of_getElem? (i := 12) rfl)
theorem kw_93 : Cond.code yX8_init cX8_init 4 none ∈ tb := tbi_2 _ (List.mem_of_getElem? (i := 13) rfl)
theorem kw_94 : Cond.instanceMethod yX8_init ∈ tb := tbi_2 _ (List.mem_of_getElem? (i := 14) rfl)
theorem kw_95 : Cond.fieldLink RX9 14 "CodeFoundry$Smith" "row" "LCodeFoundry$Row;" ∈ tb := tbi_2 _ (List.mem_of_getElem? (i := 15) rfl)
theorem kw_96 : Cond.fieldLink RX9 20 "CodeFoundry$Smith" "applied" "[I" ∈ tb := tbi_2 _ (List.mem_of_getElem? (i := 16) rfl)
theorem kw_97 : Cond.fieldLink RX9 24 "CodeFoundry$Smith" "marked" "[Z" ∈ tb := tbi_2 _ (List.mem_of_getElem? (i := 17) rfl)
theorem kw_98 : Cond.fieldLink RX9 28 "CodeFoundry$Smith" "reached" "[Z" ∈ tb := tbi_2 _ (List.mem_of_getElem? (i := 18) rfl)
theorem kw_99 : Cond.fieldLink RX9 31 "CodeFoundry$Smith" "live" "[I" ∈ tb := tbi_2 _ (List.mem_of_getElem? (i := 19) rfl)
theorem kw_100 : Cond.fieldLink RX9 34 "CodeFoundry$Smith" "newPlace" "[I" ∈ tb := tbi_2 _ (List.mem_of_getElem? (i := 20) rfl)
theorem kw_101 : Cond.methodLink RX12 1 objectInit ∈ tb := tbi_2 _ (List.mem_of_getElem? (i := 21) rfl)
theorem kw_102 : Cond.classLink RX12 7 RX0 ∈ tb := tbi_2 _ (List.mem_of_getElem? (i := 22) rfl)
theorem kw_103 : Cond.fieldLink RX12 10 "CodeFoundry" "tray" "LCodeFoundry$Bytes;" ∈ tb := tbi_2 _ (List.mem_of_getElem? (i := 23) rfl)
theorem kw_104 : Cond.fieldLink RX12 16 "CodeFoundry" "written" "LCodeFoundry$Bytes;" ∈ tb := tbi_2 _ (List.mem_of_getElem? (i := 24) rfl)
theorem kw_105 : Cond.fieldLink RX12 19 "CodeFoundry" "draft" "LCodeFoundry$Bytes;" ∈ tb := tbi_2 _ (List.mem_of_getElem? (i := 25) rfl)
theorem kw_106 : Cond.classLink RX12 22 "CodeFoundry$Unit" ∈ tb := tbi_2 _ (List.mem_of_getElem? (i := 26) rfl)
theorem kw_107 : Cond.fieldLink RX12 24 "CodeFoundry" "units" "[LCodeFoundry$Unit;" ∈ tb := tbi_2 _ (List.mem_of_getElem? (i := 27) rfl)
theorem kw_108 : Cond.classLink RX12 28 RX2 ∈ tb := tbi_2 _ (List.mem_of_getElem? (i := 28) rfl)
theorem kw_109 : Cond.instantiable RX2 12 ∈ tb := tbi_2 _ (List.mem_of_getElem? (i := 29) rfl)
theorem kw_110 : Cond.initialized RX2 ∈ tb := tbi_2 _ (List.mem_of_getElem? (i := 30) rfl)
theorem kw_111 : Cond.code yX2_init cX2_init 1 none ∈ tb := tbi_2 _ (List.mem_of_getElem? (i := 31) rfl)
theorem kw_112 : Cond.instanceMethod yX2_init ∈ tb := tbi_2 _ (List.mem_of_getElem? (i := 32) rfl)
theorem kw_113 : Cond.fieldLink RX12 31 "CodeFoundry" "reader" "LCodeFoundry$CodeReader;" ∈ tb := tbi_2 _ (List.mem_of_getElem? (i := 33) rfl)
theorem kw_114 : Cond.classLink RX12 35 RX1 ∈ tb := tbi_2 _ (List.mem_of_getElem? (i := 34) rfl)
theorem kw_115 : Cond.instantiable RX1 10 ∈ tb := tbi_2 _ (List.mem_of_getElem? (i := 35) rfl)
theorem kw_116 : Cond.initialized RX1 ∈ tb := tbi_2 _ (List.mem_of_getElem? (i := 36) rfl)
theorem kw_117 : Cond.code yX1_init cX1_init 1 none ∈ tb := tbi_2 _ (List.mem_of_getElem? (i := 37) rfl)
theorem kw_118 : Cond.instanceMethod yX1_init ∈ tb := tbi_2 _ (List.mem_of_getElem? (i := 38) rfl)
theorem kw_119 : Cond.fieldLink RX12 38 "CodeFoundry" "checker" "LCodeFoundry$Checker;" ∈ tb := tbi_2 _ (List.mem_of_getElem? (i := 39) rfl)
theorem kw_120 : Cond.classLink RX12 42 RX11 ∈ tb := tbi_3 _ (List.mem_of_getElem? (i := 0) rfl)
theorem kw_121 : Cond.instantiable RX11 18 ∈ tb := tbi_3 _ (List.mem_of_getElem? (i := 1) rfl)
theorem kw_122 : Cond.initialized RX11 ∈ tb := tbi_3 _ (List.mem_of_getElem? (i := 2) rfl)
theorem kw_123 : Cond.code yX11_init cX11_init 1 none ∈ tb := tbi_3 _ (List.mem_of_getElem? (i := 3) rfl)
theorem kw_124 : Cond.instanceMethod yX11_init ∈ tb := tbi_3 _ (List.mem_of_getElem? (i := 4) rfl)
theorem kw_125 : Cond.fieldLink RX12 45 "CodeFoundry" "writer" "LCodeFoundry$Writer;" ∈ tb := tbi_3 _ (List.mem_of_getElem? (i := 5) rfl)
theorem kw_126 : Cond.classLink RX12 49 RX5 ∈ tb := tbi_3 _ (List.mem_of_getElem? (i := 6) rfl)
theorem kw_127 : Cond.instantiable RX5 20 ∈ tb := tbi_3 _ (List.mem_of_getElem? (i := 7) rfl)
theorem kw_128 : Cond.initialized RX5 ∈ tb := tbi_3 _ (List.mem_of_getElem? (i := 8) rfl)
theorem kw_129 : Cond.code yX5_init cX5_init 1 none ∈ tb := tbi_3 _ (List.mem_of_getElem? (i := 9) rfl)
theorem kw_130 : Cond.instanceMethod yX5_init ∈ tb := tbi_3 _ (List.mem_of_getElem? (i := 10) rfl)
theorem kw_131 : Cond.fieldLink RX12 52 "CodeFoundry" "machine" "LCodeFoundry$Machine;" ∈ tb := tbi_3 _ (List.mem_of_getElem? (i := 11) rfl)
theorem kw_132 : Cond.classLink RX12 56 RX3 ∈ tb := tbi_3 _ (List.mem_of_getElem? (i := 12) rfl)
theorem kw_133 : Cond.instantiable RX3 16 ∈ tb := tbi_3 _ (List.mem_of_getElem? (i := 13) rfl)
theorem kw_134 : Cond.initialized RX3 ∈ tb := tbi_3 _ (List.mem_of_getElem? (i := 14) rfl)
theorem kw_135 : Cond.code yX3_init cX3_init 1 none ∈ tb := tbi_3 _ (List.mem_of_getElem? (i := 15) rfl)
theorem kw_136 : Cond.instanceMethod yX3_init ∈ tb := tbi_3 _ (List.mem_of_getElem? (i := 16) rfl)
theorem kw_137 : Cond.fieldLink RX12 59 "CodeFoundry" "graph" "LCodeFoundry$Graph;" ∈ tb := tbi_3 _ (List.mem_of_getElem? (i := 17) rfl)
theorem kw_138 : Cond.classLink RX12 63 RX9 ∈ tb := tbi_3 _ (List.mem_of_getElem? (i := 18) rfl)
theorem kw_139 : Cond.instantiable RX9 6 ∈ tb := tbi_3 _ (List.mem_of_getElem? (i := 19) rfl)
theorem kw_140 : Cond.initialized RX9 ∈ tb := tbi_3 _ (List.mem_of_getElem? (i := 20) rfl)
theorem kw_141 : Cond.code yX9_init cX9_init 1 none ∈ tb := tbi_3 _ (List.mem_of_getElem? (i := 21) rfl)
theorem kw_142 : Cond.instanceMethod yX9_init ∈ tb := tbi_3 _ (List.mem_of_getElem? (i := 22) rfl)
theorem kw_143 : Cond.fieldLink RX12 66 "CodeFoundry" "smith" "LCodeFoundry$Smith;" ∈ tb := tbi_3 _ (List.mem_of_getElem? (i := 23) rfl)
theorem kw_144 : Cond.fieldLink RX12 70 "CodeFoundry" "brokenPlace" "I" ∈ tb := tbi_3 _ (List.mem_of_getElem? (i := 24) rfl)
theorem kw_145 : Cond.fieldLink RX12 74 "CodeFoundry" "faultMethod" "I" ∈ tb := tbi_3 _ (List.mem_of_getElem? (i := 25) rfl)
theorem kw_146 : Cond.fieldLink RX12 77 "CodeFoundry" "faultAt" "I" ∈ tb := tbi_3 _ (List.mem_of_getElem? (i := 26) rfl)
theorem kw_147 : Cond.fieldLink RX12 80 "CodeFoundry" "writtenFile" "I" ∈ tb := tbi_3 _ (List.mem_of_getElem? (i := 27) rfl)
theorem kw_148 : Cond.fieldLink RX0 13 "CodeFoundry$Bytes" "count" "I" ∈ tb := tbi_3 _ (List.mem_of_getElem? (i := 28) rfl)
theorem kw_149 : Cond.methodLink RX0 23 yX0_put ∈ tb := tbi_3 _ (List.mem_of_getElem? (i := 29) rfl)
theorem kw_150 : Cond.instanceMethod yX0_put ∈ tb := tbi_3 _ (List.mem_of_getElem? (i := 30) rfl)
theorem kw_151 : Cond.selects RX0 yX0_put yX0_put ∈ tb := tbi_3 _ (List.mem_of_getElem? (i := 31) rfl)
theorem kw_152 : Cond.code yX0_put cX0_put 2 none ∈ tb := tbi_3 _ (List.mem_of_getElem? (i := 32) rfl)
theorem kw_153 : Cond.methodLink RX0 27 yX0_put2 ∈ tb := tbi_3 _ (List.mem_of_getElem? (i := 33) rfl)
theorem kw_154 : Cond.instanceMethod yX0_put2 ∈ tb := tbi_3 _ (List.mem_of_getElem? (i := 34) rfl)
theorem kw_155 : Cond.selects RX0 yX0_put2 yX0_put2 ∈ tb := tbi_3 _ (List.mem_of_getElem? (i := 35) rfl)
theorem kw_156 : Cond.code yX0_put2 cX0_put2 2 none ∈ tb := tbi_3 _ (List.mem_of_getElem? (i := 36) rfl)
theorem kw_157 : Cond.fieldLink RX12 83 "CodeFoundry$Bytes" "count" "I" ∈ tb := tbi_3 _ (List.mem_of_getElem? (i := 37) rfl)
theorem kw_158 : Cond.fieldLink RX12 86 "CodeFoundry" "fed" "I" ∈ tb := tbi_3 _ (List.mem_of_getElem? (i := 38) rfl)
theorem kw_159 : Cond.constant RX12 89 (65536) ∈ tb := tbi_3 _ (List.mem_of_getElem? (i := 39) rfl)
theorem kw_160 : Cond.methodLink RX12 90 yX0_put4 ∈ tb := tbi_4 _ (List.mem_of_getElem? (i := 0) rfl)
theorem kw_161 : Cond.instanceMethod yX0_put4 ∈ tb := tbi_4 _ (List.mem_of_getElem? (i := 1) rfl)
theorem kw_162 : Cond.selects RX0 yX0_put4 yX0_put4 ∈ tb := tbi_4 _ (List.mem_of_getElem? (i := 2) rfl)
theorem kw_163 : Cond.code yX0_put4 cX0_put4 2 none ∈ tb := tbi_4 _ (List.mem_of_getElem? (i := 3) rfl)
theorem kw_164 : Cond.fieldLink RX12 110 "CodeFoundry" "brokenRule" "I" ∈ tb := tbi_4 _ (List.mem_of_getElem? (i := 4) rfl)
theorem kw_165 : Cond.fieldLink RX12 94 "CodeFoundry" "unitCount" "I" ∈ tb := tbi_4 _ (List.mem_of_getElem? (i := 5) rfl)
theorem kw_166 : Cond.methodLink RX12 116 yX12_unitAt ∈ tb := tbi_4 _ (List.mem_of_getElem? (i := 6) rfl)
theorem kw_167 : Cond.instanceMethod yX12_unitAt ∈ tb := tbi_4 _ (List.mem_of_getElem? (i := 7) rfl)
theorem kw_168 : Cond.selects RX12 yX12_unitAt yX12_unitAt ∈ tb := tbi_4 _ (List.mem_of_getElem? (i := 8) rfl)
theorem kw_169 : Cond.initialized RX12 ∈ tb := tbi_4 _ (List.mem_of_getElem? (i := 9) rfl)
theorem kw_170 : Cond.code yX12_unitAt cX12_unitAt 2 (some (.object "CodeFoundry$Unit")) ∈ tb := tbi_4 _ (List.mem_of_getElem? (i := 10) rfl)
theorem kw_171 : Cond.methodLink RX12 132 yX12_rowAt ∈ tb := tbi_4 _ (List.mem_of_getElem? (i := 11) rfl)
theorem kw_172 : Cond.instanceMethod yX12_rowAt ∈ tb := tbi_4 _ (List.mem_of_getElem? (i := 12) rfl)
theorem kw_173 : Cond.selects RX12 yX12_rowAt yX12_rowAt ∈ tb := tbi_4 _ (List.mem_of_getElem? (i := 13) rfl)
theorem kw_174 : Cond.code yX12_rowAt cX12_rowAt 4 (some (.object "CodeFoundry$Row")) ∈ tb := tbi_4 _ (List.mem_of_getElem? (i := 14) rfl)
theorem kw_175 : Cond.methodLink RX12 152 yX12_soundUnitAt ∈ tb := tbi_4 _ (List.mem_of_getElem? (i := 15) rfl)
theorem kw_176 : Cond.instanceMethod yX12_soundUnitAt ∈ tb := tbi_4 _ (List.mem_of_getElem? (i := 16) rfl)
theorem kw_177 : Cond.selects RX12 yX12_soundUnitAt yX12_soundUnitAt ∈ tb := tbi_4 _ (List.mem_of_getElem? (i := 17) rfl)
theorem kw_178 : Cond.code yX12_soundUnitAt cX12_soundUnitAt 3 (some (.object "CodeFoundry$Unit")) ∈ tb := tbi_4 _ (List.mem_of_getElem? (i := 18) rfl)
theorem kw_179 : Cond.fieldLink RX5 54 "CodeFoundry$Machine" "argumentCount" "I" ∈ tb := tbi_4 _ (List.mem_of_getElem? (i := 19) rfl)
theorem kw_180 : Cond.fieldLink RX5 38 "CodeFoundry$Machine" "unit" "LCodeFoundry$Unit;" ∈ tb := tbi_4 _ (List.mem_of_getElem? (i := 20) rfl)
theorem kw_181 : Cond.fieldLink RX5 51 "CodeFoundry$Machine" "arrays" "I" ∈ tb := tbi_4 _ (List.mem_of_getElem? (i := 21) rfl)
theorem kw_182 : Cond.methodLink RX5 62 yX5_isArray ∈ tb := tbi_4 _ (List.mem_of_getElem? (i := 22) rfl)
theorem kw_183 : Cond.instanceMethod yX5_isArray ∈ tb := tbi_4 _ (List.mem_of_getElem? (i := 23) rfl)
theorem kw_184 : Cond.selects RX5 yX5_isArray yX5_isArray ∈ tb := tbi_4 _ (List.mem_of_getElem? (i := 24) rfl)
theorem kw_185 : Cond.code yX5_isArray cX5_isArray 3 (some .boolean) ∈ tb := tbi_4 _ (List.mem_of_getElem? (i := 25) rfl)
theorem kw_186 : Cond.methodLink RX5 70 yX5_lengthOf ∈ tb := tbi_4 _ (List.mem_of_getElem? (i := 26) rfl)
theorem kw_187 : Cond.instanceMethod yX5_lengthOf ∈ tb := tbi_4 _ (List.mem_of_getElem? (i := 27) rfl)
theorem kw_188 : Cond.selects RX5 yX5_lengthOf yX5_lengthOf ∈ tb := tbi_4 _ (List.mem_of_getElem? (i := 28) rfl)
theorem kw_189 : Cond.code yX5_lengthOf cX5_lengthOf 2 (some .int) ∈ tb := tbi_4 _ (List.mem_of_getElem? (i := 29) rfl)
theorem kw_190 : Cond.methodLink RX12 182 yX5_addArgument ∈ tb := tbi_4 _ (List.mem_of_getElem? (i := 30) rfl)
theorem kw_191 : Cond.instanceMethod yX5_addArgument ∈ tb := tbi_4 _ (List.mem_of_getElem? (i := 31) rfl)
theorem kw_192 : Cond.selects RX5 yX5_addArgument yX5_addArgument ∈ tb := tbi_4 _ (List.mem_of_getElem? (i := 32) rfl)
theorem kw_193 : Cond.code yX5_addArgument cX5_addArgument 3 (some .int) ∈ tb := tbi_4 _ (List.mem_of_getElem? (i := 33) rfl)
theorem kw_194 : Cond.methodLink RX12 186 yX5_refusal ∈ tb := tbi_4 _ (List.mem_of_getElem? (i := 34) rfl)
theorem kw_195 : Cond.instanceMethod yX5_refusal ∈ tb := tbi_4 _ (List.mem_of_getElem? (i := 35) rfl)
theorem kw_196 : Cond.selects RX5 yX5_refusal yX5_refusal ∈ tb := tbi_4 _ (List.mem_of_getElem? (i := 36) rfl)
theorem kw_197 : Cond.code yX5_refusal cX5_refusal 5 (some .int) ∈ tb := tbi_4 _ (List.mem_of_getElem? (i := 37) rfl)
theorem kw_198 : Cond.fieldLink RX12 192 "CodeFoundry$Machine" "argumentCount" "I" ∈ tb := tbi_4 _ (List.mem_of_getElem? (i := 38) rfl)
theorem kw_199 : Cond.fieldLink RX12 195 "CodeFoundry$Machine" "lastResult" "J" ∈ tb := tbi_4 _ (List.mem_of_getElem? (i := 39) rfl)
theorem kw_200 : Cond.fieldLink RX12 199 "CodeFoundry$Machine" "lastError" "I" ∈ tb := tbi_5 _ (List.mem_of_getElem? (i := 0) rfl)
theorem kw_201 : Cond.fieldLink RX12 202 "CodeFoundry$Machine" "lastSteps" "I" ∈ tb := tbi_5 _ (List.mem_of_getElem? (i := 1) rfl)
theorem kw_202 : Cond.fieldLink RX12 259 "CodeFoundry$Machine" "strays" "I" ∈ tb := tbi_5 _ (List.mem_of_getElem? (i := 2) rfl)
theorem kw_203 : Cond.methodLink RX12 205 yX5_fieldAt ∈ tb := tbi_5 _ (List.mem_of_getElem? (i := 3) rfl)
theorem kw_204 : Cond.instanceMethod yX5_fieldAt ∈ tb := tbi_5 _ (List.mem_of_getElem? (i := 4) rfl)
theorem kw_205 : Cond.selects RX5 yX5_fieldAt yX5_fieldAt ∈ tb := tbi_5 _ (List.mem_of_getElem? (i := 5) rfl)
theorem kw_206 : Cond.code yX5_fieldAt cX5_fieldAt 2 (some .long) ∈ tb := tbi_5 _ (List.mem_of_getElem? (i := 6) rfl)
theorem kw_207 : Cond.methodLink RX12 209 yX5_elementAt ∈ tb := tbi_5 _ (List.mem_of_getElem? (i := 7) rfl)
theorem kw_208 : Cond.instanceMethod yX5_elementAt ∈ tb := tbi_5 _ (List.mem_of_getElem? (i := 8) rfl)
theorem kw_209 : Cond.selects RX5 yX5_elementAt yX5_elementAt ∈ tb := tbi_5 _ (List.mem_of_getElem? (i := 9) rfl)
theorem kw_210 : Cond.code yX5_elementAt cX5_elementAt 3 (some .int) ∈ tb := tbi_5 _ (List.mem_of_getElem? (i := 10) rfl)
theorem kw_211 : Cond.methodLink RX12 212 yX5_lengthOf ∈ tb := tbi_5 _ (List.mem_of_getElem? (i := 11) rfl)
theorem kw_212 : Cond.methodLink RX9 37 yJ7_fill_53178 ∈ tb := tbi_5 _ (List.mem_of_getElem? (i := 12) rfl)
theorem kw_213 : Cond.static yJ7_fill_53178 ∈ tb := tbi_5 _ (List.mem_of_getElem? (i := 13) rfl)
theorem kw_214 : Cond.initialized RJ7 ∈ tb := tbi_5 _ (List.mem_of_getElem? (i := 14) rfl)
theorem kw_215 : Cond.code yJ7_fill_53178 cJ7_fill_53178 4 none ∈ tb := tbi_5 _ (List.mem_of_getElem? (i := 15) rfl)
theorem kw_216 : Cond.methodLink RX12 226 yX9_forgetApplied ∈ tb := tbi_5 _ (List.mem_of_getElem? (i := 16) rfl)
theorem kw_217 : Cond.instanceMethod yX9_forgetApplied ∈ tb := tbi_5 _ (List.mem_of_getElem? (i := 17) rfl)
theorem kw_218 : Cond.selects RX9 yX9_forgetApplied yX9_forgetApplied ∈ tb := tbi_5 _ (List.mem_of_getElem? (i := 18) rfl)
theorem kw_219 : Cond.code yX9_forgetApplied cX9_forgetApplied 1 none ∈ tb := tbi_5 _ (List.mem_of_getElem? (i := 19) rfl)
theorem kw_220 : Cond.methodLink RX12 244 yX9_appliedAt ∈ tb := tbi_5 _ (List.mem_of_getElem? (i := 20) rfl)
theorem kw_221 : Cond.instanceMethod yX9_appliedAt ∈ tb := tbi_5 _ (List.mem_of_getElem? (i := 21) rfl)
theorem kw_222 : Cond.selects RX9 yX9_appliedAt yX9_appliedAt ∈ tb := tbi_5 _ (List.mem_of_getElem? (i := 22) rfl)
theorem kw_223 : Cond.code yX9_appliedAt cX9_appliedAt 2 (some .int) ∈ tb := tbi_5 _ (List.mem_of_getElem? (i := 23) rfl)
theorem tbg_0 : (u_ws RX0 TX0 2).all goodWord = true := by decide +kernel
theorem tbg_1 : (u_ws RX1 TX1 10).all goodWord = true := by decide +kernel
theorem tbg_2 : (u_ws RX2 TX2 12).all goodWord = true := by decide +kernel
theorem tbg_3 : (u_ws RX3 TX3 16).all goodWord = true := by decide +kernel
theorem tbg_4 : (u_ws RX4 TX4 8).all goodWord = true := by decide +kernel
theorem tbg_5 : (u_ws RX5 TX5 20).all goodWord = true := by decide +kernel
theorem tbg_6 : (u_ws RX7 TX7 17).all goodWord = true := by decide +kernel
theorem tbg_7 : (u_ws RX8 TX8 15).all goodWord = true := by decide +kernel
theorem tbg_8 : (u_ws RX9 TX9 6).all goodWord = true := by decide +kernel
theorem tbg_9 : (u_ws RX11 TX11 18).all goodWord = true := by decide +kernel
theorem tbg_10 : (u_ws RX12 TX12 18).all goodWord = true := by decide +kernel
theorem tbg_11 : (u_ws RX13 TX13 23).all goodWord = true := by decide +kernel
theorem tbg_12 : (u_ws RX14 TX14 143).all goodWord = true := by decide +kernel
theorem tbg_13 : (tbr_0).all goodWord = true := by decide +kernel
theorem tbg_14 : (tbr_1).all goodWord = true := by decide +kernel
theorem tbg_15 : (tbr_2).all goodWord = true := by decide +kernel
theorem tbg_16 : (tbr_3).all goodWord = true := by decide +kernel
theorem tbg_17 : (tbr_4).all goodWord = true := by decide +kernel
theorem tbg_18 : (tbr_5).all goodWord = true := by decide +kernel
theorem tb_good : ∀ w ∈ tb, goodWord w = true := by
  intro w h
  unfold tb at h
  simp only [List.mem_append] at h
  rcases h with h | h | h | h | h | h | h | h | h | h | h | h | h | h | h | h | h | h | h
  · exact List.all_eq_true.mp tbg_0 w h
  · exact List.all_eq_true.mp tbg_1 w h
  · exact List.all_eq_true.mp tbg_2 w h
  · exact List.all_eq_true.mp tbg_3 w h
  · exact List.all_eq_true.mp tbg_4 w h
  · exact List.all_eq_true.mp tbg_5 w h
  · exact List.all_eq_true.mp tbg_6 w h
  · exact List.all_eq_true.mp tbg_7 w h
  · exact List.all_eq_true.mp tbg_8 w h
  · exact List.all_eq_true.mp tbg_9 w h
  · exact List.all_eq_true.mp tbg_10 w h
  · exact List.all_eq_true.mp tbg_11 w h
  · exact List.all_eq_true.mp tbg_12 w h
  · exact List.all_eq_true.mp tbg_13 w h
  · exact List.all_eq_true.mp tbg_14 w h
  · exact List.all_eq_true.mp tbg_15 w h
  · exact List.all_eq_true.mp tbg_16 w h
  · exact List.all_eq_true.mp tbg_17 w h
  · exact List.all_eq_true.mp tbg_18 w h
theorem lwi_X0 : ∀ w ∈ u_ws RX0 TX0 2, w ∈ tables_1 := pl_in [53, 55] (by decide +kernel)
theorem lwi_X1 : ∀ w ∈ u_ws RX1 TX1 10, w ∈ tables_1 := pl_in [226, 228, 230, 232, 234, 236, 238, 240, 242, 244] (by decide +kernel)
theorem lwi_X2 : ∀ w ∈ u_ws RX2 TX2 12, w ∈ tables_1 := pl_in [152, 154, 156, 158, 160, 162, 164, 166, 168, 170, 172, 174] (by decide +kernel)
theorem lwi_X3 : ∀ w ∈ u_ws RX3 TX3 16, w ∈ tables_1 := pl_in [408, 410, 412, 414, 416, 418, 420, 422, 424, 426, 428, 430, 432, 434, 436, 438] (by decide +kernel)
theorem lwi_X4 : ∀ w ∈ u_ws RX4 TX4 8, w ∈ tables_1 := pl_in [198, 200, 202, 204, 206, 208, 210, 212] (by decide +kernel)
theorem lwi_X5 : ∀ w ∈ u_ws RX5 TX5 20, w ∈ tables_1 := pl_in [343, 345, 347, 349, 351, 353, 355, 357, 359, 361, 363, 365, 367, 369, 371, 373, 375, 377, 379, 381] (by decide +kernel)
theorem lwi_X7 : ∀ w ∈ u_ws RX7 TX7 17, w ∈ tables_1 := pl_in [103, 105, 107, 109, 111, 113, 115, 117, 119, 121, 123, 125, 127, 129, 131, 133, 135] (by decide +kernel)
theorem lwi_X8 : ∀ w ∈ u_ws RX8 TX8 15, w ∈ tables_1 := pl_in [508, 510, 512, 514, 516, 518, 520, 522, 524, 526, 528, 530, 532, 534, 536] (by decide +kernel)
theorem lwi_X9 : ∀ w ∈ u_ws RX9 TX9 6, w ∈ tables_1 := pl_in [546, 548, 550, 552, 554, 556] (by decide +kernel)
theorem lwi_X11 : ∀ w ∈ u_ws RX11 TX11 18, w ∈ tables_1 := pl_in [275, 277, 279, 281, 283, 285, 287, 289, 291, 293, 295, 297, 299, 301, 303, 305, 307, 309] (by decide +kernel)
theorem lwi_X12 : ∀ w ∈ u_ws RX12 TX12 18, w ∈ tables_1 := pl_in [577, 579, 581, 583, 585, 587, 589, 591, 593, 595, 597, 599, 601, 603, 605, 607, 609, 611] (by decide +kernel)
theorem lwi_X13 : ∀ w ∈ u_ws RX13 TX13 23, w ∈ tables_1 := pl_in [2333, 2335, 2337, 2339, 2341, 2343, 2345, 2347, 2349, 2351, 2353, 2355, 2357, 2359, 2361, 2363, 2365, 2367, 2369, 2371, 2373, 2375, 2377] (by decide +kernel)
theorem lwi_X14 : ∀ w ∈ u_ws RX14 TX14 143, w ∈ tables_1 := pl_in [2522, 2524, 2526, 2528, 2530, 2532, 2534, 2536, 2538, 2540, 2542, 2544, 2546, 2548, 2550, 2552, 2554, 2556, 2558, 2560, 2562, 2564, 2566, 2568, 2570, 2572, 2574, 2576, 2578, 2580, 2582, 2584, 2586, 2588, 2590, 2592, 2594, 2596, 2598, 2600, 2602, 2604, 2606, 2608, 2610, 2612, 2614, 2616, 2618, 2620, 2622, 2624, 2626, 2628, 2630, 2632, 2634, 2636, 2638, 2640, 2642, 2644, 2646, 2648, 2650, 2652, 2654, 2656, 2658, 2660, 2662, 2664, 2666, 2668, 2670, 2672, 2674, 2676, 2678, 2680, 2682, 2684, 2686, 2688, 2690, 2692, 2694, 2696, 2698, 2700, 2702, 2704, 2706, 2708, 2710, 2712, 2714, 2716, 2718, 2720, 2722, 2724, 2726, 2728, 2730, 2732, 2734, 2736, 2738, 2740, 2742, 2744, 2746, 2748, 2750, 2752, 2754, 2756, 2758, 2760, 2762, 2764, 2766, 2768, 2770, 2772, 2774, 2776, 2778, 2780, 2782, 2784, 2786, 2788, 2790, 2792, 2794, 2796, 2798, 2800, 2802, 2804, 2806] (by decide +kernel)
theorem lwt_0 : ∀ w ∈ tbr_0, w ∈ lw_tbl := by
  unfold tbr_0
  exact List.forall_mem_cons.mpr ⟨(List.mem_append_right _ (List.mem_of_getElem? (i := 45) (by decide +kernel))), List.forall_mem_cons.mpr ⟨(List.mem_append_right _ (List.mem_of_getElem? (i := 38) (by decide +kernel))), List.forall_mem_cons.mpr ⟨(List.mem_append_right _ (List.mem_of_getElem? (i := 39) (by decide +kernel))), List.forall_mem_cons.mpr ⟨(List.mem_append_right _ (List.mem_of_getElem? (i := 58) (by decide +kernel))), List.forall_mem_cons.mpr ⟨(List.mem_append_right _ (List.mem_of_getElem? (i := 46) (by decide +kernel))), List.forall_mem_cons.mpr ⟨(List.mem_append_right _ (List.mem_of_getElem? (i := 188) (by decide +kernel))), List.forall_mem_cons.mpr ⟨(List.mem_append_right _ (List.mem_of_getElem? (i := 138) (by decide +kernel))), List.forall_mem_cons.mpr ⟨(List.mem_append_right _ (List.mem_of_getElem? (i := 189) (by decide +kernel))), List.forall_mem_cons.mpr ⟨(List.mem_append_right _ (List.mem_of_getElem? (i := 190) (by decide +kernel))), List.forall_mem_cons.mpr ⟨(List.mem_append_right _ (List.mem_of_getElem? (i := 215) (by decide +kernel))), List.forall_mem_cons.mpr ⟨(List.mem_append_right _ (List.mem_of_getElem? (i := 191) (by decide +kernel))), List.forall_mem_cons.mpr ⟨(List.mem_append_right _ (List.mem_of_getElem? (i := 452) (by decide +kernel))), List.forall_mem_cons.mpr ⟨(List.mem_append_right _ (List.mem_of_getElem? (i := 453) (by decide +kernel))), List.forall_mem_cons.mpr ⟨(List.mem_append_right _ (List.mem_of_getElem? (i := 384) (by decide +kernel))), List.forall_mem_cons.mpr ⟨(List.mem_append_right _ (List.mem_of_getElem? (i := 455) (by decide +kernel))), List.forall_mem_cons.mpr ⟨(List.mem_append_right _ (List.mem_of_getElem? (i := 464) (by decide +kernel))), List.forall_mem_cons.mpr ⟨(List.mem_append_right _ (List.mem_of_getElem? (i := 469) (by decide +kernel))), List.forall_mem_cons.mpr ⟨(List.mem_append_right _ (List.mem_of_getElem? (i := 473) (by decide +kernel))), List.forall_mem_cons.mpr ⟨(List.mem_append_right _ (List.mem_of_getElem? (i := 477) (by decide +kernel))), List.forall_mem_cons.mpr ⟨(List.mem_append_right _ (List.mem_of_getElem? (i := 484) (by decide +kernel))), List.forall_mem_cons.mpr ⟨(List.mem_append_right _ (List.mem_of_getElem? (i := 182) (by decide +kernel))), List.forall_mem_cons.mpr ⟨(List.mem_append_right _ (List.mem_of_getElem? (i := 183) (by decide +kernel))), List.forall_mem_cons.mpr ⟨(List.mem_append_right _ (List.mem_of_getElem? (i := 184) (by decide +kernel))), List.forall_mem_cons.mpr ⟨(List.mem_append_right _ (List.mem_of_getElem? (i := 6) (by decide +kernel))), List.forall_mem_cons.mpr ⟨(List.mem_append_right _ (List.mem_of_getElem? (i := 187) (by decide +kernel))), List.forall_mem_cons.mpr ⟨(List.mem_append_right _ (List.mem_of_getElem? (i := 186) (by decide +kernel))), List.forall_mem_cons.mpr ⟨(List.mem_append_right _ (List.mem_of_getElem? (i := 216) (by decide +kernel))), List.forall_mem_cons.mpr ⟨(List.mem_append_right _ (List.mem_of_getElem? (i := 217) (by decide +kernel))), List.forall_mem_cons.mpr ⟨(List.mem_append_right _ (List.mem_of_getElem? (i := 218) (by decide +kernel))), List.forall_mem_cons.mpr ⟨(List.mem_append_right _ (List.mem_of_getElem? (i := 219) (by decide +kernel))), List.forall_mem_cons.mpr ⟨(List.mem_append_right _ (List.mem_of_getElem? (i := 220) (by decide +kernel))), List.forall_mem_cons.mpr ⟨(List.mem_append_right _ (List.mem_of_getElem? (i := 72) (by decide +kernel))), List.forall_mem_cons.mpr ⟨(List.mem_append_right _ (List.mem_of_getElem? (i := 73) (by decide +kernel))), List.forall_mem_cons.mpr ⟨(List.mem_append_right _ (List.mem_of_getElem? (i := 79) (by decide +kernel))), List.forall_mem_cons.mpr ⟨(List.mem_append_right _ (List.mem_of_getElem? (i := 81) (by decide +kernel))), List.forall_mem_cons.mpr ⟨(List.mem_append_right _ (List.mem_of_getElem? (i := 90) (by decide +kernel))), List.forall_mem_cons.mpr ⟨(List.mem_append_right _ (List.mem_of_getElem? (i := 91) (by decide +kernel))), List.forall_mem_cons.mpr ⟨(List.mem_append_right _ (List.mem_of_getElem? (i := 93) (by decide +kernel))), List.forall_mem_cons.mpr ⟨(List.mem_append_right _ (List.mem_of_getElem? (i := 66) (by decide +kernel))), List.forall_mem_cons.mpr ⟨(List.mem_append_right _ (List.mem_of_getElem? (i := 67) (by decide +kernel))), fun _ h => absurd h List.not_mem_nil⟩⟩⟩⟩⟩⟩⟩⟩⟩⟩⟩⟩⟩⟩⟩⟩⟩⟩⟩⟩⟩⟩⟩⟩⟩⟩⟩⟩⟩⟩⟩⟩⟩⟩⟩⟩⟩⟩⟩⟩
theorem lwt_1 : ∀ w ∈ tbr_1, w ∈ lw_tbl := by
  unfold tbr_1
  exact List.forall_mem_cons.mpr ⟨(List.mem_append_right _ (List.mem_of_getElem? (i := 68) (by decide +kernel))), List.forall_mem_cons.mpr ⟨(List.mem_append_right _ (List.mem_of_getElem? (i := 4) (by decide +kernel))), List.forall_mem_cons.mpr ⟨(List.mem_append_right _ (List.mem_of_getElem? (i := 71) (by decide +kernel))), List.forall_mem_cons.mpr ⟨(List.mem_append_right _ (List.mem_of_getElem? (i := 70) (by decide +kernel))), List.forall_mem_cons.mpr ⟨(List.mem_append_right _ (List.mem_of_getElem? (i := 139) (by decide +kernel))), List.forall_mem_cons.mpr ⟨(List.mem_append_right _ (List.mem_of_getElem? (i := 147) (by decide +kernel))), List.forall_mem_cons.mpr ⟨(List.mem_append_right _ (List.mem_of_getElem? (i := 252) (by decide +kernel))), List.forall_mem_cons.mpr ⟨(List.mem_append_right _ (List.mem_of_getElem? (i := 253) (by decide +kernel))), List.forall_mem_cons.mpr ⟨(List.mem_append_right _ (List.mem_of_getElem? (i := 41) (by decide +kernel))), List.forall_mem_cons.mpr ⟨(List.mem_append_right _ (List.mem_of_getElem? (i := 2) (by decide +kernel))), List.forall_mem_cons.mpr ⟨(List.mem_append_right _ (List.mem_of_getElem? (i := 44) (by decide +kernel))), List.forall_mem_cons.mpr ⟨(List.mem_append_right _ (List.mem_of_getElem? (i := 43) (by decide +kernel))), List.forall_mem_cons.mpr ⟨(List.mem_append_right _ (List.mem_of_getElem? (i := 257) (by decide +kernel))), List.forall_mem_cons.mpr ⟨(List.mem_append_right _ (List.mem_of_getElem? (i := 258) (by decide +kernel))), List.forall_mem_cons.mpr ⟨(List.mem_append_right _ (List.mem_of_getElem? (i := 259) (by decide +kernel))), List.forall_mem_cons.mpr ⟨(List.mem_append_right _ (List.mem_of_getElem? (i := 260) (by decide +kernel))), List.forall_mem_cons.mpr ⟨(List.mem_append_right _ (List.mem_of_getElem? (i := 261) (by decide +kernel))), List.forall_mem_cons.mpr ⟨(List.mem_append_right _ (List.mem_of_getElem? (i := 267) (by decide +kernel))), List.forall_mem_cons.mpr ⟨(List.mem_append_right _ (List.mem_of_getElem? (i := 268) (by decide +kernel))), List.forall_mem_cons.mpr ⟨(List.mem_append_right _ (List.mem_of_getElem? (i := 269) (by decide +kernel))), List.forall_mem_cons.mpr ⟨(List.mem_append_right _ (List.mem_of_getElem? (i := 270) (by decide +kernel))), List.forall_mem_cons.mpr ⟨(List.mem_append_right _ (List.mem_of_getElem? (i := 255) (by decide +kernel))), List.forall_mem_cons.mpr ⟨(List.mem_append_right _ (List.mem_of_getElem? (i := 271) (by decide +kernel))), List.forall_mem_cons.mpr ⟨(List.mem_append_right _ (List.mem_of_getElem? (i := 273) (by decide +kernel))), List.forall_mem_cons.mpr ⟨(List.mem_append_right _ (List.mem_of_getElem? (i := 274) (by decide +kernel))), List.forall_mem_cons.mpr ⟨(List.mem_append_right _ (List.mem_of_getElem? (i := 317) (by decide +kernel))), List.forall_mem_cons.mpr ⟨(List.mem_append_right _ (List.mem_of_getElem? (i := 319) (by decide +kernel))), List.forall_mem_cons.mpr ⟨(List.mem_append_right _ (List.mem_of_getElem? (i := 320) (by decide +kernel))), List.forall_mem_cons.mpr ⟨(List.mem_append_right _ (List.mem_of_getElem? (i := 322) (by decide +kernel))), List.forall_mem_cons.mpr ⟨(List.mem_append_right _ (List.mem_of_getElem? (i := 324) (by decide +kernel))), List.forall_mem_cons.mpr ⟨(List.mem_append_right _ (List.mem_of_getElem? (i := 327) (by decide +kernel))), List.forall_mem_cons.mpr ⟨(List.mem_append_right _ (List.mem_of_getElem? (i := 328) (by decide +kernel))), List.forall_mem_cons.mpr ⟨(List.mem_append_right _ (List.mem_of_getElem? (i := 329) (by decide +kernel))), List.forall_mem_cons.mpr ⟨(List.mem_append_right _ (List.mem_of_getElem? (i := 337) (by decide +kernel))), List.forall_mem_cons.mpr ⟨(List.mem_append_right _ (List.mem_of_getElem? (i := 390) (by decide +kernel))), List.forall_mem_cons.mpr ⟨(List.mem_append_right _ (List.mem_of_getElem? (i := 394) (by decide +kernel))), List.forall_mem_cons.mpr ⟨(List.mem_append_right _ (List.mem_of_getElem? (i := 395) (by decide +kernel))), List.forall_mem_cons.mpr ⟨(List.mem_append_right _ (List.mem_of_getElem? (i := 396) (by decide +kernel))), List.forall_mem_cons.mpr ⟨(List.mem_append_right _ (List.mem_of_getElem? (i := 397) (by decide +kernel))), List.forall_mem_cons.mpr ⟨(List.mem_append_right _ (List.mem_of_getElem? (i := 398) (by decide +kernel))), fun _ h => absurd h List.not_mem_nil⟩⟩⟩⟩⟩⟩⟩⟩⟩⟩⟩⟩⟩⟩⟩⟩⟩⟩⟩⟩⟩⟩⟩⟩⟩⟩⟩⟩⟩⟩⟩⟩⟩⟩⟩⟩⟩⟩⟩⟩
theorem lwt_2 : ∀ w ∈ tbr_2, w ∈ lw_tbl := by
  unfold tbr_2
  exact List.forall_mem_cons.mpr ⟨(List.mem_append_right _ (List.mem_of_getElem? (i := 399) (by decide +kernel))), List.forall_mem_cons.mpr ⟨(List.mem_append_right _ (List.mem_of_getElem? (i := 400) (by decide +kernel))), List.forall_mem_cons.mpr ⟨(List.mem_append_right _ (List.mem_of_getElem? (i := 401) (by decide +kernel))), List.forall_mem_cons.mpr ⟨(List.mem_append_right _ (List.mem_of_getElem? (i := 403) (by decide +kernel))), List.forall_mem_cons.mpr ⟨(List.mem_append_right _ (List.mem_of_getElem? (i := 404) (by decide +kernel))), List.forall_mem_cons.mpr ⟨(List.mem_append_right _ (List.mem_of_getElem? (i := 405) (by decide +kernel))), List.forall_mem_cons.mpr ⟨(List.mem_append_right _ (List.mem_of_getElem? (i := 406) (by decide +kernel))), List.forall_mem_cons.mpr ⟨(List.mem_append_right _ (List.mem_of_getElem? (i := 407) (by decide +kernel))), List.forall_mem_cons.mpr ⟨(List.mem_append_right _ (List.mem_of_getElem? (i := 446) (by decide +kernel))), List.forall_mem_cons.mpr ⟨(List.mem_append_right _ (List.mem_of_getElem? (i := 447) (by decide +kernel))), List.forall_mem_cons.mpr ⟨(List.mem_append_right _ (List.mem_of_getElem? (i := 448) (by decide +kernel))), List.forall_mem_cons.mpr ⟨(List.mem_append_right _ (List.mem_of_getElem? (i := 11) (by decide +kernel))), List.forall_mem_cons.mpr ⟨(List.mem_append_right _ (List.mem_of_getElem? (i := 449) (by decide +kernel))), List.forall_mem_cons.mpr ⟨(List.mem_append_right _ (List.mem_of_getElem? (i := 451) (by decide +kernel))), List.forall_mem_cons.mpr ⟨(List.mem_append_right _ (List.mem_of_getElem? (i := 450) (by decide +kernel))), List.forall_mem_cons.mpr ⟨(List.mem_append_right _ (List.mem_of_getElem? (i := 539) (by decide +kernel))), List.forall_mem_cons.mpr ⟨(List.mem_append_right _ (List.mem_of_getElem? (i := 541) (by decide +kernel))), List.forall_mem_cons.mpr ⟨(List.mem_append_right _ (List.mem_of_getElem? (i := 542) (by decide +kernel))), List.forall_mem_cons.mpr ⟨(List.mem_append_right _ (List.mem_of_getElem? (i := 543) (by decide +kernel))), List.forall_mem_cons.mpr ⟨(List.mem_append_right _ (List.mem_of_getElem? (i := 544) (by decide +kernel))), List.forall_mem_cons.mpr ⟨(List.mem_append_right _ (List.mem_of_getElem? (i := 545) (by decide +kernel))), List.forall_mem_cons.mpr ⟨(List.mem_append_right _ (List.mem_of_getElem? (i := 37) (by decide +kernel))), List.forall_mem_cons.mpr ⟨(List.mem_append_right _ (List.mem_of_getElem? (i := 40) (by decide +kernel))), List.forall_mem_cons.mpr ⟨(List.mem_append_right _ (List.mem_of_getElem? (i := 559) (by decide +kernel))), List.forall_mem_cons.mpr ⟨(List.mem_append_right _ (List.mem_of_getElem? (i := 560) (by decide +kernel))), List.forall_mem_cons.mpr ⟨(List.mem_append_right _ (List.mem_of_getElem? (i := 561) (by decide +kernel))), List.forall_mem_cons.mpr ⟨(List.mem_append_right _ (List.mem_of_getElem? (i := 59) (by decide +kernel))), List.forall_mem_cons.mpr ⟨(List.mem_append_right _ (List.mem_of_getElem? (i := 562) (by decide +kernel))), List.forall_mem_cons.mpr ⟨(List.mem_append_right _ (List.mem_of_getElem? (i := 61) (by decide +kernel))), List.forall_mem_cons.mpr ⟨(List.mem_append_right _ (List.mem_of_getElem? (i := 62) (by decide +kernel))), List.forall_mem_cons.mpr ⟨(List.mem_append_right _ (List.mem_of_getElem? (i := 3) (by decide +kernel))), List.forall_mem_cons.mpr ⟨(List.mem_append_right _ (List.mem_of_getElem? (i := 65) (by decide +kernel))), List.forall_mem_cons.mpr ⟨(List.mem_append_right _ (List.mem_of_getElem? (i := 64) (by decide +kernel))), List.forall_mem_cons.mpr ⟨(List.mem_append_right _ (List.mem_of_getElem? (i := 563) (by decide +kernel))), List.forall_mem_cons.mpr ⟨(List.mem_append_right _ (List.mem_of_getElem? (i := 177) (by decide +kernel))), List.forall_mem_cons.mpr ⟨(List.mem_append_right _ (List.mem_of_getElem? (i := 178) (by decide +kernel))), List.forall_mem_cons.mpr ⟨(List.mem_append_right _ (List.mem_of_getElem? (i := 5) (by decide +kernel))), List.forall_mem_cons.mpr ⟨(List.mem_append_right _ (List.mem_of_getElem? (i := 181) (by decide +kernel))), List.forall_mem_cons.mpr ⟨(List.mem_append_right _ (List.mem_of_getElem? (i := 180) (by decide +kernel))), List.forall_mem_cons.mpr ⟨(List.mem_append_right _ (List.mem_of_getElem? (i := 564) (by decide +kernel))), fun _ h => absurd h List.not_mem_nil⟩⟩⟩⟩⟩⟩⟩⟩⟩⟩⟩⟩⟩⟩⟩⟩⟩⟩⟩⟩⟩⟩⟩⟩⟩⟩⟩⟩⟩⟩⟩⟩⟩⟩⟩⟩⟩⟩⟩⟩
theorem lwt_3 : ∀ w ∈ tbr_3, w ∈ lw_tbl := by
  unfold tbr_3
  exact List.forall_mem_cons.mpr ⟨(List.mem_append_right _ (List.mem_of_getElem? (i := 247) (by decide +kernel))), List.forall_mem_cons.mpr ⟨(List.mem_append_right _ (List.mem_of_getElem? (i := 248) (by decide +kernel))), List.forall_mem_cons.mpr ⟨(List.mem_append_right _ (List.mem_of_getElem? (i := 7) (by decide +kernel))), List.forall_mem_cons.mpr ⟨(List.mem_append_right _ (List.mem_of_getElem? (i := 251) (by decide +kernel))), List.forall_mem_cons.mpr ⟨(List.mem_append_right _ (List.mem_of_getElem? (i := 250) (by decide +kernel))), List.forall_mem_cons.mpr ⟨(List.mem_append_right _ (List.mem_of_getElem? (i := 565) (by decide +kernel))), List.forall_mem_cons.mpr ⟨(List.mem_append_right _ (List.mem_of_getElem? (i := 312) (by decide +kernel))), List.forall_mem_cons.mpr ⟨(List.mem_append_right _ (List.mem_of_getElem? (i := 313) (by decide +kernel))), List.forall_mem_cons.mpr ⟨(List.mem_append_right _ (List.mem_of_getElem? (i := 8) (by decide +kernel))), List.forall_mem_cons.mpr ⟨(List.mem_append_right _ (List.mem_of_getElem? (i := 316) (by decide +kernel))), List.forall_mem_cons.mpr ⟨(List.mem_append_right _ (List.mem_of_getElem? (i := 315) (by decide +kernel))), List.forall_mem_cons.mpr ⟨(List.mem_append_right _ (List.mem_of_getElem? (i := 566) (by decide +kernel))), List.forall_mem_cons.mpr ⟨(List.mem_append_right _ (List.mem_of_getElem? (i := 385) (by decide +kernel))), List.forall_mem_cons.mpr ⟨(List.mem_append_right _ (List.mem_of_getElem? (i := 386) (by decide +kernel))), List.forall_mem_cons.mpr ⟨(List.mem_append_right _ (List.mem_of_getElem? (i := 9) (by decide +kernel))), List.forall_mem_cons.mpr ⟨(List.mem_append_right _ (List.mem_of_getElem? (i := 389) (by decide +kernel))), List.forall_mem_cons.mpr ⟨(List.mem_append_right _ (List.mem_of_getElem? (i := 388) (by decide +kernel))), List.forall_mem_cons.mpr ⟨(List.mem_append_right _ (List.mem_of_getElem? (i := 567) (by decide +kernel))), List.forall_mem_cons.mpr ⟨(List.mem_append_right _ (List.mem_of_getElem? (i := 441) (by decide +kernel))), List.forall_mem_cons.mpr ⟨(List.mem_append_right _ (List.mem_of_getElem? (i := 442) (by decide +kernel))), List.forall_mem_cons.mpr ⟨(List.mem_append_right _ (List.mem_of_getElem? (i := 10) (by decide +kernel))), List.forall_mem_cons.mpr ⟨(List.mem_append_right _ (List.mem_of_getElem? (i := 445) (by decide +kernel))), List.forall_mem_cons.mpr ⟨(List.mem_append_right _ (List.mem_of_getElem? (i := 444) (by decide +kernel))), List.forall_mem_cons.mpr ⟨(List.mem_append_right _ (List.mem_of_getElem? (i := 568) (by decide +kernel))), List.forall_mem_cons.mpr ⟨(List.mem_append_right _ (List.mem_of_getElem? (i := 573) (by decide +kernel))), List.forall_mem_cons.mpr ⟨(List.mem_append_right _ (List.mem_of_getElem? (i := 574) (by decide +kernel))), List.forall_mem_cons.mpr ⟨(List.mem_append_right _ (List.mem_of_getElem? (i := 575) (by decide +kernel))), List.forall_mem_cons.mpr ⟨(List.mem_append_right _ (List.mem_of_getElem? (i := 576) (by decide +kernel))), List.forall_mem_cons.mpr ⟨(List.mem_append_right _ (List.mem_of_getElem? (i := 49) (by decide +kernel))), List.forall_mem_cons.mpr ⟨(List.mem_append_right _ (List.mem_of_getElem? (i := 627) (by decide +kernel))), List.forall_mem_cons.mpr ⟨(List.mem_append_right _ (List.mem_of_getElem? (i := 628) (by decide +kernel))), List.forall_mem_cons.mpr ⟨(List.mem_append_right _ (List.mem_of_getElem? (i := 629) (by decide +kernel))), List.forall_mem_cons.mpr ⟨(List.mem_append_right _ (List.mem_of_getElem? (i := 630) (by decide +kernel))), List.forall_mem_cons.mpr ⟨(List.mem_append_right _ (List.mem_of_getElem? (i := 623) (by decide +kernel))), List.forall_mem_cons.mpr ⟨(List.mem_append_right _ (List.mem_of_getElem? (i := 624) (by decide +kernel))), List.forall_mem_cons.mpr ⟨(List.mem_append_right _ (List.mem_of_getElem? (i := 625) (by decide +kernel))), List.forall_mem_cons.mpr ⟨(List.mem_append_right _ (List.mem_of_getElem? (i := 626) (by decide +kernel))), List.forall_mem_cons.mpr ⟨(List.mem_append_right _ (List.mem_of_getElem? (i := 50) (by decide +kernel))), List.forall_mem_cons.mpr ⟨(List.mem_append_right _ (List.mem_of_getElem? (i := 569) (by decide +kernel))), List.forall_mem_cons.mpr ⟨(List.mem_append_right _ (List.mem_of_getElem? (i := 618) (by decide +kernel))), fun _ h => absurd h List.not_mem_nil⟩⟩⟩⟩⟩⟩⟩⟩⟩⟩⟩⟩⟩⟩⟩⟩⟩⟩⟩⟩⟩⟩⟩⟩⟩⟩⟩⟩⟩⟩⟩⟩⟩⟩⟩⟩⟩⟩⟩⟩
theorem lwt_4 : ∀ w ∈ tbr_4, w ∈ lw_tbl := by
  unfold tbr_4
  exact List.forall_mem_cons.mpr ⟨(List.mem_append_right _ (List.mem_of_getElem? (i := 619) (by decide +kernel))), List.forall_mem_cons.mpr ⟨(List.mem_append_right _ (List.mem_of_getElem? (i := 620) (by decide +kernel))), List.forall_mem_cons.mpr ⟨(List.mem_append_right _ (List.mem_of_getElem? (i := 621) (by decide +kernel))), List.forall_mem_cons.mpr ⟨(List.mem_append_right _ (List.mem_of_getElem? (i := 622) (by decide +kernel))), List.forall_mem_cons.mpr ⟨(List.mem_append_right _ (List.mem_of_getElem? (i := 572) (by decide +kernel))), List.forall_mem_cons.mpr ⟨(List.mem_append_right _ (List.mem_of_getElem? (i := 570) (by decide +kernel))), List.forall_mem_cons.mpr ⟨(List.mem_append_right _ (List.mem_of_getElem? (i := 1189) (by decide +kernel))), List.forall_mem_cons.mpr ⟨(List.mem_append_right _ (List.mem_of_getElem? (i := 1191) (by decide +kernel))), List.forall_mem_cons.mpr ⟨(List.mem_append_left _ (List.mem_of_getElem? (i := 0) rfl)), List.forall_mem_cons.mpr ⟨(List.mem_append_right _ (List.mem_of_getElem? (i := 1) (by decide +kernel))), List.forall_mem_cons.mpr ⟨(List.mem_append_right _ (List.mem_of_getElem? (i := 1192) (by decide +kernel))), List.forall_mem_cons.mpr ⟨(List.mem_append_right _ (List.mem_of_getElem? (i := 1197) (by decide +kernel))), List.forall_mem_cons.mpr ⟨(List.mem_append_right _ (List.mem_of_getElem? (i := 1199) (by decide +kernel))), List.forall_mem_cons.mpr ⟨(List.mem_append_left _ (List.mem_of_getElem? (i := 1) rfl)), List.forall_mem_cons.mpr ⟨(List.mem_append_right _ (List.mem_of_getElem? (i := 1200) (by decide +kernel))), List.forall_mem_cons.mpr ⟨(List.mem_append_right _ (List.mem_of_getElem? (i := 1455) (by decide +kernel))), List.forall_mem_cons.mpr ⟨(List.mem_append_right _ (List.mem_of_getElem? (i := 1457) (by decide +kernel))), List.forall_mem_cons.mpr ⟨(List.mem_append_left _ (List.mem_of_getElem? (i := 2) rfl)), List.forall_mem_cons.mpr ⟨(List.mem_append_right _ (List.mem_of_getElem? (i := 1458) (by decide +kernel))), List.forall_mem_cons.mpr ⟨(List.mem_append_right _ (List.mem_of_getElem? (i := 325) (by decide +kernel))), List.forall_mem_cons.mpr ⟨(List.mem_append_right _ (List.mem_of_getElem? (i := 318) (by decide +kernel))), List.forall_mem_cons.mpr ⟨(List.mem_append_right _ (List.mem_of_getElem? (i := 323) (by decide +kernel))), List.forall_mem_cons.mpr ⟨(List.mem_append_right _ (List.mem_of_getElem? (i := 1675) (by decide +kernel))), List.forall_mem_cons.mpr ⟨(List.mem_append_right _ (List.mem_of_getElem? (i := 1677) (by decide +kernel))), List.forall_mem_cons.mpr ⟨(List.mem_append_left _ (List.mem_of_getElem? (i := 3) rfl)), List.forall_mem_cons.mpr ⟨(List.mem_append_right _ (List.mem_of_getElem? (i := 1678) (by decide +kernel))), List.forall_mem_cons.mpr ⟨(List.mem_append_right _ (List.mem_of_getElem? (i := 1839) (by decide +kernel))), List.forall_mem_cons.mpr ⟨(List.mem_append_right _ (List.mem_of_getElem? (i := 1840) (by decide +kernel))), List.forall_mem_cons.mpr ⟨(List.mem_append_right _ (List.mem_of_getElem? (i := 1841) (by decide +kernel))), List.forall_mem_cons.mpr ⟨(List.mem_append_right _ (List.mem_of_getElem? (i := 1842) (by decide +kernel))), List.forall_mem_cons.mpr ⟨(List.mem_append_right _ (List.mem_of_getElem? (i := 1659) (by decide +kernel))), List.forall_mem_cons.mpr ⟨(List.mem_append_right _ (List.mem_of_getElem? (i := 1660) (by decide +kernel))), List.forall_mem_cons.mpr ⟨(List.mem_append_right _ (List.mem_of_getElem? (i := 1661) (by decide +kernel))), List.forall_mem_cons.mpr ⟨(List.mem_append_right _ (List.mem_of_getElem? (i := 1662) (by decide +kernel))), List.forall_mem_cons.mpr ⟨(List.mem_append_right _ (List.mem_of_getElem? (i := 1667) (by decide +kernel))), List.forall_mem_cons.mpr ⟨(List.mem_append_right _ (List.mem_of_getElem? (i := 1668) (by decide +kernel))), List.forall_mem_cons.mpr ⟨(List.mem_append_right _ (List.mem_of_getElem? (i := 1669) (by decide +kernel))), List.forall_mem_cons.mpr ⟨(List.mem_append_right _ (List.mem_of_getElem? (i := 1670) (by decide +kernel))), List.forall_mem_cons.mpr ⟨(List.mem_append_right _ (List.mem_of_getElem? (i := 326) (by decide +kernel))), List.forall_mem_cons.mpr ⟨(List.mem_append_right _ (List.mem_of_getElem? (i := 336) (by decide +kernel))), fun _ h => absurd h List.not_mem_nil⟩⟩⟩⟩⟩⟩⟩⟩⟩⟩⟩⟩⟩⟩⟩⟩⟩⟩⟩⟩⟩⟩⟩⟩⟩⟩⟩⟩⟩⟩⟩⟩⟩⟩⟩⟩⟩⟩⟩⟩
theorem lwt_5 : ∀ w ∈ tbr_5, w ∈ lw_tbl := by
  unfold tbr_5
  exact List.forall_mem_cons.mpr ⟨(List.mem_append_right _ (List.mem_of_getElem? (i := 338) (by decide +kernel))), List.forall_mem_cons.mpr ⟨(List.mem_append_right _ (List.mem_of_getElem? (i := 340) (by decide +kernel))), List.forall_mem_cons.mpr ⟨(List.mem_append_right _ (List.mem_of_getElem? (i := 342) (by decide +kernel))), List.forall_mem_cons.mpr ⟨(List.mem_append_right _ (List.mem_of_getElem? (i := 1883) (by decide +kernel))), List.forall_mem_cons.mpr ⟨(List.mem_append_right _ (List.mem_of_getElem? (i := 1803) (by decide +kernel))), List.forall_mem_cons.mpr ⟨(List.mem_append_right _ (List.mem_of_getElem? (i := 1804) (by decide +kernel))), List.forall_mem_cons.mpr ⟨(List.mem_append_right _ (List.mem_of_getElem? (i := 1805) (by decide +kernel))), List.forall_mem_cons.mpr ⟨(List.mem_append_right _ (List.mem_of_getElem? (i := 1888) (by decide +kernel))), List.forall_mem_cons.mpr ⟨(List.mem_append_right _ (List.mem_of_getElem? (i := 1889) (by decide +kernel))), List.forall_mem_cons.mpr ⟨(List.mem_append_right _ (List.mem_of_getElem? (i := 1890) (by decide +kernel))), List.forall_mem_cons.mpr ⟨(List.mem_append_right _ (List.mem_of_getElem? (i := 1891) (by decide +kernel))), List.forall_mem_cons.mpr ⟨(List.mem_append_right _ (List.mem_of_getElem? (i := 1896) (by decide +kernel))), List.forall_mem_cons.mpr ⟨(List.mem_append_right _ (List.mem_of_getElem? (i := 2010) (by decide +kernel))), List.forall_mem_cons.mpr ⟨(List.mem_append_right _ (List.mem_of_getElem? (i := 690) (by decide +kernel))), List.forall_mem_cons.mpr ⟨(List.mem_append_right _ (List.mem_of_getElem? (i := 18) (by decide +kernel))), List.forall_mem_cons.mpr ⟨(List.mem_append_right _ (List.mem_of_getElem? (i := 691) (by decide +kernel))), List.forall_mem_cons.mpr ⟨(List.mem_append_right _ (List.mem_of_getElem? (i := 2006) (by decide +kernel))), List.forall_mem_cons.mpr ⟨(List.mem_append_right _ (List.mem_of_getElem? (i := 2007) (by decide +kernel))), List.forall_mem_cons.mpr ⟨(List.mem_append_right _ (List.mem_of_getElem? (i := 2008) (by decide +kernel))), List.forall_mem_cons.mpr ⟨(List.mem_append_right _ (List.mem_of_getElem? (i := 2009) (by decide +kernel))), List.forall_mem_cons.mpr ⟨(List.mem_append_right _ (List.mem_of_getElem? (i := 2174) (by decide +kernel))), List.forall_mem_cons.mpr ⟨(List.mem_append_right _ (List.mem_of_getElem? (i := 2175) (by decide +kernel))), List.forall_mem_cons.mpr ⟨(List.mem_append_right _ (List.mem_of_getElem? (i := 2176) (by decide +kernel))), List.forall_mem_cons.mpr ⟨(List.mem_append_right _ (List.mem_of_getElem? (i := 2177) (by decide +kernel))), fun _ h => absurd h List.not_mem_nil⟩⟩⟩⟩⟩⟩⟩⟩⟩⟩⟩⟩⟩⟩⟩⟩⟩⟩⟩⟩⟩⟩⟩⟩
theorem tb_lw : ∀ w ∈ tb, w ∈ lw_tbl := by
  intro w h
  unfold tb at h
  simp only [List.mem_append] at h
  rcases h with h | h | h | h | h | h | h | h | h | h | h | h | h | h | h | h | h | h | h
  · exact List.mem_append_right _ (lwi_X0 w h)
  · exact List.mem_append_right _ (lwi_X1 w h)
  · exact List.mem_append_right _ (lwi_X2 w h)
  · exact List.mem_append_right _ (lwi_X3 w h)
  · exact List.mem_append_right _ (lwi_X4 w h)
  · exact List.mem_append_right _ (lwi_X5 w h)
  · exact List.mem_append_right _ (lwi_X7 w h)
  · exact List.mem_append_right _ (lwi_X8 w h)
  · exact List.mem_append_right _ (lwi_X9 w h)
  · exact List.mem_append_right _ (lwi_X11 w h)
  · exact List.mem_append_right _ (lwi_X12 w h)
  · exact List.mem_append_right _ (lwi_X13 w h)
  · exact List.mem_append_right _ (lwi_X14 w h)
  · exact lwt_0 w h
  · exact lwt_1 w h
  · exact lwt_2 w h
  · exact lwt_3 w h
  · exact lwt_4 w h
  · exact lwt_5 w h
end
section
def dfX0 : List Value := [.null, .int 0]
theorem dfX0_ok : ∀ j, j < 2 → defaultValue (tyX0 j) = vp_V dfX0 j := by decide +kernel
theorem L_dfX0 : dfX0.length = 2 := by decide +kernel
def dfX1 : List Value := [.null, .null, .null, .null, .null, .int 0, .int 0, .int 0, .null, .null]
theorem dfX1_ok : ∀ j, j < 10 → defaultValue (tyX1 j) = vp_V dfX1 j := by decide +kernel
theorem L_dfX1 : dfX1.length = 10 := by decide +kernel
def dfX2 : List Value := [.null, .int 0, .int 0, .int 0, .int 0, .int 0, .int 0, .null, .int 0, .int 0, .long 0, .int 0]
theorem dfX2_ok : ∀ j, j < 12 → defaultValue (tyX2 j) = vp_V dfX2 j := by decide +kernel
theorem L_dfX2 : dfX2.length = 12 := by decide +kernel
def dfX3 : List Value := [.null, .int 0, .null, .null, .null, .null, .null, .null, .null, .null, .int 0, .null, .null, .null, .null, .null]
theorem dfX3_ok : ∀ j, j < 16 → defaultValue (tyX3 j) = vp_V dfX3 j := by decide +kernel
theorem L_dfX3 : dfX3.length = 16 := by decide +kernel
def dfX4 : List Value := [.null, .null, .null, .null, .null, .int 0, .int 0, .int 0]
theorem dfX4_ok : ∀ j, j < 8 → defaultValue (tyX4 j) = vp_V dfX4 j := by decide +kernel
theorem L_dfX4 : dfX4.length = 8 := by decide +kernel
def dfX5 : List Value := [.null, .null, .null, .int 0, .null, .int 0, .null, .int 0, .null, .null, .null, .int 0, .null, .int 0, .int 0, .int 0, .long 0, .int 0, .int 0, .int 0]
theorem dfX5_ok : ∀ j, j < 20 → defaultValue (tyX5 j) = vp_V dfX5 j := by decide +kernel
theorem L_dfX5 : dfX5.length = 20 := by decide +kernel
def dfX7 : List Value := [.null, .int 0, .int 0, .int 0, .null, .int 0, .int 0, .int 0, .int 0, .null, .null, .null, .int 0, .int 0, .int 0, .int 0, .int 0]
theorem dfX7_ok : ∀ j, j < 17 → defaultValue (tyX7 j) = vp_V dfX7 j := by decide +kernel
theorem L_dfX7 : dfX7.length = 17 := by decide +kernel
def dfX8 : List Value := [.null, .null, .int 0, .null, .int 0, .null, .null, .null, .null, .int 0, .int 0, .int 0, .null, .null, .null]
theorem dfX8_ok : ∀ j, j < 15 → defaultValue (tyX8 j) = vp_V dfX8 j := by decide +kernel
theorem L_dfX8 : dfX8.length = 15 := by decide +kernel
def dfX9 : List Value := [.null, .null, .null, .null, .null, .null]
theorem dfX9_ok : ∀ j, j < 6 → defaultValue (tyX9 j) = vp_V dfX9 j := by decide +kernel
theorem L_dfX9 : dfX9.length = 6 := by decide +kernel
def dfX11 : List Value := [.null, .null, .null, .null, .null, .int 0, .int 0, .null, .int 0, .int 0, .null, .null, .null, .null, .null, .null, .null, .null]
theorem dfX11_ok : ∀ j, j < 18 → defaultValue (tyX11 j) = vp_V dfX11 j := by decide +kernel
theorem L_dfX11 : dfX11.length = 18 := by decide +kernel
def dfX12 : List Value := [.null, .null, .null, .null, .null, .null, .null, .null, .null, .null, .int 0, .int 0, .int 0, .int 0, .int 0, .int 0, .int 0, .int 0]
theorem dfX12_ok : ∀ j, j < 18 → defaultValue (tyX12 j) = vp_V dfX12 j := by decide +kernel
theorem L_dfX12 : dfX12.length = 18 := by decide +kernel
def dfX13 : List Value := [.null, .null, .int 0, .int 0, .int 0, .null, .null, .null, .null, .null, .null, .null, .null, .null, .null, .null, .null, .null, .null, .null, .null, .int 0, .null]
theorem dfX13_ok : ∀ j, j < 23 → defaultValue (tyX13 j) = vp_V dfX13 j := by decide +kernel
theorem L_dfX13 : dfX13.length = 23 := by decide +kernel
def dfX14 : List Value := [.null, .int 0, .int 0, .null, .int 0, .int 0, .null, .int 0, .int 0, .int 0, .int 0, .null, .int 0, .int 0, .int 0, .null, .null, .null, .null, .null, .int 0, .int 0, .int 0, .int 0, .null, .int 0, .null, .null, .int 0, .null, .null, .null, .null, .null, .null, .int 0, .int 0, .int 0, .null, .int 0, .null, .int 0, .null, .int 0, .null, .int 0, .int 0, .null, .null, .null, .null, .int 0, .int 0, .int 0, .int 0, .null, .int 0, .int 0, .null, .null, .null, .null, .int 0, .int 0, .int 0, .int 0, .null, .null, .null, .null, .null, .null, .null, .int 0, .int 0, .null, .null, .int 0, .int 0, .null, .null, .null, .null, .null, .null, .int 0, .int 0, .null, .int 0, .null, .null, .null, .null, .null, .null, .null, .int 0, .int 0, .int 0, .int 0, .int 0, .long 0, .int 0, .null, .null, .int 0, .int 0, .int 0, .null, .null, .int 0, .null, .null, .null, .null, .null, .null, .null, .null, .null, .null, .null, .int 0, .int 0, .null, .null, .null, .null, .null, .int 0, .null, .null, .null, .null, .null, .int 0, .null, .null, .null, .int 0, .null, .null, .null]
theorem dfX14_ok : ∀ j, j < 143 → defaultValue (tyX14 j) = vp_V dfX14 j := by decide +kernel
theorem L_dfX14 : dfX14.length = 143 := by decide +kernel
theorem g_dfX0_1 : dfX0[1]? = some (.int 0) := rfl
theorem g_dfX12_10 : dfX12[10]? = some (.int 0) := rfl
theorem g_dfX12_11 : dfX12[11]? = some (.int 0) := rfl
theorem g_dfX12_12 : dfX12[12]? = some (.int 0) := rfl
theorem g_dfX12_13 : dfX12[13]? = some (.int 0) := rfl
theorem g_dfX5_0 : dfX5[0]? = some (.null) := rfl
theorem g_dfX5_5 : dfX5[5]? = some (.int 0) := rfl
theorem g_dfX5_7 : dfX5[7]? = some (.int 0) := rfl
theorem g_dfX5_16 : dfX5[16]? = some (.long 0) := rfl
theorem g_dfX5_18 : dfX5[18]? = some (.int 0) := rfl
theorem g_dfX5_19 : dfX5[19]? = some (.int 0) := rfl
def nestL : List Cond := [Cond.methodLinkNest RX12 9 yX0_init RX12, Cond.methodLinkNest RX12 30 yX2_init RX12, Cond.methodLinkNest RX2 11 yX7_init RX12, Cond.methodLinkNest RX12 37 yX1_init RX12, Cond.methodLinkNest RX1 11 yX4_init RX12, Cond.methodLinkNest RX12 44 yX11_init RX12, Cond.methodLinkNest RX11 11 yX0_init RX12, Cond.methodLinkNest RX11 45 yX4_init RX12, Cond.methodLinkNest RX12 51 yX5_init RX12, Cond.methodLinkNest RX12 58 yX3_init RX12, Cond.methodLinkNest RX12 65 yX9_init RX12, Cond.methodLinkNest RX14 222 yX13_init RX14, Cond.fieldLinkNest RX7 97 "CodeFoundry" "MAGIC" "[I" RX12]
theorem nn_X12_9 : Cond.methodLinkNest RX12 9 yX0_init RX12 ∈ nestL := List.mem_of_getElem? (i := 0) rfl
theorem nt_0 : Cond.methodLinkNest RX12 9 yX0_init RX12 ∈ tables_1 := List.mem_of_getElem? (i := 42) (by decide +kernel)
theorem nn_X12_30 : Cond.methodLinkNest RX12 30 yX2_init RX12 ∈ nestL := List.mem_of_getElem? (i := 1) rfl
theorem nt_1 : Cond.methodLinkNest RX12 30 yX2_init RX12 ∈ tables_1 := List.mem_of_getElem? (i := 63) (by decide +kernel)
theorem nn_X2_11 : Cond.methodLinkNest RX2 11 yX7_init RX12 ∈ nestL := List.mem_of_getElem? (i := 2) rfl
theorem nt_2 : Cond.methodLinkNest RX2 11 yX7_init RX12 ∈ tables_1 := List.mem_of_getElem? (i := 69) (by decide +kernel)
theorem nn_X12_37 : Cond.methodLinkNest RX12 37 yX1_init RX12 ∈ nestL := List.mem_of_getElem? (i := 3) rfl
theorem nt_3 : Cond.methodLinkNest RX12 37 yX1_init RX12 ∈ tables_1 := List.mem_of_getElem? (i := 179) (by decide +kernel)
theorem nn_X1_11 : Cond.methodLinkNest RX1 11 yX4_init RX12 ∈ nestL := List.mem_of_getElem? (i := 4) rfl
theorem nt_4 : Cond.methodLinkNest RX1 11 yX4_init RX12 ∈ tables_1 := List.mem_of_getElem? (i := 185) (by decide +kernel)
theorem nn_X12_44 : Cond.methodLinkNest RX12 44 yX11_init RX12 ∈ nestL := List.mem_of_getElem? (i := 5) rfl
theorem nt_5 : Cond.methodLinkNest RX12 44 yX11_init RX12 ∈ tables_1 := List.mem_of_getElem? (i := 249) (by decide +kernel)
theorem nn_X11_11 : Cond.methodLinkNest RX11 11 yX0_init RX12 ∈ nestL := List.mem_of_getElem? (i := 6) rfl
theorem nt_6 : Cond.methodLinkNest RX11 11 yX0_init RX12 ∈ tables_1 := List.mem_of_getElem? (i := 254) (by decide +kernel)
theorem nn_X11_45 : Cond.methodLinkNest RX11 45 yX4_init RX12 ∈ nestL := List.mem_of_getElem? (i := 7) rfl
theorem nt_7 : Cond.methodLinkNest RX11 45 yX4_init RX12 ∈ tables_1 := List.mem_of_getElem? (i := 256) (by decide +kernel)
theorem nn_X12_51 : Cond.methodLinkNest RX12 51 yX5_init RX12 ∈ nestL := List.mem_of_getElem? (i := 8) rfl
theorem nt_8 : Cond.methodLinkNest RX12 51 yX5_init RX12 ∈ tables_1 := List.mem_of_getElem? (i := 314) (by decide +kernel)
theorem nn_X12_58 : Cond.methodLinkNest RX12 58 yX3_init RX12 ∈ nestL := List.mem_of_getElem? (i := 9) rfl
theorem nt_9 : Cond.methodLinkNest RX12 58 yX3_init RX12 ∈ tables_1 := List.mem_of_getElem? (i := 387) (by decide +kernel)
theorem nn_X12_65 : Cond.methodLinkNest RX12 65 yX9_init RX12 ∈ nestL := List.mem_of_getElem? (i := 10) rfl
theorem nt_10 : Cond.methodLinkNest RX12 65 yX9_init RX12 ∈ tables_1 := List.mem_of_getElem? (i := 443) (by decide +kernel)
theorem nn_X14_222 : Cond.methodLinkNest RX14 222 yX13_init RX14 ∈ nestL := List.mem_of_getElem? (i := 11) rfl
theorem nt_11 : Cond.methodLinkNest RX14 222 yX13_init RX14 ∈ tables_1 := List.mem_of_getElem? (i := 2292) (by decide +kernel)
theorem nn_X7_97 : Cond.fieldLinkNest RX7 97 "CodeFoundry" "MAGIC" "[I" RX12 ∈ nestL := List.mem_of_getElem? (i := 12) rfl
theorem nt_12 : Cond.fieldLinkNest RX7 97 "CodeFoundry" "MAGIC" "[I" RX12 ∈ tables_1 := List.mem_of_getElem? (i := 667) (by decide +kernel)
def aoL : List String := ["CodeFoundry$Unit", "CodeFoundryModel$File", "java/lang/String"]
theorem ao_CodeFoundry_Unit : "CodeFoundry$Unit" ∈ aoL := List.mem_of_getElem? (i := 0) rfl
theorem at_0 : Cond.arrayOver (.object "CodeFoundry$Unit") ∈ tables_1 := List.mem_of_getElem? (i := 60) (by decide +kernel)
theorem ao_CodeFoundryModel_File : "CodeFoundryModel$File" ∈ aoL := List.mem_of_getElem? (i := 1) rfl
theorem at_1 : Cond.arrayOver (.object "CodeFoundryModel$File") ∈ tables_1 := List.mem_of_getElem? (i := 2221) (by decide +kernel)
theorem ao_java_lang_String : "java/lang/String" ∈ aoL := List.mem_of_getElem? (i := 2) rfl
theorem at_2 : Cond.arrayOver (.object "java/lang/String") ∈ tables_1 := List.mem_of_getElem? (i := 2288) (by decide +kernel)
theorem nest_tb : ∀ w ∈ nestL, w ∈ tables_1 := List.forall_mem_cons.mpr ⟨nt_0, List.forall_mem_cons.mpr ⟨nt_1, List.forall_mem_cons.mpr ⟨nt_2, List.forall_mem_cons.mpr ⟨nt_3, List.forall_mem_cons.mpr ⟨nt_4, List.forall_mem_cons.mpr ⟨nt_5, List.forall_mem_cons.mpr ⟨nt_6, List.forall_mem_cons.mpr ⟨nt_7, List.forall_mem_cons.mpr ⟨nt_8, List.forall_mem_cons.mpr ⟨nt_9, List.forall_mem_cons.mpr ⟨nt_10, List.forall_mem_cons.mpr ⟨nt_11, List.forall_mem_cons.mpr ⟨nt_12, fun _ h => absurd h List.not_mem_nil⟩⟩⟩⟩⟩⟩⟩⟩⟩⟩⟩⟩⟩
/-- what the tables say beside the words: nest mates' links, arrays of references -/
def ex (U : State) : Prop := (∀ w ∈ nestL, va_Nw w U) ∧ ∀ C ∈ aoL, va_AO C U
theorem ex_same {u U : State} (h : u.vm = U.vm) (hx : ex u) : ex U := by
  refine ⟨fun w hw => ?_, fun C hC => ?_⟩
  · have h1 := hx.1 w hw
    simp only [nestL, List.mem_cons, List.not_mem_nil, or_false] at hw
    rcases hw with rfl | rfl | rfl | rfl | rfl | rfl | rfl | rfl | rfl | rfl | rfl | rfl | rfl <;> exact va_Nw.same rfl h h1
  · exact va_AO.moved (by rw [h]; exact Vm.Alike.refl _) (hx.2 C hC)
theorem ex_warm {s U : State} (hW : s.WarmedH U.vm) (hx : ex s) : ex U := by
  refine ⟨fun w hw => ?_, fun C hC => va_AO.moved hW.alike (hx.2 C hC)⟩
  have h1 := hx.1 w hw
  simp only [nestL, List.mem_cons, List.not_mem_nil, or_false] at hw
  rcases hw with rfl | rfl | rfl | rfl | rfl | rfl | rfl | rfl | rfl | rfl | rfl | rfl | rfl <;> first | exact va_Nw.warmM hW h1 | exact va_Nw.warmF hW h1
theorem nw_of {w : Cond} {U : State} (hw : w ∈ nestL) (hx : ex U) : va_Nw w U := hx.1 w hw
theorem ao_of {C : String} {U : State} (hC : C ∈ aoL) (hx : ex U) : va_AO C U := hx.2 C hC
def st_U (dC : Nat → ClassId) (dI : Nat → Nat → Nat) (sz : Nat) (ws : va_W) (tys : List (ClassId × FieldType)) (U : State) : Prop := U.heap.size = sz ∧ va_P (dC, dI) cl0 ws U.heap ∧ va_K (dC, dI) cl0 tys U ∧ va_D (fun _ => True) ws ∧ ex U
theorem st_blind {av : List Value} {dC : Nat → ClassId} {dI : Nat → Nat → Nat} {sz : Nat} {ws : va_W} {tys : List (ClassId × FieldType)} : FrameBlind (va_Pc av (st_U dC dI sz ws tys)) := fun a U g mk q => by
  obtain ⟨q0, q1, qP, qK, qD, qE⟩ := q
  exact ⟨q0, q1, qP, va_K.moved (u := U) (U := U.calling g mk a) (Vm.Alike.refl U.vm) qK, qD, ex_same (u := U) rfl qE⟩
theorem st_mk {av : List Value} {dC : Nat → ClassId} {dI : Nat → Nat → Nat} {ws : va_W} {tys : List (ClassId × FieldType)} {s U : State} {H : Heap} {A : Nat → Prop} (hU : U.heap = H) (hW : s.WarmedH U.vm) (hP : va_P (dC, dI) cl0 ws H) (hK : va_K (dC, dI) cl0 tys s) (hD : va_D A ws) (hex : ex s) : va_Pc av (st_U dC dI H.size ws tys) av.toArray U :=
  ⟨rfl, by rw [hU], by rw [hU]; exact hP, va_K.moved hW.alike hK, hD.weaken (fun _ _ _ _ => trivial), ex_warm hW hex⟩
theorem gd_I {y : MethodName} {c : ByteArray} {n : Nat} {r : Option FieldType} (h : Cond.code y c n r ∈ tb) : GoodIn tb (wt y c n r) := fun w hw => by
  rcases List.mem_cons.mp hw with rfl | hw
  · exact ⟨h, good_of_word (tb_good _ h)⟩
  · exact ⟨hw, good_of_word (tb_good _ hw)⟩
theorem gd_V {own C : String} {idx : Nat} {y : MethodName} {c : ByteArray} {n : Nat} {r : Option FieldType} (h1 : Cond.methodLink own idx y ∈ tb) (h2 : Cond.instanceMethod y ∈ tb) (h3 : Cond.selects C y y ∈ tb) (h4 : Cond.initialized C ∈ tb) (h : Cond.code y c n r ∈ tb) : GoodIn tb (wsV own idx C y (wt y c n r)) := fun w hw => by
  unfold wsV at hw
  rcases List.mem_append.mp hw with hw | hw
  · have : w ∈ tb := by
      simp only [List.mem_cons, List.not_mem_nil, or_false] at hw
      rcases hw with rfl | rfl | rfl | rfl <;> assumption
    exact ⟨this, good_of_word (tb_good _ this)⟩
  · exact gd_I h w hw
theorem gd_S {own : String} {idx : Nat} {y : MethodName} {c : ByteArray} {n : Nat} {r : Option FieldType} (h1 : Cond.methodLink own idx y ∈ tb) (h2 : Cond.static y ∈ tb) (h4 : Cond.initialized y.cls ∈ tb) (h : Cond.code y c n r ∈ tb) : GoodIn tb (va_wsS own idx y (wt y c n r)) := fun w hw => by
  unfold va_wsS at hw
  rcases List.mem_append.mp hw with hw | hw
  · have : w ∈ tb := by
      simp only [List.mem_cons, List.not_mem_nil, or_false] at hw
      rcases hw with rfl | rfl | rfl <;> assumption
    exact ⟨this, good_of_word (tb_good _ this)⟩
  · exact gd_I h w hw
theorem fx_len {fs fs' : List Value} {k n : Nat} {v : Value} (e : fs' = fs.set k v) (h : fs.length = n) : fs'.length = n := by rw [e, List.length_set]; exact h
theorem fx_ne {fs fs' : List Value} {k j : Nat} {v w : Value} (e : fs' = fs.set k v) (h : fs[j]? = some w) (hne : k ≠ j) : fs'[j]? = some w := by rw [e, List.getElem?_set_ne hne]; exact h
theorem fx_self {fs fs' : List Value} {k : Nat} {v : Value} (e : fs' = fs.set k v) (h : k < fs.length) : fs'[k]? = some v := by rw [e]; exact List.getElem?_set_self h
theorem vi {i : Int32} {n : Nat} (h : decide (¬ (i < 0 ∨ n ≤ i.toNatClampNeg)) = true) : vp_in i n := by unfold vp_in; exact of_decide_eq_true h
def bk (n : Int32) : Bool := decide (n < 64 ∧ ¬ (n < 0 ∨ 64 ≤ n.toNatClampNeg))
theorem bk1 {n : Int32} (h : bk n = true) : n < 64 := (of_decide_eq_true h).1
theorem bk2 {n : Int32} (h : bk n = true) : vp_in n 64 := (of_decide_eq_true h).2
def wk (n : Int32) : Bool := decide (¬ (n < 0 ∨ 16000 ≤ n.toNatClampNeg))
theorem wk2 {n : Int32} (h : wk n = true) : vp_in n 16000 := by unfold vp_in; exact of_decide_eq_true h
theorem k_ge {x : Int32} (h1 : ¬ x < 0) (h2 : ¬ 0 ≤ x) : False := h2 (Int32.not_lt.mp h1)
theorem k_gt1 {x : Int32} (h1 : ¬ x < 1) (h2 : ¬ 0 < x) : False := by
  rw [Int32.lt_iff_toInt_lt] at h1 h2
  have e1 : (1 : Int32).toInt = 1 := rfl
  have e0 : (0 : Int32).toInt = 0 := rfl
  omega
theorem k_m1 {x : Int32} (h1 : ¬ x < 0) (h2 : x < -1) : False := by
  rw [Int32.lt_iff_toInt_lt] at h1 h2
  have e1 : (-1 : Int32).toInt = -1 := rfl
  have e0 : (0 : Int32).toInt = 0 := rfl
  omega
theorem k_in {x y : Int32} {n : Nat} (hy : y.toInt = n) (h1 : ¬ x < 0) (h2 : x < y) : vp_in x n := by
  unfold vp_in
  rw [Int32.lt_iff_toInt_lt] at h1 h2
  have e0 : (0 : Int32).toInt = 0 := rfl
  rintro (h | h)
  · rw [Int32.lt_iff_toInt_lt] at h; omega
  · have : x.toNatClampNeg = x.toInt.toNat := rfl
    omega
theorem k_in12 {x : Int32} (h1 : ¬ x < 0) (h2 : x < 12) : vp_in x 12 := k_in rfl h1 h2
theorem k_in12m {x : Int32} (h1 : ¬ x < 1) (h2 : ¬ 11 < x) : vp_in x 12 := by
  unfold vp_in
  rw [Int32.lt_iff_toInt_lt] at h1 h2
  have e1 : (1 : Int32).toInt = 1 := rfl
  have e2 : (11 : Int32).toInt = 11 := rfl
  have e0 : (0 : Int32).toInt = 0 := rfl
  rintro (h | h)
  · rw [Int32.lt_iff_toInt_lt] at h; omega
  · have : x.toNatClampNeg = x.toInt.toNat := rfl
    omega
theorem k_cmp {v : Int64} (h1 : ¬ lg_cmp v 1 < 0) (h2 : ¬ 0 < lg_cmp v ((0 : Int32).toInt64)) : False := by
  have e : ((0 : Int32).toInt64) = (0 : Int64) := by decide
  rw [e] at h2
  have a : (1 : Int64) ≤ v := (lg_cmp_ge v 1).mp (Int32.not_lt.mp h1)
  have b : v > 0 := Int64.lt_of_lt_of_le (by decide : (0 : Int64) < 1) a
  apply h2
  unfold lg_cmp
  rw [if_pos b]
  decide
end
section
set_option maxHeartbeats 4000000 in
set_option maxRecDepth 100000 in
theorem m_X0_init (l : Launch) (dC : Nat → ClassId) (dI : Nat → Nat → Nat) (sz : Nat) (h0 : Nat)  : Met l yX0_init (wt yX0_init cX0_init 1 none) ({ frames := 1, cells := 1, slots := 64, locals := 12 }) (va_Pc [.ref h0] (st_U dC dI sz [(h0, .inr (0, dfX0))] [])) (va_Qv (fun _ : Unit => True) (fun (_ : Unit) (t : State) => ∃ (fs1 : List Value), ∃ (hd : Nat), ∃ (cB : ClassId), (fs1.length = 2) ∧ (fs1[0]? = some (.ref hd)) ∧ (fs1[1]? = some (.int 0)) ∧ va_P (dC, dI) cl0 [(h0, .inr (0, fs1)), (hd, .inl (cB, 64, .inl (fun _ => 0)))] t.heap ∧ va_K (dC, dI) cl0 [(cB, .byte)] t ∧ va_D (va_A [(h0, .inr (0, dfX0))] sz) [(h0, .inr (0, fs1)), (hd, .inl (cB, 64, .inl (fun _ => 0)))]) (va_A [(h0, .inr (0, dfX0))] sz)) 1 64 (va_A [(h0, .inr (0, dfX0))] sz) := by
  refine Met.ofW (cc := cX0_init) (maxL := 1) (ret := none) (by decide) rfl ?_
  intro p e s m args below meth c s₁ B hml hv
  obtain ⟨rfl, hsz, hP, hK, hD0, hex⟩ := hv
  have hx := B.exec
  have hb := B.bytes
  have hr := B.returns
  have hts0 := atoms_spec (ws := wt yX0_init cX0_init 1 none) B.pre
  have hts : ∀ w ∈ tb, w.before _ s = true := fun w h => hts0 w (List.mem_cons_of_mem _ h)
  have hown : s.vm.findClass RX0 = some m.cls := findClass_of_methodNamed B.named
  have hlocks := B.notSynchronized
  have hin : meth.name = "<init>" := (name_of_methodNamed B.named B.method).1
  subst hsz
  have hD := hD0.self (sz := s.heap.size)
  generalize hAe : va_A [(h0, .inr (0, dfX0))] s.heap.size = A at hD ⊢
  have hA : ∀ q : Nat, s.heap.size ≤ q → A q := fun q h => by rw [← hAe]; exact Or.inr h
  have hS : va_S A s.heap s.heap [] := va_S.rf
  have hl := lv_entry ([.ref h0]) (n := 1) (Nat.le_of_ble_eq_true rfl)
  rw [lg_entry_eq]
  generalize (lg_sl ([.ref h0]) ++ List.replicate (1 - (lg_sl ([.ref h0])).length) Slot.unset).toArray = ls at hl ⊢
  have hl : lv_has ls 1 [(0, .ref h0)] := hl
  refine lv_aload_n hx hb dX0_init_0 rfl (lv_at hl 0 rfl) ?_
  refine W.objInit hx hb hown (hts _ kw_0) (hts _ kw_1) (hts _ kw_2) rfl (by rw [hml]; exact hl.1) rfl dX0_init_1 (Nat.le_of_ble_eq_true rfl) (Nat.le_of_ble_eq_true rfl) ?_
  refine W.eq (g2 := F0 m 4 ls []) rfl ?_
  refine lv_aload_n hx hb dX0_init_4 rfl (lv_at hl 0 rfl) ?_
  refine lv_bipush (v := 64) hx hb dX0_init_5 (by decide) ?_
  refine va_newa (atype := .byte) (ty := .byte) (a0 := (64, .inl (fun _ => 0))) (N' := 64) hx hb (hts (.arrayClass .byte) kw_3) rfl hK hP hD hS hA (fun _ => rfl) (by decide) (by decide) (by decide) (Nat.le_of_ble_eq_true rfl) (Nat.le_of_ble_eq_true rfl) dX0_init_7 (fun q_1 cA_2 H hK hP hD hS => ?_)
  have hP : va_P (dC, dI) cl0 [(h0, .inr (0, dfX0)), (q_1, .inl (cA_2, 64, .inl (fun _ => 0)))] H := hP
  have hD : va_D A [(h0, .inr (0, dfX0)), (q_1, .inl (cA_2, 64, .inl (fun _ => 0)))] := hD
  have hK : va_K (dC, dI) cl0 [(cA_2, .byte)] s := hK
  refine W.widen (k := 1) (n := 64) (Nat.le_of_ble_eq_true rfl) (Nat.le_of_ble_eq_true rfl) ?_
  refine va_put (D := (dC, dI)) (ci := 0) (v := .ref q_1) (ty := (.array .byte)) (C := RX0) (T := TX0) (N := 2) hx hb hts inX0 tyX0 tyX0_ok nmX0 hown hK hP hD hS 0 rfl rfl 0 (by decide) (hts _ kw_4) (fun _ h9 => h9) rfl (by decide +kernel) rfl rfl (by rw [L_dfX0]; decide) dX0_init_9 (fun H locs hP hD hS => ?_)
  obtain ⟨dfX0_3, e_dfX0_3⟩ : ∃ z, z = dfX0.set 0 (.ref q_1) := ⟨_, rfl⟩
  have hP : va_P (dC, dI) cl0 [(h0, .inr (0, dfX0_3)), (q_1, .inl (cA_2, 64, .inl (fun _ => 0)))] H := by rw [e_dfX0_3]; exact hP
  have hD : va_D A [(h0, .inr (0, dfX0_3)), (q_1, .inl (cA_2, 64, .inl (fun _ => 0)))] := by rw [e_dfX0_3]; exact hD
  have L_dfX0_3 : dfX0_3.length = 2 := fx_len e_dfX0_3 L_dfX0
  have g_dfX0_3_1 := fx_ne (j := 1) e_dfX0_3 g_dfX0_1 (by decide)
  have g_dfX0_3_0 := fx_self e_dfX0_3 (by rw [L_dfX0]; decide)
  refine W.widen (k := 1) (n := 64) (Nat.le_of_ble_eq_true rfl) (Nat.le_of_ble_eq_true rfl) ?_
  have hP9 := hP.sub (ws' := [(h0, .inr (0, dfX0_3)), (q_1, .inl (cA_2, 64, .inl (fun _ => 0)))]) [0, 1] rfl
  have hD9 := hD.sub (ws' := [(h0, .inr (0, dfX0_3)), (q_1, .inl (cA_2, 64, .inl (fun _ => 0)))]) [0, 1] (by decide) rfl
  have hK9 := hK.sub (tys' := [(cA_2, .byte)]) [0] rfl
  exact W.vret hx hb hr (fun t9 ht9 hW9 => ⟨⟨(), rfl, trivial, dfX0_3, q_1, cA_2, L_dfX0_3, g_dfX0_3_0, g_dfX0_3_1, by rw [ht9]; exact hP9, va_K.moved hW9.alike hK9, hD9⟩, hS.F ht9⟩) hS.2.2 dX0_init_12
set_option maxHeartbeats 4000000 in
set_option maxRecDepth 100000 in
theorem m_X4_init (l : Launch) (dC : Nat → ClassId) (dI : Nat → Nat → Nat) (sz : Nat) (h0 : Nat)  : Met l yX4_init (wt yX4_init cX4_init 1 none) ({ frames := 1, cells := 3, slots := 0, locals := 12 }) (va_Pc [.ref h0] (st_U dC dI sz [(h0, .inr (4, dfX4))] [])) (va_Qv (fun _ : Unit => True) (fun (_ : Unit) (_ : State) => True) (va_A [(h0, .inr (4, dfX4))] sz)) 3 0 (va_A [(h0, .inr (4, dfX4))] sz) := by
  refine Met.ofW (cc := cX4_init) (maxL := 1) (ret := none) (by decide) rfl ?_
  intro p e s m args below meth c s₁ B hml hv
  obtain ⟨rfl, hsz, hP, hK, hD0, hex⟩ := hv
  have hx := B.exec
  have hb := B.bytes
  have hr := B.returns
  have hts0 := atoms_spec (ws := wt yX4_init cX4_init 1 none) B.pre
  have hts : ∀ w ∈ tb, w.before _ s = true := fun w h => hts0 w (List.mem_cons_of_mem _ h)
  have hown : s.vm.findClass RX4 = some m.cls := findClass_of_methodNamed B.named
  have hlocks := B.notSynchronized
  have hin : meth.name = "<init>" := (name_of_methodNamed B.named B.method).1
  subst hsz
  have hD := hD0.self (sz := s.heap.size)
  generalize hAe : va_A [(h0, .inr (4, dfX4))] s.heap.size = A at hD ⊢
  have hA : ∀ q : Nat, s.heap.size ≤ q → A q := fun q h => by rw [← hAe]; exact Or.inr h
  have hS : va_S A s.heap s.heap [] := va_S.rf
  have hl := lv_entry ([.ref h0]) (n := 1) (Nat.le_of_ble_eq_true rfl)
  rw [lg_entry_eq]
  generalize (lg_sl ([.ref h0]) ++ List.replicate (1 - (lg_sl ([.ref h0])).length) Slot.unset).toArray = ls at hl ⊢
  have hl : lv_has ls 1 [(0, .ref h0)] := hl
  refine lv_aload_n hx hb dX4_init_0 rfl (lv_at hl 0 rfl) ?_
  refine W.objInit hx hb hown (hts _ kw_5) (hts _ kw_1) (hts _ kw_2) rfl (by rw [hml]; exact hl.1) rfl dX4_init_1 (Nat.le_of_ble_eq_true rfl) (Nat.le_of_ble_eq_true rfl) ?_
  refine W.eq (g2 := F0 m 4 ls []) rfl ?_
  refine lv_aload_n hx hb dX4_init_4 rfl (lv_at hl 0 rfl) ?_
  refine lv_iconst (v := 0) hx hb dX4_init_5 (by decide) ?_
  refine va_newa (atype := .int) (ty := .int) (a0 := (0, .inl (fun _ => 0))) (N' := 0) hx hb (hts (.arrayClass .int) kw_6) rfl hK hP hD hS hA (fun _ => rfl) (by decide) (by decide) (by decide) (Nat.le_of_ble_eq_true rfl) (Nat.le_of_ble_eq_true rfl) dX4_init_6 (fun q_1 cA_2 H hK hP hD hS => ?_)
  have hP := hP.sub (ws' := [(h0, .inr (4, dfX4))]) [0] rfl
  have hD := hD.sub (ws' := [(h0, .inr (4, dfX4))]) [0] (by decide) rfl
  have hK := hK.sub (tys' := []) [] rfl
  refine W.widen (k := 1) (n := 0) (Nat.le_of_ble_eq_true rfl) (Nat.le_of_ble_eq_true rfl) ?_
  refine va_put (D := (dC, dI)) (ci := 4) (v := .ref q_1) (ty := (.array .int)) (C := RX4) (T := TX4) (N := 8) hx hb hts inX4 tyX4 tyX4_ok nmX4 hown hK hP hD hS 0 rfl rfl 0 (by decide) (hts _ kw_7) (fun _ h9 => h9) rfl (by decide +kernel) rfl rfl (by rw [L_dfX4]; decide) dX4_init_8 (fun H locs hP hD hS => ?_)
  obtain ⟨dfX4_3, e_dfX4_3⟩ : ∃ z, z = dfX4.set 0 (.ref q_1) := ⟨_, rfl⟩
  have hP : va_P (dC, dI) cl0 [(h0, .inr (4, dfX4_3))] H := by rw [e_dfX4_3]; exact hP
  have hD : va_D A [(h0, .inr (4, dfX4_3))] := by rw [e_dfX4_3]; exact hD
  have L_dfX4_3 : dfX4_3.length = 8 := fx_len e_dfX4_3 L_dfX4
  refine lv_aload_n hx hb dX4_init_11 rfl (lv_at hl 0 rfl) ?_
  refine lv_iconst (v := 0) hx hb dX4_init_12 (by decide) ?_
  refine va_newa (atype := .int) (ty := .int) (a0 := (0, .inl (fun _ => 0))) (N' := 0) hx hb (hts (.arrayClass .int) kw_6) rfl hK hP hD hS hA (fun _ => rfl) (by decide) (by decide) (by decide) (Nat.le_of_ble_eq_true rfl) (Nat.le_of_ble_eq_true rfl) dX4_init_13 (fun q_4 cA_5 H hK hP hD hS => ?_)
  have hP := hP.sub (ws' := [(h0, .inr (4, dfX4_3))]) [0] rfl
  have hD := hD.sub (ws' := [(h0, .inr (4, dfX4_3))]) [0] (by decide) rfl
  have hK := hK.sub (tys' := []) [] rfl
  refine W.widen (k := 2) (n := 0) (Nat.le_of_ble_eq_true rfl) (Nat.le_of_ble_eq_true rfl) ?_
  refine va_put (D := (dC, dI)) (ci := 4) (v := .ref q_4) (ty := (.array .int)) (C := RX4) (T := TX4) (N := 8) hx hb hts inX4 tyX4 tyX4_ok nmX4 hown hK hP hD hS 0 rfl rfl 1 (by decide) (hts _ kw_8) (fun _ h9 => h9) rfl (by decide +kernel) rfl rfl (by rw [L_dfX4_3]; decide) dX4_init_15 (fun H locs hP hD hS => ?_)
  obtain ⟨dfX4_6, e_dfX4_6⟩ : ∃ z, z = dfX4_3.set 1 (.ref q_4) := ⟨_, rfl⟩
  have hP : va_P (dC, dI) cl0 [(h0, .inr (4, dfX4_6))] H := by rw [e_dfX4_6]; exact hP
  have hD : va_D A [(h0, .inr (4, dfX4_6))] := by rw [e_dfX4_6]; exact hD
  have L_dfX4_6 : dfX4_6.length = 8 := fx_len e_dfX4_6 L_dfX4_3
  refine lv_aload_n hx hb dX4_init_18 rfl (lv_at hl 0 rfl) ?_
  refine lv_iconst (v := 0) hx hb dX4_init_19 (by decide) ?_
  refine va_newa (atype := .boolean) (ty := .boolean) (a0 := (0, .inl (fun _ => 0))) (N' := 0) hx hb (hts (.arrayClass .boolean) kw_9) rfl hK hP hD hS hA (fun _ => rfl) (by decide) (by decide) (by decide) (Nat.le_of_ble_eq_true rfl) (Nat.le_of_ble_eq_true rfl) dX4_init_20 (fun q_7 cA_8 H hK hP hD hS => ?_)
  have hP := hP.sub (ws' := [(h0, .inr (4, dfX4_6))]) [0] rfl
  have hD := hD.sub (ws' := [(h0, .inr (4, dfX4_6))]) [0] (by decide) rfl
  have hK := hK.sub (tys' := []) [] rfl
  refine W.widen (k := 3) (n := 0) (Nat.le_of_ble_eq_true rfl) (Nat.le_of_ble_eq_true rfl) ?_
  refine va_put (D := (dC, dI)) (ci := 4) (v := .ref q_7) (ty := (.array .boolean)) (C := RX4) (T := TX4) (N := 8) hx hb hts inX4 tyX4 tyX4_ok nmX4 hown hK hP hD hS 0 rfl rfl 2 (by decide) (hts _ kw_10) (fun _ h9 => h9) rfl (by decide +kernel) rfl rfl (by rw [L_dfX4_6]; decide) dX4_init_22 (fun H locs hP hD hS => ?_)
  obtain ⟨dfX4_9, e_dfX4_9⟩ : ∃ z, z = dfX4_6.set 2 (.ref q_7) := ⟨_, rfl⟩
  have hP : va_P (dC, dI) cl0 [(h0, .inr (4, dfX4_9))] H := by rw [e_dfX4_9]; exact hP
  have hD : va_D A [(h0, .inr (4, dfX4_9))] := by rw [e_dfX4_9]; exact hD
  have L_dfX4_9 : dfX4_9.length = 8 := fx_len e_dfX4_9 L_dfX4_6
  refine W.widen (k := 3) (n := 0) (Nat.le_of_ble_eq_true rfl) (Nat.le_of_ble_eq_true rfl) ?_
  exact W.vret hx hb hr (fun t9 ht9 hW9 => ⟨⟨(), rfl, trivial, trivial⟩, hS.F ht9⟩) hS.2.2 dX4_init_25
set_option maxHeartbeats 4000000 in
set_option maxRecDepth 100000 in
theorem m_X8_init (l : Launch) (dC : Nat → ClassId) (dI : Nat → Nat → Nat) (sz : Nat) (h0 : Nat)  : Met l yX8_init (wt yX8_init cX8_init 4 none) ({ frames := 1, cells := 7, slots := 0, locals := 12 }) (va_Pc [.ref h0, .int 0, .int 0, .int 0] (st_U dC dI sz [(h0, .inr (7, dfX8))] [])) (va_Qv (fun _ : Unit => True) (fun (_ : Unit) (_ : State) => True) (va_A [(h0, .inr (7, dfX8))] sz)) 7 0 (va_A [(h0, .inr (7, dfX8))] sz) := by
  refine Met.ofW (cc := cX8_init) (maxL := 4) (ret := none) (by decide) rfl ?_
  intro p e s m args below meth c s₁ B hml hv
  obtain ⟨rfl, hsz, hP, hK, hD0, hex⟩ := hv
  have hx := B.exec
  have hb := B.bytes
  have hr := B.returns
  have hts0 := atoms_spec (ws := wt yX8_init cX8_init 4 none) B.pre
  have hts : ∀ w ∈ tb, w.before _ s = true := fun w h => hts0 w (List.mem_cons_of_mem _ h)
  have hown : s.vm.findClass RX8 = some m.cls := findClass_of_methodNamed B.named
  have hlocks := B.notSynchronized
  have hin : meth.name = "<init>" := (name_of_methodNamed B.named B.method).1
  subst hsz
  have hD := hD0.self (sz := s.heap.size)
  generalize hAe : va_A [(h0, .inr (7, dfX8))] s.heap.size = A at hD ⊢
  have hA : ∀ q : Nat, s.heap.size ≤ q → A q := fun q h => by rw [← hAe]; exact Or.inr h
  have hS : va_S A s.heap s.heap [] := va_S.rf
  have hl := lv_entry ([.ref h0, .int 0, .int 0, .int 0]) (n := 4) (Nat.le_of_ble_eq_true rfl)
  rw [lg_entry_eq]
  generalize (lg_sl ([.ref h0, .int 0, .int 0, .int 0]) ++ List.replicate (4 - (lg_sl ([.ref h0, .int 0, .int 0, .int 0])).length) Slot.unset).toArray = ls at hl ⊢
  have hl : lv_has ls 4 [(0, .ref h0), (1, .int 0), (2, .int 0), (3, .int 0)] := hl
  refine lv_aload_n hx hb dX8_init_0 rfl (lv_at hl 0 rfl) ?_
  refine W.objInit hx hb hown (hts _ kw_11) (hts _ kw_1) (hts _ kw_2) rfl (by rw [hml]; exact hl.1) rfl dX8_init_1 (Nat.le_of_ble_eq_true rfl) (Nat.le_of_ble_eq_true rfl) ?_
  refine W.eq (g2 := F0 m 4 ls []) rfl ?_
  refine lv_aload_n hx hb dX8_init_4 rfl (lv_at hl 0 rfl) ?_
  refine lv_iload_n hx hb dX8_init_5 rfl (lv_at hl 1 rfl) ?_
  refine va_newa (atype := .int) (ty := .int) (a0 := (0, .inl (fun _ => 0))) (N' := 0) hx hb (hts (.arrayClass .int) kw_6) rfl hK hP hD hS hA (fun _ => rfl) (by decide) (by decide) (by decide) (Nat.le_of_ble_eq_true rfl) (Nat.le_of_ble_eq_true rfl) dX8_init_6 (fun q_1 cA_2 H hK hP hD hS => ?_)
  have hP := hP.sub (ws' := [(h0, .inr (7, dfX8))]) [0] rfl
  have hD := hD.sub (ws' := [(h0, .inr (7, dfX8))]) [0] (by decide) rfl
  have hK := hK.sub (tys' := []) [] rfl
  refine W.widen (k := 1) (n := 0) (Nat.le_of_ble_eq_true rfl) (Nat.le_of_ble_eq_true rfl) ?_
  refine va_put (D := (dC, dI)) (ci := 7) (v := .ref q_1) (ty := (.array .int)) (C := RX8) (T := TX8) (N := 15) hx hb hts inX8 tyX8 tyX8_ok nmX8 hown hK hP hD hS 0 rfl rfl 0 (by decide) (hts _ kw_12) (fun _ h9 => h9) rfl (by decide +kernel) rfl rfl (by rw [L_dfX8]; decide) dX8_init_8 (fun H locs hP hD hS => ?_)
  obtain ⟨dfX8_3, e_dfX8_3⟩ : ∃ z, z = dfX8.set 0 (.ref q_1) := ⟨_, rfl⟩
  have hP : va_P (dC, dI) cl0 [(h0, .inr (7, dfX8_3))] H := by rw [e_dfX8_3]; exact hP
  have hD : va_D A [(h0, .inr (7, dfX8_3))] := by rw [e_dfX8_3]; exact hD
  have L_dfX8_3 : dfX8_3.length = 15 := fx_len e_dfX8_3 L_dfX8
  refine lv_aload_n hx hb dX8_init_11 rfl (lv_at hl 0 rfl) ?_
  refine lv_iload_n hx hb dX8_init_12 rfl (lv_at hl 1 rfl) ?_
  refine va_newa (atype := .long) (ty := .long) (a0 := (0, .inr (.inl (fun _ => 0)))) (N' := 0) hx hb (hts (.arrayClass .long) kw_13) rfl hK hP hD hS hA (fun _ => rfl) (by decide) (by decide) (by decide) (Nat.le_of_ble_eq_true rfl) (Nat.le_of_ble_eq_true rfl) dX8_init_13 (fun q_4 cA_5 H hK hP hD hS => ?_)
  have hP := hP.sub (ws' := [(h0, .inr (7, dfX8_3))]) [0] rfl
  have hD := hD.sub (ws' := [(h0, .inr (7, dfX8_3))]) [0] (by decide) rfl
  have hK := hK.sub (tys' := []) [] rfl
  refine W.widen (k := 2) (n := 0) (Nat.le_of_ble_eq_true rfl) (Nat.le_of_ble_eq_true rfl) ?_
  refine va_put (D := (dC, dI)) (ci := 7) (v := .ref q_4) (ty := (.array .long)) (C := RX8) (T := TX8) (N := 15) hx hb hts inX8 tyX8 tyX8_ok nmX8 hown hK hP hD hS 0 rfl rfl 1 (by decide) (hts _ kw_14) (fun _ h9 => h9) rfl (by decide +kernel) rfl rfl (by rw [L_dfX8_3]; decide) dX8_init_15 (fun H locs hP hD hS => ?_)
  obtain ⟨dfX8_6, e_dfX8_6⟩ : ∃ z, z = dfX8_3.set 1 (.ref q_4) := ⟨_, rfl⟩
  have hP : va_P (dC, dI) cl0 [(h0, .inr (7, dfX8_6))] H := by rw [e_dfX8_6]; exact hP
  have hD : va_D A [(h0, .inr (7, dfX8_6))] := by rw [e_dfX8_6]; exact hD
  have L_dfX8_6 : dfX8_6.length = 15 := fx_len e_dfX8_6 L_dfX8_3
  refine lv_aload_n hx hb dX8_init_18 rfl (lv_at hl 0 rfl) ?_
  refine lv_iload_n hx hb dX8_init_19 rfl (lv_at hl 2 rfl) ?_
  refine va_newa (atype := .int) (ty := .int) (a0 := (0, .inl (fun _ => 0))) (N' := 0) hx hb (hts (.arrayClass .int) kw_6) rfl hK hP hD hS hA (fun _ => rfl) (by decide) (by decide) (by decide) (Nat.le_of_ble_eq_true rfl) (Nat.le_of_ble_eq_true rfl) dX8_init_20 (fun q_7 cA_8 H hK hP hD hS => ?_)
  have hP := hP.sub (ws' := [(h0, .inr (7, dfX8_6))]) [0] rfl
  have hD := hD.sub (ws' := [(h0, .inr (7, dfX8_6))]) [0] (by decide) rfl
  have hK := hK.sub (tys' := []) [] rfl
  refine W.widen (k := 3) (n := 0) (Nat.le_of_ble_eq_true rfl) (Nat.le_of_ble_eq_true rfl) ?_
  refine va_put (D := (dC, dI)) (ci := 7) (v := .ref q_7) (ty := (.array .int)) (C := RX8) (T := TX8) (N := 15) hx hb hts inX8 tyX8 tyX8_ok nmX8 hown hK hP hD hS 0 rfl rfl 3 (by decide) (hts _ kw_15) (fun _ h9 => h9) rfl (by decide +kernel) rfl rfl (by rw [L_dfX8_6]; decide) dX8_init_22 (fun H locs hP hD hS => ?_)
  obtain ⟨dfX8_9, e_dfX8_9⟩ : ∃ z, z = dfX8_6.set 3 (.ref q_7) := ⟨_, rfl⟩
  have hP : va_P (dC, dI) cl0 [(h0, .inr (7, dfX8_9))] H := by rw [e_dfX8_9]; exact hP
  have hD : va_D A [(h0, .inr (7, dfX8_9))] := by rw [e_dfX8_9]; exact hD
  have L_dfX8_9 : dfX8_9.length = 15 := fx_len e_dfX8_9 L_dfX8_6
  refine lv_aload_n hx hb dX8_init_25 rfl (lv_at hl 0 rfl) ?_
  refine lv_iload_n hx hb dX8_init_26 rfl (lv_at hl 3 rfl) ?_
  refine va_newa (atype := .int) (ty := .int) (a0 := (0, .inl (fun _ => 0))) (N' := 0) hx hb (hts (.arrayClass .int) kw_6) rfl hK hP hD hS hA (fun _ => rfl) (by decide) (by decide) (by decide) (Nat.le_of_ble_eq_true rfl) (Nat.le_of_ble_eq_true rfl) dX8_init_27 (fun q_10 cA_11 H hK hP hD hS => ?_)
  have hP := hP.sub (ws' := [(h0, .inr (7, dfX8_9))]) [0] rfl
  have hD := hD.sub (ws' := [(h0, .inr (7, dfX8_9))]) [0] (by decide) rfl
  have hK := hK.sub (tys' := []) [] rfl
  refine W.widen (k := 4) (n := 0) (Nat.le_of_ble_eq_true rfl) (Nat.le_of_ble_eq_true rfl) ?_
  refine va_put (D := (dC, dI)) (ci := 7) (v := .ref q_10) (ty := (.array .int)) (C := RX8) (T := TX8) (N := 15) hx hb hts inX8 tyX8 tyX8_ok nmX8 hown hK hP hD hS 0 rfl rfl 5 (by decide) (hts _ kw_16) (fun _ h9 => h9) rfl (by decide +kernel) rfl rfl (by rw [L_dfX8_9]; decide) dX8_init_29 (fun H locs hP hD hS => ?_)
  obtain ⟨dfX8_12, e_dfX8_12⟩ : ∃ z, z = dfX8_9.set 5 (.ref q_10) := ⟨_, rfl⟩
  have hP : va_P (dC, dI) cl0 [(h0, .inr (7, dfX8_12))] H := by rw [e_dfX8_12]; exact hP
  have hD : va_D A [(h0, .inr (7, dfX8_12))] := by rw [e_dfX8_12]; exact hD
  have L_dfX8_12 : dfX8_12.length = 15 := fx_len e_dfX8_12 L_dfX8_9
  refine lv_aload_n hx hb dX8_init_32 rfl (lv_at hl 0 rfl) ?_
  refine lv_iload_n hx hb dX8_init_33 rfl (lv_at hl 3 rfl) ?_
  refine va_newa (atype := .int) (ty := .int) (a0 := (0, .inl (fun _ => 0))) (N' := 0) hx hb (hts (.arrayClass .int) kw_6) rfl hK hP hD hS hA (fun _ => rfl) (by decide) (by decide) (by decide) (Nat.le_of_ble_eq_true rfl) (Nat.le_of_ble_eq_true rfl) dX8_init_34 (fun q_13 cA_14 H hK hP hD hS => ?_)
  have hP := hP.sub (ws' := [(h0, .inr (7, dfX8_12))]) [0] rfl
  have hD := hD.sub (ws' := [(h0, .inr (7, dfX8_12))]) [0] (by decide) rfl
  have hK := hK.sub (tys' := []) [] rfl
  refine W.widen (k := 5) (n := 0) (Nat.le_of_ble_eq_true rfl) (Nat.le_of_ble_eq_true rfl) ?_
  refine va_put (D := (dC, dI)) (ci := 7) (v := .ref q_13) (ty := (.array .int)) (C := RX8) (T := TX8) (N := 15) hx hb hts inX8 tyX8 tyX8_ok nmX8 hown hK hP hD hS 0 rfl rfl 6 (by decide) (hts _ kw_17) (fun _ h9 => h9) rfl (by decide +kernel) rfl rfl (by rw [L_dfX8_12]; decide) dX8_init_36 (fun H locs hP hD hS => ?_)
  obtain ⟨dfX8_15, e_dfX8_15⟩ : ∃ z, z = dfX8_12.set 6 (.ref q_13) := ⟨_, rfl⟩
  have hP : va_P (dC, dI) cl0 [(h0, .inr (7, dfX8_15))] H := by rw [e_dfX8_15]; exact hP
  have hD : va_D A [(h0, .inr (7, dfX8_15))] := by rw [e_dfX8_15]; exact hD
  have L_dfX8_15 : dfX8_15.length = 15 := fx_len e_dfX8_15 L_dfX8_12
  refine lv_aload_n hx hb dX8_init_39 rfl (lv_at hl 0 rfl) ?_
  refine lv_iload_n hx hb dX8_init_40 rfl (lv_at hl 3 rfl) ?_
  refine va_newa (atype := .int) (ty := .int) (a0 := (0, .inl (fun _ => 0))) (N' := 0) hx hb (hts (.arrayClass .int) kw_6) rfl hK hP hD hS hA (fun _ => rfl) (by decide) (by decide) (by decide) (Nat.le_of_ble_eq_true rfl) (Nat.le_of_ble_eq_true rfl) dX8_init_41 (fun q_16 cA_17 H hK hP hD hS => ?_)
  have hP := hP.sub (ws' := [(h0, .inr (7, dfX8_15))]) [0] rfl
  have hD := hD.sub (ws' := [(h0, .inr (7, dfX8_15))]) [0] (by decide) rfl
  have hK := hK.sub (tys' := []) [] rfl
  refine W.widen (k := 6) (n := 0) (Nat.le_of_ble_eq_true rfl) (Nat.le_of_ble_eq_true rfl) ?_
  refine va_put (D := (dC, dI)) (ci := 7) (v := .ref q_16) (ty := (.array .int)) (C := RX8) (T := TX8) (N := 15) hx hb hts inX8 tyX8 tyX8_ok nmX8 hown hK hP hD hS 0 rfl rfl 7 (by decide) (hts _ kw_18) (fun _ h9 => h9) rfl (by decide +kernel) rfl rfl (by rw [L_dfX8_15]; decide) dX8_init_43 (fun H locs hP hD hS => ?_)
  obtain ⟨dfX8_18, e_dfX8_18⟩ : ∃ z, z = dfX8_15.set 7 (.ref q_16) := ⟨_, rfl⟩
  have hP : va_P (dC, dI) cl0 [(h0, .inr (7, dfX8_18))] H := by rw [e_dfX8_18]; exact hP
  have hD : va_D A [(h0, .inr (7, dfX8_18))] := by rw [e_dfX8_18]; exact hD
  have L_dfX8_18 : dfX8_18.length = 15 := fx_len e_dfX8_18 L_dfX8_15
  refine lv_aload_n hx hb dX8_init_46 rfl (lv_at hl 0 rfl) ?_
  refine lv_iload_n hx hb dX8_init_47 rfl (lv_at hl 3 rfl) ?_
  refine va_newa (atype := .int) (ty := .int) (a0 := (0, .inl (fun _ => 0))) (N' := 0) hx hb (hts (.arrayClass .int) kw_6) rfl hK hP hD hS hA (fun _ => rfl) (by decide) (by decide) (by decide) (Nat.le_of_ble_eq_true rfl) (Nat.le_of_ble_eq_true rfl) dX8_init_48 (fun q_19 cA_20 H hK hP hD hS => ?_)
  have hP := hP.sub (ws' := [(h0, .inr (7, dfX8_18))]) [0] rfl
  have hD := hD.sub (ws' := [(h0, .inr (7, dfX8_18))]) [0] (by decide) rfl
  have hK := hK.sub (tys' := []) [] rfl
  refine W.widen (k := 7) (n := 0) (Nat.le_of_ble_eq_true rfl) (Nat.le_of_ble_eq_true rfl) ?_
  refine va_put (D := (dC, dI)) (ci := 7) (v := .ref q_19) (ty := (.array .int)) (C := RX8) (T := TX8) (N := 15) hx hb hts inX8 tyX8 tyX8_ok nmX8 hown hK hP hD hS 0 rfl rfl 8 (by decide) (hts _ kw_19) (fun _ h9 => h9) rfl (by decide +kernel) rfl rfl (by rw [L_dfX8_18]; decide) dX8_init_50 (fun H locs hP hD hS => ?_)
  obtain ⟨dfX8_21, e_dfX8_21⟩ : ∃ z, z = dfX8_18.set 8 (.ref q_19) := ⟨_, rfl⟩
  have hP : va_P (dC, dI) cl0 [(h0, .inr (7, dfX8_21))] H := by rw [e_dfX8_21]; exact hP
  have hD : va_D A [(h0, .inr (7, dfX8_21))] := by rw [e_dfX8_21]; exact hD
  have L_dfX8_21 : dfX8_21.length = 15 := fx_len e_dfX8_21 L_dfX8_18
  refine W.widen (k := 7) (n := 0) (Nat.le_of_ble_eq_true rfl) (Nat.le_of_ble_eq_true rfl) ?_
  exact W.vret hx hb hr (fun t9 ht9 hW9 => ⟨⟨(), rfl, trivial, trivial⟩, hS.F ht9⟩) hS.2.2 dX8_init_53
set_option maxHeartbeats 4000000 in
set_option maxRecDepth 100000 in
theorem m_X1_init (l : Launch) (dC : Nat → ClassId) (dI : Nat → Nat → Nat) (sz : Nat) (h0 : Nat)  : Met l yX1_init (wt yX1_init cX1_init 1 none) ({ frames := 2, cells := 8, slots := 56, locals := 32 }) (va_Pc [.ref h0] (st_U dC dI sz [(h0, .inr (1, dfX1))] [])) (va_Qv (fun _ : Unit => True) (fun (_ : Unit) (_ : State) => True) (va_A [(h0, .inr (1, dfX1))] sz)) 8 56 (va_A [(h0, .inr (1, dfX1))] sz) := by
  refine Met.ofW (cc := cX1_init) (maxL := 1) (ret := none) (by decide) rfl ?_
  intro p e s m args below meth c s₁ B hml hv
  obtain ⟨rfl, hsz, hP, hK, hD0, hex⟩ := hv
  have hx := B.exec
  have hb := B.bytes
  have hr := B.returns
  have hts0 := atoms_spec (ws := wt yX1_init cX1_init 1 none) B.pre
  have hts : ∀ w ∈ tb, w.before _ s = true := fun w h => hts0 w (List.mem_cons_of_mem _ h)
  have hown : s.vm.findClass RX1 = some m.cls := findClass_of_methodNamed B.named
  have hlocks := B.notSynchronized
  have hin : meth.name = "<init>" := (name_of_methodNamed B.named B.method).1
  subst hsz
  have hD := hD0.self (sz := s.heap.size)
  generalize hAe : va_A [(h0, .inr (1, dfX1))] s.heap.size = A at hD ⊢
  have hA : ∀ q : Nat, s.heap.size ≤ q → A q := fun q h => by rw [← hAe]; exact Or.inr h
  have hS : va_S A s.heap s.heap [] := va_S.rf
  have hl := lv_entry ([.ref h0]) (n := 1) (Nat.le_of_ble_eq_true rfl)
  rw [lg_entry_eq]
  generalize (lg_sl ([.ref h0]) ++ List.replicate (1 - (lg_sl ([.ref h0])).length) Slot.unset).toArray = ls at hl ⊢
  have hl : lv_has ls 1 [(0, .ref h0)] := hl
  refine lv_aload_n hx hb dX1_init_0 rfl (lv_at hl 0 rfl) ?_
  refine W.objInit hx hb hown (hts _ kw_20) (hts _ kw_1) (hts _ kw_2) rfl (by rw [hml]; exact hl.1) rfl dX1_init_1 (Nat.le_of_ble_eq_true rfl) (Nat.le_of_ble_eq_true rfl) ?_
  refine W.eq (g2 := F0 m 4 ls []) rfl ?_
  refine lv_aload_n hx hb dX1_init_4 rfl (lv_at hl 0 rfl) ?_
  refine va_new (ci := 4) (fs := dfX4) (C := RX4) (T := TX4) (N := 8) hx hb hts inX4 tyX4 tyX4_ok hown (hts _ kw_21) (hts _ kw_22) (hts _ kw_23) hK hP hD hS hA rfl dfX4_ok (Nat.le_of_ble_eq_true rfl) (Nat.le_of_ble_eq_true rfl) dX1_init_5 (fun q_1 H hP hD hS => ?_)
  have hP : va_P (dC, dI) cl0 [(h0, .inr (1, dfX1)), (q_1, .inr (4, dfX4))] H := hP
  have hD : va_D A [(h0, .inr (1, dfX1)), (q_1, .inr (4, dfX4))] := hD
  refine W.widen (k := 1) (n := 8) (Nat.le_of_ble_eq_true rfl) (Nat.le_of_ble_eq_true rfl) ?_
  refine lv_dup hx hb dX1_init_8 rfl ?_
  have hPc := hP.sub (ws' := [(q_1, .inr (4, dfX4))]) [1] rfl
  have hDc := hD.sub (ws' := [(q_1, .inr (4, dfX4))]) [1] (by decide) rfl
  have hKc := hK.sub (tys' := []) [] rfl
  have hFc := va_free (wc := [(q_1, .inr (4, dfX4))]) hD hS hA [1] rfl
  refine va_callv (va_runIN (As := []) (rest := [.ref q_1, .ref h0]) ⟨hx, hb, hml, hown, hts⟩ (m_X4_init l dC dI H.size q_1 ) ⟨va_cnB 0 hts (gd_I kw_24) rfl rfl rfl (nw_of (by exact nn_X1_11) hex) (hts _ kw_23) (by decide +kernel) ⟨Nat.le_of_ble_eq_true rfl, Nat.le_of_ble_eq_true rfl⟩, rfl, hts _ kw_25⟩ ⟨st_blind, fun U hU hW9 => st_mk hU hW9 hPc hKc hDc hex⟩ rfl rfl hl.1 rfl (lv_room (Nat.le_of_ble_eq_true rfl)) dX1_init_9 ⟨Nat.le_of_ble_eq_true rfl, Nat.le_of_ble_eq_true rfl⟩) hS (fun q _ h => hFc q h) hFc (fun  u9 t9 H1 locs ht9 hvm9 hw9 hB9 hz9 hk9 hS => ?_)
  have hP1 : va_P (dC, dI) cl0 [] H1 := fun k q h => by simp at h
  have hD1 : va_D (va_A [(q_1, .inr (4, dfX4))] H.size) [] := ⟨fun i j p q h => by simp at h, fun k q h => by simp at h⟩
  obtain ⟨hP, hD⟩ := va_join (wr := [(h0, .inr (1, dfX1))]) (w1 := []) hP hD [1] [0] rfl rfl (by decide) (by decide) hk9 hFc hP1 hD1
  generalize H1 = H at hP hS ⊢
  have hP : va_P (dC, dI) cl0 [(h0, .inr (1, dfX1))] H := hP
  have hD : va_D A [(h0, .inr (1, dfX1))] := hD
  refine W.widen (k := 4) (n := 8) (by omega) (by omega) ?_
  refine va_putF (D := (dC, dI)) (ci := 1) (v := .ref q_1) (ty := (.object "CodeFoundry$Heights")) (C := RX1) (T := TX1) (N := 10) hx hb hts inX1 tyX1 tyX1_ok nmX1 hown hK hP hD hS 0 rfl rfl 0 (by decide) (hts _ kw_26) (fun _ h9 => h9) rfl hin rfl (by decide +kernel) rfl rfl (by rw [L_dfX1]; decide) dX1_init_12 (fun H locs hP hD hS => ?_)
  obtain ⟨dfX1_2, e_dfX1_2⟩ : ∃ z, z = dfX1.set 0 (.ref q_1) := ⟨_, rfl⟩
  have hP : va_P (dC, dI) cl0 [(h0, .inr (1, dfX1_2))] H := by rw [e_dfX1_2]; exact hP
  have hD : va_D A [(h0, .inr (1, dfX1_2))] := by rw [e_dfX1_2]; exact hD
  have L_dfX1_2 : dfX1_2.length = 10 := fx_len e_dfX1_2 L_dfX1
  refine lv_aload_n hx hb dX1_init_15 rfl (lv_at hl 0 rfl) ?_
  refine lv_iconst (v := 0) hx hb dX1_init_16 (by decide) ?_
  refine va_newa (atype := .byte) (ty := .byte) (a0 := (0, .inl (fun _ => 0))) (N' := 0) hx hb (hts (.arrayClass .byte) kw_3) rfl hK hP hD hS hA (fun _ => rfl) (by decide) (by decide) (by decide) (Nat.le_of_ble_eq_true rfl) (Nat.le_of_ble_eq_true rfl) dX1_init_17 (fun q_3 cA_4 H hK hP hD hS => ?_)
  have hP := hP.sub (ws' := [(h0, .inr (1, dfX1_2))]) [0] rfl
  have hD := hD.sub (ws' := [(h0, .inr (1, dfX1_2))]) [0] (by decide) rfl
  have hK := hK.sub (tys' := []) [] rfl
  refine W.widen (k := 5) (n := 8) (Nat.le_of_ble_eq_true rfl) (Nat.le_of_ble_eq_true rfl) ?_
  refine va_put (D := (dC, dI)) (ci := 1) (v := .ref q_3) (ty := (.array .byte)) (C := RX1) (T := TX1) (N := 10) hx hb hts inX1 tyX1 tyX1_ok nmX1 hown hK hP hD hS 0 rfl rfl 1 (by decide) (hts _ kw_27) (fun _ h9 => h9) rfl (by decide +kernel) rfl rfl (by rw [L_dfX1_2]; decide) dX1_init_19 (fun H locs hP hD hS => ?_)
  obtain ⟨dfX1_5, e_dfX1_5⟩ : ∃ z, z = dfX1_2.set 1 (.ref q_3) := ⟨_, rfl⟩
  have hP : va_P (dC, dI) cl0 [(h0, .inr (1, dfX1_5))] H := by rw [e_dfX1_5]; exact hP
  have hD : va_D A [(h0, .inr (1, dfX1_5))] := by rw [e_dfX1_5]; exact hD
  have L_dfX1_5 : dfX1_5.length = 10 := fx_len e_dfX1_5 L_dfX1_2
  refine lv_aload_n hx hb dX1_init_22 rfl (lv_at hl 0 rfl) ?_
  refine lv_iconst (v := 0) hx hb dX1_init_23 (by decide) ?_
  refine va_newa (atype := .boolean) (ty := .boolean) (a0 := (0, .inl (fun _ => 0))) (N' := 0) hx hb (hts (.arrayClass .boolean) kw_9) rfl hK hP hD hS hA (fun _ => rfl) (by decide) (by decide) (by decide) (Nat.le_of_ble_eq_true rfl) (Nat.le_of_ble_eq_true rfl) dX1_init_24 (fun q_6 cA_7 H hK hP hD hS => ?_)
  have hP := hP.sub (ws' := [(h0, .inr (1, dfX1_5))]) [0] rfl
  have hD := hD.sub (ws' := [(h0, .inr (1, dfX1_5))]) [0] (by decide) rfl
  have hK := hK.sub (tys' := []) [] rfl
  refine W.widen (k := 6) (n := 8) (Nat.le_of_ble_eq_true rfl) (Nat.le_of_ble_eq_true rfl) ?_
  refine va_put (D := (dC, dI)) (ci := 1) (v := .ref q_6) (ty := (.array .boolean)) (C := RX1) (T := TX1) (N := 10) hx hb hts inX1 tyX1 tyX1_ok nmX1 hown hK hP hD hS 0 rfl rfl 2 (by decide) (hts _ kw_28) (fun _ h9 => h9) rfl (by decide +kernel) rfl rfl (by rw [L_dfX1_5]; decide) dX1_init_26 (fun H locs hP hD hS => ?_)
  obtain ⟨dfX1_8, e_dfX1_8⟩ : ∃ z, z = dfX1_5.set 2 (.ref q_6) := ⟨_, rfl⟩
  have hP : va_P (dC, dI) cl0 [(h0, .inr (1, dfX1_8))] H := by rw [e_dfX1_8]; exact hP
  have hD : va_D A [(h0, .inr (1, dfX1_8))] := by rw [e_dfX1_8]; exact hD
  have L_dfX1_8 : dfX1_8.length = 10 := fx_len e_dfX1_8 L_dfX1_5
  refine lv_aload_n hx hb dX1_init_29 rfl (lv_at hl 0 rfl) ?_
  refine lv_iconst (v := 0) hx hb dX1_init_30 (by decide) ?_
  refine va_newa (atype := .boolean) (ty := .boolean) (a0 := (0, .inl (fun _ => 0))) (N' := 0) hx hb (hts (.arrayClass .boolean) kw_9) rfl hK hP hD hS hA (fun _ => rfl) (by decide) (by decide) (by decide) (Nat.le_of_ble_eq_true rfl) (Nat.le_of_ble_eq_true rfl) dX1_init_31 (fun q_9 cA_10 H hK hP hD hS => ?_)
  have hP := hP.sub (ws' := [(h0, .inr (1, dfX1_8))]) [0] rfl
  have hD := hD.sub (ws' := [(h0, .inr (1, dfX1_8))]) [0] (by decide) rfl
  have hK := hK.sub (tys' := []) [] rfl
  refine W.widen (k := 7) (n := 8) (Nat.le_of_ble_eq_true rfl) (Nat.le_of_ble_eq_true rfl) ?_
  refine va_put (D := (dC, dI)) (ci := 1) (v := .ref q_9) (ty := (.array .boolean)) (C := RX1) (T := TX1) (N := 10) hx hb hts inX1 tyX1 tyX1_ok nmX1 hown hK hP hD hS 0 rfl rfl 3 (by decide) (hts _ kw_29) (fun _ h9 => h9) rfl (by decide +kernel) rfl rfl (by rw [L_dfX1_8]; decide) dX1_init_33 (fun H locs hP hD hS => ?_)
  obtain ⟨dfX1_11, e_dfX1_11⟩ : ∃ z, z = dfX1_8.set 3 (.ref q_9) := ⟨_, rfl⟩
  have hP : va_P (dC, dI) cl0 [(h0, .inr (1, dfX1_11))] H := by rw [e_dfX1_11]; exact hP
  have hD : va_D A [(h0, .inr (1, dfX1_11))] := by rw [e_dfX1_11]; exact hD
  have L_dfX1_11 : dfX1_11.length = 10 := fx_len e_dfX1_11 L_dfX1_8
  refine lv_aload_n hx hb dX1_init_36 rfl (lv_at hl 0 rfl) ?_
  refine lv_bipush (v := 48) hx hb dX1_init_37 (by decide) ?_
  refine va_newa (atype := .byte) (ty := .byte) (a0 := (48, .inl (fun _ => 0))) (N' := 48) hx hb (hts (.arrayClass .byte) kw_3) rfl hK hP hD hS hA (fun _ => rfl) (by decide) (by decide) (by decide) (Nat.le_of_ble_eq_true rfl) (Nat.le_of_ble_eq_true rfl) dX1_init_39 (fun q_12 cA_13 H hK hP hD hS => ?_)
  have hP := hP.sub (ws' := [(h0, .inr (1, dfX1_11))]) [0] rfl
  have hD := hD.sub (ws' := [(h0, .inr (1, dfX1_11))]) [0] (by decide) rfl
  have hK := hK.sub (tys' := []) [] rfl
  refine W.widen (k := 8) (n := 56) (Nat.le_of_ble_eq_true rfl) (Nat.le_of_ble_eq_true rfl) ?_
  refine va_putF (D := (dC, dI)) (ci := 1) (v := .ref q_12) (ty := (.array .byte)) (C := RX1) (T := TX1) (N := 10) hx hb hts inX1 tyX1 tyX1_ok nmX1 hown hK hP hD hS 0 rfl rfl 4 (by decide) (hts _ kw_30) (fun _ h9 => h9) rfl hin rfl (by decide +kernel) rfl rfl (by rw [L_dfX1_11]; decide) dX1_init_41 (fun H locs hP hD hS => ?_)
  obtain ⟨dfX1_14, e_dfX1_14⟩ : ∃ z, z = dfX1_11.set 4 (.ref q_12) := ⟨_, rfl⟩
  have hP : va_P (dC, dI) cl0 [(h0, .inr (1, dfX1_14))] H := by rw [e_dfX1_14]; exact hP
  have hD : va_D A [(h0, .inr (1, dfX1_14))] := by rw [e_dfX1_14]; exact hD
  have L_dfX1_14 : dfX1_14.length = 10 := fx_len e_dfX1_14 L_dfX1_11
  refine W.widen (k := 8) (n := 56) (Nat.le_of_ble_eq_true rfl) (Nat.le_of_ble_eq_true rfl) ?_
  exact W.vret hx hb hr (fun t9 ht9 hW9 => ⟨⟨(), rfl, trivial, trivial⟩, hS.F ht9⟩) hS.2.2 dX1_init_44
set_option maxHeartbeats 4000000 in
set_option maxRecDepth 100000 in
theorem m_X7_init (l : Launch) (dC : Nat → ClassId) (dI : Nat → Nat → Nat) (sz : Nat) (h0 : Nat)  : Met l yX7_init (wt yX7_init cX7_init 1 none) ({ frames := 1, cells := 5, slots := 596, locals := 12 }) (va_Pc [.ref h0] (st_U dC dI sz [(h0, .inr (6, dfX7))] [])) (va_Qv (fun _ : Unit => True) (fun (_ : Unit) (t : State) => ∃ (fs1 : List Value), (fs1.length = 17) ∧ va_P (dC, dI) cl0 [(h0, .inr (6, fs1))] t.heap ∧ va_K (dC, dI) cl0 [] t ∧ va_D (va_A [(h0, .inr (6, dfX7))] sz) [(h0, .inr (6, fs1))]) (va_A [(h0, .inr (6, dfX7))] sz)) 5 596 (va_A [(h0, .inr (6, dfX7))] sz) := by
  refine Met.ofW (cc := cX7_init) (maxL := 1) (ret := none) (by decide) rfl ?_
  intro p e s m args below meth c s₁ B hml hv
  obtain ⟨rfl, hsz, hP, hK, hD0, hex⟩ := hv
  have hx := B.exec
  have hb := B.bytes
  have hr := B.returns
  have hts0 := atoms_spec (ws := wt yX7_init cX7_init 1 none) B.pre
  have hts : ∀ w ∈ tb, w.before _ s = true := fun w h => hts0 w (List.mem_cons_of_mem _ h)
  have hown : s.vm.findClass RX7 = some m.cls := findClass_of_methodNamed B.named
  have hlocks := B.notSynchronized
  have hin : meth.name = "<init>" := (name_of_methodNamed B.named B.method).1
  subst hsz
  have hD := hD0.self (sz := s.heap.size)
  generalize hAe : va_A [(h0, .inr (6, dfX7))] s.heap.size = A at hD ⊢
  have hA : ∀ q : Nat, s.heap.size ≤ q → A q := fun q h => by rw [← hAe]; exact Or.inr h
  have hS : va_S A s.heap s.heap [] := va_S.rf
  have hl := lv_entry ([.ref h0]) (n := 1) (Nat.le_of_ble_eq_true rfl)
  rw [lg_entry_eq]
  generalize (lg_sl ([.ref h0]) ++ List.replicate (1 - (lg_sl ([.ref h0])).length) Slot.unset).toArray = ls at hl ⊢
  have hl : lv_has ls 1 [(0, .ref h0)] := hl
  refine lv_aload_n hx hb dX7_init_0 rfl (lv_at hl 0 rfl) ?_
  refine W.objInit hx hb hown (hts _ kw_31) (hts _ kw_1) (hts _ kw_2) rfl (by rw [hml]; exact hl.1) rfl dX7_init_1 (Nat.le_of_ble_eq_true rfl) (Nat.le_of_ble_eq_true rfl) ?_
  refine W.eq (g2 := F0 m 4 ls []) rfl ?_
  refine lv_aload_n hx hb dX7_init_4 rfl (lv_at hl 0 rfl) ?_
  refine lv_iconst (v := 0) hx hb dX7_init_5 (by decide) ?_
  refine va_newa (atype := .byte) (ty := .byte) (a0 := (0, .inl (fun _ => 0))) (N' := 0) hx hb (hts (.arrayClass .byte) kw_3) rfl hK hP hD hS hA (fun _ => rfl) (by decide) (by decide) (by decide) (Nat.le_of_ble_eq_true rfl) (Nat.le_of_ble_eq_true rfl) dX7_init_6 (fun q_1 cA_2 H hK hP hD hS => ?_)
  have hP := hP.sub (ws' := [(h0, .inr (6, dfX7))]) [0] rfl
  have hD := hD.sub (ws' := [(h0, .inr (6, dfX7))]) [0] (by decide) rfl
  have hK := hK.sub (tys' := []) [] rfl
  refine W.widen (k := 1) (n := 0) (Nat.le_of_ble_eq_true rfl) (Nat.le_of_ble_eq_true rfl) ?_
  refine va_put (D := (dC, dI)) (ci := 6) (v := .ref q_1) (ty := (.array .byte)) (C := RX7) (T := TX7) (N := 17) hx hb hts inX7 tyX7 tyX7_ok nmX7 hown hK hP hD hS 0 rfl rfl 0 (by decide) (hts _ kw_32) (fun _ h9 => h9) rfl (by decide +kernel) rfl rfl (by rw [L_dfX7]; decide) dX7_init_8 (fun H locs hP hD hS => ?_)
  obtain ⟨dfX7_3, e_dfX7_3⟩ : ∃ z, z = dfX7.set 0 (.ref q_1) := ⟨_, rfl⟩
  have hP : va_P (dC, dI) cl0 [(h0, .inr (6, dfX7_3))] H := by rw [e_dfX7_3]; exact hP
  have hD : va_D A [(h0, .inr (6, dfX7_3))] := by rw [e_dfX7_3]; exact hD
  have L_dfX7_3 : dfX7_3.length = 17 := fx_len e_dfX7_3 L_dfX7
  refine lv_aload_n hx hb dX7_init_11 rfl (lv_at hl 0 rfl) ?_
  refine lv_iconst (v := (-1)) hx hb dX7_init_12 (by decide) ?_
  refine va_put (D := (dC, dI)) (ci := 6) (v := .int (-1)) (ty := .int) (C := RX7) (T := TX7) (N := 17) hx hb hts inX7 tyX7 tyX7_ok nmX7 hown hK hP hD hS 0 rfl rfl 3 (by decide) (hts _ kw_33) (fun _ h9 => h9) rfl (by decide +kernel) rfl rfl (by rw [L_dfX7_3]; decide) dX7_init_13 (fun H locs hP hD hS => ?_)
  obtain ⟨dfX7_4, e_dfX7_4⟩ : ∃ z, z = dfX7_3.set 3 (.int (-1)) := ⟨_, rfl⟩
  have hP : va_P (dC, dI) cl0 [(h0, .inr (6, dfX7_4))] H := by rw [e_dfX7_4]; exact hP
  have hD : va_D A [(h0, .inr (6, dfX7_4))] := by rw [e_dfX7_4]; exact hD
  have L_dfX7_4 : dfX7_4.length = 17 := fx_len e_dfX7_4 L_dfX7_3
  refine lv_aload_n hx hb dX7_init_16 rfl (lv_at hl 0 rfl) ?_
  refine lv_sipush (v := 500) hx hb dX7_init_17 (by decide) ?_
  refine va_newa (atype := .int) (ty := .int) (a0 := (500, .inl (fun _ => 0))) (N' := 500) hx hb (hts (.arrayClass .int) kw_6) rfl hK hP hD hS hA (fun _ => rfl) (by decide) (by decide) (by decide) (Nat.le_of_ble_eq_true rfl) (Nat.le_of_ble_eq_true rfl) dX7_init_20 (fun q_5 cA_6 H hK hP hD hS => ?_)
  have hP := hP.sub (ws' := [(h0, .inr (6, dfX7_4))]) [0] rfl
  have hD := hD.sub (ws' := [(h0, .inr (6, dfX7_4))]) [0] (by decide) rfl
  have hK := hK.sub (tys' := []) [] rfl
  refine W.widen (k := 2) (n := 500) (Nat.le_of_ble_eq_true rfl) (Nat.le_of_ble_eq_true rfl) ?_
  refine va_putF (D := (dC, dI)) (ci := 6) (v := .ref q_5) (ty := (.array .int)) (C := RX7) (T := TX7) (N := 17) hx hb hts inX7 tyX7 tyX7_ok nmX7 hown hK hP hD hS 0 rfl rfl 4 (by decide) (hts _ kw_34) (fun _ h9 => h9) rfl hin rfl (by decide +kernel) rfl rfl (by rw [L_dfX7_4]; decide) dX7_init_22 (fun H locs hP hD hS => ?_)
  obtain ⟨dfX7_7, e_dfX7_7⟩ : ∃ z, z = dfX7_4.set 4 (.ref q_5) := ⟨_, rfl⟩
  have hP : va_P (dC, dI) cl0 [(h0, .inr (6, dfX7_7))] H := by rw [e_dfX7_7]; exact hP
  have hD : va_D A [(h0, .inr (6, dfX7_7))] := by rw [e_dfX7_7]; exact hD
  have L_dfX7_7 : dfX7_7.length = 17 := fx_len e_dfX7_7 L_dfX7_4
  refine lv_aload_n hx hb dX7_init_25 rfl (lv_at hl 0 rfl) ?_
  refine lv_bipush (v := 48) hx hb dX7_init_26 (by decide) ?_
  refine va_newa (atype := .int) (ty := .int) (a0 := (48, .inl (fun _ => 0))) (N' := 48) hx hb (hts (.arrayClass .int) kw_6) rfl hK hP hD hS hA (fun _ => rfl) (by decide) (by decide) (by decide) (Nat.le_of_ble_eq_true rfl) (Nat.le_of_ble_eq_true rfl) dX7_init_28 (fun q_8 cA_9 H hK hP hD hS => ?_)
  have hP := hP.sub (ws' := [(h0, .inr (6, dfX7_7))]) [0] rfl
  have hD := hD.sub (ws' := [(h0, .inr (6, dfX7_7))]) [0] (by decide) rfl
  have hK := hK.sub (tys' := []) [] rfl
  refine W.widen (k := 3) (n := 548) (Nat.le_of_ble_eq_true rfl) (Nat.le_of_ble_eq_true rfl) ?_
  refine va_putF (D := (dC, dI)) (ci := 6) (v := .ref q_8) (ty := (.array .int)) (C := RX7) (T := TX7) (N := 17) hx hb hts inX7 tyX7 tyX7_ok nmX7 hown hK hP hD hS 0 rfl rfl 9 (by decide) (hts _ kw_35) (fun _ h9 => h9) rfl hin rfl (by decide +kernel) rfl rfl (by rw [L_dfX7_7]; decide) dX7_init_30 (fun H locs hP hD hS => ?_)
  obtain ⟨dfX7_10, e_dfX7_10⟩ : ∃ z, z = dfX7_7.set 9 (.ref q_8) := ⟨_, rfl⟩
  have hP : va_P (dC, dI) cl0 [(h0, .inr (6, dfX7_10))] H := by rw [e_dfX7_10]; exact hP
  have hD : va_D A [(h0, .inr (6, dfX7_10))] := by rw [e_dfX7_10]; exact hD
  have L_dfX7_10 : dfX7_10.length = 17 := fx_len e_dfX7_10 L_dfX7_7
  refine lv_aload_n hx hb dX7_init_33 rfl (lv_at hl 0 rfl) ?_
  refine lv_bipush (v := 24) hx hb dX7_init_34 (by decide) ?_
  refine va_newa (atype := .int) (ty := .int) (a0 := (24, .inl (fun _ => 0))) (N' := 24) hx hb (hts (.arrayClass .int) kw_6) rfl hK hP hD hS hA (fun _ => rfl) (by decide) (by decide) (by decide) (Nat.le_of_ble_eq_true rfl) (Nat.le_of_ble_eq_true rfl) dX7_init_36 (fun q_11 cA_12 H hK hP hD hS => ?_)
  have hP := hP.sub (ws' := [(h0, .inr (6, dfX7_10))]) [0] rfl
  have hD := hD.sub (ws' := [(h0, .inr (6, dfX7_10))]) [0] (by decide) rfl
  have hK := hK.sub (tys' := []) [] rfl
  refine W.widen (k := 4) (n := 572) (Nat.le_of_ble_eq_true rfl) (Nat.le_of_ble_eq_true rfl) ?_
  refine va_putF (D := (dC, dI)) (ci := 6) (v := .ref q_11) (ty := (.array .int)) (C := RX7) (T := TX7) (N := 17) hx hb hts inX7 tyX7 tyX7_ok nmX7 hown hK hP hD hS 0 rfl rfl 10 (by decide) (hts _ kw_36) (fun _ h9 => h9) rfl hin rfl (by decide +kernel) rfl rfl (by rw [L_dfX7_10]; decide) dX7_init_38 (fun H locs hP hD hS => ?_)
  obtain ⟨dfX7_13, e_dfX7_13⟩ : ∃ z, z = dfX7_10.set 10 (.ref q_11) := ⟨_, rfl⟩
  have hP : va_P (dC, dI) cl0 [(h0, .inr (6, dfX7_13))] H := by rw [e_dfX7_13]; exact hP
  have hD : va_D A [(h0, .inr (6, dfX7_13))] := by rw [e_dfX7_13]; exact hD
  have L_dfX7_13 : dfX7_13.length = 17 := fx_len e_dfX7_13 L_dfX7_10
  refine lv_aload_n hx hb dX7_init_41 rfl (lv_at hl 0 rfl) ?_
  refine lv_bipush (v := 24) hx hb dX7_init_42 (by decide) ?_
  refine va_newa (atype := .int) (ty := .int) (a0 := (24, .inl (fun _ => 0))) (N' := 24) hx hb (hts (.arrayClass .int) kw_6) rfl hK hP hD hS hA (fun _ => rfl) (by decide) (by decide) (by decide) (Nat.le_of_ble_eq_true rfl) (Nat.le_of_ble_eq_true rfl) dX7_init_44 (fun q_14 cA_15 H hK hP hD hS => ?_)
  have hP := hP.sub (ws' := [(h0, .inr (6, dfX7_13))]) [0] rfl
  have hD := hD.sub (ws' := [(h0, .inr (6, dfX7_13))]) [0] (by decide) rfl
  have hK := hK.sub (tys' := []) [] rfl
  refine W.widen (k := 5) (n := 596) (Nat.le_of_ble_eq_true rfl) (Nat.le_of_ble_eq_true rfl) ?_
  refine va_putF (D := (dC, dI)) (ci := 6) (v := .ref q_14) (ty := (.array .int)) (C := RX7) (T := TX7) (N := 17) hx hb hts inX7 tyX7 tyX7_ok nmX7 hown hK hP hD hS 0 rfl rfl 11 (by decide) (hts _ kw_37) (fun _ h9 => h9) rfl hin rfl (by decide +kernel) rfl rfl (by rw [L_dfX7_13]; decide) dX7_init_46 (fun H locs hP hD hS => ?_)
  obtain ⟨dfX7_16, e_dfX7_16⟩ : ∃ z, z = dfX7_13.set 11 (.ref q_14) := ⟨_, rfl⟩
  have hP : va_P (dC, dI) cl0 [(h0, .inr (6, dfX7_16))] H := by rw [e_dfX7_16]; exact hP
  have hD : va_D A [(h0, .inr (6, dfX7_16))] := by rw [e_dfX7_16]; exact hD
  have L_dfX7_16 : dfX7_16.length = 17 := fx_len e_dfX7_16 L_dfX7_13
  refine W.widen (k := 5) (n := 596) (Nat.le_of_ble_eq_true rfl) (Nat.le_of_ble_eq_true rfl) ?_
  have hP9 := hP.sub (ws' := [(h0, .inr (6, dfX7_16))]) [0] rfl
  have hD9 := hD.sub (ws' := [(h0, .inr (6, dfX7_16))]) [0] (by decide) rfl
  have hK9 := hK.sub (tys' := []) [] rfl
  exact W.vret hx hb hr (fun t9 ht9 hW9 => ⟨⟨(), rfl, trivial, dfX7_16, L_dfX7_16, by rw [ht9]; exact hP9, va_K.moved hW9.alike hK9, hD9⟩, hS.F ht9⟩) hS.2.2 dX7_init_49
set_option maxHeartbeats 4000000 in
set_option maxRecDepth 100000 in
theorem m_X2_init (l : Launch) (dC : Nat → ClassId) (dI : Nat → Nat → Nat) (sz : Nat) (h0 : Nat)  : Met l yX2_init (wt yX2_init cX2_init 1 none) ({ frames := 2, cells := 7, slots := 1814, locals := 32 }) (va_Pc [.ref h0] (st_U dC dI sz [(h0, .inr (2, dfX2))] [])) (va_Qv (fun _ : Unit => True) (fun (_ : Unit) (t : State) => ∃ (fs1 : List Value), ∃ (hr : Nat), ∃ (fs2 : List Value), (fs1.length = 12) ∧ (fs1[0]? = some (.ref hr)) ∧ (fs2.length = 17) ∧ va_P (dC, dI) cl0 [(h0, .inr (2, fs1)), (hr, .inr (6, fs2))] t.heap ∧ va_K (dC, dI) cl0 [] t ∧ va_D (va_A [(h0, .inr (2, dfX2))] sz) [(h0, .inr (2, fs1)), (hr, .inr (6, fs2))]) (va_A [(h0, .inr (2, dfX2))] sz)) 7 1814 (va_A [(h0, .inr (2, dfX2))] sz) := by
  refine Met.ofW (cc := cX2_init) (maxL := 1) (ret := none) (by decide) rfl ?_
  intro p e s m args below meth c s₁ B hml hv
  obtain ⟨rfl, hsz, hP, hK, hD0, hex⟩ := hv
  have hx := B.exec
  have hb := B.bytes
  have hr := B.returns
  have hts0 := atoms_spec (ws := wt yX2_init cX2_init 1 none) B.pre
  have hts : ∀ w ∈ tb, w.before _ s = true := fun w h => hts0 w (List.mem_cons_of_mem _ h)
  have hown : s.vm.findClass RX2 = some m.cls := findClass_of_methodNamed B.named
  have hlocks := B.notSynchronized
  have hin : meth.name = "<init>" := (name_of_methodNamed B.named B.method).1
  subst hsz
  have hD := hD0.self (sz := s.heap.size)
  generalize hAe : va_A [(h0, .inr (2, dfX2))] s.heap.size = A at hD ⊢
  have hA : ∀ q : Nat, s.heap.size ≤ q → A q := fun q h => by rw [← hAe]; exact Or.inr h
  have hS : va_S A s.heap s.heap [] := va_S.rf
  have hl := lv_entry ([.ref h0]) (n := 1) (Nat.le_of_ble_eq_true rfl)
  rw [lg_entry_eq]
  generalize (lg_sl ([.ref h0]) ++ List.replicate (1 - (lg_sl ([.ref h0])).length) Slot.unset).toArray = ls at hl ⊢
  have hl : lv_has ls 1 [(0, .ref h0)] := hl
  refine lv_aload_n hx hb dX2_init_0 rfl (lv_at hl 0 rfl) ?_
  refine W.objInit hx hb hown (hts _ kw_38) (hts _ kw_1) (hts _ kw_2) rfl (by rw [hml]; exact hl.1) rfl dX2_init_1 (Nat.le_of_ble_eq_true rfl) (Nat.le_of_ble_eq_true rfl) ?_
  refine W.eq (g2 := F0 m 4 ls []) rfl ?_
  refine lv_aload_n hx hb dX2_init_4 rfl (lv_at hl 0 rfl) ?_
  refine va_new (ci := 6) (fs := dfX7) (C := RX7) (T := TX7) (N := 17) hx hb hts inX7 tyX7 tyX7_ok hown (hts _ kw_39) (hts _ kw_40) (hts _ kw_41) hK hP hD hS hA rfl dfX7_ok (Nat.le_of_ble_eq_true rfl) (Nat.le_of_ble_eq_true rfl) dX2_init_5 (fun q_1 H hP hD hS => ?_)
  have hP : va_P (dC, dI) cl0 [(h0, .inr (2, dfX2)), (q_1, .inr (6, dfX7))] H := hP
  have hD : va_D A [(h0, .inr (2, dfX2)), (q_1, .inr (6, dfX7))] := hD
  refine W.widen (k := 1) (n := 17) (Nat.le_of_ble_eq_true rfl) (Nat.le_of_ble_eq_true rfl) ?_
  refine lv_dup hx hb dX2_init_8 rfl ?_
  have hPc := hP.sub (ws' := [(q_1, .inr (6, dfX7))]) [1] rfl
  have hDc := hD.sub (ws' := [(q_1, .inr (6, dfX7))]) [1] (by decide) rfl
  have hKc := hK.sub (tys' := []) [] rfl
  have hFc := va_free (wc := [(q_1, .inr (6, dfX7))]) hD hS hA [1] rfl
  refine va_callv (va_runIN (As := []) (rest := [.ref q_1, .ref h0]) ⟨hx, hb, hml, hown, hts⟩ (m_X7_init l dC dI H.size q_1 ) ⟨va_cnB 0 hts (gd_I kw_42) rfl rfl rfl (nw_of (by exact nn_X2_11) hex) (hts _ kw_41) (by decide +kernel) ⟨Nat.le_of_ble_eq_true rfl, Nat.le_of_ble_eq_true rfl⟩, rfl, hts _ kw_43⟩ ⟨st_blind, fun U hU hW9 => st_mk hU hW9 hPc hKc hDc hex⟩ rfl rfl hl.1 rfl (lv_room (Nat.le_of_ble_eq_true rfl)) dX2_init_9 ⟨Nat.le_of_ble_eq_true rfl, Nat.le_of_ble_eq_true rfl⟩) hS (fun q _ h => hFc q h) hFc (fun  u9 t9 H1 locs ht9 hvm9 hw9 hB9 hz9 hk9 hS => ?_)
  obtain ⟨fs1_2, L_fs1_2, hP1, hK1, hD1⟩ := hB9
  rw [ht9] at hP1
  have hK1 := va_K.moved hvm9.symm hK1
  obtain ⟨hP, hD⟩ := va_join (wr := [(h0, .inr (2, dfX2))]) (w1 := [(q_1, .inr (6, fs1_2))]) hP hD [1] [0] rfl rfl (by decide) (by decide) hk9 hFc hP1 hD1
  have hK := (hK.sub (tys' := []) [] rfl).app hK1
  generalize H1 = H at hP hS ⊢
  have hP : va_P (dC, dI) cl0 [(h0, .inr (2, dfX2)), (q_1, .inr (6, fs1_2))] H := hP
  have hD : va_D A [(h0, .inr (2, dfX2)), (q_1, .inr (6, fs1_2))] := hD
  have hK : va_K (dC, dI) cl0 [] s := hK
  refine W.widen (k := 6) (n := 613) (by omega) (by omega) ?_
  refine va_putF (D := (dC, dI)) (ci := 2) (v := .ref q_1) (ty := (.object "CodeFoundry$Reader")) (C := RX2) (T := TX2) (N := 12) hx hb hts inX2 tyX2 tyX2_ok nmX2 hown hK hP hD hS 0 rfl rfl 0 (by decide) (hts _ kw_44) (fun _ h9 => h9) rfl hin rfl (by decide +kernel) rfl rfl (by rw [L_dfX2]; decide) dX2_init_12 (fun H locs hP hD hS => ?_)
  obtain ⟨dfX2_3, e_dfX2_3⟩ : ∃ z, z = dfX2.set 0 (.ref q_1) := ⟨_, rfl⟩
  have hP : va_P (dC, dI) cl0 [(h0, .inr (2, dfX2_3)), (q_1, .inr (6, fs1_2))] H := by rw [e_dfX2_3]; exact hP
  have hD : va_D A [(h0, .inr (2, dfX2_3)), (q_1, .inr (6, fs1_2))] := by rw [e_dfX2_3]; exact hD
  have L_dfX2_3 : dfX2_3.length = 12 := fx_len e_dfX2_3 L_dfX2
  have g_dfX2_3_0 := fx_self e_dfX2_3 (by rw [L_dfX2]; decide)
  refine lv_aload_n hx hb dX2_init_15 rfl (lv_at hl 0 rfl) ?_
  refine lv_sipush (v := 1201) hx hb dX2_init_16 (by decide) ?_
  refine va_newa (atype := .int) (ty := .int) (a0 := (1201, .inl (fun _ => 0))) (N' := 1201) hx hb (hts (.arrayClass .int) kw_6) rfl hK hP hD hS hA (fun _ => rfl) (by decide) (by decide) (by decide) (Nat.le_of_ble_eq_true rfl) (Nat.le_of_ble_eq_true rfl) dX2_init_19 (fun q_4 cA_5 H hK hP hD hS => ?_)
  have hP := hP.sub (ws' := [(h0, .inr (2, dfX2_3)), (q_1, .inr (6, fs1_2))]) [0, 1] rfl
  have hD := hD.sub (ws' := [(h0, .inr (2, dfX2_3)), (q_1, .inr (6, fs1_2))]) [0, 1] (by decide) rfl
  have hK := hK.sub (tys' := []) [] rfl
  refine W.widen (k := 7) (n := 1814) (Nat.le_of_ble_eq_true rfl) (Nat.le_of_ble_eq_true rfl) ?_
  refine va_putF (D := (dC, dI)) (ci := 2) (v := .ref q_4) (ty := (.array .int)) (C := RX2) (T := TX2) (N := 12) hx hb hts inX2 tyX2 tyX2_ok nmX2 hown hK hP hD hS 0 rfl rfl 7 (by decide) (hts _ kw_45) (fun _ h9 => h9) rfl hin rfl (by decide +kernel) rfl rfl (by rw [L_dfX2_3]; decide) dX2_init_21 (fun H locs hP hD hS => ?_)
  obtain ⟨dfX2_6, e_dfX2_6⟩ : ∃ z, z = dfX2_3.set 7 (.ref q_4) := ⟨_, rfl⟩
  have hP : va_P (dC, dI) cl0 [(h0, .inr (2, dfX2_6)), (q_1, .inr (6, fs1_2))] H := by rw [e_dfX2_6]; exact hP
  have hD : va_D A [(h0, .inr (2, dfX2_6)), (q_1, .inr (6, fs1_2))] := by rw [e_dfX2_6]; exact hD
  have L_dfX2_6 : dfX2_6.length = 12 := fx_len e_dfX2_6 L_dfX2_3
  have g_dfX2_6_0 := fx_ne (j := 0) e_dfX2_6 g_dfX2_3_0 (by decide)
  refine W.widen (k := 7) (n := 1814) (Nat.le_of_ble_eq_true rfl) (Nat.le_of_ble_eq_true rfl) ?_
  have hP9 := hP.sub (ws' := [(h0, .inr (2, dfX2_6)), (q_1, .inr (6, fs1_2))]) [0, 1] rfl
  have hD9 := hD.sub (ws' := [(h0, .inr (2, dfX2_6)), (q_1, .inr (6, fs1_2))]) [0, 1] (by decide) rfl
  have hK9 := hK.sub (tys' := []) [] rfl
  exact W.vret hx hb hr (fun t9 ht9 hW9 => ⟨⟨(), rfl, trivial, dfX2_6, q_1, fs1_2, L_dfX2_6, g_dfX2_6_0, L_fs1_2, by rw [ht9]; exact hP9, va_K.moved hW9.alike hK9, hD9⟩, hS.F ht9⟩) hS.2.2 dX2_init_24
set_option maxHeartbeats 4000000 in
set_option maxRecDepth 100000 in
theorem m_X11_init (l : Launch) (dC : Nat → ClassId) (dI : Nat → Nat → Nat) (sz : Nat) (h0 : Nat)  : Met l yX11_init (wt yX11_init cX11_init 1 none) ({ frames := 2, cells := 18, slots := 1302, locals := 32 }) (va_Pc [.ref h0] (st_U dC dI sz [(h0, .inr (9, dfX11))] [])) (va_Qv (fun _ : Unit => True) (fun (_ : Unit) (_ : State) => True) (va_A [(h0, .inr (9, dfX11))] sz)) 18 1302 (va_A [(h0, .inr (9, dfX11))] sz) := by
  refine Met.ofW (cc := cX11_init) (maxL := 1) (ret := none) (by decide) rfl ?_
  intro p e s m args below meth c s₁ B hml hv
  obtain ⟨rfl, hsz, hP, hK, hD0, hex⟩ := hv
  have hx := B.exec
  have hb := B.bytes
  have hr := B.returns
  have hts0 := atoms_spec (ws := wt yX11_init cX11_init 1 none) B.pre
  have hts : ∀ w ∈ tb, w.before _ s = true := fun w h => hts0 w (List.mem_cons_of_mem _ h)
  have hown : s.vm.findClass RX11 = some m.cls := findClass_of_methodNamed B.named
  have hlocks := B.notSynchronized
  have hin : meth.name = "<init>" := (name_of_methodNamed B.named B.method).1
  subst hsz
  have hD := hD0.self (sz := s.heap.size)
  generalize hAe : va_A [(h0, .inr (9, dfX11))] s.heap.size = A at hD ⊢
  have hA : ∀ q : Nat, s.heap.size ≤ q → A q := fun q h => by rw [← hAe]; exact Or.inr h
  have hS : va_S A s.heap s.heap [] := va_S.rf
  have hl := lv_entry ([.ref h0]) (n := 1) (Nat.le_of_ble_eq_true rfl)
  rw [lg_entry_eq]
  generalize (lg_sl ([.ref h0]) ++ List.replicate (1 - (lg_sl ([.ref h0])).length) Slot.unset).toArray = ls at hl ⊢
  have hl : lv_has ls 1 [(0, .ref h0)] := hl
  refine lv_aload_n hx hb dX11_init_0 rfl (lv_at hl 0 rfl) ?_
  refine W.objInit hx hb hown (hts _ kw_46) (hts _ kw_1) (hts _ kw_2) rfl (by rw [hml]; exact hl.1) rfl dX11_init_1 (Nat.le_of_ble_eq_true rfl) (Nat.le_of_ble_eq_true rfl) ?_
  refine W.eq (g2 := F0 m 4 ls []) rfl ?_
  refine lv_aload_n hx hb dX11_init_4 rfl (lv_at hl 0 rfl) ?_
  refine va_new (ci := 0) (fs := dfX0) (C := RX0) (T := TX0) (N := 2) hx hb hts inX0 tyX0 tyX0_ok hown (hts _ kw_47) (hts _ kw_48) (hts _ kw_49) hK hP hD hS hA rfl dfX0_ok (Nat.le_of_ble_eq_true rfl) (Nat.le_of_ble_eq_true rfl) dX11_init_5 (fun q_1 H hP hD hS => ?_)
  have hP : va_P (dC, dI) cl0 [(h0, .inr (9, dfX11)), (q_1, .inr (0, dfX0))] H := hP
  have hD : va_D A [(h0, .inr (9, dfX11)), (q_1, .inr (0, dfX0))] := hD
  refine W.widen (k := 1) (n := 2) (Nat.le_of_ble_eq_true rfl) (Nat.le_of_ble_eq_true rfl) ?_
  refine lv_dup hx hb dX11_init_8 rfl ?_
  have hPc := hP.sub (ws' := [(q_1, .inr (0, dfX0))]) [1] rfl
  have hDc := hD.sub (ws' := [(q_1, .inr (0, dfX0))]) [1] (by decide) rfl
  have hKc := hK.sub (tys' := []) [] rfl
  have hFc := va_free (wc := [(q_1, .inr (0, dfX0))]) hD hS hA [1] rfl
  refine va_callv (va_runIN (As := []) (rest := [.ref q_1, .ref h0]) ⟨hx, hb, hml, hown, hts⟩ (m_X0_init l dC dI H.size q_1 ) ⟨va_cnB 0 hts (gd_I kw_50) rfl rfl rfl (nw_of (by exact nn_X11_11) hex) (hts _ kw_49) (by decide +kernel) ⟨Nat.le_of_ble_eq_true rfl, Nat.le_of_ble_eq_true rfl⟩, rfl, hts _ kw_51⟩ ⟨st_blind, fun U hU hW9 => st_mk hU hW9 hPc hKc hDc hex⟩ rfl rfl hl.1 rfl (lv_room (Nat.le_of_ble_eq_true rfl)) dX11_init_9 ⟨Nat.le_of_ble_eq_true rfl, Nat.le_of_ble_eq_true rfl⟩) hS (fun q _ h => hFc q h) hFc (fun  u9 t9 H1 locs ht9 hvm9 hw9 hB9 hz9 hk9 hS => ?_)
  obtain ⟨fs1_2, hd_3, cB_4, L_fs1_2, g_fs1_2_0, g_fs1_2_1, hP1, hK1, hD1⟩ := hB9
  rw [ht9] at hP1
  have hK1 := va_K.moved hvm9.symm hK1
  obtain ⟨hP, hD⟩ := va_join (wr := [(h0, .inr (9, dfX11))]) (w1 := [(q_1, .inr (0, fs1_2)), (hd_3, .inl (cB_4, 64, .inl (fun _ => 0)))]) hP hD [1] [0] rfl rfl (by decide) (by decide) hk9 hFc hP1 hD1
  have hK := (hK.sub (tys' := []) [] rfl).app hK1
  generalize H1 = H at hP hS ⊢
  have hP : va_P (dC, dI) cl0 [(h0, .inr (9, dfX11)), (q_1, .inr (0, fs1_2)), (hd_3, .inl (cB_4, 64, .inl (fun _ => 0)))] H := hP
  have hD : va_D A [(h0, .inr (9, dfX11)), (q_1, .inr (0, fs1_2)), (hd_3, .inl (cB_4, 64, .inl (fun _ => 0)))] := hD
  have hK : va_K (dC, dI) cl0 [(cB_4, .byte)] s := hK
  refine W.widen (k := 2) (n := 66) (by omega) (by omega) ?_
  refine va_putF (D := (dC, dI)) (ci := 9) (v := .ref q_1) (ty := (.object "CodeFoundry$Bytes")) (C := RX11) (T := TX11) (N := 18) hx hb hts inX11 tyX11 tyX11_ok nmX11 hown hK hP hD hS 0 rfl rfl 0 (by decide) (hts _ kw_52) (fun _ h9 => h9) rfl hin rfl (by decide +kernel) rfl rfl (by rw [L_dfX11]; decide) dX11_init_12 (fun H locs hP hD hS => ?_)
  obtain ⟨dfX11_5, e_dfX11_5⟩ : ∃ z, z = dfX11.set 0 (.ref q_1) := ⟨_, rfl⟩
  have hP : va_P (dC, dI) cl0 [(h0, .inr (9, dfX11_5)), (q_1, .inr (0, fs1_2)), (hd_3, .inl (cB_4, 64, .inl (fun _ => 0)))] H := by rw [e_dfX11_5]; exact hP
  have hD : va_D A [(h0, .inr (9, dfX11_5)), (q_1, .inr (0, fs1_2)), (hd_3, .inl (cB_4, 64, .inl (fun _ => 0)))] := by rw [e_dfX11_5]; exact hD
  have L_dfX11_5 : dfX11_5.length = 18 := fx_len e_dfX11_5 L_dfX11
  refine lv_aload_n hx hb dX11_init_15 rfl (lv_at hl 0 rfl) ?_
  refine va_new (ci := 0) (fs := dfX0) (C := RX0) (T := TX0) (N := 2) hx hb hts inX0 tyX0 tyX0_ok hown (hts _ kw_47) (hts _ kw_48) (hts _ kw_49) hK hP hD hS hA rfl dfX0_ok (Nat.le_of_ble_eq_true rfl) (Nat.le_of_ble_eq_true rfl) dX11_init_16 (fun q_6 H hP hD hS => ?_)
  have hP : va_P (dC, dI) cl0 [(h0, .inr (9, dfX11_5)), (q_1, .inr (0, fs1_2)), (hd_3, .inl (cB_4, 64, .inl (fun _ => 0))), (q_6, .inr (0, dfX0))] H := hP
  have hD : va_D A [(h0, .inr (9, dfX11_5)), (q_1, .inr (0, fs1_2)), (hd_3, .inl (cB_4, 64, .inl (fun _ => 0))), (q_6, .inr (0, dfX0))] := hD
  refine W.widen (k := 3) (n := 68) (Nat.le_of_ble_eq_true rfl) (Nat.le_of_ble_eq_true rfl) ?_
  refine lv_dup hx hb dX11_init_19 rfl ?_
  have hPc := hP.sub (ws' := [(q_6, .inr (0, dfX0))]) [3] rfl
  have hDc := hD.sub (ws' := [(q_6, .inr (0, dfX0))]) [3] (by decide) rfl
  have hKc := hK.sub (tys' := []) [] rfl
  have hFc := va_free (wc := [(q_6, .inr (0, dfX0))]) hD hS hA [3] rfl
  refine va_callv (va_runIN (As := []) (rest := [.ref q_6, .ref h0]) ⟨hx, hb, hml, hown, hts⟩ (m_X0_init l dC dI H.size q_6 ) ⟨va_cnB 0 hts (gd_I kw_50) rfl rfl rfl (nw_of (by exact nn_X11_11) hex) (hts _ kw_49) (by decide +kernel) ⟨Nat.le_of_ble_eq_true rfl, Nat.le_of_ble_eq_true rfl⟩, rfl, hts _ kw_51⟩ ⟨st_blind, fun U hU hW9 => st_mk hU hW9 hPc hKc hDc hex⟩ rfl rfl hl.1 rfl (lv_room (Nat.le_of_ble_eq_true rfl)) dX11_init_20 ⟨Nat.le_of_ble_eq_true rfl, Nat.le_of_ble_eq_true rfl⟩) hS (fun q _ h => hFc q h) hFc (fun  u9 t9 H1 locs ht9 hvm9 hw9 hB9 hz9 hk9 hS => ?_)
  obtain ⟨fs1_7, hd_8, cB_9, L_fs1_7, g_fs1_7_0, g_fs1_7_1, hP1, hK1, hD1⟩ := hB9
  rw [ht9] at hP1
  have hK1 := va_K.moved hvm9.symm hK1
  obtain ⟨hP, hD⟩ := va_join (wr := [(h0, .inr (9, dfX11_5)), (q_1, .inr (0, fs1_2)), (hd_3, .inl (cB_4, 64, .inl (fun _ => 0)))]) (w1 := [(q_6, .inr (0, fs1_7)), (hd_8, .inl (cB_9, 64, .inl (fun _ => 0)))]) hP hD [3] [0, 1, 2] rfl rfl (by decide) (by decide) hk9 hFc hP1 hD1
  have hK := (hK.sub (tys' := [(cB_4, .byte)]) [0] rfl).app hK1
  generalize H1 = H at hP hS ⊢
  have hP : va_P (dC, dI) cl0 [(h0, .inr (9, dfX11_5)), (q_1, .inr (0, fs1_2)), (hd_3, .inl (cB_4, 64, .inl (fun _ => 0))), (q_6, .inr (0, fs1_7)), (hd_8, .inl (cB_9, 64, .inl (fun _ => 0)))] H := hP
  have hD : va_D A [(h0, .inr (9, dfX11_5)), (q_1, .inr (0, fs1_2)), (hd_3, .inl (cB_4, 64, .inl (fun _ => 0))), (q_6, .inr (0, fs1_7)), (hd_8, .inl (cB_9, 64, .inl (fun _ => 0)))] := hD
  have hK : va_K (dC, dI) cl0 [(cB_4, .byte), (cB_9, .byte)] s := hK
  refine W.widen (k := 4) (n := 132) (by omega) (by omega) ?_
  refine va_putF (D := (dC, dI)) (ci := 9) (v := .ref q_6) (ty := (.object "CodeFoundry$Bytes")) (C := RX11) (T := TX11) (N := 18) hx hb hts inX11 tyX11 tyX11_ok nmX11 hown hK hP hD hS 0 rfl rfl 1 (by decide) (hts _ kw_53) (fun _ h9 => h9) rfl hin rfl (by decide +kernel) rfl rfl (by rw [L_dfX11_5]; decide) dX11_init_23 (fun H locs hP hD hS => ?_)
  obtain ⟨dfX11_10, e_dfX11_10⟩ : ∃ z, z = dfX11_5.set 1 (.ref q_6) := ⟨_, rfl⟩
  have hP : va_P (dC, dI) cl0 [(h0, .inr (9, dfX11_10)), (q_1, .inr (0, fs1_2)), (hd_3, .inl (cB_4, 64, .inl (fun _ => 0))), (q_6, .inr (0, fs1_7)), (hd_8, .inl (cB_9, 64, .inl (fun _ => 0)))] H := by rw [e_dfX11_10]; exact hP
  have hD : va_D A [(h0, .inr (9, dfX11_10)), (q_1, .inr (0, fs1_2)), (hd_3, .inl (cB_4, 64, .inl (fun _ => 0))), (q_6, .inr (0, fs1_7)), (hd_8, .inl (cB_9, 64, .inl (fun _ => 0)))] := by rw [e_dfX11_10]; exact hD
  have L_dfX11_10 : dfX11_10.length = 18 := fx_len e_dfX11_10 L_dfX11_5
  refine lv_aload_n hx hb dX11_init_26 rfl (lv_at hl 0 rfl) ?_
  refine va_new (ci := 0) (fs := dfX0) (C := RX0) (T := TX0) (N := 2) hx hb hts inX0 tyX0 tyX0_ok hown (hts _ kw_47) (hts _ kw_48) (hts _ kw_49) hK hP hD hS hA rfl dfX0_ok (Nat.le_of_ble_eq_true rfl) (Nat.le_of_ble_eq_true rfl) dX11_init_27 (fun q_11 H hP hD hS => ?_)
  have hP : va_P (dC, dI) cl0 [(h0, .inr (9, dfX11_10)), (q_1, .inr (0, fs1_2)), (hd_3, .inl (cB_4, 64, .inl (fun _ => 0))), (q_6, .inr (0, fs1_7)), (hd_8, .inl (cB_9, 64, .inl (fun _ => 0))), (q_11, .inr (0, dfX0))] H := hP
  have hD : va_D A [(h0, .inr (9, dfX11_10)), (q_1, .inr (0, fs1_2)), (hd_3, .inl (cB_4, 64, .inl (fun _ => 0))), (q_6, .inr (0, fs1_7)), (hd_8, .inl (cB_9, 64, .inl (fun _ => 0))), (q_11, .inr (0, dfX0))] := hD
  refine W.widen (k := 5) (n := 134) (Nat.le_of_ble_eq_true rfl) (Nat.le_of_ble_eq_true rfl) ?_
  refine lv_dup hx hb dX11_init_30 rfl ?_
  have hPc := hP.sub (ws' := [(q_11, .inr (0, dfX0))]) [5] rfl
  have hDc := hD.sub (ws' := [(q_11, .inr (0, dfX0))]) [5] (by decide) rfl
  have hKc := hK.sub (tys' := []) [] rfl
  have hFc := va_free (wc := [(q_11, .inr (0, dfX0))]) hD hS hA [5] rfl
  refine va_callv (va_runIN (As := []) (rest := [.ref q_11, .ref h0]) ⟨hx, hb, hml, hown, hts⟩ (m_X0_init l dC dI H.size q_11 ) ⟨va_cnB 0 hts (gd_I kw_50) rfl rfl rfl (nw_of (by exact nn_X11_11) hex) (hts _ kw_49) (by decide +kernel) ⟨Nat.le_of_ble_eq_true rfl, Nat.le_of_ble_eq_true rfl⟩, rfl, hts _ kw_51⟩ ⟨st_blind, fun U hU hW9 => st_mk hU hW9 hPc hKc hDc hex⟩ rfl rfl hl.1 rfl (lv_room (Nat.le_of_ble_eq_true rfl)) dX11_init_31 ⟨Nat.le_of_ble_eq_true rfl, Nat.le_of_ble_eq_true rfl⟩) hS (fun q _ h => hFc q h) hFc (fun  u9 t9 H1 locs ht9 hvm9 hw9 hB9 hz9 hk9 hS => ?_)
  obtain ⟨fs1_12, hd_13, cB_14, L_fs1_12, g_fs1_12_0, g_fs1_12_1, hP1, hK1, hD1⟩ := hB9
  rw [ht9] at hP1
  have hK1 := va_K.moved hvm9.symm hK1
  obtain ⟨hP, hD⟩ := va_join (wr := [(h0, .inr (9, dfX11_10)), (q_1, .inr (0, fs1_2)), (hd_3, .inl (cB_4, 64, .inl (fun _ => 0))), (q_6, .inr (0, fs1_7)), (hd_8, .inl (cB_9, 64, .inl (fun _ => 0)))]) (w1 := [(q_11, .inr (0, fs1_12)), (hd_13, .inl (cB_14, 64, .inl (fun _ => 0)))]) hP hD [5] [0, 1, 2, 3, 4] rfl rfl (by decide) (by decide) hk9 hFc hP1 hD1
  have hK := (hK.sub (tys' := [(cB_4, .byte), (cB_9, .byte)]) [0, 1] rfl).app hK1
  generalize H1 = H at hP hS ⊢
  have hP : va_P (dC, dI) cl0 [(h0, .inr (9, dfX11_10)), (q_1, .inr (0, fs1_2)), (hd_3, .inl (cB_4, 64, .inl (fun _ => 0))), (q_6, .inr (0, fs1_7)), (hd_8, .inl (cB_9, 64, .inl (fun _ => 0))), (q_11, .inr (0, fs1_12)), (hd_13, .inl (cB_14, 64, .inl (fun _ => 0)))] H := hP
  have hD : va_D A [(h0, .inr (9, dfX11_10)), (q_1, .inr (0, fs1_2)), (hd_3, .inl (cB_4, 64, .inl (fun _ => 0))), (q_6, .inr (0, fs1_7)), (hd_8, .inl (cB_9, 64, .inl (fun _ => 0))), (q_11, .inr (0, fs1_12)), (hd_13, .inl (cB_14, 64, .inl (fun _ => 0)))] := hD
  have hK : va_K (dC, dI) cl0 [(cB_4, .byte), (cB_9, .byte), (cB_14, .byte)] s := hK
  refine W.widen (k := 6) (n := 198) (by omega) (by omega) ?_
  refine va_putF (D := (dC, dI)) (ci := 9) (v := .ref q_11) (ty := (.object "CodeFoundry$Bytes")) (C := RX11) (T := TX11) (N := 18) hx hb hts inX11 tyX11 tyX11_ok nmX11 hown hK hP hD hS 0 rfl rfl 2 (by decide) (hts _ kw_54) (fun _ h9 => h9) rfl hin rfl (by decide +kernel) rfl rfl (by rw [L_dfX11_10]; decide) dX11_init_34 (fun H locs hP hD hS => ?_)
  obtain ⟨dfX11_15, e_dfX11_15⟩ : ∃ z, z = dfX11_10.set 2 (.ref q_11) := ⟨_, rfl⟩
  have hP : va_P (dC, dI) cl0 [(h0, .inr (9, dfX11_15)), (q_1, .inr (0, fs1_2)), (hd_3, .inl (cB_4, 64, .inl (fun _ => 0))), (q_6, .inr (0, fs1_7)), (hd_8, .inl (cB_9, 64, .inl (fun _ => 0))), (q_11, .inr (0, fs1_12)), (hd_13, .inl (cB_14, 64, .inl (fun _ => 0)))] H := by rw [e_dfX11_15]; exact hP
  have hD : va_D A [(h0, .inr (9, dfX11_15)), (q_1, .inr (0, fs1_2)), (hd_3, .inl (cB_4, 64, .inl (fun _ => 0))), (q_6, .inr (0, fs1_7)), (hd_8, .inl (cB_9, 64, .inl (fun _ => 0))), (q_11, .inr (0, fs1_12)), (hd_13, .inl (cB_14, 64, .inl (fun _ => 0)))] := by rw [e_dfX11_15]; exact hD
  have L_dfX11_15 : dfX11_15.length = 18 := fx_len e_dfX11_15 L_dfX11_10
  refine lv_aload_n hx hb dX11_init_37 rfl (lv_at hl 0 rfl) ?_
  refine lv_sipush (v := 500) hx hb dX11_init_38 (by decide) ?_
  refine va_newa (atype := .int) (ty := .int) (a0 := (500, .inl (fun _ => 0))) (N' := 500) hx hb (hts (.arrayClass .int) kw_6) rfl hK hP hD hS hA (fun _ => rfl) (by decide) (by decide) (by decide) (Nat.le_of_ble_eq_true rfl) (Nat.le_of_ble_eq_true rfl) dX11_init_41 (fun q_16 cA_17 H hK hP hD hS => ?_)
  have hP := hP.sub (ws' := [(h0, .inr (9, dfX11_15)), (q_1, .inr (0, fs1_2)), (hd_3, .inl (cB_4, 64, .inl (fun _ => 0))), (q_6, .inr (0, fs1_7)), (hd_8, .inl (cB_9, 64, .inl (fun _ => 0))), (q_11, .inr (0, fs1_12)), (hd_13, .inl (cB_14, 64, .inl (fun _ => 0)))]) [0, 1, 2, 3, 4, 5, 6] rfl
  have hD := hD.sub (ws' := [(h0, .inr (9, dfX11_15)), (q_1, .inr (0, fs1_2)), (hd_3, .inl (cB_4, 64, .inl (fun _ => 0))), (q_6, .inr (0, fs1_7)), (hd_8, .inl (cB_9, 64, .inl (fun _ => 0))), (q_11, .inr (0, fs1_12)), (hd_13, .inl (cB_14, 64, .inl (fun _ => 0)))]) [0, 1, 2, 3, 4, 5, 6] (by decide) rfl
  have hK := hK.sub (tys' := [(cB_4, .byte), (cB_9, .byte), (cB_14, .byte)]) [0, 1, 2] rfl
  refine W.widen (k := 7) (n := 698) (Nat.le_of_ble_eq_true rfl) (Nat.le_of_ble_eq_true rfl) ?_
  refine va_putF (D := (dC, dI)) (ci := 9) (v := .ref q_16) (ty := (.array .int)) (C := RX11) (T := TX11) (N := 18) hx hb hts inX11 tyX11 tyX11_ok nmX11 hown hK hP hD hS 0 rfl rfl 3 (by decide) (hts _ kw_55) (fun _ h9 => h9) rfl hin rfl (by decide +kernel) rfl rfl (by rw [L_dfX11_15]; decide) dX11_init_43 (fun H locs hP hD hS => ?_)
  obtain ⟨dfX11_18, e_dfX11_18⟩ : ∃ z, z = dfX11_15.set 3 (.ref q_16) := ⟨_, rfl⟩
  have hP : va_P (dC, dI) cl0 [(h0, .inr (9, dfX11_18)), (q_1, .inr (0, fs1_2)), (hd_3, .inl (cB_4, 64, .inl (fun _ => 0))), (q_6, .inr (0, fs1_7)), (hd_8, .inl (cB_9, 64, .inl (fun _ => 0))), (q_11, .inr (0, fs1_12)), (hd_13, .inl (cB_14, 64, .inl (fun _ => 0)))] H := by rw [e_dfX11_18]; exact hP
  have hD : va_D A [(h0, .inr (9, dfX11_18)), (q_1, .inr (0, fs1_2)), (hd_3, .inl (cB_4, 64, .inl (fun _ => 0))), (q_6, .inr (0, fs1_7)), (hd_8, .inl (cB_9, 64, .inl (fun _ => 0))), (q_11, .inr (0, fs1_12)), (hd_13, .inl (cB_14, 64, .inl (fun _ => 0)))] := by rw [e_dfX11_18]; exact hD
  have L_dfX11_18 : dfX11_18.length = 18 := fx_len e_dfX11_18 L_dfX11_15
  refine lv_aload_n hx hb dX11_init_46 rfl (lv_at hl 0 rfl) ?_
  refine lv_sipush (v := 500) hx hb dX11_init_47 (by decide) ?_
  refine va_newa (atype := .int) (ty := .int) (a0 := (500, .inl (fun _ => 0))) (N' := 500) hx hb (hts (.arrayClass .int) kw_6) rfl hK hP hD hS hA (fun _ => rfl) (by decide) (by decide) (by decide) (Nat.le_of_ble_eq_true rfl) (Nat.le_of_ble_eq_true rfl) dX11_init_50 (fun q_19 cA_20 H hK hP hD hS => ?_)
  have hP := hP.sub (ws' := [(h0, .inr (9, dfX11_18)), (q_1, .inr (0, fs1_2)), (hd_3, .inl (cB_4, 64, .inl (fun _ => 0))), (q_6, .inr (0, fs1_7)), (hd_8, .inl (cB_9, 64, .inl (fun _ => 0))), (q_11, .inr (0, fs1_12)), (hd_13, .inl (cB_14, 64, .inl (fun _ => 0)))]) [0, 1, 2, 3, 4, 5, 6] rfl
  have hD := hD.sub (ws' := [(h0, .inr (9, dfX11_18)), (q_1, .inr (0, fs1_2)), (hd_3, .inl (cB_4, 64, .inl (fun _ => 0))), (q_6, .inr (0, fs1_7)), (hd_8, .inl (cB_9, 64, .inl (fun _ => 0))), (q_11, .inr (0, fs1_12)), (hd_13, .inl (cB_14, 64, .inl (fun _ => 0)))]) [0, 1, 2, 3, 4, 5, 6] (by decide) rfl
  have hK := hK.sub (tys' := [(cB_4, .byte), (cB_9, .byte), (cB_14, .byte)]) [0, 1, 2] rfl
  refine W.widen (k := 8) (n := 1198) (Nat.le_of_ble_eq_true rfl) (Nat.le_of_ble_eq_true rfl) ?_
  refine va_putF (D := (dC, dI)) (ci := 9) (v := .ref q_19) (ty := (.array .int)) (C := RX11) (T := TX11) (N := 18) hx hb hts inX11 tyX11 tyX11_ok nmX11 hown hK hP hD hS 0 rfl rfl 4 (by decide) (hts _ kw_56) (fun _ h9 => h9) rfl hin rfl (by decide +kernel) rfl rfl (by rw [L_dfX11_18]; decide) dX11_init_52 (fun H locs hP hD hS => ?_)
  obtain ⟨dfX11_21, e_dfX11_21⟩ : ∃ z, z = dfX11_18.set 4 (.ref q_19) := ⟨_, rfl⟩
  have hP : va_P (dC, dI) cl0 [(h0, .inr (9, dfX11_21)), (q_1, .inr (0, fs1_2)), (hd_3, .inl (cB_4, 64, .inl (fun _ => 0))), (q_6, .inr (0, fs1_7)), (hd_8, .inl (cB_9, 64, .inl (fun _ => 0))), (q_11, .inr (0, fs1_12)), (hd_13, .inl (cB_14, 64, .inl (fun _ => 0)))] H := by rw [e_dfX11_21]; exact hP
  have hD : va_D A [(h0, .inr (9, dfX11_21)), (q_1, .inr (0, fs1_2)), (hd_3, .inl (cB_4, 64, .inl (fun _ => 0))), (q_6, .inr (0, fs1_7)), (hd_8, .inl (cB_9, 64, .inl (fun _ => 0))), (q_11, .inr (0, fs1_12)), (hd_13, .inl (cB_14, 64, .inl (fun _ => 0)))] := by rw [e_dfX11_21]; exact hD
  have L_dfX11_21 : dfX11_21.length = 18 := fx_len e_dfX11_21 L_dfX11_18
  refine lv_aload_n hx hb dX11_init_55 rfl (lv_at hl 0 rfl) ?_
  refine lv_bipush (v := 24) hx hb dX11_init_56 (by decide) ?_
  refine va_newa (atype := .int) (ty := .int) (a0 := (24, .inl (fun _ => 0))) (N' := 24) hx hb (hts (.arrayClass .int) kw_6) rfl hK hP hD hS hA (fun _ => rfl) (by decide) (by decide) (by decide) (Nat.le_of_ble_eq_true rfl) (Nat.le_of_ble_eq_true rfl) dX11_init_58 (fun q_22 cA_23 H hK hP hD hS => ?_)
  have hP := hP.sub (ws' := [(h0, .inr (9, dfX11_21)), (q_1, .inr (0, fs1_2)), (hd_3, .inl (cB_4, 64, .inl (fun _ => 0))), (q_6, .inr (0, fs1_7)), (hd_8, .inl (cB_9, 64, .inl (fun _ => 0))), (q_11, .inr (0, fs1_12)), (hd_13, .inl (cB_14, 64, .inl (fun _ => 0)))]) [0, 1, 2, 3, 4, 5, 6] rfl
  have hD := hD.sub (ws' := [(h0, .inr (9, dfX11_21)), (q_1, .inr (0, fs1_2)), (hd_3, .inl (cB_4, 64, .inl (fun _ => 0))), (q_6, .inr (0, fs1_7)), (hd_8, .inl (cB_9, 64, .inl (fun _ => 0))), (q_11, .inr (0, fs1_12)), (hd_13, .inl (cB_14, 64, .inl (fun _ => 0)))]) [0, 1, 2, 3, 4, 5, 6] (by decide) rfl
  have hK := hK.sub (tys' := [(cB_4, .byte), (cB_9, .byte), (cB_14, .byte)]) [0, 1, 2] rfl
  refine W.widen (k := 9) (n := 1222) (Nat.le_of_ble_eq_true rfl) (Nat.le_of_ble_eq_true rfl) ?_
  refine va_putF (D := (dC, dI)) (ci := 9) (v := .ref q_22) (ty := (.array .int)) (C := RX11) (T := TX11) (N := 18) hx hb hts inX11 tyX11 tyX11_ok nmX11 hown hK hP hD hS 0 rfl rfl 10 (by decide) (hts _ kw_57) (fun _ h9 => h9) rfl hin rfl (by decide +kernel) rfl rfl (by rw [L_dfX11_21]; decide) dX11_init_60 (fun H locs hP hD hS => ?_)
  obtain ⟨dfX11_24, e_dfX11_24⟩ : ∃ z, z = dfX11_21.set 10 (.ref q_22) := ⟨_, rfl⟩
  have hP : va_P (dC, dI) cl0 [(h0, .inr (9, dfX11_24)), (q_1, .inr (0, fs1_2)), (hd_3, .inl (cB_4, 64, .inl (fun _ => 0))), (q_6, .inr (0, fs1_7)), (hd_8, .inl (cB_9, 64, .inl (fun _ => 0))), (q_11, .inr (0, fs1_12)), (hd_13, .inl (cB_14, 64, .inl (fun _ => 0)))] H := by rw [e_dfX11_24]; exact hP
  have hD : va_D A [(h0, .inr (9, dfX11_24)), (q_1, .inr (0, fs1_2)), (hd_3, .inl (cB_4, 64, .inl (fun _ => 0))), (q_6, .inr (0, fs1_7)), (hd_8, .inl (cB_9, 64, .inl (fun _ => 0))), (q_11, .inr (0, fs1_12)), (hd_13, .inl (cB_14, 64, .inl (fun _ => 0)))] := by rw [e_dfX11_24]; exact hD
  have L_dfX11_24 : dfX11_24.length = 18 := fx_len e_dfX11_24 L_dfX11_21
  refine lv_aload_n hx hb dX11_init_63 rfl (lv_at hl 0 rfl) ?_
  refine lv_bipush (v := 24) hx hb dX11_init_64 (by decide) ?_
  refine va_newa (atype := .int) (ty := .int) (a0 := (24, .inl (fun _ => 0))) (N' := 24) hx hb (hts (.arrayClass .int) kw_6) rfl hK hP hD hS hA (fun _ => rfl) (by decide) (by decide) (by decide) (Nat.le_of_ble_eq_true rfl) (Nat.le_of_ble_eq_true rfl) dX11_init_66 (fun q_25 cA_26 H hK hP hD hS => ?_)
  have hP := hP.sub (ws' := [(h0, .inr (9, dfX11_24)), (q_1, .inr (0, fs1_2)), (hd_3, .inl (cB_4, 64, .inl (fun _ => 0))), (q_6, .inr (0, fs1_7)), (hd_8, .inl (cB_9, 64, .inl (fun _ => 0))), (q_11, .inr (0, fs1_12)), (hd_13, .inl (cB_14, 64, .inl (fun _ => 0)))]) [0, 1, 2, 3, 4, 5, 6] rfl
  have hD := hD.sub (ws' := [(h0, .inr (9, dfX11_24)), (q_1, .inr (0, fs1_2)), (hd_3, .inl (cB_4, 64, .inl (fun _ => 0))), (q_6, .inr (0, fs1_7)), (hd_8, .inl (cB_9, 64, .inl (fun _ => 0))), (q_11, .inr (0, fs1_12)), (hd_13, .inl (cB_14, 64, .inl (fun _ => 0)))]) [0, 1, 2, 3, 4, 5, 6] (by decide) rfl
  have hK := hK.sub (tys' := [(cB_4, .byte), (cB_9, .byte), (cB_14, .byte)]) [0, 1, 2] rfl
  refine W.widen (k := 10) (n := 1246) (Nat.le_of_ble_eq_true rfl) (Nat.le_of_ble_eq_true rfl) ?_
  refine va_putF (D := (dC, dI)) (ci := 9) (v := .ref q_25) (ty := (.array .int)) (C := RX11) (T := TX11) (N := 18) hx hb hts inX11 tyX11 tyX11_ok nmX11 hown hK hP hD hS 0 rfl rfl 11 (by decide) (hts _ kw_58) (fun _ h9 => h9) rfl hin rfl (by decide +kernel) rfl rfl (by rw [L_dfX11_24]; decide) dX11_init_68 (fun H locs hP hD hS => ?_)
  obtain ⟨dfX11_27, e_dfX11_27⟩ : ∃ z, z = dfX11_24.set 11 (.ref q_25) := ⟨_, rfl⟩
  have hP : va_P (dC, dI) cl0 [(h0, .inr (9, dfX11_27)), (q_1, .inr (0, fs1_2)), (hd_3, .inl (cB_4, 64, .inl (fun _ => 0))), (q_6, .inr (0, fs1_7)), (hd_8, .inl (cB_9, 64, .inl (fun _ => 0))), (q_11, .inr (0, fs1_12)), (hd_13, .inl (cB_14, 64, .inl (fun _ => 0)))] H := by rw [e_dfX11_27]; exact hP
  have hD : va_D A [(h0, .inr (9, dfX11_27)), (q_1, .inr (0, fs1_2)), (hd_3, .inl (cB_4, 64, .inl (fun _ => 0))), (q_6, .inr (0, fs1_7)), (hd_8, .inl (cB_9, 64, .inl (fun _ => 0))), (q_11, .inr (0, fs1_12)), (hd_13, .inl (cB_14, 64, .inl (fun _ => 0)))] := by rw [e_dfX11_27]; exact hD
  have L_dfX11_27 : dfX11_27.length = 18 := fx_len e_dfX11_27 L_dfX11_24
  refine lv_aload_n hx hb dX11_init_71 rfl (lv_at hl 0 rfl) ?_
  refine lv_bipush (v := 24) hx hb dX11_init_72 (by decide) ?_
  refine va_newa (atype := .int) (ty := .int) (a0 := (24, .inl (fun _ => 0))) (N' := 24) hx hb (hts (.arrayClass .int) kw_6) rfl hK hP hD hS hA (fun _ => rfl) (by decide) (by decide) (by decide) (Nat.le_of_ble_eq_true rfl) (Nat.le_of_ble_eq_true rfl) dX11_init_74 (fun q_28 cA_29 H hK hP hD hS => ?_)
  have hP := hP.sub (ws' := [(h0, .inr (9, dfX11_27)), (q_1, .inr (0, fs1_2)), (hd_3, .inl (cB_4, 64, .inl (fun _ => 0))), (q_6, .inr (0, fs1_7)), (hd_8, .inl (cB_9, 64, .inl (fun _ => 0))), (q_11, .inr (0, fs1_12)), (hd_13, .inl (cB_14, 64, .inl (fun _ => 0)))]) [0, 1, 2, 3, 4, 5, 6] rfl
  have hD := hD.sub (ws' := [(h0, .inr (9, dfX11_27)), (q_1, .inr (0, fs1_2)), (hd_3, .inl (cB_4, 64, .inl (fun _ => 0))), (q_6, .inr (0, fs1_7)), (hd_8, .inl (cB_9, 64, .inl (fun _ => 0))), (q_11, .inr (0, fs1_12)), (hd_13, .inl (cB_14, 64, .inl (fun _ => 0)))]) [0, 1, 2, 3, 4, 5, 6] (by decide) rfl
  have hK := hK.sub (tys' := [(cB_4, .byte), (cB_9, .byte), (cB_14, .byte)]) [0, 1, 2] rfl
  refine W.widen (k := 11) (n := 1270) (Nat.le_of_ble_eq_true rfl) (Nat.le_of_ble_eq_true rfl) ?_
  refine va_putF (D := (dC, dI)) (ci := 9) (v := .ref q_28) (ty := (.array .int)) (C := RX11) (T := TX11) (N := 18) hx hb hts inX11 tyX11 tyX11_ok nmX11 hown hK hP hD hS 0 rfl rfl 12 (by decide) (hts _ kw_59) (fun _ h9 => h9) rfl hin rfl (by decide +kernel) rfl rfl (by rw [L_dfX11_27]; decide) dX11_init_76 (fun H locs hP hD hS => ?_)
  obtain ⟨dfX11_30, e_dfX11_30⟩ : ∃ z, z = dfX11_27.set 12 (.ref q_28) := ⟨_, rfl⟩
  have hP : va_P (dC, dI) cl0 [(h0, .inr (9, dfX11_30)), (q_1, .inr (0, fs1_2)), (hd_3, .inl (cB_4, 64, .inl (fun _ => 0))), (q_6, .inr (0, fs1_7)), (hd_8, .inl (cB_9, 64, .inl (fun _ => 0))), (q_11, .inr (0, fs1_12)), (hd_13, .inl (cB_14, 64, .inl (fun _ => 0)))] H := by rw [e_dfX11_30]; exact hP
  have hD : va_D A [(h0, .inr (9, dfX11_30)), (q_1, .inr (0, fs1_2)), (hd_3, .inl (cB_4, 64, .inl (fun _ => 0))), (q_6, .inr (0, fs1_7)), (hd_8, .inl (cB_9, 64, .inl (fun _ => 0))), (q_11, .inr (0, fs1_12)), (hd_13, .inl (cB_14, 64, .inl (fun _ => 0)))] := by rw [e_dfX11_30]; exact hD
  have L_dfX11_30 : dfX11_30.length = 18 := fx_len e_dfX11_30 L_dfX11_27
  refine lv_aload_n hx hb dX11_init_79 rfl (lv_at hl 0 rfl) ?_
  refine lv_bipush (v := 24) hx hb dX11_init_80 (by decide) ?_
  refine va_newa (atype := .int) (ty := .int) (a0 := (24, .inl (fun _ => 0))) (N' := 24) hx hb (hts (.arrayClass .int) kw_6) rfl hK hP hD hS hA (fun _ => rfl) (by decide) (by decide) (by decide) (Nat.le_of_ble_eq_true rfl) (Nat.le_of_ble_eq_true rfl) dX11_init_82 (fun q_31 cA_32 H hK hP hD hS => ?_)
  have hP := hP.sub (ws' := [(h0, .inr (9, dfX11_30)), (q_1, .inr (0, fs1_2)), (hd_3, .inl (cB_4, 64, .inl (fun _ => 0))), (q_6, .inr (0, fs1_7)), (hd_8, .inl (cB_9, 64, .inl (fun _ => 0))), (q_11, .inr (0, fs1_12)), (hd_13, .inl (cB_14, 64, .inl (fun _ => 0)))]) [0, 1, 2, 3, 4, 5, 6] rfl
  have hD := hD.sub (ws' := [(h0, .inr (9, dfX11_30)), (q_1, .inr (0, fs1_2)), (hd_3, .inl (cB_4, 64, .inl (fun _ => 0))), (q_6, .inr (0, fs1_7)), (hd_8, .inl (cB_9, 64, .inl (fun _ => 0))), (q_11, .inr (0, fs1_12)), (hd_13, .inl (cB_14, 64, .inl (fun _ => 0)))]) [0, 1, 2, 3, 4, 5, 6] (by decide) rfl
  have hK := hK.sub (tys' := [(cB_4, .byte), (cB_9, .byte), (cB_14, .byte)]) [0, 1, 2] rfl
  refine W.widen (k := 12) (n := 1294) (Nat.le_of_ble_eq_true rfl) (Nat.le_of_ble_eq_true rfl) ?_
  refine va_putF (D := (dC, dI)) (ci := 9) (v := .ref q_31) (ty := (.array .int)) (C := RX11) (T := TX11) (N := 18) hx hb hts inX11 tyX11 tyX11_ok nmX11 hown hK hP hD hS 0 rfl rfl 13 (by decide) (hts _ kw_60) (fun _ h9 => h9) rfl hin rfl (by decide +kernel) rfl rfl (by rw [L_dfX11_30]; decide) dX11_init_84 (fun H locs hP hD hS => ?_)
  obtain ⟨dfX11_33, e_dfX11_33⟩ : ∃ z, z = dfX11_30.set 13 (.ref q_31) := ⟨_, rfl⟩
  have hP : va_P (dC, dI) cl0 [(h0, .inr (9, dfX11_33)), (q_1, .inr (0, fs1_2)), (hd_3, .inl (cB_4, 64, .inl (fun _ => 0))), (q_6, .inr (0, fs1_7)), (hd_8, .inl (cB_9, 64, .inl (fun _ => 0))), (q_11, .inr (0, fs1_12)), (hd_13, .inl (cB_14, 64, .inl (fun _ => 0)))] H := by rw [e_dfX11_33]; exact hP
  have hD : va_D A [(h0, .inr (9, dfX11_33)), (q_1, .inr (0, fs1_2)), (hd_3, .inl (cB_4, 64, .inl (fun _ => 0))), (q_6, .inr (0, fs1_7)), (hd_8, .inl (cB_9, 64, .inl (fun _ => 0))), (q_11, .inr (0, fs1_12)), (hd_13, .inl (cB_14, 64, .inl (fun _ => 0)))] := by rw [e_dfX11_33]; exact hD
  have L_dfX11_33 : dfX11_33.length = 18 := fx_len e_dfX11_33 L_dfX11_30
  refine lv_aload_n hx hb dX11_init_87 rfl (lv_at hl 0 rfl) ?_
  refine va_new (ci := 4) (fs := dfX4) (C := RX4) (T := TX4) (N := 8) hx hb hts inX4 tyX4 tyX4_ok hown (hts _ kw_61) (hts _ kw_22) (hts _ kw_23) hK hP hD hS hA rfl dfX4_ok (Nat.le_of_ble_eq_true rfl) (Nat.le_of_ble_eq_true rfl) dX11_init_88 (fun q_34 H hP hD hS => ?_)
  have hP : va_P (dC, dI) cl0 [(h0, .inr (9, dfX11_33)), (q_1, .inr (0, fs1_2)), (hd_3, .inl (cB_4, 64, .inl (fun _ => 0))), (q_6, .inr (0, fs1_7)), (hd_8, .inl (cB_9, 64, .inl (fun _ => 0))), (q_11, .inr (0, fs1_12)), (hd_13, .inl (cB_14, 64, .inl (fun _ => 0))), (q_34, .inr (4, dfX4))] H := hP
  have hD : va_D A [(h0, .inr (9, dfX11_33)), (q_1, .inr (0, fs1_2)), (hd_3, .inl (cB_4, 64, .inl (fun _ => 0))), (q_6, .inr (0, fs1_7)), (hd_8, .inl (cB_9, 64, .inl (fun _ => 0))), (q_11, .inr (0, fs1_12)), (hd_13, .inl (cB_14, 64, .inl (fun _ => 0))), (q_34, .inr (4, dfX4))] := hD
  refine W.widen (k := 13) (n := 1302) (Nat.le_of_ble_eq_true rfl) (Nat.le_of_ble_eq_true rfl) ?_
  refine lv_dup hx hb dX11_init_91 rfl ?_
  have hPc := hP.sub (ws' := [(q_34, .inr (4, dfX4))]) [7] rfl
  have hDc := hD.sub (ws' := [(q_34, .inr (4, dfX4))]) [7] (by decide) rfl
  have hKc := hK.sub (tys' := []) [] rfl
  have hFc := va_free (wc := [(q_34, .inr (4, dfX4))]) hD hS hA [7] rfl
  refine va_callv (va_runIN (As := []) (rest := [.ref q_34, .ref h0]) ⟨hx, hb, hml, hown, hts⟩ (m_X4_init l dC dI H.size q_34 ) ⟨va_cnB 0 hts (gd_I kw_24) rfl rfl rfl (nw_of (by exact nn_X11_45) hex) (hts _ kw_23) (by decide +kernel) ⟨Nat.le_of_ble_eq_true rfl, Nat.le_of_ble_eq_true rfl⟩, rfl, hts _ kw_25⟩ ⟨st_blind, fun U hU hW9 => st_mk hU hW9 hPc hKc hDc hex⟩ rfl rfl hl.1 rfl (lv_room (Nat.le_of_ble_eq_true rfl)) dX11_init_92 ⟨Nat.le_of_ble_eq_true rfl, Nat.le_of_ble_eq_true rfl⟩) hS (fun q _ h => hFc q h) hFc (fun  u9 t9 H1 locs ht9 hvm9 hw9 hB9 hz9 hk9 hS => ?_)
  have hP1 : va_P (dC, dI) cl0 [] H1 := fun k q h => by simp at h
  have hD1 : va_D (va_A [(q_34, .inr (4, dfX4))] H.size) [] := ⟨fun i j p q h => by simp at h, fun k q h => by simp at h⟩
  obtain ⟨hP, hD⟩ := va_join (wr := [(h0, .inr (9, dfX11_33)), (q_1, .inr (0, fs1_2)), (hd_3, .inl (cB_4, 64, .inl (fun _ => 0))), (q_6, .inr (0, fs1_7)), (hd_8, .inl (cB_9, 64, .inl (fun _ => 0))), (q_11, .inr (0, fs1_12)), (hd_13, .inl (cB_14, 64, .inl (fun _ => 0)))]) (w1 := []) hP hD [7] [0, 1, 2, 3, 4, 5, 6] rfl rfl (by decide) (by decide) hk9 hFc hP1 hD1
  generalize H1 = H at hP hS ⊢
  have hP : va_P (dC, dI) cl0 [(h0, .inr (9, dfX11_33)), (q_1, .inr (0, fs1_2)), (hd_3, .inl (cB_4, 64, .inl (fun _ => 0))), (q_6, .inr (0, fs1_7)), (hd_8, .inl (cB_9, 64, .inl (fun _ => 0))), (q_11, .inr (0, fs1_12)), (hd_13, .inl (cB_14, 64, .inl (fun _ => 0)))] H := hP
  have hD : va_D A [(h0, .inr (9, dfX11_33)), (q_1, .inr (0, fs1_2)), (hd_3, .inl (cB_4, 64, .inl (fun _ => 0))), (q_6, .inr (0, fs1_7)), (hd_8, .inl (cB_9, 64, .inl (fun _ => 0))), (q_11, .inr (0, fs1_12)), (hd_13, .inl (cB_14, 64, .inl (fun _ => 0)))] := hD
  refine W.widen (k := 16) (n := 1302) (by omega) (by omega) ?_
  refine va_putF (D := (dC, dI)) (ci := 9) (v := .ref q_34) (ty := (.object "CodeFoundry$Heights")) (C := RX11) (T := TX11) (N := 18) hx hb hts inX11 tyX11 tyX11_ok nmX11 hown hK hP hD hS 0 rfl rfl 14 (by decide) (hts _ kw_62) (fun _ h9 => h9) rfl hin rfl (by decide +kernel) rfl rfl (by rw [L_dfX11_33]; decide) dX11_init_95 (fun H locs hP hD hS => ?_)
  obtain ⟨dfX11_35, e_dfX11_35⟩ : ∃ z, z = dfX11_33.set 14 (.ref q_34) := ⟨_, rfl⟩
  have hP : va_P (dC, dI) cl0 [(h0, .inr (9, dfX11_35)), (q_1, .inr (0, fs1_2)), (hd_3, .inl (cB_4, 64, .inl (fun _ => 0))), (q_6, .inr (0, fs1_7)), (hd_8, .inl (cB_9, 64, .inl (fun _ => 0))), (q_11, .inr (0, fs1_12)), (hd_13, .inl (cB_14, 64, .inl (fun _ => 0)))] H := by rw [e_dfX11_35]; exact hP
  have hD : va_D A [(h0, .inr (9, dfX11_35)), (q_1, .inr (0, fs1_2)), (hd_3, .inl (cB_4, 64, .inl (fun _ => 0))), (q_6, .inr (0, fs1_7)), (hd_8, .inl (cB_9, 64, .inl (fun _ => 0))), (q_11, .inr (0, fs1_12)), (hd_13, .inl (cB_14, 64, .inl (fun _ => 0)))] := by rw [e_dfX11_35]; exact hD
  have L_dfX11_35 : dfX11_35.length = 18 := fx_len e_dfX11_35 L_dfX11_33
  refine lv_aload_n hx hb dX11_init_98 rfl (lv_at hl 0 rfl) ?_
  refine lv_iconst (v := 0) hx hb dX11_init_99 (by decide) ?_
  refine va_newa (atype := .int) (ty := .int) (a0 := (0, .inl (fun _ => 0))) (N' := 0) hx hb (hts (.arrayClass .int) kw_6) rfl hK hP hD hS hA (fun _ => rfl) (by decide) (by decide) (by decide) (Nat.le_of_ble_eq_true rfl) (Nat.le_of_ble_eq_true rfl) dX11_init_100 (fun q_36 cA_37 H hK hP hD hS => ?_)
  have hP := hP.sub (ws' := [(h0, .inr (9, dfX11_35)), (q_1, .inr (0, fs1_2)), (hd_3, .inl (cB_4, 64, .inl (fun _ => 0))), (q_6, .inr (0, fs1_7)), (hd_8, .inl (cB_9, 64, .inl (fun _ => 0))), (q_11, .inr (0, fs1_12)), (hd_13, .inl (cB_14, 64, .inl (fun _ => 0)))]) [0, 1, 2, 3, 4, 5, 6] rfl
  have hD := hD.sub (ws' := [(h0, .inr (9, dfX11_35)), (q_1, .inr (0, fs1_2)), (hd_3, .inl (cB_4, 64, .inl (fun _ => 0))), (q_6, .inr (0, fs1_7)), (hd_8, .inl (cB_9, 64, .inl (fun _ => 0))), (q_11, .inr (0, fs1_12)), (hd_13, .inl (cB_14, 64, .inl (fun _ => 0)))]) [0, 1, 2, 3, 4, 5, 6] (by decide) rfl
  have hK := hK.sub (tys' := [(cB_4, .byte), (cB_9, .byte), (cB_14, .byte)]) [0, 1, 2] rfl
  refine W.widen (k := 17) (n := 1302) (Nat.le_of_ble_eq_true rfl) (Nat.le_of_ble_eq_true rfl) ?_
  refine va_put (D := (dC, dI)) (ci := 9) (v := .ref q_36) (ty := (.array .int)) (C := RX11) (T := TX11) (N := 18) hx hb hts inX11 tyX11 tyX11_ok nmX11 hown hK hP hD hS 0 rfl rfl 16 (by decide) (hts _ kw_63) (fun _ h9 => h9) rfl (by decide +kernel) rfl rfl (by rw [L_dfX11_35]; decide) dX11_init_102 (fun H locs hP hD hS => ?_)
  obtain ⟨dfX11_38, e_dfX11_38⟩ : ∃ z, z = dfX11_35.set 16 (.ref q_36) := ⟨_, rfl⟩
  have hP : va_P (dC, dI) cl0 [(h0, .inr (9, dfX11_38)), (q_1, .inr (0, fs1_2)), (hd_3, .inl (cB_4, 64, .inl (fun _ => 0))), (q_6, .inr (0, fs1_7)), (hd_8, .inl (cB_9, 64, .inl (fun _ => 0))), (q_11, .inr (0, fs1_12)), (hd_13, .inl (cB_14, 64, .inl (fun _ => 0)))] H := by rw [e_dfX11_38]; exact hP
  have hD : va_D A [(h0, .inr (9, dfX11_38)), (q_1, .inr (0, fs1_2)), (hd_3, .inl (cB_4, 64, .inl (fun _ => 0))), (q_6, .inr (0, fs1_7)), (hd_8, .inl (cB_9, 64, .inl (fun _ => 0))), (q_11, .inr (0, fs1_12)), (hd_13, .inl (cB_14, 64, .inl (fun _ => 0)))] := by rw [e_dfX11_38]; exact hD
  have L_dfX11_38 : dfX11_38.length = 18 := fx_len e_dfX11_38 L_dfX11_35
  refine lv_aload_n hx hb dX11_init_105 rfl (lv_at hl 0 rfl) ?_
  refine lv_iconst (v := 0) hx hb dX11_init_106 (by decide) ?_
  refine va_newa (atype := .int) (ty := .int) (a0 := (0, .inl (fun _ => 0))) (N' := 0) hx hb (hts (.arrayClass .int) kw_6) rfl hK hP hD hS hA (fun _ => rfl) (by decide) (by decide) (by decide) (Nat.le_of_ble_eq_true rfl) (Nat.le_of_ble_eq_true rfl) dX11_init_107 (fun q_39 cA_40 H hK hP hD hS => ?_)
  have hP := hP.sub (ws' := [(h0, .inr (9, dfX11_38)), (q_1, .inr (0, fs1_2)), (hd_3, .inl (cB_4, 64, .inl (fun _ => 0))), (q_6, .inr (0, fs1_7)), (hd_8, .inl (cB_9, 64, .inl (fun _ => 0))), (q_11, .inr (0, fs1_12)), (hd_13, .inl (cB_14, 64, .inl (fun _ => 0)))]) [0, 1, 2, 3, 4, 5, 6] rfl
  have hD := hD.sub (ws' := [(h0, .inr (9, dfX11_38)), (q_1, .inr (0, fs1_2)), (hd_3, .inl (cB_4, 64, .inl (fun _ => 0))), (q_6, .inr (0, fs1_7)), (hd_8, .inl (cB_9, 64, .inl (fun _ => 0))), (q_11, .inr (0, fs1_12)), (hd_13, .inl (cB_14, 64, .inl (fun _ => 0)))]) [0, 1, 2, 3, 4, 5, 6] (by decide) rfl
  have hK := hK.sub (tys' := [(cB_4, .byte), (cB_9, .byte), (cB_14, .byte)]) [0, 1, 2] rfl
  refine W.widen (k := 18) (n := 1302) (Nat.le_of_ble_eq_true rfl) (Nat.le_of_ble_eq_true rfl) ?_
  refine va_put (D := (dC, dI)) (ci := 9) (v := .ref q_39) (ty := (.array .int)) (C := RX11) (T := TX11) (N := 18) hx hb hts inX11 tyX11 tyX11_ok nmX11 hown hK hP hD hS 0 rfl rfl 17 (by decide) (hts _ kw_64) (fun _ h9 => h9) rfl (by decide +kernel) rfl rfl (by rw [L_dfX11_38]; decide) dX11_init_109 (fun H locs hP hD hS => ?_)
  obtain ⟨dfX11_41, e_dfX11_41⟩ : ∃ z, z = dfX11_38.set 17 (.ref q_39) := ⟨_, rfl⟩
  have hP : va_P (dC, dI) cl0 [(h0, .inr (9, dfX11_41)), (q_1, .inr (0, fs1_2)), (hd_3, .inl (cB_4, 64, .inl (fun _ => 0))), (q_6, .inr (0, fs1_7)), (hd_8, .inl (cB_9, 64, .inl (fun _ => 0))), (q_11, .inr (0, fs1_12)), (hd_13, .inl (cB_14, 64, .inl (fun _ => 0)))] H := by rw [e_dfX11_41]; exact hP
  have hD : va_D A [(h0, .inr (9, dfX11_41)), (q_1, .inr (0, fs1_2)), (hd_3, .inl (cB_4, 64, .inl (fun _ => 0))), (q_6, .inr (0, fs1_7)), (hd_8, .inl (cB_9, 64, .inl (fun _ => 0))), (q_11, .inr (0, fs1_12)), (hd_13, .inl (cB_14, 64, .inl (fun _ => 0)))] := by rw [e_dfX11_41]; exact hD
  have L_dfX11_41 : dfX11_41.length = 18 := fx_len e_dfX11_41 L_dfX11_38
  refine W.widen (k := 18) (n := 1302) (Nat.le_of_ble_eq_true rfl) (Nat.le_of_ble_eq_true rfl) ?_
  exact W.vret hx hb hr (fun t9 ht9 hW9 => ⟨⟨(), rfl, trivial, trivial⟩, hS.F ht9⟩) hS.2.2 dX11_init_112
set_option maxHeartbeats 4000000 in
set_option maxRecDepth 100000 in
theorem m_X5_init (l : Launch) (dC : Nat → ClassId) (dI : Nat → Nat → Nat) (sz : Nat) (h0 : Nat)  : Met l yX5_init (wt yX5_init cX5_init 1 none) ({ frames := 1, cells := 7, slots := 220, locals := 12 }) (va_Pc [.ref h0] (st_U dC dI sz [(h0, .inr (5, dfX5))] [])) (va_Qv (fun _ : Unit => True) (fun (_ : Unit) (t : State) => ∃ (fs1 : List Value), ∃ (ha : Nat), ∃ (cJ : ClassId), (fs1.length = 20) ∧ (fs1[0]? = some (.null)) ∧ (fs1[5]? = some (.int 0)) ∧ (fs1[6]? = some (.ref ha)) ∧ (fs1[7]? = some (.int 0)) ∧ (fs1[16]? = some (.long 0)) ∧ (fs1[17]? = some (.int (-1))) ∧ (fs1[18]? = some (.int 0)) ∧ (fs1[19]? = some (.int 0)) ∧ va_P (dC, dI) cl0 [(h0, .inr (5, fs1)), (ha, .inl (cJ, 8, .inr (.inl (fun _ => 0))))] t.heap ∧ va_K (dC, dI) cl0 [(cJ, .long)] t ∧ va_D (va_A [(h0, .inr (5, dfX5))] sz) [(h0, .inr (5, fs1)), (ha, .inl (cJ, 8, .inr (.inl (fun _ => 0))))]) (va_A [(h0, .inr (5, dfX5))] sz)) 7 220 (va_A [(h0, .inr (5, dfX5))] sz) := by
  refine Met.ofW (cc := cX5_init) (maxL := 1) (ret := none) (by decide) rfl ?_
  intro p e s m args below meth c s₁ B hml hv
  obtain ⟨rfl, hsz, hP, hK, hD0, hex⟩ := hv
  have hx := B.exec
  have hb := B.bytes
  have hr := B.returns
  have hts0 := atoms_spec (ws := wt yX5_init cX5_init 1 none) B.pre
  have hts : ∀ w ∈ tb, w.before _ s = true := fun w h => hts0 w (List.mem_cons_of_mem _ h)
  have hown : s.vm.findClass RX5 = some m.cls := findClass_of_methodNamed B.named
  have hlocks := B.notSynchronized
  have hin : meth.name = "<init>" := (name_of_methodNamed B.named B.method).1
  subst hsz
  have hD := hD0.self (sz := s.heap.size)
  generalize hAe : va_A [(h0, .inr (5, dfX5))] s.heap.size = A at hD ⊢
  have hA : ∀ q : Nat, s.heap.size ≤ q → A q := fun q h => by rw [← hAe]; exact Or.inr h
  have hS : va_S A s.heap s.heap [] := va_S.rf
  have hl := lv_entry ([.ref h0]) (n := 1) (Nat.le_of_ble_eq_true rfl)
  rw [lg_entry_eq]
  generalize (lg_sl ([.ref h0]) ++ List.replicate (1 - (lg_sl ([.ref h0])).length) Slot.unset).toArray = ls at hl ⊢
  have hl : lv_has ls 1 [(0, .ref h0)] := hl
  refine lv_aload_n hx hb dX5_init_0 rfl (lv_at hl 0 rfl) ?_
  refine W.objInit hx hb hown (hts _ kw_65) (hts _ kw_1) (hts _ kw_2) rfl (by rw [hml]; exact hl.1) rfl dX5_init_1 (Nat.le_of_ble_eq_true rfl) (Nat.le_of_ble_eq_true rfl) ?_
  refine W.eq (g2 := F0 m 4 ls []) rfl ?_
  refine lv_aload_n hx hb dX5_init_4 rfl (lv_at hl 0 rfl) ?_
  refine lv_bipush (v := 24) hx hb dX5_init_5 (by decide) ?_
  refine va_newa (atype := .long) (ty := .long) (a0 := (24, .inr (.inl (fun _ => 0)))) (N' := 24) hx hb (hts (.arrayClass .long) kw_13) rfl hK hP hD hS hA (fun _ => rfl) (by decide) (by decide) (by decide) (Nat.le_of_ble_eq_true rfl) (Nat.le_of_ble_eq_true rfl) dX5_init_7 (fun q_1 cA_2 H hK hP hD hS => ?_)
  have hP := hP.sub (ws' := [(h0, .inr (5, dfX5))]) [0] rfl
  have hD := hD.sub (ws' := [(h0, .inr (5, dfX5))]) [0] (by decide) rfl
  have hK := hK.sub (tys' := []) [] rfl
  refine W.widen (k := 1) (n := 24) (Nat.le_of_ble_eq_true rfl) (Nat.le_of_ble_eq_true rfl) ?_
  refine va_putF (D := (dC, dI)) (ci := 5) (v := .ref q_1) (ty := (.array .long)) (C := RX5) (T := TX5) (N := 20) hx hb hts inX5 tyX5 tyX5_ok nmX5 hown hK hP hD hS 0 rfl rfl 1 (by decide) (hts _ kw_66) (fun _ h9 => h9) rfl hin rfl (by decide +kernel) rfl rfl (by rw [L_dfX5]; decide) dX5_init_9 (fun H locs hP hD hS => ?_)
  obtain ⟨dfX5_3, e_dfX5_3⟩ : ∃ z, z = dfX5.set 1 (.ref q_1) := ⟨_, rfl⟩
  have hP : va_P (dC, dI) cl0 [(h0, .inr (5, dfX5_3))] H := by rw [e_dfX5_3]; exact hP
  have hD : va_D A [(h0, .inr (5, dfX5_3))] := by rw [e_dfX5_3]; exact hD
  have L_dfX5_3 : dfX5_3.length = 20 := fx_len e_dfX5_3 L_dfX5
  have g_dfX5_3_0 := fx_ne (j := 0) e_dfX5_3 g_dfX5_0 (by decide)
  have g_dfX5_3_5 := fx_ne (j := 5) e_dfX5_3 g_dfX5_5 (by decide)
  have g_dfX5_3_7 := fx_ne (j := 7) e_dfX5_3 g_dfX5_7 (by decide)
  have g_dfX5_3_16 := fx_ne (j := 16) e_dfX5_3 g_dfX5_16 (by decide)
  have g_dfX5_3_18 := fx_ne (j := 18) e_dfX5_3 g_dfX5_18 (by decide)
  have g_dfX5_3_19 := fx_ne (j := 19) e_dfX5_3 g_dfX5_19 (by decide)
  refine lv_aload_n hx hb dX5_init_12 rfl (lv_at hl 0 rfl) ?_
  refine lv_iconst (v := 0) hx hb dX5_init_13 (by decide) ?_
  refine va_newa (atype := .int) (ty := .int) (a0 := (0, .inl (fun _ => 0))) (N' := 0) hx hb (hts (.arrayClass .int) kw_6) rfl hK hP hD hS hA (fun _ => rfl) (by decide) (by decide) (by decide) (Nat.le_of_ble_eq_true rfl) (Nat.le_of_ble_eq_true rfl) dX5_init_14 (fun q_4 cA_5 H hK hP hD hS => ?_)
  have hP := hP.sub (ws' := [(h0, .inr (5, dfX5_3))]) [0] rfl
  have hD := hD.sub (ws' := [(h0, .inr (5, dfX5_3))]) [0] (by decide) rfl
  have hK := hK.sub (tys' := []) [] rfl
  refine W.widen (k := 2) (n := 24) (Nat.le_of_ble_eq_true rfl) (Nat.le_of_ble_eq_true rfl) ?_
  refine va_put (D := (dC, dI)) (ci := 5) (v := .ref q_4) (ty := (.array .int)) (C := RX5) (T := TX5) (N := 20) hx hb hts inX5 tyX5 tyX5_ok nmX5 hown hK hP hD hS 0 rfl rfl 2 (by decide) (hts _ kw_67) (fun _ h9 => h9) rfl (by decide +kernel) rfl rfl (by rw [L_dfX5_3]; decide) dX5_init_16 (fun H locs hP hD hS => ?_)
  obtain ⟨dfX5_6, e_dfX5_6⟩ : ∃ z, z = dfX5_3.set 2 (.ref q_4) := ⟨_, rfl⟩
  have hP : va_P (dC, dI) cl0 [(h0, .inr (5, dfX5_6))] H := by rw [e_dfX5_6]; exact hP
  have hD : va_D A [(h0, .inr (5, dfX5_6))] := by rw [e_dfX5_6]; exact hD
  have L_dfX5_6 : dfX5_6.length = 20 := fx_len e_dfX5_6 L_dfX5_3
  have g_dfX5_6_0 := fx_ne (j := 0) e_dfX5_6 g_dfX5_3_0 (by decide)
  have g_dfX5_6_5 := fx_ne (j := 5) e_dfX5_6 g_dfX5_3_5 (by decide)
  have g_dfX5_6_7 := fx_ne (j := 7) e_dfX5_6 g_dfX5_3_7 (by decide)
  have g_dfX5_6_16 := fx_ne (j := 16) e_dfX5_6 g_dfX5_3_16 (by decide)
  have g_dfX5_6_18 := fx_ne (j := 18) e_dfX5_6 g_dfX5_3_18 (by decide)
  have g_dfX5_6_19 := fx_ne (j := 19) e_dfX5_6 g_dfX5_3_19 (by decide)
  refine lv_aload_n hx hb dX5_init_19 rfl (lv_at hl 0 rfl) ?_
  refine lv_bipush (v := 8) hx hb dX5_init_20 (by decide) ?_
  refine va_newa (atype := .int) (ty := .int) (a0 := (8, .inl (fun _ => 0))) (N' := 8) hx hb (hts (.arrayClass .int) kw_6) rfl hK hP hD hS hA (fun _ => rfl) (by decide) (by decide) (by decide) (Nat.le_of_ble_eq_true rfl) (Nat.le_of_ble_eq_true rfl) dX5_init_22 (fun q_7 cA_8 H hK hP hD hS => ?_)
  have hP := hP.sub (ws' := [(h0, .inr (5, dfX5_6))]) [0] rfl
  have hD := hD.sub (ws' := [(h0, .inr (5, dfX5_6))]) [0] (by decide) rfl
  have hK := hK.sub (tys' := []) [] rfl
  refine W.widen (k := 3) (n := 32) (Nat.le_of_ble_eq_true rfl) (Nat.le_of_ble_eq_true rfl) ?_
  refine va_put (D := (dC, dI)) (ci := 5) (v := .ref q_7) (ty := (.array .int)) (C := RX5) (T := TX5) (N := 20) hx hb hts inX5 tyX5 tyX5_ok nmX5 hown hK hP hD hS 0 rfl rfl 4 (by decide) (hts _ kw_68) (fun _ h9 => h9) rfl (by decide +kernel) rfl rfl (by rw [L_dfX5_6]; decide) dX5_init_24 (fun H locs hP hD hS => ?_)
  obtain ⟨dfX5_9, e_dfX5_9⟩ : ∃ z, z = dfX5_6.set 4 (.ref q_7) := ⟨_, rfl⟩
  have hP : va_P (dC, dI) cl0 [(h0, .inr (5, dfX5_9))] H := by rw [e_dfX5_9]; exact hP
  have hD : va_D A [(h0, .inr (5, dfX5_9))] := by rw [e_dfX5_9]; exact hD
  have L_dfX5_9 : dfX5_9.length = 20 := fx_len e_dfX5_9 L_dfX5_6
  have g_dfX5_9_0 := fx_ne (j := 0) e_dfX5_9 g_dfX5_6_0 (by decide)
  have g_dfX5_9_5 := fx_ne (j := 5) e_dfX5_9 g_dfX5_6_5 (by decide)
  have g_dfX5_9_7 := fx_ne (j := 7) e_dfX5_9 g_dfX5_6_7 (by decide)
  have g_dfX5_9_16 := fx_ne (j := 16) e_dfX5_9 g_dfX5_6_16 (by decide)
  have g_dfX5_9_18 := fx_ne (j := 18) e_dfX5_9 g_dfX5_6_18 (by decide)
  have g_dfX5_9_19 := fx_ne (j := 19) e_dfX5_9 g_dfX5_6_19 (by decide)
  refine lv_aload_n hx hb dX5_init_27 rfl (lv_at hl 0 rfl) ?_
  refine lv_bipush (v := 8) hx hb dX5_init_28 (by decide) ?_
  refine va_newa (atype := .long) (ty := .long) (a0 := (8, .inr (.inl (fun _ => 0)))) (N' := 8) hx hb (hts (.arrayClass .long) kw_13) rfl hK hP hD hS hA (fun _ => rfl) (by decide) (by decide) (by decide) (Nat.le_of_ble_eq_true rfl) (Nat.le_of_ble_eq_true rfl) dX5_init_30 (fun q_10 cA_11 H hK hP hD hS => ?_)
  have hP : va_P (dC, dI) cl0 [(h0, .inr (5, dfX5_9)), (q_10, .inl (cA_11, 8, .inr (.inl (fun _ => 0))))] H := hP
  have hD : va_D A [(h0, .inr (5, dfX5_9)), (q_10, .inl (cA_11, 8, .inr (.inl (fun _ => 0))))] := hD
  have hK : va_K (dC, dI) cl0 [(cA_11, .long)] s := hK
  refine W.widen (k := 4) (n := 40) (Nat.le_of_ble_eq_true rfl) (Nat.le_of_ble_eq_true rfl) ?_
  refine va_putF (D := (dC, dI)) (ci := 5) (v := .ref q_10) (ty := (.array .long)) (C := RX5) (T := TX5) (N := 20) hx hb hts inX5 tyX5 tyX5_ok nmX5 hown hK hP hD hS 0 rfl rfl 6 (by decide) (hts _ kw_69) (fun _ h9 => h9) rfl hin rfl (by decide +kernel) rfl rfl (by rw [L_dfX5_9]; decide) dX5_init_32 (fun H locs hP hD hS => ?_)
  obtain ⟨dfX5_12, e_dfX5_12⟩ : ∃ z, z = dfX5_9.set 6 (.ref q_10) := ⟨_, rfl⟩
  have hP : va_P (dC, dI) cl0 [(h0, .inr (5, dfX5_12)), (q_10, .inl (cA_11, 8, .inr (.inl (fun _ => 0))))] H := by rw [e_dfX5_12]; exact hP
  have hD : va_D A [(h0, .inr (5, dfX5_12)), (q_10, .inl (cA_11, 8, .inr (.inl (fun _ => 0))))] := by rw [e_dfX5_12]; exact hD
  have L_dfX5_12 : dfX5_12.length = 20 := fx_len e_dfX5_12 L_dfX5_9
  have g_dfX5_12_0 := fx_ne (j := 0) e_dfX5_12 g_dfX5_9_0 (by decide)
  have g_dfX5_12_5 := fx_ne (j := 5) e_dfX5_12 g_dfX5_9_5 (by decide)
  have g_dfX5_12_7 := fx_ne (j := 7) e_dfX5_12 g_dfX5_9_7 (by decide)
  have g_dfX5_12_16 := fx_ne (j := 16) e_dfX5_12 g_dfX5_9_16 (by decide)
  have g_dfX5_12_18 := fx_ne (j := 18) e_dfX5_12 g_dfX5_9_18 (by decide)
  have g_dfX5_12_19 := fx_ne (j := 19) e_dfX5_12 g_dfX5_9_19 (by decide)
  have g_dfX5_12_6 := fx_self e_dfX5_12 (by rw [L_dfX5_9]; decide)
  refine lv_aload_n hx hb dX5_init_35 rfl (lv_at hl 0 rfl) ?_
  refine lv_iconst (v := 0) hx hb dX5_init_36 (by decide) ?_
  refine va_newa (atype := .long) (ty := .long) (a0 := (0, .inr (.inl (fun _ => 0)))) (N' := 0) hx hb (hts (.arrayClass .long) kw_13) rfl hK hP hD hS hA (fun _ => rfl) (by decide) (by decide) (by decide) (Nat.le_of_ble_eq_true rfl) (Nat.le_of_ble_eq_true rfl) dX5_init_37 (fun q_13 cA_14 H hK hP hD hS => ?_)
  have hP := hP.sub (ws' := [(h0, .inr (5, dfX5_12)), (q_10, .inl (cA_11, 8, .inr (.inl (fun _ => 0))))]) [0, 1] rfl
  have hD := hD.sub (ws' := [(h0, .inr (5, dfX5_12)), (q_10, .inl (cA_11, 8, .inr (.inl (fun _ => 0))))]) [0, 1] (by decide) rfl
  have hK := hK.sub (tys' := [(cA_11, .long)]) [0] rfl
  refine W.widen (k := 5) (n := 40) (Nat.le_of_ble_eq_true rfl) (Nat.le_of_ble_eq_true rfl) ?_
  refine va_put (D := (dC, dI)) (ci := 5) (v := .ref q_13) (ty := (.array .long)) (C := RX5) (T := TX5) (N := 20) hx hb hts inX5 tyX5 tyX5_ok nmX5 hown hK hP hD hS 0 rfl rfl 8 (by decide) (hts _ kw_70) (fun _ h9 => h9) rfl (by decide +kernel) rfl rfl (by rw [L_dfX5_12]; decide) dX5_init_39 (fun H locs hP hD hS => ?_)
  obtain ⟨dfX5_15, e_dfX5_15⟩ : ∃ z, z = dfX5_12.set 8 (.ref q_13) := ⟨_, rfl⟩
  have hP : va_P (dC, dI) cl0 [(h0, .inr (5, dfX5_15)), (q_10, .inl (cA_11, 8, .inr (.inl (fun _ => 0))))] H := by rw [e_dfX5_15]; exact hP
  have hD : va_D A [(h0, .inr (5, dfX5_15)), (q_10, .inl (cA_11, 8, .inr (.inl (fun _ => 0))))] := by rw [e_dfX5_15]; exact hD
  have L_dfX5_15 : dfX5_15.length = 20 := fx_len e_dfX5_15 L_dfX5_12
  have g_dfX5_15_0 := fx_ne (j := 0) e_dfX5_15 g_dfX5_12_0 (by decide)
  have g_dfX5_15_5 := fx_ne (j := 5) e_dfX5_15 g_dfX5_12_5 (by decide)
  have g_dfX5_15_7 := fx_ne (j := 7) e_dfX5_15 g_dfX5_12_7 (by decide)
  have g_dfX5_15_16 := fx_ne (j := 16) e_dfX5_15 g_dfX5_12_16 (by decide)
  have g_dfX5_15_18 := fx_ne (j := 18) e_dfX5_15 g_dfX5_12_18 (by decide)
  have g_dfX5_15_19 := fx_ne (j := 19) e_dfX5_15 g_dfX5_12_19 (by decide)
  have g_dfX5_15_6 := fx_ne (j := 6) e_dfX5_15 g_dfX5_12_6 (by decide)
  refine lv_aload_n hx hb dX5_init_42 rfl (lv_at hl 0 rfl) ?_
  refine lv_iconst (v := 0) hx hb dX5_init_43 (by decide) ?_
  refine va_newa (atype := .long) (ty := .long) (a0 := (0, .inr (.inl (fun _ => 0)))) (N' := 0) hx hb (hts (.arrayClass .long) kw_13) rfl hK hP hD hS hA (fun _ => rfl) (by decide) (by decide) (by decide) (Nat.le_of_ble_eq_true rfl) (Nat.le_of_ble_eq_true rfl) dX5_init_44 (fun q_16 cA_17 H hK hP hD hS => ?_)
  have hP := hP.sub (ws' := [(h0, .inr (5, dfX5_15)), (q_10, .inl (cA_11, 8, .inr (.inl (fun _ => 0))))]) [0, 1] rfl
  have hD := hD.sub (ws' := [(h0, .inr (5, dfX5_15)), (q_10, .inl (cA_11, 8, .inr (.inl (fun _ => 0))))]) [0, 1] (by decide) rfl
  have hK := hK.sub (tys' := [(cA_11, .long)]) [0] rfl
  refine W.widen (k := 6) (n := 40) (Nat.le_of_ble_eq_true rfl) (Nat.le_of_ble_eq_true rfl) ?_
  refine va_put (D := (dC, dI)) (ci := 5) (v := .ref q_16) (ty := (.array .long)) (C := RX5) (T := TX5) (N := 20) hx hb hts inX5 tyX5 tyX5_ok nmX5 hown hK hP hD hS 0 rfl rfl 9 (by decide) (hts _ kw_71) (fun _ h9 => h9) rfl (by decide +kernel) rfl rfl (by rw [L_dfX5_15]; decide) dX5_init_46 (fun H locs hP hD hS => ?_)
  obtain ⟨dfX5_18, e_dfX5_18⟩ : ∃ z, z = dfX5_15.set 9 (.ref q_16) := ⟨_, rfl⟩
  have hP : va_P (dC, dI) cl0 [(h0, .inr (5, dfX5_18)), (q_10, .inl (cA_11, 8, .inr (.inl (fun _ => 0))))] H := by rw [e_dfX5_18]; exact hP
  have hD : va_D A [(h0, .inr (5, dfX5_18)), (q_10, .inl (cA_11, 8, .inr (.inl (fun _ => 0))))] := by rw [e_dfX5_18]; exact hD
  have L_dfX5_18 : dfX5_18.length = 20 := fx_len e_dfX5_18 L_dfX5_15
  have g_dfX5_18_0 := fx_ne (j := 0) e_dfX5_18 g_dfX5_15_0 (by decide)
  have g_dfX5_18_5 := fx_ne (j := 5) e_dfX5_18 g_dfX5_15_5 (by decide)
  have g_dfX5_18_7 := fx_ne (j := 7) e_dfX5_18 g_dfX5_15_7 (by decide)
  have g_dfX5_18_16 := fx_ne (j := 16) e_dfX5_18 g_dfX5_15_16 (by decide)
  have g_dfX5_18_18 := fx_ne (j := 18) e_dfX5_18 g_dfX5_15_18 (by decide)
  have g_dfX5_18_19 := fx_ne (j := 19) e_dfX5_18 g_dfX5_15_19 (by decide)
  have g_dfX5_18_6 := fx_ne (j := 6) e_dfX5_18 g_dfX5_15_6 (by decide)
  refine lv_aload_n hx hb dX5_init_49 rfl (lv_at hl 0 rfl) ?_
  refine lv_sipush (v := 180) hx hb dX5_init_50 (by decide) ?_
  refine va_newa (atype := .int) (ty := .int) (a0 := (180, .inl (fun _ => 0))) (N' := 180) hx hb (hts (.arrayClass .int) kw_6) rfl hK hP hD hS hA (fun _ => rfl) (by decide) (by decide) (by decide) (Nat.le_of_ble_eq_true rfl) (Nat.le_of_ble_eq_true rfl) dX5_init_53 (fun q_19 cA_20 H hK hP hD hS => ?_)
  have hP := hP.sub (ws' := [(h0, .inr (5, dfX5_18)), (q_10, .inl (cA_11, 8, .inr (.inl (fun _ => 0))))]) [0, 1] rfl
  have hD := hD.sub (ws' := [(h0, .inr (5, dfX5_18)), (q_10, .inl (cA_11, 8, .inr (.inl (fun _ => 0))))]) [0, 1] (by decide) rfl
  have hK := hK.sub (tys' := [(cA_11, .long)]) [0] rfl
  refine W.widen (k := 7) (n := 220) (Nat.le_of_ble_eq_true rfl) (Nat.le_of_ble_eq_true rfl) ?_
  refine va_putF (D := (dC, dI)) (ci := 5) (v := .ref q_19) (ty := (.array .int)) (C := RX5) (T := TX5) (N := 20) hx hb hts inX5 tyX5 tyX5_ok nmX5 hown hK hP hD hS 0 rfl rfl 10 (by decide) (hts _ kw_72) (fun _ h9 => h9) rfl hin rfl (by decide +kernel) rfl rfl (by rw [L_dfX5_18]; decide) dX5_init_55 (fun H locs hP hD hS => ?_)
  obtain ⟨dfX5_21, e_dfX5_21⟩ : ∃ z, z = dfX5_18.set 10 (.ref q_19) := ⟨_, rfl⟩
  have hP : va_P (dC, dI) cl0 [(h0, .inr (5, dfX5_21)), (q_10, .inl (cA_11, 8, .inr (.inl (fun _ => 0))))] H := by rw [e_dfX5_21]; exact hP
  have hD : va_D A [(h0, .inr (5, dfX5_21)), (q_10, .inl (cA_11, 8, .inr (.inl (fun _ => 0))))] := by rw [e_dfX5_21]; exact hD
  have L_dfX5_21 : dfX5_21.length = 20 := fx_len e_dfX5_21 L_dfX5_18
  have g_dfX5_21_0 := fx_ne (j := 0) e_dfX5_21 g_dfX5_18_0 (by decide)
  have g_dfX5_21_5 := fx_ne (j := 5) e_dfX5_21 g_dfX5_18_5 (by decide)
  have g_dfX5_21_7 := fx_ne (j := 7) e_dfX5_21 g_dfX5_18_7 (by decide)
  have g_dfX5_21_16 := fx_ne (j := 16) e_dfX5_21 g_dfX5_18_16 (by decide)
  have g_dfX5_21_18 := fx_ne (j := 18) e_dfX5_21 g_dfX5_18_18 (by decide)
  have g_dfX5_21_19 := fx_ne (j := 19) e_dfX5_21 g_dfX5_18_19 (by decide)
  have g_dfX5_21_6 := fx_ne (j := 6) e_dfX5_21 g_dfX5_18_6 (by decide)
  refine lv_aload_n hx hb dX5_init_58 rfl (lv_at hl 0 rfl) ?_
  refine lv_iconst (v := (-1)) hx hb dX5_init_59 (by decide) ?_
  refine va_put (D := (dC, dI)) (ci := 5) (v := .int (-1)) (ty := .int) (C := RX5) (T := TX5) (N := 20) hx hb hts inX5 tyX5 tyX5_ok nmX5 hown hK hP hD hS 0 rfl rfl 17 (by decide) (hts _ kw_73) (fun _ h9 => h9) rfl (by decide +kernel) rfl rfl (by rw [L_dfX5_21]; decide) dX5_init_60 (fun H locs hP hD hS => ?_)
  obtain ⟨dfX5_22, e_dfX5_22⟩ : ∃ z, z = dfX5_21.set 17 (.int (-1)) := ⟨_, rfl⟩
  have hP : va_P (dC, dI) cl0 [(h0, .inr (5, dfX5_22)), (q_10, .inl (cA_11, 8, .inr (.inl (fun _ => 0))))] H := by rw [e_dfX5_22]; exact hP
  have hD : va_D A [(h0, .inr (5, dfX5_22)), (q_10, .inl (cA_11, 8, .inr (.inl (fun _ => 0))))] := by rw [e_dfX5_22]; exact hD
  have L_dfX5_22 : dfX5_22.length = 20 := fx_len e_dfX5_22 L_dfX5_21
  have g_dfX5_22_0 := fx_ne (j := 0) e_dfX5_22 g_dfX5_21_0 (by decide)
  have g_dfX5_22_5 := fx_ne (j := 5) e_dfX5_22 g_dfX5_21_5 (by decide)
  have g_dfX5_22_7 := fx_ne (j := 7) e_dfX5_22 g_dfX5_21_7 (by decide)
  have g_dfX5_22_16 := fx_ne (j := 16) e_dfX5_22 g_dfX5_21_16 (by decide)
  have g_dfX5_22_18 := fx_ne (j := 18) e_dfX5_22 g_dfX5_21_18 (by decide)
  have g_dfX5_22_19 := fx_ne (j := 19) e_dfX5_22 g_dfX5_21_19 (by decide)
  have g_dfX5_22_6 := fx_ne (j := 6) e_dfX5_22 g_dfX5_21_6 (by decide)
  have g_dfX5_22_17 := fx_self e_dfX5_22 (by rw [L_dfX5_21]; decide)
  refine W.widen (k := 7) (n := 220) (Nat.le_of_ble_eq_true rfl) (Nat.le_of_ble_eq_true rfl) ?_
  have hP9 := hP.sub (ws' := [(h0, .inr (5, dfX5_22)), (q_10, .inl (cA_11, 8, .inr (.inl (fun _ => 0))))]) [0, 1] rfl
  have hD9 := hD.sub (ws' := [(h0, .inr (5, dfX5_22)), (q_10, .inl (cA_11, 8, .inr (.inl (fun _ => 0))))]) [0, 1] (by decide) rfl
  have hK9 := hK.sub (tys' := [(cA_11, .long)]) [0] rfl
  exact W.vret hx hb hr (fun t9 ht9 hW9 => ⟨⟨(), rfl, trivial, dfX5_22, q_10, cA_11, L_dfX5_22, g_dfX5_22_0, g_dfX5_22_5, g_dfX5_22_6, g_dfX5_22_7, g_dfX5_22_16, g_dfX5_22_17, g_dfX5_22_18, g_dfX5_22_19, by rw [ht9]; exact hP9, va_K.moved hW9.alike hK9, hD9⟩, hS.F ht9⟩) hS.2.2 dX5_init_63
set_option maxHeartbeats 4000000 in
set_option maxRecDepth 100000 in
theorem m_X3_init (l : Launch) (dC : Nat → ClassId) (dI : Nat → Nat → Nat) (sz : Nat) (h0 : Nat)  : Met l yX3_init (wt yX3_init cX3_init 1 none) ({ frames := 1, cells := 13, slots := 16, locals := 12 }) (va_Pc [.ref h0] (st_U dC dI sz [(h0, .inr (3, dfX3))] [])) (va_Qv (fun _ : Unit => True) (fun (_ : Unit) (_ : State) => True) (va_A [(h0, .inr (3, dfX3))] sz)) 13 16 (va_A [(h0, .inr (3, dfX3))] sz) := by
  refine Met.ofW (cc := cX3_init) (maxL := 1) (ret := none) (by decide) rfl ?_
  intro p e s m args below meth c s₁ B hml hv
  obtain ⟨rfl, hsz, hP, hK, hD0, hex⟩ := hv
  have hx := B.exec
  have hb := B.bytes
  have hr := B.returns
  have hts0 := atoms_spec (ws := wt yX3_init cX3_init 1 none) B.pre
  have hts : ∀ w ∈ tb, w.before _ s = true := fun w h => hts0 w (List.mem_cons_of_mem _ h)
  have hown : s.vm.findClass RX3 = some m.cls := findClass_of_methodNamed B.named
  have hlocks := B.notSynchronized
  have hin : meth.name = "<init>" := (name_of_methodNamed B.named B.method).1
  subst hsz
  have hD := hD0.self (sz := s.heap.size)
  generalize hAe : va_A [(h0, .inr (3, dfX3))] s.heap.size = A at hD ⊢
  have hA : ∀ q : Nat, s.heap.size ≤ q → A q := fun q h => by rw [← hAe]; exact Or.inr h
  have hS : va_S A s.heap s.heap [] := va_S.rf
  have hl := lv_entry ([.ref h0]) (n := 1) (Nat.le_of_ble_eq_true rfl)
  rw [lg_entry_eq]
  generalize (lg_sl ([.ref h0]) ++ List.replicate (1 - (lg_sl ([.ref h0])).length) Slot.unset).toArray = ls at hl ⊢
  have hl : lv_has ls 1 [(0, .ref h0)] := hl
  refine lv_aload_n hx hb dX3_init_0 rfl (lv_at hl 0 rfl) ?_
  refine W.objInit hx hb hown (hts _ kw_74) (hts _ kw_1) (hts _ kw_2) rfl (by rw [hml]; exact hl.1) rfl dX3_init_1 (Nat.le_of_ble_eq_true rfl) (Nat.le_of_ble_eq_true rfl) ?_
  refine W.eq (g2 := F0 m 4 ls []) rfl ?_
  refine lv_aload_n hx hb dX3_init_4 rfl (lv_at hl 0 rfl) ?_
  refine lv_iconst (v := 0) hx hb dX3_init_5 (by decide) ?_
  refine va_newa (atype := .int) (ty := .int) (a0 := (0, .inl (fun _ => 0))) (N' := 0) hx hb (hts (.arrayClass .int) kw_6) rfl hK hP hD hS hA (fun _ => rfl) (by decide) (by decide) (by decide) (Nat.le_of_ble_eq_true rfl) (Nat.le_of_ble_eq_true rfl) dX3_init_6 (fun q_1 cA_2 H hK hP hD hS => ?_)
  have hP := hP.sub (ws' := [(h0, .inr (3, dfX3))]) [0] rfl
  have hD := hD.sub (ws' := [(h0, .inr (3, dfX3))]) [0] (by decide) rfl
  have hK := hK.sub (tys' := []) [] rfl
  refine W.widen (k := 1) (n := 0) (Nat.le_of_ble_eq_true rfl) (Nat.le_of_ble_eq_true rfl) ?_
  refine va_put (D := (dC, dI)) (ci := 3) (v := .ref q_1) (ty := (.array .int)) (C := RX3) (T := TX3) (N := 16) hx hb hts inX3 tyX3 tyX3_ok nmX3 hown hK hP hD hS 0 rfl rfl 2 (by decide) (hts _ kw_75) (fun _ h9 => h9) rfl (by decide +kernel) rfl rfl (by rw [L_dfX3]; decide) dX3_init_8 (fun H locs hP hD hS => ?_)
  obtain ⟨dfX3_3, e_dfX3_3⟩ : ∃ z, z = dfX3.set 2 (.ref q_1) := ⟨_, rfl⟩
  have hP : va_P (dC, dI) cl0 [(h0, .inr (3, dfX3_3))] H := by rw [e_dfX3_3]; exact hP
  have hD : va_D A [(h0, .inr (3, dfX3_3))] := by rw [e_dfX3_3]; exact hD
  have L_dfX3_3 : dfX3_3.length = 16 := fx_len e_dfX3_3 L_dfX3
  refine lv_aload_n hx hb dX3_init_11 rfl (lv_at hl 0 rfl) ?_
  refine lv_iconst (v := 0) hx hb dX3_init_12 (by decide) ?_
  refine va_newa (atype := .int) (ty := .int) (a0 := (0, .inl (fun _ => 0))) (N' := 0) hx hb (hts (.arrayClass .int) kw_6) rfl hK hP hD hS hA (fun _ => rfl) (by decide) (by decide) (by decide) (Nat.le_of_ble_eq_true rfl) (Nat.le_of_ble_eq_true rfl) dX3_init_13 (fun q_4 cA_5 H hK hP hD hS => ?_)
  have hP := hP.sub (ws' := [(h0, .inr (3, dfX3_3))]) [0] rfl
  have hD := hD.sub (ws' := [(h0, .inr (3, dfX3_3))]) [0] (by decide) rfl
  have hK := hK.sub (tys' := []) [] rfl
  refine W.widen (k := 2) (n := 0) (Nat.le_of_ble_eq_true rfl) (Nat.le_of_ble_eq_true rfl) ?_
  refine va_put (D := (dC, dI)) (ci := 3) (v := .ref q_4) (ty := (.array .int)) (C := RX3) (T := TX3) (N := 16) hx hb hts inX3 tyX3 tyX3_ok nmX3 hown hK hP hD hS 0 rfl rfl 3 (by decide) (hts _ kw_76) (fun _ h9 => h9) rfl (by decide +kernel) rfl rfl (by rw [L_dfX3_3]; decide) dX3_init_15 (fun H locs hP hD hS => ?_)
  obtain ⟨dfX3_6, e_dfX3_6⟩ : ∃ z, z = dfX3_3.set 3 (.ref q_4) := ⟨_, rfl⟩
  have hP : va_P (dC, dI) cl0 [(h0, .inr (3, dfX3_6))] H := by rw [e_dfX3_6]; exact hP
  have hD : va_D A [(h0, .inr (3, dfX3_6))] := by rw [e_dfX3_6]; exact hD
  have L_dfX3_6 : dfX3_6.length = 16 := fx_len e_dfX3_6 L_dfX3_3
  refine lv_aload_n hx hb dX3_init_18 rfl (lv_at hl 0 rfl) ?_
  refine lv_iconst (v := 0) hx hb dX3_init_19 (by decide) ?_
  refine va_newa (atype := .int) (ty := .int) (a0 := (0, .inl (fun _ => 0))) (N' := 0) hx hb (hts (.arrayClass .int) kw_6) rfl hK hP hD hS hA (fun _ => rfl) (by decide) (by decide) (by decide) (Nat.le_of_ble_eq_true rfl) (Nat.le_of_ble_eq_true rfl) dX3_init_20 (fun q_7 cA_8 H hK hP hD hS => ?_)
  have hP := hP.sub (ws' := [(h0, .inr (3, dfX3_6))]) [0] rfl
  have hD := hD.sub (ws' := [(h0, .inr (3, dfX3_6))]) [0] (by decide) rfl
  have hK := hK.sub (tys' := []) [] rfl
  refine W.widen (k := 3) (n := 0) (Nat.le_of_ble_eq_true rfl) (Nat.le_of_ble_eq_true rfl) ?_
  refine va_put (D := (dC, dI)) (ci := 3) (v := .ref q_7) (ty := (.array .int)) (C := RX3) (T := TX3) (N := 16) hx hb hts inX3 tyX3 tyX3_ok nmX3 hown hK hP hD hS 0 rfl rfl 4 (by decide) (hts _ kw_77) (fun _ h9 => h9) rfl (by decide +kernel) rfl rfl (by rw [L_dfX3_6]; decide) dX3_init_22 (fun H locs hP hD hS => ?_)
  obtain ⟨dfX3_9, e_dfX3_9⟩ : ∃ z, z = dfX3_6.set 4 (.ref q_7) := ⟨_, rfl⟩
  have hP : va_P (dC, dI) cl0 [(h0, .inr (3, dfX3_9))] H := by rw [e_dfX3_9]; exact hP
  have hD : va_D A [(h0, .inr (3, dfX3_9))] := by rw [e_dfX3_9]; exact hD
  have L_dfX3_9 : dfX3_9.length = 16 := fx_len e_dfX3_9 L_dfX3_6
  refine lv_aload_n hx hb dX3_init_25 rfl (lv_at hl 0 rfl) ?_
  refine lv_bipush (v := 16) hx hb dX3_init_26 (by decide) ?_
  refine va_newa (atype := .int) (ty := .int) (a0 := (16, .inl (fun _ => 0))) (N' := 16) hx hb (hts (.arrayClass .int) kw_6) rfl hK hP hD hS hA (fun _ => rfl) (by decide) (by decide) (by decide) (Nat.le_of_ble_eq_true rfl) (Nat.le_of_ble_eq_true rfl) dX3_init_28 (fun q_10 cA_11 H hK hP hD hS => ?_)
  have hP := hP.sub (ws' := [(h0, .inr (3, dfX3_9))]) [0] rfl
  have hD := hD.sub (ws' := [(h0, .inr (3, dfX3_9))]) [0] (by decide) rfl
  have hK := hK.sub (tys' := []) [] rfl
  refine W.widen (k := 4) (n := 16) (Nat.le_of_ble_eq_true rfl) (Nat.le_of_ble_eq_true rfl) ?_
  refine va_put (D := (dC, dI)) (ci := 3) (v := .ref q_10) (ty := (.array .int)) (C := RX3) (T := TX3) (N := 16) hx hb hts inX3 tyX3 tyX3_ok nmX3 hown hK hP hD hS 0 rfl rfl 5 (by decide) (hts _ kw_78) (fun _ h9 => h9) rfl (by decide +kernel) rfl rfl (by rw [L_dfX3_9]; decide) dX3_init_30 (fun H locs hP hD hS => ?_)
  obtain ⟨dfX3_12, e_dfX3_12⟩ : ∃ z, z = dfX3_9.set 5 (.ref q_10) := ⟨_, rfl⟩
  have hP : va_P (dC, dI) cl0 [(h0, .inr (3, dfX3_12))] H := by rw [e_dfX3_12]; exact hP
  have hD : va_D A [(h0, .inr (3, dfX3_12))] := by rw [e_dfX3_12]; exact hD
  have L_dfX3_12 : dfX3_12.length = 16 := fx_len e_dfX3_12 L_dfX3_9
  refine lv_aload_n hx hb dX3_init_33 rfl (lv_at hl 0 rfl) ?_
  refine lv_iconst (v := 0) hx hb dX3_init_34 (by decide) ?_
  refine va_newa (atype := .int) (ty := .int) (a0 := (0, .inl (fun _ => 0))) (N' := 0) hx hb (hts (.arrayClass .int) kw_6) rfl hK hP hD hS hA (fun _ => rfl) (by decide) (by decide) (by decide) (Nat.le_of_ble_eq_true rfl) (Nat.le_of_ble_eq_true rfl) dX3_init_35 (fun q_13 cA_14 H hK hP hD hS => ?_)
  have hP := hP.sub (ws' := [(h0, .inr (3, dfX3_12))]) [0] rfl
  have hD := hD.sub (ws' := [(h0, .inr (3, dfX3_12))]) [0] (by decide) rfl
  have hK := hK.sub (tys' := []) [] rfl
  refine W.widen (k := 5) (n := 16) (Nat.le_of_ble_eq_true rfl) (Nat.le_of_ble_eq_true rfl) ?_
  refine va_put (D := (dC, dI)) (ci := 3) (v := .ref q_13) (ty := (.array .int)) (C := RX3) (T := TX3) (N := 16) hx hb hts inX3 tyX3 tyX3_ok nmX3 hown hK hP hD hS 0 rfl rfl 6 (by decide) (hts _ kw_79) (fun _ h9 => h9) rfl (by decide +kernel) rfl rfl (by rw [L_dfX3_12]; decide) dX3_init_37 (fun H locs hP hD hS => ?_)
  obtain ⟨dfX3_15, e_dfX3_15⟩ : ∃ z, z = dfX3_12.set 6 (.ref q_13) := ⟨_, rfl⟩
  have hP : va_P (dC, dI) cl0 [(h0, .inr (3, dfX3_15))] H := by rw [e_dfX3_15]; exact hP
  have hD : va_D A [(h0, .inr (3, dfX3_15))] := by rw [e_dfX3_15]; exact hD
  have L_dfX3_15 : dfX3_15.length = 16 := fx_len e_dfX3_15 L_dfX3_12
  refine lv_aload_n hx hb dX3_init_40 rfl (lv_at hl 0 rfl) ?_
  refine lv_iconst (v := 0) hx hb dX3_init_41 (by decide) ?_
  refine va_newa (atype := .int) (ty := .int) (a0 := (0, .inl (fun _ => 0))) (N' := 0) hx hb (hts (.arrayClass .int) kw_6) rfl hK hP hD hS hA (fun _ => rfl) (by decide) (by decide) (by decide) (Nat.le_of_ble_eq_true rfl) (Nat.le_of_ble_eq_true rfl) dX3_init_42 (fun q_16 cA_17 H hK hP hD hS => ?_)
  have hP := hP.sub (ws' := [(h0, .inr (3, dfX3_15))]) [0] rfl
  have hD := hD.sub (ws' := [(h0, .inr (3, dfX3_15))]) [0] (by decide) rfl
  have hK := hK.sub (tys' := []) [] rfl
  refine W.widen (k := 6) (n := 16) (Nat.le_of_ble_eq_true rfl) (Nat.le_of_ble_eq_true rfl) ?_
  refine va_put (D := (dC, dI)) (ci := 3) (v := .ref q_16) (ty := (.array .int)) (C := RX3) (T := TX3) (N := 16) hx hb hts inX3 tyX3 tyX3_ok nmX3 hown hK hP hD hS 0 rfl rfl 7 (by decide) (hts _ kw_80) (fun _ h9 => h9) rfl (by decide +kernel) rfl rfl (by rw [L_dfX3_15]; decide) dX3_init_44 (fun H locs hP hD hS => ?_)
  obtain ⟨dfX3_18, e_dfX3_18⟩ : ∃ z, z = dfX3_15.set 7 (.ref q_16) := ⟨_, rfl⟩
  have hP : va_P (dC, dI) cl0 [(h0, .inr (3, dfX3_18))] H := by rw [e_dfX3_18]; exact hP
  have hD : va_D A [(h0, .inr (3, dfX3_18))] := by rw [e_dfX3_18]; exact hD
  have L_dfX3_18 : dfX3_18.length = 16 := fx_len e_dfX3_18 L_dfX3_15
  refine lv_aload_n hx hb dX3_init_47 rfl (lv_at hl 0 rfl) ?_
  refine lv_iconst (v := 0) hx hb dX3_init_48 (by decide) ?_
  refine va_newa (atype := .boolean) (ty := .boolean) (a0 := (0, .inl (fun _ => 0))) (N' := 0) hx hb (hts (.arrayClass .boolean) kw_9) rfl hK hP hD hS hA (fun _ => rfl) (by decide) (by decide) (by decide) (Nat.le_of_ble_eq_true rfl) (Nat.le_of_ble_eq_true rfl) dX3_init_49 (fun q_19 cA_20 H hK hP hD hS => ?_)
  have hP := hP.sub (ws' := [(h0, .inr (3, dfX3_18))]) [0] rfl
  have hD := hD.sub (ws' := [(h0, .inr (3, dfX3_18))]) [0] (by decide) rfl
  have hK := hK.sub (tys' := []) [] rfl
  refine W.widen (k := 7) (n := 16) (Nat.le_of_ble_eq_true rfl) (Nat.le_of_ble_eq_true rfl) ?_
  refine va_put (D := (dC, dI)) (ci := 3) (v := .ref q_19) (ty := (.array .boolean)) (C := RX3) (T := TX3) (N := 16) hx hb hts inX3 tyX3 tyX3_ok nmX3 hown hK hP hD hS 0 rfl rfl 8 (by decide) (hts _ kw_81) (fun _ h9 => h9) rfl (by decide +kernel) rfl rfl (by rw [L_dfX3_18]; decide) dX3_init_51 (fun H locs hP hD hS => ?_)
  obtain ⟨dfX3_21, e_dfX3_21⟩ : ∃ z, z = dfX3_18.set 8 (.ref q_19) := ⟨_, rfl⟩
  have hP : va_P (dC, dI) cl0 [(h0, .inr (3, dfX3_21))] H := by rw [e_dfX3_21]; exact hP
  have hD : va_D A [(h0, .inr (3, dfX3_21))] := by rw [e_dfX3_21]; exact hD
  have L_dfX3_21 : dfX3_21.length = 16 := fx_len e_dfX3_21 L_dfX3_18
  refine lv_aload_n hx hb dX3_init_54 rfl (lv_at hl 0 rfl) ?_
  refine lv_iconst (v := 0) hx hb dX3_init_55 (by decide) ?_
  refine va_newa (atype := .long) (ty := .long) (a0 := (0, .inr (.inl (fun _ => 0)))) (N' := 0) hx hb (hts (.arrayClass .long) kw_13) rfl hK hP hD hS hA (fun _ => rfl) (by decide) (by decide) (by decide) (Nat.le_of_ble_eq_true rfl) (Nat.le_of_ble_eq_true rfl) dX3_init_56 (fun q_22 cA_23 H hK hP hD hS => ?_)
  have hP := hP.sub (ws' := [(h0, .inr (3, dfX3_21))]) [0] rfl
  have hD := hD.sub (ws' := [(h0, .inr (3, dfX3_21))]) [0] (by decide) rfl
  have hK := hK.sub (tys' := []) [] rfl
  refine W.widen (k := 8) (n := 16) (Nat.le_of_ble_eq_true rfl) (Nat.le_of_ble_eq_true rfl) ?_
  refine va_put (D := (dC, dI)) (ci := 3) (v := .ref q_22) (ty := (.array .long)) (C := RX3) (T := TX3) (N := 16) hx hb hts inX3 tyX3 tyX3_ok nmX3 hown hK hP hD hS 0 rfl rfl 9 (by decide) (hts _ kw_82) (fun _ h9 => h9) rfl (by decide +kernel) rfl rfl (by rw [L_dfX3_21]; decide) dX3_init_58 (fun H locs hP hD hS => ?_)
  obtain ⟨dfX3_24, e_dfX3_24⟩ : ∃ z, z = dfX3_21.set 9 (.ref q_22) := ⟨_, rfl⟩
  have hP : va_P (dC, dI) cl0 [(h0, .inr (3, dfX3_24))] H := by rw [e_dfX3_24]; exact hP
  have hD : va_D A [(h0, .inr (3, dfX3_24))] := by rw [e_dfX3_24]; exact hD
  have L_dfX3_24 : dfX3_24.length = 16 := fx_len e_dfX3_24 L_dfX3_21
  refine lv_aload_n hx hb dX3_init_61 rfl (lv_at hl 0 rfl) ?_
  refine lv_iconst (v := 0) hx hb dX3_init_62 (by decide) ?_
  refine va_newa (atype := .int) (ty := .int) (a0 := (0, .inl (fun _ => 0))) (N' := 0) hx hb (hts (.arrayClass .int) kw_6) rfl hK hP hD hS hA (fun _ => rfl) (by decide) (by decide) (by decide) (Nat.le_of_ble_eq_true rfl) (Nat.le_of_ble_eq_true rfl) dX3_init_63 (fun q_25 cA_26 H hK hP hD hS => ?_)
  have hP := hP.sub (ws' := [(h0, .inr (3, dfX3_24))]) [0] rfl
  have hD := hD.sub (ws' := [(h0, .inr (3, dfX3_24))]) [0] (by decide) rfl
  have hK := hK.sub (tys' := []) [] rfl
  refine W.widen (k := 9) (n := 16) (Nat.le_of_ble_eq_true rfl) (Nat.le_of_ble_eq_true rfl) ?_
  refine va_put (D := (dC, dI)) (ci := 3) (v := .ref q_25) (ty := (.array .int)) (C := RX3) (T := TX3) (N := 16) hx hb hts inX3 tyX3 tyX3_ok nmX3 hown hK hP hD hS 0 rfl rfl 11 (by decide) (hts _ kw_83) (fun _ h9 => h9) rfl (by decide +kernel) rfl rfl (by rw [L_dfX3_24]; decide) dX3_init_65 (fun H locs hP hD hS => ?_)
  obtain ⟨dfX3_27, e_dfX3_27⟩ : ∃ z, z = dfX3_24.set 11 (.ref q_25) := ⟨_, rfl⟩
  have hP : va_P (dC, dI) cl0 [(h0, .inr (3, dfX3_27))] H := by rw [e_dfX3_27]; exact hP
  have hD : va_D A [(h0, .inr (3, dfX3_27))] := by rw [e_dfX3_27]; exact hD
  have L_dfX3_27 : dfX3_27.length = 16 := fx_len e_dfX3_27 L_dfX3_24
  refine lv_aload_n hx hb dX3_init_68 rfl (lv_at hl 0 rfl) ?_
  refine lv_iconst (v := 0) hx hb dX3_init_69 (by decide) ?_
  refine va_newa (atype := .int) (ty := .int) (a0 := (0, .inl (fun _ => 0))) (N' := 0) hx hb (hts (.arrayClass .int) kw_6) rfl hK hP hD hS hA (fun _ => rfl) (by decide) (by decide) (by decide) (Nat.le_of_ble_eq_true rfl) (Nat.le_of_ble_eq_true rfl) dX3_init_70 (fun q_28 cA_29 H hK hP hD hS => ?_)
  have hP := hP.sub (ws' := [(h0, .inr (3, dfX3_27))]) [0] rfl
  have hD := hD.sub (ws' := [(h0, .inr (3, dfX3_27))]) [0] (by decide) rfl
  have hK := hK.sub (tys' := []) [] rfl
  refine W.widen (k := 10) (n := 16) (Nat.le_of_ble_eq_true rfl) (Nat.le_of_ble_eq_true rfl) ?_
  refine va_put (D := (dC, dI)) (ci := 3) (v := .ref q_28) (ty := (.array .int)) (C := RX3) (T := TX3) (N := 16) hx hb hts inX3 tyX3 tyX3_ok nmX3 hown hK hP hD hS 0 rfl rfl 12 (by decide) (hts _ kw_84) (fun _ h9 => h9) rfl (by decide +kernel) rfl rfl (by rw [L_dfX3_27]; decide) dX3_init_72 (fun H locs hP hD hS => ?_)
  obtain ⟨dfX3_30, e_dfX3_30⟩ : ∃ z, z = dfX3_27.set 12 (.ref q_28) := ⟨_, rfl⟩
  have hP : va_P (dC, dI) cl0 [(h0, .inr (3, dfX3_30))] H := by rw [e_dfX3_30]; exact hP
  have hD : va_D A [(h0, .inr (3, dfX3_30))] := by rw [e_dfX3_30]; exact hD
  have L_dfX3_30 : dfX3_30.length = 16 := fx_len e_dfX3_30 L_dfX3_27
  refine lv_aload_n hx hb dX3_init_75 rfl (lv_at hl 0 rfl) ?_
  refine lv_iconst (v := 0) hx hb dX3_init_76 (by decide) ?_
  refine va_newa (atype := .int) (ty := .int) (a0 := (0, .inl (fun _ => 0))) (N' := 0) hx hb (hts (.arrayClass .int) kw_6) rfl hK hP hD hS hA (fun _ => rfl) (by decide) (by decide) (by decide) (Nat.le_of_ble_eq_true rfl) (Nat.le_of_ble_eq_true rfl) dX3_init_77 (fun q_31 cA_32 H hK hP hD hS => ?_)
  have hP := hP.sub (ws' := [(h0, .inr (3, dfX3_30))]) [0] rfl
  have hD := hD.sub (ws' := [(h0, .inr (3, dfX3_30))]) [0] (by decide) rfl
  have hK := hK.sub (tys' := []) [] rfl
  refine W.widen (k := 11) (n := 16) (Nat.le_of_ble_eq_true rfl) (Nat.le_of_ble_eq_true rfl) ?_
  refine va_put (D := (dC, dI)) (ci := 3) (v := .ref q_31) (ty := (.array .int)) (C := RX3) (T := TX3) (N := 16) hx hb hts inX3 tyX3 tyX3_ok nmX3 hown hK hP hD hS 0 rfl rfl 13 (by decide) (hts _ kw_85) (fun _ h9 => h9) rfl (by decide +kernel) rfl rfl (by rw [L_dfX3_30]; decide) dX3_init_79 (fun H locs hP hD hS => ?_)
  obtain ⟨dfX3_33, e_dfX3_33⟩ : ∃ z, z = dfX3_30.set 13 (.ref q_31) := ⟨_, rfl⟩
  have hP : va_P (dC, dI) cl0 [(h0, .inr (3, dfX3_33))] H := by rw [e_dfX3_33]; exact hP
  have hD : va_D A [(h0, .inr (3, dfX3_33))] := by rw [e_dfX3_33]; exact hD
  have L_dfX3_33 : dfX3_33.length = 16 := fx_len e_dfX3_33 L_dfX3_30
  refine lv_aload_n hx hb dX3_init_82 rfl (lv_at hl 0 rfl) ?_
  refine lv_iconst (v := 0) hx hb dX3_init_83 (by decide) ?_
  refine va_newa (atype := .int) (ty := .int) (a0 := (0, .inl (fun _ => 0))) (N' := 0) hx hb (hts (.arrayClass .int) kw_6) rfl hK hP hD hS hA (fun _ => rfl) (by decide) (by decide) (by decide) (Nat.le_of_ble_eq_true rfl) (Nat.le_of_ble_eq_true rfl) dX3_init_84 (fun q_34 cA_35 H hK hP hD hS => ?_)
  have hP := hP.sub (ws' := [(h0, .inr (3, dfX3_33))]) [0] rfl
  have hD := hD.sub (ws' := [(h0, .inr (3, dfX3_33))]) [0] (by decide) rfl
  have hK := hK.sub (tys' := []) [] rfl
  refine W.widen (k := 12) (n := 16) (Nat.le_of_ble_eq_true rfl) (Nat.le_of_ble_eq_true rfl) ?_
  refine va_put (D := (dC, dI)) (ci := 3) (v := .ref q_34) (ty := (.array .int)) (C := RX3) (T := TX3) (N := 16) hx hb hts inX3 tyX3 tyX3_ok nmX3 hown hK hP hD hS 0 rfl rfl 14 (by decide) (hts _ kw_86) (fun _ h9 => h9) rfl (by decide +kernel) rfl rfl (by rw [L_dfX3_33]; decide) dX3_init_86 (fun H locs hP hD hS => ?_)
  obtain ⟨dfX3_36, e_dfX3_36⟩ : ∃ z, z = dfX3_33.set 14 (.ref q_34) := ⟨_, rfl⟩
  have hP : va_P (dC, dI) cl0 [(h0, .inr (3, dfX3_36))] H := by rw [e_dfX3_36]; exact hP
  have hD : va_D A [(h0, .inr (3, dfX3_36))] := by rw [e_dfX3_36]; exact hD
  have L_dfX3_36 : dfX3_36.length = 16 := fx_len e_dfX3_36 L_dfX3_33
  refine lv_aload_n hx hb dX3_init_89 rfl (lv_at hl 0 rfl) ?_
  refine lv_iconst (v := 0) hx hb dX3_init_90 (by decide) ?_
  refine va_newa (atype := .int) (ty := .int) (a0 := (0, .inl (fun _ => 0))) (N' := 0) hx hb (hts (.arrayClass .int) kw_6) rfl hK hP hD hS hA (fun _ => rfl) (by decide) (by decide) (by decide) (Nat.le_of_ble_eq_true rfl) (Nat.le_of_ble_eq_true rfl) dX3_init_91 (fun q_37 cA_38 H hK hP hD hS => ?_)
  have hP := hP.sub (ws' := [(h0, .inr (3, dfX3_36))]) [0] rfl
  have hD := hD.sub (ws' := [(h0, .inr (3, dfX3_36))]) [0] (by decide) rfl
  have hK := hK.sub (tys' := []) [] rfl
  refine W.widen (k := 13) (n := 16) (Nat.le_of_ble_eq_true rfl) (Nat.le_of_ble_eq_true rfl) ?_
  refine va_put (D := (dC, dI)) (ci := 3) (v := .ref q_37) (ty := (.array .int)) (C := RX3) (T := TX3) (N := 16) hx hb hts inX3 tyX3 tyX3_ok nmX3 hown hK hP hD hS 0 rfl rfl 15 (by decide) (hts _ kw_87) (fun _ h9 => h9) rfl (by decide +kernel) rfl rfl (by rw [L_dfX3_36]; decide) dX3_init_93 (fun H locs hP hD hS => ?_)
  obtain ⟨dfX3_39, e_dfX3_39⟩ : ∃ z, z = dfX3_36.set 15 (.ref q_37) := ⟨_, rfl⟩
  have hP : va_P (dC, dI) cl0 [(h0, .inr (3, dfX3_39))] H := by rw [e_dfX3_39]; exact hP
  have hD : va_D A [(h0, .inr (3, dfX3_39))] := by rw [e_dfX3_39]; exact hD
  have L_dfX3_39 : dfX3_39.length = 16 := fx_len e_dfX3_39 L_dfX3_36
  refine W.widen (k := 13) (n := 16) (Nat.le_of_ble_eq_true rfl) (Nat.le_of_ble_eq_true rfl) ?_
  exact W.vret hx hb hr (fun t9 ht9 hW9 => ⟨⟨(), rfl, trivial, trivial⟩, hS.F ht9⟩) hS.2.2 dX3_init_96
set_option maxHeartbeats 4000000 in
set_option maxRecDepth 100000 in
theorem m_X9_init (l : Launch) (dC : Nat → ClassId) (dI : Nat → Nat → Nat) (sz : Nat) (h0 : Nat)  : Met l yX9_init (wt yX9_init cX9_init 1 none) ({ frames := 2, cells := 13, slots := 27, locals := 35 }) (va_Pc [.ref h0] (st_U dC dI sz [(h0, .inr (8, dfX9))] [])) (va_Qv (fun _ : Unit => True) (fun (_ : Unit) (t : State) => ∃ (fs1 : List Value), ∃ (ha : Nat), ∃ (cI : ClassId), (fs1.length = 6) ∧ (fs1[1]? = some (.ref ha)) ∧ va_P (dC, dI) cl0 [(h0, .inr (8, fs1)), (ha, .inl (cI, 12, .inl (fun _ => 0)))] t.heap ∧ va_K (dC, dI) cl0 [(cI, .int)] t ∧ va_D (va_A [(h0, .inr (8, dfX9))] sz) [(h0, .inr (8, fs1)), (ha, .inl (cI, 12, .inl (fun _ => 0)))]) (va_A [(h0, .inr (8, dfX9))] sz)) 13 27 (va_A [(h0, .inr (8, dfX9))] sz) := by
  refine Met.ofW (cc := cX9_init) (maxL := 1) (ret := none) (by decide) rfl ?_
  intro p e s m args below meth c s₁ B hml hv
  obtain ⟨rfl, hsz, hP, hK, hD0, hex⟩ := hv
  have hx := B.exec
  have hb := B.bytes
  have hr := B.returns
  have hts0 := atoms_spec (ws := wt yX9_init cX9_init 1 none) B.pre
  have hts : ∀ w ∈ tb, w.before _ s = true := fun w h => hts0 w (List.mem_cons_of_mem _ h)
  have hown : s.vm.findClass RX9 = some m.cls := findClass_of_methodNamed B.named
  have hlocks := B.notSynchronized
  have hin : meth.name = "<init>" := (name_of_methodNamed B.named B.method).1
  subst hsz
  have hD := hD0.self (sz := s.heap.size)
  generalize hAe : va_A [(h0, .inr (8, dfX9))] s.heap.size = A at hD ⊢
  have hA : ∀ q : Nat, s.heap.size ≤ q → A q := fun q h => by rw [← hAe]; exact Or.inr h
  have hS : va_S A s.heap s.heap [] := va_S.rf
  have hl := lv_entry ([.ref h0]) (n := 1) (Nat.le_of_ble_eq_true rfl)
  rw [lg_entry_eq]
  generalize (lg_sl ([.ref h0]) ++ List.replicate (1 - (lg_sl ([.ref h0])).length) Slot.unset).toArray = ls at hl ⊢
  have hl : lv_has ls 1 [(0, .ref h0)] := hl
  refine lv_aload_n hx hb dX9_init_0 rfl (lv_at hl 0 rfl) ?_
  refine W.objInit hx hb hown (hts _ kw_88) (hts _ kw_1) (hts _ kw_2) rfl (by rw [hml]; exact hl.1) rfl dX9_init_1 (Nat.le_of_ble_eq_true rfl) (Nat.le_of_ble_eq_true rfl) ?_
  refine W.eq (g2 := F0 m 4 ls []) rfl ?_
  refine lv_aload_n hx hb dX9_init_4 rfl (lv_at hl 0 rfl) ?_
  refine va_new (ci := 7) (fs := dfX8) (C := RX8) (T := TX8) (N := 15) hx hb hts inX8 tyX8 tyX8_ok hown (hts _ kw_89) (hts _ kw_90) (hts _ kw_91) hK hP hD hS hA rfl dfX8_ok (Nat.le_of_ble_eq_true rfl) (Nat.le_of_ble_eq_true rfl) dX9_init_5 (fun q_1 H hP hD hS => ?_)
  have hP : va_P (dC, dI) cl0 [(h0, .inr (8, dfX9)), (q_1, .inr (7, dfX8))] H := hP
  have hD : va_D A [(h0, .inr (8, dfX9)), (q_1, .inr (7, dfX8))] := hD
  refine W.widen (k := 1) (n := 15) (Nat.le_of_ble_eq_true rfl) (Nat.le_of_ble_eq_true rfl) ?_
  refine lv_dup hx hb dX9_init_8 rfl ?_
  refine lv_iconst (v := 0) hx hb dX9_init_9 (by decide) ?_
  refine lv_iconst (v := 0) hx hb dX9_init_10 (by decide) ?_
  refine lv_iconst (v := 0) hx hb dX9_init_11 (by decide) ?_
  have hPc := hP.sub (ws' := [(q_1, .inr (7, dfX8))]) [1] rfl
  have hDc := hD.sub (ws' := [(q_1, .inr (7, dfX8))]) [1] (by decide) rfl
  have hKc := hK.sub (tys' := []) [] rfl
  have hFc := va_free (wc := [(q_1, .inr (7, dfX8))]) hD hS hA [1] rfl
  refine va_callv (va_runI (As := [.int 0, .int 0, .int 0]) (rest := [.ref q_1, .ref h0]) ⟨hx, hb, hml, hown, hts⟩ (m_X8_init l dC dI H.size q_1 ) (cwI 3 hts (gd_I kw_93) rfl rfl rfl (hts _ kw_91) (hts _ kw_92) (hts _ kw_94) rfl (by decide +kernel) ⟨Nat.le_of_ble_eq_true rfl, Nat.le_of_ble_eq_true rfl⟩) ⟨st_blind, fun U hU hW9 => st_mk hU hW9 hPc hKc hDc hex⟩ rfl rfl hl.1 rfl (lv_room (Nat.le_of_ble_eq_true rfl)) dX9_init_12 ⟨Nat.le_of_ble_eq_true rfl, Nat.le_of_ble_eq_true rfl⟩) hS (fun q _ h => hFc q h) hFc (fun  u9 t9 H1 locs ht9 hvm9 hw9 hB9 hz9 hk9 hS => ?_)
  have hP1 : va_P (dC, dI) cl0 [] H1 := fun k q h => by simp at h
  have hD1 : va_D (va_A [(q_1, .inr (7, dfX8))] H.size) [] := ⟨fun i j p q h => by simp at h, fun k q h => by simp at h⟩
  obtain ⟨hP, hD⟩ := va_join (wr := [(h0, .inr (8, dfX9))]) (w1 := []) hP hD [1] [0] rfl rfl (by decide) (by decide) hk9 hFc hP1 hD1
  generalize H1 = H at hP hS ⊢
  have hP : va_P (dC, dI) cl0 [(h0, .inr (8, dfX9))] H := hP
  have hD : va_D A [(h0, .inr (8, dfX9))] := hD
  refine W.widen (k := 8) (n := 15) (by omega) (by omega) ?_
  refine va_put (D := (dC, dI)) (ci := 8) (v := .ref q_1) (ty := (.object "CodeFoundry$Row")) (C := RX9) (T := TX9) (N := 6) hx hb hts inX9 tyX9 tyX9_ok nmX9 hown hK hP hD hS 0 rfl rfl 0 (by decide) (hts _ kw_95) (fun _ h9 => h9) rfl (by decide +kernel) rfl rfl (by rw [L_dfX9]; decide) dX9_init_15 (fun H locs hP hD hS => ?_)
  obtain ⟨dfX9_2, e_dfX9_2⟩ : ∃ z, z = dfX9.set 0 (.ref q_1) := ⟨_, rfl⟩
  have hP : va_P (dC, dI) cl0 [(h0, .inr (8, dfX9_2))] H := by rw [e_dfX9_2]; exact hP
  have hD : va_D A [(h0, .inr (8, dfX9_2))] := by rw [e_dfX9_2]; exact hD
  have L_dfX9_2 : dfX9_2.length = 6 := fx_len e_dfX9_2 L_dfX9
  refine lv_aload_n hx hb dX9_init_18 rfl (lv_at hl 0 rfl) ?_
  refine lv_bipush (v := 12) hx hb dX9_init_19 (by decide) ?_
  refine va_newa (atype := .int) (ty := .int) (a0 := (12, .inl (fun _ => 0))) (N' := 12) hx hb (hts (.arrayClass .int) kw_6) rfl hK hP hD hS hA (fun _ => rfl) (by decide) (by decide) (by decide) (Nat.le_of_ble_eq_true rfl) (Nat.le_of_ble_eq_true rfl) dX9_init_21 (fun q_3 cA_4 H hK hP hD hS => ?_)
  have hP : va_P (dC, dI) cl0 [(h0, .inr (8, dfX9_2)), (q_3, .inl (cA_4, 12, .inl (fun _ => 0)))] H := hP
  have hD : va_D A [(h0, .inr (8, dfX9_2)), (q_3, .inl (cA_4, 12, .inl (fun _ => 0)))] := hD
  have hK : va_K (dC, dI) cl0 [(cA_4, .int)] s := hK
  refine W.widen (k := 9) (n := 27) (Nat.le_of_ble_eq_true rfl) (Nat.le_of_ble_eq_true rfl) ?_
  refine va_putF (D := (dC, dI)) (ci := 8) (v := .ref q_3) (ty := (.array .int)) (C := RX9) (T := TX9) (N := 6) hx hb hts inX9 tyX9 tyX9_ok nmX9 hown hK hP hD hS 0 rfl rfl 1 (by decide) (hts _ kw_96) (fun _ h9 => h9) rfl hin rfl (by decide +kernel) rfl rfl (by rw [L_dfX9_2]; decide) dX9_init_23 (fun H locs hP hD hS => ?_)
  obtain ⟨dfX9_5, e_dfX9_5⟩ : ∃ z, z = dfX9_2.set 1 (.ref q_3) := ⟨_, rfl⟩
  have hP : va_P (dC, dI) cl0 [(h0, .inr (8, dfX9_5)), (q_3, .inl (cA_4, 12, .inl (fun _ => 0)))] H := by rw [e_dfX9_5]; exact hP
  have hD : va_D A [(h0, .inr (8, dfX9_5)), (q_3, .inl (cA_4, 12, .inl (fun _ => 0)))] := by rw [e_dfX9_5]; exact hD
  have L_dfX9_5 : dfX9_5.length = 6 := fx_len e_dfX9_5 L_dfX9_2
  have g_dfX9_5_1 := fx_self e_dfX9_5 (by rw [L_dfX9_2]; decide)
  refine lv_aload_n hx hb dX9_init_26 rfl (lv_at hl 0 rfl) ?_
  refine lv_iconst (v := 0) hx hb dX9_init_27 (by decide) ?_
  refine va_newa (atype := .boolean) (ty := .boolean) (a0 := (0, .inl (fun _ => 0))) (N' := 0) hx hb (hts (.arrayClass .boolean) kw_9) rfl hK hP hD hS hA (fun _ => rfl) (by decide) (by decide) (by decide) (Nat.le_of_ble_eq_true rfl) (Nat.le_of_ble_eq_true rfl) dX9_init_28 (fun q_6 cA_7 H hK hP hD hS => ?_)
  have hP := hP.sub (ws' := [(h0, .inr (8, dfX9_5)), (q_3, .inl (cA_4, 12, .inl (fun _ => 0)))]) [0, 1] rfl
  have hD := hD.sub (ws' := [(h0, .inr (8, dfX9_5)), (q_3, .inl (cA_4, 12, .inl (fun _ => 0)))]) [0, 1] (by decide) rfl
  have hK := hK.sub (tys' := [(cA_4, .int)]) [0] rfl
  refine W.widen (k := 10) (n := 27) (Nat.le_of_ble_eq_true rfl) (Nat.le_of_ble_eq_true rfl) ?_
  refine va_put (D := (dC, dI)) (ci := 8) (v := .ref q_6) (ty := (.array .boolean)) (C := RX9) (T := TX9) (N := 6) hx hb hts inX9 tyX9 tyX9_ok nmX9 hown hK hP hD hS 0 rfl rfl 2 (by decide) (hts _ kw_97) (fun _ h9 => h9) rfl (by decide +kernel) rfl rfl (by rw [L_dfX9_5]; decide) dX9_init_30 (fun H locs hP hD hS => ?_)
  obtain ⟨dfX9_8, e_dfX9_8⟩ : ∃ z, z = dfX9_5.set 2 (.ref q_6) := ⟨_, rfl⟩
  have hP : va_P (dC, dI) cl0 [(h0, .inr (8, dfX9_8)), (q_3, .inl (cA_4, 12, .inl (fun _ => 0)))] H := by rw [e_dfX9_8]; exact hP
  have hD : va_D A [(h0, .inr (8, dfX9_8)), (q_3, .inl (cA_4, 12, .inl (fun _ => 0)))] := by rw [e_dfX9_8]; exact hD
  have L_dfX9_8 : dfX9_8.length = 6 := fx_len e_dfX9_8 L_dfX9_5
  have g_dfX9_8_1 := fx_ne (j := 1) e_dfX9_8 g_dfX9_5_1 (by decide)
  refine lv_aload_n hx hb dX9_init_33 rfl (lv_at hl 0 rfl) ?_
  refine lv_iconst (v := 0) hx hb dX9_init_34 (by decide) ?_
  refine va_newa (atype := .boolean) (ty := .boolean) (a0 := (0, .inl (fun _ => 0))) (N' := 0) hx hb (hts (.arrayClass .boolean) kw_9) rfl hK hP hD hS hA (fun _ => rfl) (by decide) (by decide) (by decide) (Nat.le_of_ble_eq_true rfl) (Nat.le_of_ble_eq_true rfl) dX9_init_35 (fun q_9 cA_10 H hK hP hD hS => ?_)
  have hP := hP.sub (ws' := [(h0, .inr (8, dfX9_8)), (q_3, .inl (cA_4, 12, .inl (fun _ => 0)))]) [0, 1] rfl
  have hD := hD.sub (ws' := [(h0, .inr (8, dfX9_8)), (q_3, .inl (cA_4, 12, .inl (fun _ => 0)))]) [0, 1] (by decide) rfl
  have hK := hK.sub (tys' := [(cA_4, .int)]) [0] rfl
  refine W.widen (k := 11) (n := 27) (Nat.le_of_ble_eq_true rfl) (Nat.le_of_ble_eq_true rfl) ?_
  refine va_put (D := (dC, dI)) (ci := 8) (v := .ref q_9) (ty := (.array .boolean)) (C := RX9) (T := TX9) (N := 6) hx hb hts inX9 tyX9 tyX9_ok nmX9 hown hK hP hD hS 0 rfl rfl 3 (by decide) (hts _ kw_98) (fun _ h9 => h9) rfl (by decide +kernel) rfl rfl (by rw [L_dfX9_8]; decide) dX9_init_37 (fun H locs hP hD hS => ?_)
  obtain ⟨dfX9_11, e_dfX9_11⟩ : ∃ z, z = dfX9_8.set 3 (.ref q_9) := ⟨_, rfl⟩
  have hP : va_P (dC, dI) cl0 [(h0, .inr (8, dfX9_11)), (q_3, .inl (cA_4, 12, .inl (fun _ => 0)))] H := by rw [e_dfX9_11]; exact hP
  have hD : va_D A [(h0, .inr (8, dfX9_11)), (q_3, .inl (cA_4, 12, .inl (fun _ => 0)))] := by rw [e_dfX9_11]; exact hD
  have L_dfX9_11 : dfX9_11.length = 6 := fx_len e_dfX9_11 L_dfX9_8
  have g_dfX9_11_1 := fx_ne (j := 1) e_dfX9_11 g_dfX9_8_1 (by decide)
  refine lv_aload_n hx hb dX9_init_40 rfl (lv_at hl 0 rfl) ?_
  refine lv_iconst (v := 0) hx hb dX9_init_41 (by decide) ?_
  refine va_newa (atype := .int) (ty := .int) (a0 := (0, .inl (fun _ => 0))) (N' := 0) hx hb (hts (.arrayClass .int) kw_6) rfl hK hP hD hS hA (fun _ => rfl) (by decide) (by decide) (by decide) (Nat.le_of_ble_eq_true rfl) (Nat.le_of_ble_eq_true rfl) dX9_init_42 (fun q_12 cA_13 H hK hP hD hS => ?_)
  have hP := hP.sub (ws' := [(h0, .inr (8, dfX9_11)), (q_3, .inl (cA_4, 12, .inl (fun _ => 0)))]) [0, 1] rfl
  have hD := hD.sub (ws' := [(h0, .inr (8, dfX9_11)), (q_3, .inl (cA_4, 12, .inl (fun _ => 0)))]) [0, 1] (by decide) rfl
  have hK := hK.sub (tys' := [(cA_4, .int)]) [0] rfl
  refine W.widen (k := 12) (n := 27) (Nat.le_of_ble_eq_true rfl) (Nat.le_of_ble_eq_true rfl) ?_
  refine va_put (D := (dC, dI)) (ci := 8) (v := .ref q_12) (ty := (.array .int)) (C := RX9) (T := TX9) (N := 6) hx hb hts inX9 tyX9 tyX9_ok nmX9 hown hK hP hD hS 0 rfl rfl 4 (by decide) (hts _ kw_99) (fun _ h9 => h9) rfl (by decide +kernel) rfl rfl (by rw [L_dfX9_11]; decide) dX9_init_44 (fun H locs hP hD hS => ?_)
  obtain ⟨dfX9_14, e_dfX9_14⟩ : ∃ z, z = dfX9_11.set 4 (.ref q_12) := ⟨_, rfl⟩
  have hP : va_P (dC, dI) cl0 [(h0, .inr (8, dfX9_14)), (q_3, .inl (cA_4, 12, .inl (fun _ => 0)))] H := by rw [e_dfX9_14]; exact hP
  have hD : va_D A [(h0, .inr (8, dfX9_14)), (q_3, .inl (cA_4, 12, .inl (fun _ => 0)))] := by rw [e_dfX9_14]; exact hD
  have L_dfX9_14 : dfX9_14.length = 6 := fx_len e_dfX9_14 L_dfX9_11
  have g_dfX9_14_1 := fx_ne (j := 1) e_dfX9_14 g_dfX9_11_1 (by decide)
  refine lv_aload_n hx hb dX9_init_47 rfl (lv_at hl 0 rfl) ?_
  refine lv_iconst (v := 0) hx hb dX9_init_48 (by decide) ?_
  refine va_newa (atype := .int) (ty := .int) (a0 := (0, .inl (fun _ => 0))) (N' := 0) hx hb (hts (.arrayClass .int) kw_6) rfl hK hP hD hS hA (fun _ => rfl) (by decide) (by decide) (by decide) (Nat.le_of_ble_eq_true rfl) (Nat.le_of_ble_eq_true rfl) dX9_init_49 (fun q_15 cA_16 H hK hP hD hS => ?_)
  have hP := hP.sub (ws' := [(h0, .inr (8, dfX9_14)), (q_3, .inl (cA_4, 12, .inl (fun _ => 0)))]) [0, 1] rfl
  have hD := hD.sub (ws' := [(h0, .inr (8, dfX9_14)), (q_3, .inl (cA_4, 12, .inl (fun _ => 0)))]) [0, 1] (by decide) rfl
  have hK := hK.sub (tys' := [(cA_4, .int)]) [0] rfl
  refine W.widen (k := 13) (n := 27) (Nat.le_of_ble_eq_true rfl) (Nat.le_of_ble_eq_true rfl) ?_
  refine va_put (D := (dC, dI)) (ci := 8) (v := .ref q_15) (ty := (.array .int)) (C := RX9) (T := TX9) (N := 6) hx hb hts inX9 tyX9 tyX9_ok nmX9 hown hK hP hD hS 0 rfl rfl 5 (by decide) (hts _ kw_100) (fun _ h9 => h9) rfl (by decide +kernel) rfl rfl (by rw [L_dfX9_14]; decide) dX9_init_51 (fun H locs hP hD hS => ?_)
  obtain ⟨dfX9_17, e_dfX9_17⟩ : ∃ z, z = dfX9_14.set 5 (.ref q_15) := ⟨_, rfl⟩
  have hP : va_P (dC, dI) cl0 [(h0, .inr (8, dfX9_17)), (q_3, .inl (cA_4, 12, .inl (fun _ => 0)))] H := by rw [e_dfX9_17]; exact hP
  have hD : va_D A [(h0, .inr (8, dfX9_17)), (q_3, .inl (cA_4, 12, .inl (fun _ => 0)))] := by rw [e_dfX9_17]; exact hD
  have L_dfX9_17 : dfX9_17.length = 6 := fx_len e_dfX9_17 L_dfX9_14
  have g_dfX9_17_1 := fx_ne (j := 1) e_dfX9_17 g_dfX9_14_1 (by decide)
  refine W.widen (k := 13) (n := 27) (Nat.le_of_ble_eq_true rfl) (Nat.le_of_ble_eq_true rfl) ?_
  have hP9 := hP.sub (ws' := [(h0, .inr (8, dfX9_17)), (q_3, .inl (cA_4, 12, .inl (fun _ => 0)))]) [0, 1] rfl
  have hD9 := hD.sub (ws' := [(h0, .inr (8, dfX9_17)), (q_3, .inl (cA_4, 12, .inl (fun _ => 0)))]) [0, 1] (by decide) rfl
  have hK9 := hK.sub (tys' := [(cA_4, .int)]) [0] rfl
  exact W.vret hx hb hr (fun t9 ht9 hW9 => ⟨⟨(), rfl, trivial, dfX9_17, q_3, cA_4, L_dfX9_17, g_dfX9_17_1, by rw [ht9]; exact hP9, va_K.moved hW9.alike hK9, hD9⟩, hS.F ht9⟩) hS.2.2 dX9_init_54
end
section
set_option maxHeartbeats 4000000 in
set_option maxRecDepth 100000 in
theorem m_X12_init (l : Launch) (dC : Nat → ClassId) (dI : Nat → Nat → Nat) (sz : Nat) (h0 : Nat)  : Met l yX12_init (wt yX12_init cX12_init 1 none) ({ frames := 3, cells := 79, slots := 3727, locals := 55 }) (va_Pc [.ref h0] (st_U dC dI sz [(h0, .inr (10, dfX12))] [])) (va_Qv (fun _ : Unit => True) (fun (_ : Unit) (t : State) => ∃ (fx : List Value), ∃ (ht : Nat), ∃ (ft : List Value), ∃ (htd : Nat), ∃ (cB : ClassId), ∃ (hw : Nat), ∃ (fw : List Value), ∃ (hc : Nat), ∃ (fc : List Value), ∃ (hr : Nat), ∃ (fr : List Value), ∃ (hm : Nat), ∃ (fm : List Value), ∃ (hma : Nat), ∃ (cJ : ClassId), ∃ (hs : Nat), ∃ (fq : List Value), ∃ (hsa : Nat), ∃ (cI : ClassId), (fx.length = 18) ∧ (fx[0]? = some (.ref ht)) ∧ (fx[1]? = some (.ref hw)) ∧ (fx[4]? = some (.ref hc)) ∧ (fx[7]? = some (.ref hm)) ∧ (fx[9]? = some (.ref hs)) ∧ (fx[10]? = some (.int 0)) ∧ (fx[11]? = some (.int 0)) ∧ (fx[12]? = some (.int 0)) ∧ (fx[13]? = some (.int 0)) ∧ (fx[14]? = some (.int (-1))) ∧ (fx[15]? = some (.int (-1))) ∧ (fx[16]? = some (.int (-1))) ∧ (ft.length = 2) ∧ (ft[0]? = some (.ref htd)) ∧ (ft[1]? = some (.int 0)) ∧ (fw.length = 2) ∧ (fw[1]? = some (.int 0)) ∧ (fc.length = 12) ∧ (fc[0]? = some (.ref hr)) ∧ (fr.length = 17) ∧ (fm.length = 20) ∧ (fm[0]? = some (.null)) ∧ (fm[5]? = some (.int 0)) ∧ (fm[6]? = some (.ref hma)) ∧ (fm[7]? = some (.int 0)) ∧ (fm[16]? = some (.long 0)) ∧ (fm[17]? = some (.int (-1))) ∧ (fm[18]? = some (.int 0)) ∧ (fm[19]? = some (.int 0)) ∧ (fq.length = 6) ∧ (fq[1]? = some (.ref hsa)) ∧ va_P (dC, dI) cl0 [(h0, .inr (10, fx)), (ht, .inr (0, ft)), (htd, .inl (cB, 64, .inl (fun _ => 0))), (hw, .inr (0, fw)), (hc, .inr (2, fc)), (hr, .inr (6, fr)), (hm, .inr (5, fm)), (hma, .inl (cJ, 8, .inr (.inl (fun _ => 0)))), (hs, .inr (8, fq)), (hsa, .inl (cI, 12, .inl (fun _ => 0)))] t.heap ∧ va_K (dC, dI) cl0 [(cB, .byte), (cJ, .long), (cI, .int)] t ∧ va_D (va_A [(h0, .inr (10, dfX12))] sz) [(h0, .inr (10, fx)), (ht, .inr (0, ft)), (htd, .inl (cB, 64, .inl (fun _ => 0))), (hw, .inr (0, fw)), (hc, .inr (2, fc)), (hr, .inr (6, fr)), (hm, .inr (5, fm)), (hma, .inl (cJ, 8, .inr (.inl (fun _ => 0)))), (hs, .inr (8, fq)), (hsa, .inl (cI, 12, .inl (fun _ => 0)))]) (va_A [(h0, .inr (10, dfX12))] sz)) 79 3727 (va_A [(h0, .inr (10, dfX12))] sz) := by
  refine Met.ofW (cc := cX12_init) (maxL := 1) (ret := none) (by decide) rfl ?_
  intro p e s m args below meth c s₁ B hml hv
  obtain ⟨rfl, hsz, hP, hK, hD0, hex⟩ := hv
  have hx := B.exec
  have hb := B.bytes
  have hr := B.returns
  have hts0 := atoms_spec (ws := wt yX12_init cX12_init 1 none) B.pre
  have hts : ∀ w ∈ tb, w.before _ s = true := fun w h => hts0 w (List.mem_cons_of_mem _ h)
  have hown : s.vm.findClass RX12 = some m.cls := findClass_of_methodNamed B.named
  have hlocks := B.notSynchronized
  have hin : meth.name = "<init>" := (name_of_methodNamed B.named B.method).1
  subst hsz
  have hD := hD0.self (sz := s.heap.size)
  generalize hAe : va_A [(h0, .inr (10, dfX12))] s.heap.size = A at hD ⊢
  have hA : ∀ q : Nat, s.heap.size ≤ q → A q := fun q h => by rw [← hAe]; exact Or.inr h
  have hS : va_S A s.heap s.heap [] := va_S.rf
  have hl := lv_entry ([.ref h0]) (n := 1) (Nat.le_of_ble_eq_true rfl)
  rw [lg_entry_eq]
  generalize (lg_sl ([.ref h0]) ++ List.replicate (1 - (lg_sl ([.ref h0])).length) Slot.unset).toArray = ls at hl ⊢
  have hl : lv_has ls 1 [(0, .ref h0)] := hl
  refine lv_aload_n hx hb dX12_init_0 rfl (lv_at hl 0 rfl) ?_
  refine W.objInit hx hb hown (hts _ kw_101) (hts _ kw_1) (hts _ kw_2) rfl (by rw [hml]; exact hl.1) rfl dX12_init_1 (Nat.le_of_ble_eq_true rfl) (Nat.le_of_ble_eq_true rfl) ?_
  refine W.eq (g2 := F0 m 4 ls []) rfl ?_
  refine lv_aload_n hx hb dX12_init_4 rfl (lv_at hl 0 rfl) ?_
  refine va_new (ci := 0) (fs := dfX0) (C := RX0) (T := TX0) (N := 2) hx hb hts inX0 tyX0 tyX0_ok hown (hts _ kw_102) (hts _ kw_48) (hts _ kw_49) hK hP hD hS hA rfl dfX0_ok (Nat.le_of_ble_eq_true rfl) (Nat.le_of_ble_eq_true rfl) dX12_init_5 (fun q_1 H hP hD hS => ?_)
  have hP : va_P (dC, dI) cl0 [(h0, .inr (10, dfX12)), (q_1, .inr (0, dfX0))] H := hP
  have hD : va_D A [(h0, .inr (10, dfX12)), (q_1, .inr (0, dfX0))] := hD
  refine W.widen (k := 1) (n := 2) (Nat.le_of_ble_eq_true rfl) (Nat.le_of_ble_eq_true rfl) ?_
  refine lv_dup hx hb dX12_init_8 rfl ?_
  have hPc := hP.sub (ws' := [(q_1, .inr (0, dfX0))]) [1] rfl
  have hDc := hD.sub (ws' := [(q_1, .inr (0, dfX0))]) [1] (by decide) rfl
  have hKc := hK.sub (tys' := []) [] rfl
  have hFc := va_free (wc := [(q_1, .inr (0, dfX0))]) hD hS hA [1] rfl
  refine va_callv (va_runIN (As := []) (rest := [.ref q_1, .ref h0]) ⟨hx, hb, hml, hown, hts⟩ (m_X0_init l dC dI H.size q_1 ) ⟨va_cnB 0 hts (gd_I kw_50) rfl rfl rfl (nw_of (by exact nn_X12_9) hex) (hts _ kw_49) (by decide +kernel) ⟨Nat.le_of_ble_eq_true rfl, Nat.le_of_ble_eq_true rfl⟩, rfl, hts _ kw_51⟩ ⟨st_blind, fun U hU hW9 => st_mk hU hW9 hPc hKc hDc hex⟩ rfl rfl hl.1 rfl (lv_room (Nat.le_of_ble_eq_true rfl)) dX12_init_9 ⟨Nat.le_of_ble_eq_true rfl, Nat.le_of_ble_eq_true rfl⟩) hS (fun q _ h => hFc q h) hFc (fun  u9 t9 H1 locs ht9 hvm9 hw9 hB9 hz9 hk9 hS => ?_)
  obtain ⟨fs1_2, hd_3, cB_4, L_fs1_2, g_fs1_2_0, g_fs1_2_1, hP1, hK1, hD1⟩ := hB9
  rw [ht9] at hP1
  have hK1 := va_K.moved hvm9.symm hK1
  obtain ⟨hP, hD⟩ := va_join (wr := [(h0, .inr (10, dfX12))]) (w1 := [(q_1, .inr (0, fs1_2)), (hd_3, .inl (cB_4, 64, .inl (fun _ => 0)))]) hP hD [1] [0] rfl rfl (by decide) (by decide) hk9 hFc hP1 hD1
  have hK := (hK.sub (tys' := []) [] rfl).app hK1
  generalize H1 = H at hP hS ⊢
  have hP : va_P (dC, dI) cl0 [(h0, .inr (10, dfX12)), (q_1, .inr (0, fs1_2)), (hd_3, .inl (cB_4, 64, .inl (fun _ => 0)))] H := hP
  have hD : va_D A [(h0, .inr (10, dfX12)), (q_1, .inr (0, fs1_2)), (hd_3, .inl (cB_4, 64, .inl (fun _ => 0)))] := hD
  have hK : va_K (dC, dI) cl0 [(cB_4, .byte)] s := hK
  refine W.widen (k := 2) (n := 66) (by omega) (by omega) ?_
  refine va_putF (D := (dC, dI)) (ci := 10) (v := .ref q_1) (ty := (.object "CodeFoundry$Bytes")) (C := RX12) (T := TX12) (N := 18) hx hb hts inX12 tyX12 tyX12_ok nmX12 hown hK hP hD hS 0 rfl rfl 0 (by decide) (hts _ kw_103) (fun _ h9 => h9) rfl hin rfl (by decide +kernel) rfl rfl (by rw [L_dfX12]; decide) dX12_init_12 (fun H locs hP hD hS => ?_)
  obtain ⟨dfX12_5, e_dfX12_5⟩ : ∃ z, z = dfX12.set 0 (.ref q_1) := ⟨_, rfl⟩
  have hP : va_P (dC, dI) cl0 [(h0, .inr (10, dfX12_5)), (q_1, .inr (0, fs1_2)), (hd_3, .inl (cB_4, 64, .inl (fun _ => 0)))] H := by rw [e_dfX12_5]; exact hP
  have hD : va_D A [(h0, .inr (10, dfX12_5)), (q_1, .inr (0, fs1_2)), (hd_3, .inl (cB_4, 64, .inl (fun _ => 0)))] := by rw [e_dfX12_5]; exact hD
  have L_dfX12_5 : dfX12_5.length = 18 := fx_len e_dfX12_5 L_dfX12
  have g_dfX12_5_10 := fx_ne (j := 10) e_dfX12_5 g_dfX12_10 (by decide)
  have g_dfX12_5_11 := fx_ne (j := 11) e_dfX12_5 g_dfX12_11 (by decide)
  have g_dfX12_5_12 := fx_ne (j := 12) e_dfX12_5 g_dfX12_12 (by decide)
  have g_dfX12_5_13 := fx_ne (j := 13) e_dfX12_5 g_dfX12_13 (by decide)
  have g_dfX12_5_0 := fx_self e_dfX12_5 (by rw [L_dfX12]; decide)
  refine lv_aload_n hx hb dX12_init_15 rfl (lv_at hl 0 rfl) ?_
  refine va_new (ci := 0) (fs := dfX0) (C := RX0) (T := TX0) (N := 2) hx hb hts inX0 tyX0 tyX0_ok hown (hts _ kw_102) (hts _ kw_48) (hts _ kw_49) hK hP hD hS hA rfl dfX0_ok (Nat.le_of_ble_eq_true rfl) (Nat.le_of_ble_eq_true rfl) dX12_init_16 (fun q_6 H hP hD hS => ?_)
  have hP : va_P (dC, dI) cl0 [(h0, .inr (10, dfX12_5)), (q_1, .inr (0, fs1_2)), (hd_3, .inl (cB_4, 64, .inl (fun _ => 0))), (q_6, .inr (0, dfX0))] H := hP
  have hD : va_D A [(h0, .inr (10, dfX12_5)), (q_1, .inr (0, fs1_2)), (hd_3, .inl (cB_4, 64, .inl (fun _ => 0))), (q_6, .inr (0, dfX0))] := hD
  refine W.widen (k := 3) (n := 68) (Nat.le_of_ble_eq_true rfl) (Nat.le_of_ble_eq_true rfl) ?_
  refine lv_dup hx hb dX12_init_19 rfl ?_
  have hPc := hP.sub (ws' := [(q_6, .inr (0, dfX0))]) [3] rfl
  have hDc := hD.sub (ws' := [(q_6, .inr (0, dfX0))]) [3] (by decide) rfl
  have hKc := hK.sub (tys' := []) [] rfl
  have hFc := va_free (wc := [(q_6, .inr (0, dfX0))]) hD hS hA [3] rfl
  refine va_callv (va_runIN (As := []) (rest := [.ref q_6, .ref h0]) ⟨hx, hb, hml, hown, hts⟩ (m_X0_init l dC dI H.size q_6 ) ⟨va_cnB 0 hts (gd_I kw_50) rfl rfl rfl (nw_of (by exact nn_X12_9) hex) (hts _ kw_49) (by decide +kernel) ⟨Nat.le_of_ble_eq_true rfl, Nat.le_of_ble_eq_true rfl⟩, rfl, hts _ kw_51⟩ ⟨st_blind, fun U hU hW9 => st_mk hU hW9 hPc hKc hDc hex⟩ rfl rfl hl.1 rfl (lv_room (Nat.le_of_ble_eq_true rfl)) dX12_init_20 ⟨Nat.le_of_ble_eq_true rfl, Nat.le_of_ble_eq_true rfl⟩) hS (fun q _ h => hFc q h) hFc (fun  u9 t9 H1 locs ht9 hvm9 hw9 hB9 hz9 hk9 hS => ?_)
  obtain ⟨fs1_7, hd_8, cB_9, L_fs1_7, g_fs1_7_0, g_fs1_7_1, hP1, hK1, hD1⟩ := hB9
  rw [ht9] at hP1
  have hK1 := va_K.moved hvm9.symm hK1
  obtain ⟨hP, hD⟩ := va_join (wr := [(h0, .inr (10, dfX12_5)), (q_1, .inr (0, fs1_2)), (hd_3, .inl (cB_4, 64, .inl (fun _ => 0)))]) (w1 := [(q_6, .inr (0, fs1_7)), (hd_8, .inl (cB_9, 64, .inl (fun _ => 0)))]) hP hD [3] [0, 1, 2] rfl rfl (by decide) (by decide) hk9 hFc hP1 hD1
  have hK := (hK.sub (tys' := [(cB_4, .byte)]) [0] rfl).app hK1
  generalize H1 = H at hP hS ⊢
  have hP : va_P (dC, dI) cl0 [(h0, .inr (10, dfX12_5)), (q_1, .inr (0, fs1_2)), (hd_3, .inl (cB_4, 64, .inl (fun _ => 0))), (q_6, .inr (0, fs1_7)), (hd_8, .inl (cB_9, 64, .inl (fun _ => 0)))] H := hP
  have hD : va_D A [(h0, .inr (10, dfX12_5)), (q_1, .inr (0, fs1_2)), (hd_3, .inl (cB_4, 64, .inl (fun _ => 0))), (q_6, .inr (0, fs1_7)), (hd_8, .inl (cB_9, 64, .inl (fun _ => 0)))] := hD
  have hK : va_K (dC, dI) cl0 [(cB_4, .byte), (cB_9, .byte)] s := hK
  refine W.widen (k := 4) (n := 132) (by omega) (by omega) ?_
  refine va_putF (D := (dC, dI)) (ci := 10) (v := .ref q_6) (ty := (.object "CodeFoundry$Bytes")) (C := RX12) (T := TX12) (N := 18) hx hb hts inX12 tyX12 tyX12_ok nmX12 hown hK hP hD hS 0 rfl rfl 1 (by decide) (hts _ kw_104) (fun _ h9 => h9) rfl hin rfl (by decide +kernel) rfl rfl (by rw [L_dfX12_5]; decide) dX12_init_23 (fun H locs hP hD hS => ?_)
  obtain ⟨dfX12_10, e_dfX12_10⟩ : ∃ z, z = dfX12_5.set 1 (.ref q_6) := ⟨_, rfl⟩
  have hP : va_P (dC, dI) cl0 [(h0, .inr (10, dfX12_10)), (q_1, .inr (0, fs1_2)), (hd_3, .inl (cB_4, 64, .inl (fun _ => 0))), (q_6, .inr (0, fs1_7)), (hd_8, .inl (cB_9, 64, .inl (fun _ => 0)))] H := by rw [e_dfX12_10]; exact hP
  have hD : va_D A [(h0, .inr (10, dfX12_10)), (q_1, .inr (0, fs1_2)), (hd_3, .inl (cB_4, 64, .inl (fun _ => 0))), (q_6, .inr (0, fs1_7)), (hd_8, .inl (cB_9, 64, .inl (fun _ => 0)))] := by rw [e_dfX12_10]; exact hD
  have L_dfX12_10 : dfX12_10.length = 18 := fx_len e_dfX12_10 L_dfX12_5
  have g_dfX12_10_10 := fx_ne (j := 10) e_dfX12_10 g_dfX12_5_10 (by decide)
  have g_dfX12_10_11 := fx_ne (j := 11) e_dfX12_10 g_dfX12_5_11 (by decide)
  have g_dfX12_10_12 := fx_ne (j := 12) e_dfX12_10 g_dfX12_5_12 (by decide)
  have g_dfX12_10_13 := fx_ne (j := 13) e_dfX12_10 g_dfX12_5_13 (by decide)
  have g_dfX12_10_0 := fx_ne (j := 0) e_dfX12_10 g_dfX12_5_0 (by decide)
  have g_dfX12_10_1 := fx_self e_dfX12_10 (by rw [L_dfX12_5]; decide)
  refine lv_aload_n hx hb dX12_init_26 rfl (lv_at hl 0 rfl) ?_
  refine va_new (ci := 0) (fs := dfX0) (C := RX0) (T := TX0) (N := 2) hx hb hts inX0 tyX0 tyX0_ok hown (hts _ kw_102) (hts _ kw_48) (hts _ kw_49) hK hP hD hS hA rfl dfX0_ok (Nat.le_of_ble_eq_true rfl) (Nat.le_of_ble_eq_true rfl) dX12_init_27 (fun q_11 H hP hD hS => ?_)
  have hP : va_P (dC, dI) cl0 [(h0, .inr (10, dfX12_10)), (q_1, .inr (0, fs1_2)), (hd_3, .inl (cB_4, 64, .inl (fun _ => 0))), (q_6, .inr (0, fs1_7)), (hd_8, .inl (cB_9, 64, .inl (fun _ => 0))), (q_11, .inr (0, dfX0))] H := hP
  have hD : va_D A [(h0, .inr (10, dfX12_10)), (q_1, .inr (0, fs1_2)), (hd_3, .inl (cB_4, 64, .inl (fun _ => 0))), (q_6, .inr (0, fs1_7)), (hd_8, .inl (cB_9, 64, .inl (fun _ => 0))), (q_11, .inr (0, dfX0))] := hD
  refine W.widen (k := 5) (n := 134) (Nat.le_of_ble_eq_true rfl) (Nat.le_of_ble_eq_true rfl) ?_
  refine lv_dup hx hb dX12_init_30 rfl ?_
  have hPc := hP.sub (ws' := [(q_11, .inr (0, dfX0))]) [5] rfl
  have hDc := hD.sub (ws' := [(q_11, .inr (0, dfX0))]) [5] (by decide) rfl
  have hKc := hK.sub (tys' := []) [] rfl
  have hFc := va_free (wc := [(q_11, .inr (0, dfX0))]) hD hS hA [5] rfl
  refine va_callv (va_runIN (As := []) (rest := [.ref q_11, .ref h0]) ⟨hx, hb, hml, hown, hts⟩ (m_X0_init l dC dI H.size q_11 ) ⟨va_cnB 0 hts (gd_I kw_50) rfl rfl rfl (nw_of (by exact nn_X12_9) hex) (hts _ kw_49) (by decide +kernel) ⟨Nat.le_of_ble_eq_true rfl, Nat.le_of_ble_eq_true rfl⟩, rfl, hts _ kw_51⟩ ⟨st_blind, fun U hU hW9 => st_mk hU hW9 hPc hKc hDc hex⟩ rfl rfl hl.1 rfl (lv_room (Nat.le_of_ble_eq_true rfl)) dX12_init_31 ⟨Nat.le_of_ble_eq_true rfl, Nat.le_of_ble_eq_true rfl⟩) hS (fun q _ h => hFc q h) hFc (fun  u9 t9 H1 locs ht9 hvm9 hw9 hB9 hz9 hk9 hS => ?_)
  obtain ⟨fs1_12, hd_13, cB_14, L_fs1_12, g_fs1_12_0, g_fs1_12_1, hP1, hK1, hD1⟩ := hB9
  rw [ht9] at hP1
  have hK1 := va_K.moved hvm9.symm hK1
  obtain ⟨hP, hD⟩ := va_join (wr := [(h0, .inr (10, dfX12_10)), (q_1, .inr (0, fs1_2)), (hd_3, .inl (cB_4, 64, .inl (fun _ => 0))), (q_6, .inr (0, fs1_7)), (hd_8, .inl (cB_9, 64, .inl (fun _ => 0)))]) (w1 := [(q_11, .inr (0, fs1_12)), (hd_13, .inl (cB_14, 64, .inl (fun _ => 0)))]) hP hD [5] [0, 1, 2, 3, 4] rfl rfl (by decide) (by decide) hk9 hFc hP1 hD1
  have hK := (hK.sub (tys' := [(cB_4, .byte), (cB_9, .byte)]) [0, 1] rfl).app hK1
  generalize H1 = H at hP hS ⊢
  have hP : va_P (dC, dI) cl0 [(h0, .inr (10, dfX12_10)), (q_1, .inr (0, fs1_2)), (hd_3, .inl (cB_4, 64, .inl (fun _ => 0))), (q_6, .inr (0, fs1_7)), (hd_8, .inl (cB_9, 64, .inl (fun _ => 0))), (q_11, .inr (0, fs1_12)), (hd_13, .inl (cB_14, 64, .inl (fun _ => 0)))] H := hP
  have hD : va_D A [(h0, .inr (10, dfX12_10)), (q_1, .inr (0, fs1_2)), (hd_3, .inl (cB_4, 64, .inl (fun _ => 0))), (q_6, .inr (0, fs1_7)), (hd_8, .inl (cB_9, 64, .inl (fun _ => 0))), (q_11, .inr (0, fs1_12)), (hd_13, .inl (cB_14, 64, .inl (fun _ => 0)))] := hD
  have hK : va_K (dC, dI) cl0 [(cB_4, .byte), (cB_9, .byte), (cB_14, .byte)] s := hK
  refine W.widen (k := 6) (n := 198) (by omega) (by omega) ?_
  refine va_putF (D := (dC, dI)) (ci := 10) (v := .ref q_11) (ty := (.object "CodeFoundry$Bytes")) (C := RX12) (T := TX12) (N := 18) hx hb hts inX12 tyX12 tyX12_ok nmX12 hown hK hP hD hS 0 rfl rfl 2 (by decide) (hts _ kw_105) (fun _ h9 => h9) rfl hin rfl (by decide +kernel) rfl rfl (by rw [L_dfX12_10]; decide) dX12_init_34 (fun H locs hP hD hS => ?_)
  obtain ⟨dfX12_15, e_dfX12_15⟩ : ∃ z, z = dfX12_10.set 2 (.ref q_11) := ⟨_, rfl⟩
  have hP : va_P (dC, dI) cl0 [(h0, .inr (10, dfX12_15)), (q_1, .inr (0, fs1_2)), (hd_3, .inl (cB_4, 64, .inl (fun _ => 0))), (q_6, .inr (0, fs1_7)), (hd_8, .inl (cB_9, 64, .inl (fun _ => 0))), (q_11, .inr (0, fs1_12)), (hd_13, .inl (cB_14, 64, .inl (fun _ => 0)))] H := by rw [e_dfX12_15]; exact hP
  have hD : va_D A [(h0, .inr (10, dfX12_15)), (q_1, .inr (0, fs1_2)), (hd_3, .inl (cB_4, 64, .inl (fun _ => 0))), (q_6, .inr (0, fs1_7)), (hd_8, .inl (cB_9, 64, .inl (fun _ => 0))), (q_11, .inr (0, fs1_12)), (hd_13, .inl (cB_14, 64, .inl (fun _ => 0)))] := by rw [e_dfX12_15]; exact hD
  have L_dfX12_15 : dfX12_15.length = 18 := fx_len e_dfX12_15 L_dfX12_10
  have g_dfX12_15_10 := fx_ne (j := 10) e_dfX12_15 g_dfX12_10_10 (by decide)
  have g_dfX12_15_11 := fx_ne (j := 11) e_dfX12_15 g_dfX12_10_11 (by decide)
  have g_dfX12_15_12 := fx_ne (j := 12) e_dfX12_15 g_dfX12_10_12 (by decide)
  have g_dfX12_15_13 := fx_ne (j := 13) e_dfX12_15 g_dfX12_10_13 (by decide)
  have g_dfX12_15_0 := fx_ne (j := 0) e_dfX12_15 g_dfX12_10_0 (by decide)
  have g_dfX12_15_1 := fx_ne (j := 1) e_dfX12_15 g_dfX12_10_1 (by decide)
  refine lv_aload_n hx hb dX12_init_37 rfl (lv_at hl 0 rfl) ?_
  refine lv_bipush (v := 12) hx hb dX12_init_38 (by decide) ?_
  refine va_newq (C := "CodeFoundry$Unit") (N' := 12) hx hb hown (hts _ kw_106) (ao_of (by exact ao_CodeFoundry_Unit) hex) hK hP hD hS hA (by decide) (by decide) (by decide) (Nat.le_of_ble_eq_true rfl) (Nat.le_of_ble_eq_true rfl) dX12_init_40 (fun q_16 cA_17 H hK hP hD hS => ?_)
  have hP := hP.sub (ws' := [(h0, .inr (10, dfX12_15)), (q_1, .inr (0, fs1_2)), (hd_3, .inl (cB_4, 64, .inl (fun _ => 0))), (q_6, .inr (0, fs1_7)), (hd_8, .inl (cB_9, 64, .inl (fun _ => 0))), (q_11, .inr (0, fs1_12)), (hd_13, .inl (cB_14, 64, .inl (fun _ => 0)))]) [0, 1, 2, 3, 4, 5, 6] rfl
  have hD := hD.sub (ws' := [(h0, .inr (10, dfX12_15)), (q_1, .inr (0, fs1_2)), (hd_3, .inl (cB_4, 64, .inl (fun _ => 0))), (q_6, .inr (0, fs1_7)), (hd_8, .inl (cB_9, 64, .inl (fun _ => 0))), (q_11, .inr (0, fs1_12)), (hd_13, .inl (cB_14, 64, .inl (fun _ => 0)))]) [0, 1, 2, 3, 4, 5, 6] (by decide) rfl
  have hK := hK.sub (tys' := [(cB_4, .byte), (cB_9, .byte), (cB_14, .byte)]) [0, 1, 2] rfl
  refine W.widen (k := 7) (n := 210) (Nat.le_of_ble_eq_true rfl) (Nat.le_of_ble_eq_true rfl) ?_
  refine va_putF (D := (dC, dI)) (ci := 10) (v := .ref q_16) (ty := (.array (.object "CodeFoundry$Unit"))) (C := RX12) (T := TX12) (N := 18) hx hb hts inX12 tyX12 tyX12_ok nmX12 hown hK hP hD hS 0 rfl rfl 3 (by decide) (hts _ kw_107) (fun _ h9 => h9) rfl hin rfl (by decide +kernel) rfl rfl (by rw [L_dfX12_15]; decide) dX12_init_43 (fun H locs hP hD hS => ?_)
  obtain ⟨dfX12_18, e_dfX12_18⟩ : ∃ z, z = dfX12_15.set 3 (.ref q_16) := ⟨_, rfl⟩
  have hP : va_P (dC, dI) cl0 [(h0, .inr (10, dfX12_18)), (q_1, .inr (0, fs1_2)), (hd_3, .inl (cB_4, 64, .inl (fun _ => 0))), (q_6, .inr (0, fs1_7)), (hd_8, .inl (cB_9, 64, .inl (fun _ => 0))), (q_11, .inr (0, fs1_12)), (hd_13, .inl (cB_14, 64, .inl (fun _ => 0)))] H := by rw [e_dfX12_18]; exact hP
  have hD : va_D A [(h0, .inr (10, dfX12_18)), (q_1, .inr (0, fs1_2)), (hd_3, .inl (cB_4, 64, .inl (fun _ => 0))), (q_6, .inr (0, fs1_7)), (hd_8, .inl (cB_9, 64, .inl (fun _ => 0))), (q_11, .inr (0, fs1_12)), (hd_13, .inl (cB_14, 64, .inl (fun _ => 0)))] := by rw [e_dfX12_18]; exact hD
  have L_dfX12_18 : dfX12_18.length = 18 := fx_len e_dfX12_18 L_dfX12_15
  have g_dfX12_18_10 := fx_ne (j := 10) e_dfX12_18 g_dfX12_15_10 (by decide)
  have g_dfX12_18_11 := fx_ne (j := 11) e_dfX12_18 g_dfX12_15_11 (by decide)
  have g_dfX12_18_12 := fx_ne (j := 12) e_dfX12_18 g_dfX12_15_12 (by decide)
  have g_dfX12_18_13 := fx_ne (j := 13) e_dfX12_18 g_dfX12_15_13 (by decide)
  have g_dfX12_18_0 := fx_ne (j := 0) e_dfX12_18 g_dfX12_15_0 (by decide)
  have g_dfX12_18_1 := fx_ne (j := 1) e_dfX12_18 g_dfX12_15_1 (by decide)
  refine lv_aload_n hx hb dX12_init_46 rfl (lv_at hl 0 rfl) ?_
  refine va_new (ci := 2) (fs := dfX2) (C := RX2) (T := TX2) (N := 12) hx hb hts inX2 tyX2 tyX2_ok hown (hts _ kw_108) (hts _ kw_109) (hts _ kw_110) hK hP hD hS hA rfl dfX2_ok (Nat.le_of_ble_eq_true rfl) (Nat.le_of_ble_eq_true rfl) dX12_init_47 (fun q_19 H hP hD hS => ?_)
  have hP : va_P (dC, dI) cl0 [(h0, .inr (10, dfX12_18)), (q_1, .inr (0, fs1_2)), (hd_3, .inl (cB_4, 64, .inl (fun _ => 0))), (q_6, .inr (0, fs1_7)), (hd_8, .inl (cB_9, 64, .inl (fun _ => 0))), (q_11, .inr (0, fs1_12)), (hd_13, .inl (cB_14, 64, .inl (fun _ => 0))), (q_19, .inr (2, dfX2))] H := hP
  have hD : va_D A [(h0, .inr (10, dfX12_18)), (q_1, .inr (0, fs1_2)), (hd_3, .inl (cB_4, 64, .inl (fun _ => 0))), (q_6, .inr (0, fs1_7)), (hd_8, .inl (cB_9, 64, .inl (fun _ => 0))), (q_11, .inr (0, fs1_12)), (hd_13, .inl (cB_14, 64, .inl (fun _ => 0))), (q_19, .inr (2, dfX2))] := hD
  refine W.widen (k := 8) (n := 222) (Nat.le_of_ble_eq_true rfl) (Nat.le_of_ble_eq_true rfl) ?_
  refine lv_dup hx hb dX12_init_50 rfl ?_
  have hPc := hP.sub (ws' := [(q_19, .inr (2, dfX2))]) [7] rfl
  have hDc := hD.sub (ws' := [(q_19, .inr (2, dfX2))]) [7] (by decide) rfl
  have hKc := hK.sub (tys' := []) [] rfl
  have hFc := va_free (wc := [(q_19, .inr (2, dfX2))]) hD hS hA [7] rfl
  refine va_callv (va_runIN (As := []) (rest := [.ref q_19, .ref h0]) ⟨hx, hb, hml, hown, hts⟩ (m_X2_init l dC dI H.size q_19 ) ⟨va_cnB 0 hts (gd_I kw_111) rfl rfl rfl (nw_of (by exact nn_X12_30) hex) (hts _ kw_110) (by decide +kernel) ⟨Nat.le_of_ble_eq_true rfl, Nat.le_of_ble_eq_true rfl⟩, rfl, hts _ kw_112⟩ ⟨st_blind, fun U hU hW9 => st_mk hU hW9 hPc hKc hDc hex⟩ rfl rfl hl.1 rfl (lv_room (Nat.le_of_ble_eq_true rfl)) dX12_init_51 ⟨Nat.le_of_ble_eq_true rfl, Nat.le_of_ble_eq_true rfl⟩) hS (fun q _ h => hFc q h) hFc (fun  u9 t9 H1 locs ht9 hvm9 hw9 hB9 hz9 hk9 hS => ?_)
  obtain ⟨fs1_20, hr_21, fs2_22, L_fs1_20, g_fs1_20_0, L_fs2_22, hP1, hK1, hD1⟩ := hB9
  rw [ht9] at hP1
  have hK1 := va_K.moved hvm9.symm hK1
  obtain ⟨hP, hD⟩ := va_join (wr := [(h0, .inr (10, dfX12_18)), (q_1, .inr (0, fs1_2)), (hd_3, .inl (cB_4, 64, .inl (fun _ => 0))), (q_6, .inr (0, fs1_7)), (hd_8, .inl (cB_9, 64, .inl (fun _ => 0))), (q_11, .inr (0, fs1_12)), (hd_13, .inl (cB_14, 64, .inl (fun _ => 0)))]) (w1 := [(q_19, .inr (2, fs1_20)), (hr_21, .inr (6, fs2_22))]) hP hD [7] [0, 1, 2, 3, 4, 5, 6] rfl rfl (by decide) (by decide) hk9 hFc hP1 hD1
  have hK := (hK.sub (tys' := [(cB_4, .byte), (cB_9, .byte), (cB_14, .byte)]) [0, 1, 2] rfl).app hK1
  generalize H1 = H at hP hS ⊢
  have hP : va_P (dC, dI) cl0 [(h0, .inr (10, dfX12_18)), (q_1, .inr (0, fs1_2)), (hd_3, .inl (cB_4, 64, .inl (fun _ => 0))), (q_6, .inr (0, fs1_7)), (hd_8, .inl (cB_9, 64, .inl (fun _ => 0))), (q_11, .inr (0, fs1_12)), (hd_13, .inl (cB_14, 64, .inl (fun _ => 0))), (q_19, .inr (2, fs1_20)), (hr_21, .inr (6, fs2_22))] H := hP
  have hD : va_D A [(h0, .inr (10, dfX12_18)), (q_1, .inr (0, fs1_2)), (hd_3, .inl (cB_4, 64, .inl (fun _ => 0))), (q_6, .inr (0, fs1_7)), (hd_8, .inl (cB_9, 64, .inl (fun _ => 0))), (q_11, .inr (0, fs1_12)), (hd_13, .inl (cB_14, 64, .inl (fun _ => 0))), (q_19, .inr (2, fs1_20)), (hr_21, .inr (6, fs2_22))] := hD
  have hK : va_K (dC, dI) cl0 [(cB_4, .byte), (cB_9, .byte), (cB_14, .byte)] s := hK
  refine W.widen (k := 15) (n := 2036) (by omega) (by omega) ?_
  refine va_putF (D := (dC, dI)) (ci := 10) (v := .ref q_19) (ty := (.object "CodeFoundry$CodeReader")) (C := RX12) (T := TX12) (N := 18) hx hb hts inX12 tyX12 tyX12_ok nmX12 hown hK hP hD hS 0 rfl rfl 4 (by decide) (hts _ kw_113) (fun _ h9 => h9) rfl hin rfl (by decide +kernel) rfl rfl (by rw [L_dfX12_18]; decide) dX12_init_54 (fun H locs hP hD hS => ?_)
  obtain ⟨dfX12_23, e_dfX12_23⟩ : ∃ z, z = dfX12_18.set 4 (.ref q_19) := ⟨_, rfl⟩
  have hP : va_P (dC, dI) cl0 [(h0, .inr (10, dfX12_23)), (q_1, .inr (0, fs1_2)), (hd_3, .inl (cB_4, 64, .inl (fun _ => 0))), (q_6, .inr (0, fs1_7)), (hd_8, .inl (cB_9, 64, .inl (fun _ => 0))), (q_11, .inr (0, fs1_12)), (hd_13, .inl (cB_14, 64, .inl (fun _ => 0))), (q_19, .inr (2, fs1_20)), (hr_21, .inr (6, fs2_22))] H := by rw [e_dfX12_23]; exact hP
  have hD : va_D A [(h0, .inr (10, dfX12_23)), (q_1, .inr (0, fs1_2)), (hd_3, .inl (cB_4, 64, .inl (fun _ => 0))), (q_6, .inr (0, fs1_7)), (hd_8, .inl (cB_9, 64, .inl (fun _ => 0))), (q_11, .inr (0, fs1_12)), (hd_13, .inl (cB_14, 64, .inl (fun _ => 0))), (q_19, .inr (2, fs1_20)), (hr_21, .inr (6, fs2_22))] := by rw [e_dfX12_23]; exact hD
  have L_dfX12_23 : dfX12_23.length = 18 := fx_len e_dfX12_23 L_dfX12_18
  have g_dfX12_23_10 := fx_ne (j := 10) e_dfX12_23 g_dfX12_18_10 (by decide)
  have g_dfX12_23_11 := fx_ne (j := 11) e_dfX12_23 g_dfX12_18_11 (by decide)
  have g_dfX12_23_12 := fx_ne (j := 12) e_dfX12_23 g_dfX12_18_12 (by decide)
  have g_dfX12_23_13 := fx_ne (j := 13) e_dfX12_23 g_dfX12_18_13 (by decide)
  have g_dfX12_23_0 := fx_ne (j := 0) e_dfX12_23 g_dfX12_18_0 (by decide)
  have g_dfX12_23_1 := fx_ne (j := 1) e_dfX12_23 g_dfX12_18_1 (by decide)
  have g_dfX12_23_4 := fx_self e_dfX12_23 (by rw [L_dfX12_18]; decide)
  refine lv_aload_n hx hb dX12_init_57 rfl (lv_at hl 0 rfl) ?_
  refine va_new (ci := 1) (fs := dfX1) (C := RX1) (T := TX1) (N := 10) hx hb hts inX1 tyX1 tyX1_ok hown (hts _ kw_114) (hts _ kw_115) (hts _ kw_116) hK hP hD hS hA rfl dfX1_ok (Nat.le_of_ble_eq_true rfl) (Nat.le_of_ble_eq_true rfl) dX12_init_58 (fun q_24 H hP hD hS => ?_)
  have hP : va_P (dC, dI) cl0 [(h0, .inr (10, dfX12_23)), (q_1, .inr (0, fs1_2)), (hd_3, .inl (cB_4, 64, .inl (fun _ => 0))), (q_6, .inr (0, fs1_7)), (hd_8, .inl (cB_9, 64, .inl (fun _ => 0))), (q_11, .inr (0, fs1_12)), (hd_13, .inl (cB_14, 64, .inl (fun _ => 0))), (q_19, .inr (2, fs1_20)), (hr_21, .inr (6, fs2_22)), (q_24, .inr (1, dfX1))] H := hP
  have hD : va_D A [(h0, .inr (10, dfX12_23)), (q_1, .inr (0, fs1_2)), (hd_3, .inl (cB_4, 64, .inl (fun _ => 0))), (q_6, .inr (0, fs1_7)), (hd_8, .inl (cB_9, 64, .inl (fun _ => 0))), (q_11, .inr (0, fs1_12)), (hd_13, .inl (cB_14, 64, .inl (fun _ => 0))), (q_19, .inr (2, fs1_20)), (hr_21, .inr (6, fs2_22)), (q_24, .inr (1, dfX1))] := hD
  refine W.widen (k := 16) (n := 2046) (Nat.le_of_ble_eq_true rfl) (Nat.le_of_ble_eq_true rfl) ?_
  refine lv_dup hx hb dX12_init_61 rfl ?_
  have hPc := hP.sub (ws' := [(q_24, .inr (1, dfX1))]) [9] rfl
  have hDc := hD.sub (ws' := [(q_24, .inr (1, dfX1))]) [9] (by decide) rfl
  have hKc := hK.sub (tys' := []) [] rfl
  have hFc := va_free (wc := [(q_24, .inr (1, dfX1))]) hD hS hA [9] rfl
  refine va_callv (va_runIN (As := []) (rest := [.ref q_24, .ref h0]) ⟨hx, hb, hml, hown, hts⟩ (m_X1_init l dC dI H.size q_24 ) ⟨va_cnB 0 hts (gd_I kw_117) rfl rfl rfl (nw_of (by exact nn_X12_37) hex) (hts _ kw_116) (by decide +kernel) ⟨Nat.le_of_ble_eq_true rfl, Nat.le_of_ble_eq_true rfl⟩, rfl, hts _ kw_118⟩ ⟨st_blind, fun U hU hW9 => st_mk hU hW9 hPc hKc hDc hex⟩ rfl rfl hl.1 rfl (lv_room (Nat.le_of_ble_eq_true rfl)) dX12_init_62 ⟨Nat.le_of_ble_eq_true rfl, Nat.le_of_ble_eq_true rfl⟩) hS (fun q _ h => hFc q h) hFc (fun  u9 t9 H1 locs ht9 hvm9 hw9 hB9 hz9 hk9 hS => ?_)
  have hP1 : va_P (dC, dI) cl0 [] H1 := fun k q h => by simp at h
  have hD1 : va_D (va_A [(q_24, .inr (1, dfX1))] H.size) [] := ⟨fun i j p q h => by simp at h, fun k q h => by simp at h⟩
  obtain ⟨hP, hD⟩ := va_join (wr := [(h0, .inr (10, dfX12_23)), (q_1, .inr (0, fs1_2)), (hd_3, .inl (cB_4, 64, .inl (fun _ => 0))), (q_6, .inr (0, fs1_7)), (hd_8, .inl (cB_9, 64, .inl (fun _ => 0))), (q_11, .inr (0, fs1_12)), (hd_13, .inl (cB_14, 64, .inl (fun _ => 0))), (q_19, .inr (2, fs1_20)), (hr_21, .inr (6, fs2_22))]) (w1 := []) hP hD [9] [0, 1, 2, 3, 4, 5, 6, 7, 8] rfl rfl (by decide) (by decide) hk9 hFc hP1 hD1
  generalize H1 = H at hP hS ⊢
  have hP : va_P (dC, dI) cl0 [(h0, .inr (10, dfX12_23)), (q_1, .inr (0, fs1_2)), (hd_3, .inl (cB_4, 64, .inl (fun _ => 0))), (q_6, .inr (0, fs1_7)), (hd_8, .inl (cB_9, 64, .inl (fun _ => 0))), (q_11, .inr (0, fs1_12)), (hd_13, .inl (cB_14, 64, .inl (fun _ => 0))), (q_19, .inr (2, fs1_20)), (hr_21, .inr (6, fs2_22))] H := hP
  have hD : va_D A [(h0, .inr (10, dfX12_23)), (q_1, .inr (0, fs1_2)), (hd_3, .inl (cB_4, 64, .inl (fun _ => 0))), (q_6, .inr (0, fs1_7)), (hd_8, .inl (cB_9, 64, .inl (fun _ => 0))), (q_11, .inr (0, fs1_12)), (hd_13, .inl (cB_14, 64, .inl (fun _ => 0))), (q_19, .inr (2, fs1_20)), (hr_21, .inr (6, fs2_22))] := hD
  refine W.widen (k := 24) (n := 2102) (by omega) (by omega) ?_
  refine va_putF (D := (dC, dI)) (ci := 10) (v := .ref q_24) (ty := (.object "CodeFoundry$Checker")) (C := RX12) (T := TX12) (N := 18) hx hb hts inX12 tyX12 tyX12_ok nmX12 hown hK hP hD hS 0 rfl rfl 5 (by decide) (hts _ kw_119) (fun _ h9 => h9) rfl hin rfl (by decide +kernel) rfl rfl (by rw [L_dfX12_23]; decide) dX12_init_65 (fun H locs hP hD hS => ?_)
  obtain ⟨dfX12_25, e_dfX12_25⟩ : ∃ z, z = dfX12_23.set 5 (.ref q_24) := ⟨_, rfl⟩
  have hP : va_P (dC, dI) cl0 [(h0, .inr (10, dfX12_25)), (q_1, .inr (0, fs1_2)), (hd_3, .inl (cB_4, 64, .inl (fun _ => 0))), (q_6, .inr (0, fs1_7)), (hd_8, .inl (cB_9, 64, .inl (fun _ => 0))), (q_11, .inr (0, fs1_12)), (hd_13, .inl (cB_14, 64, .inl (fun _ => 0))), (q_19, .inr (2, fs1_20)), (hr_21, .inr (6, fs2_22))] H := by rw [e_dfX12_25]; exact hP
  have hD : va_D A [(h0, .inr (10, dfX12_25)), (q_1, .inr (0, fs1_2)), (hd_3, .inl (cB_4, 64, .inl (fun _ => 0))), (q_6, .inr (0, fs1_7)), (hd_8, .inl (cB_9, 64, .inl (fun _ => 0))), (q_11, .inr (0, fs1_12)), (hd_13, .inl (cB_14, 64, .inl (fun _ => 0))), (q_19, .inr (2, fs1_20)), (hr_21, .inr (6, fs2_22))] := by rw [e_dfX12_25]; exact hD
  have L_dfX12_25 : dfX12_25.length = 18 := fx_len e_dfX12_25 L_dfX12_23
  have g_dfX12_25_10 := fx_ne (j := 10) e_dfX12_25 g_dfX12_23_10 (by decide)
  have g_dfX12_25_11 := fx_ne (j := 11) e_dfX12_25 g_dfX12_23_11 (by decide)
  have g_dfX12_25_12 := fx_ne (j := 12) e_dfX12_25 g_dfX12_23_12 (by decide)
  have g_dfX12_25_13 := fx_ne (j := 13) e_dfX12_25 g_dfX12_23_13 (by decide)
  have g_dfX12_25_0 := fx_ne (j := 0) e_dfX12_25 g_dfX12_23_0 (by decide)
  have g_dfX12_25_1 := fx_ne (j := 1) e_dfX12_25 g_dfX12_23_1 (by decide)
  have g_dfX12_25_4 := fx_ne (j := 4) e_dfX12_25 g_dfX12_23_4 (by decide)
  refine lv_aload_n hx hb dX12_init_68 rfl (lv_at hl 0 rfl) ?_
  refine va_new (ci := 9) (fs := dfX11) (C := RX11) (T := TX11) (N := 18) hx hb hts inX11 tyX11 tyX11_ok hown (hts _ kw_120) (hts _ kw_121) (hts _ kw_122) hK hP hD hS hA rfl dfX11_ok (Nat.le_of_ble_eq_true rfl) (Nat.le_of_ble_eq_true rfl) dX12_init_69 (fun q_26 H hP hD hS => ?_)
  have hP : va_P (dC, dI) cl0 [(h0, .inr (10, dfX12_25)), (q_1, .inr (0, fs1_2)), (hd_3, .inl (cB_4, 64, .inl (fun _ => 0))), (q_6, .inr (0, fs1_7)), (hd_8, .inl (cB_9, 64, .inl (fun _ => 0))), (q_11, .inr (0, fs1_12)), (hd_13, .inl (cB_14, 64, .inl (fun _ => 0))), (q_19, .inr (2, fs1_20)), (hr_21, .inr (6, fs2_22)), (q_26, .inr (9, dfX11))] H := hP
  have hD : va_D A [(h0, .inr (10, dfX12_25)), (q_1, .inr (0, fs1_2)), (hd_3, .inl (cB_4, 64, .inl (fun _ => 0))), (q_6, .inr (0, fs1_7)), (hd_8, .inl (cB_9, 64, .inl (fun _ => 0))), (q_11, .inr (0, fs1_12)), (hd_13, .inl (cB_14, 64, .inl (fun _ => 0))), (q_19, .inr (2, fs1_20)), (hr_21, .inr (6, fs2_22)), (q_26, .inr (9, dfX11))] := hD
  refine W.widen (k := 25) (n := 2120) (Nat.le_of_ble_eq_true rfl) (Nat.le_of_ble_eq_true rfl) ?_
  refine lv_dup hx hb dX12_init_72 rfl ?_
  have hPc := hP.sub (ws' := [(q_26, .inr (9, dfX11))]) [9] rfl
  have hDc := hD.sub (ws' := [(q_26, .inr (9, dfX11))]) [9] (by decide) rfl
  have hKc := hK.sub (tys' := []) [] rfl
  have hFc := va_free (wc := [(q_26, .inr (9, dfX11))]) hD hS hA [9] rfl
  refine va_callv (va_runIN (As := []) (rest := [.ref q_26, .ref h0]) ⟨hx, hb, hml, hown, hts⟩ (m_X11_init l dC dI H.size q_26 ) ⟨va_cnB 0 hts (gd_I kw_123) rfl rfl rfl (nw_of (by exact nn_X12_44) hex) (hts _ kw_122) (by decide +kernel) ⟨Nat.le_of_ble_eq_true rfl, Nat.le_of_ble_eq_true rfl⟩, rfl, hts _ kw_124⟩ ⟨st_blind, fun U hU hW9 => st_mk hU hW9 hPc hKc hDc hex⟩ rfl rfl hl.1 rfl (lv_room (Nat.le_of_ble_eq_true rfl)) dX12_init_73 ⟨Nat.le_of_ble_eq_true rfl, Nat.le_of_ble_eq_true rfl⟩) hS (fun q _ h => hFc q h) hFc (fun  u9 t9 H1 locs ht9 hvm9 hw9 hB9 hz9 hk9 hS => ?_)
  have hP1 : va_P (dC, dI) cl0 [] H1 := fun k q h => by simp at h
  have hD1 : va_D (va_A [(q_26, .inr (9, dfX11))] H.size) [] := ⟨fun i j p q h => by simp at h, fun k q h => by simp at h⟩
  obtain ⟨hP, hD⟩ := va_join (wr := [(h0, .inr (10, dfX12_25)), (q_1, .inr (0, fs1_2)), (hd_3, .inl (cB_4, 64, .inl (fun _ => 0))), (q_6, .inr (0, fs1_7)), (hd_8, .inl (cB_9, 64, .inl (fun _ => 0))), (q_11, .inr (0, fs1_12)), (hd_13, .inl (cB_14, 64, .inl (fun _ => 0))), (q_19, .inr (2, fs1_20)), (hr_21, .inr (6, fs2_22))]) (w1 := []) hP hD [9] [0, 1, 2, 3, 4, 5, 6, 7, 8] rfl rfl (by decide) (by decide) hk9 hFc hP1 hD1
  generalize H1 = H at hP hS ⊢
  have hP : va_P (dC, dI) cl0 [(h0, .inr (10, dfX12_25)), (q_1, .inr (0, fs1_2)), (hd_3, .inl (cB_4, 64, .inl (fun _ => 0))), (q_6, .inr (0, fs1_7)), (hd_8, .inl (cB_9, 64, .inl (fun _ => 0))), (q_11, .inr (0, fs1_12)), (hd_13, .inl (cB_14, 64, .inl (fun _ => 0))), (q_19, .inr (2, fs1_20)), (hr_21, .inr (6, fs2_22))] H := hP
  have hD : va_D A [(h0, .inr (10, dfX12_25)), (q_1, .inr (0, fs1_2)), (hd_3, .inl (cB_4, 64, .inl (fun _ => 0))), (q_6, .inr (0, fs1_7)), (hd_8, .inl (cB_9, 64, .inl (fun _ => 0))), (q_11, .inr (0, fs1_12)), (hd_13, .inl (cB_14, 64, .inl (fun _ => 0))), (q_19, .inr (2, fs1_20)), (hr_21, .inr (6, fs2_22))] := hD
  refine W.widen (k := 43) (n := 3422) (by omega) (by omega) ?_
  refine va_putF (D := (dC, dI)) (ci := 10) (v := .ref q_26) (ty := (.object "CodeFoundry$Writer")) (C := RX12) (T := TX12) (N := 18) hx hb hts inX12 tyX12 tyX12_ok nmX12 hown hK hP hD hS 0 rfl rfl 6 (by decide) (hts _ kw_125) (fun _ h9 => h9) rfl hin rfl (by decide +kernel) rfl rfl (by rw [L_dfX12_25]; decide) dX12_init_76 (fun H locs hP hD hS => ?_)
  obtain ⟨dfX12_27, e_dfX12_27⟩ : ∃ z, z = dfX12_25.set 6 (.ref q_26) := ⟨_, rfl⟩
  have hP : va_P (dC, dI) cl0 [(h0, .inr (10, dfX12_27)), (q_1, .inr (0, fs1_2)), (hd_3, .inl (cB_4, 64, .inl (fun _ => 0))), (q_6, .inr (0, fs1_7)), (hd_8, .inl (cB_9, 64, .inl (fun _ => 0))), (q_11, .inr (0, fs1_12)), (hd_13, .inl (cB_14, 64, .inl (fun _ => 0))), (q_19, .inr (2, fs1_20)), (hr_21, .inr (6, fs2_22))] H := by rw [e_dfX12_27]; exact hP
  have hD : va_D A [(h0, .inr (10, dfX12_27)), (q_1, .inr (0, fs1_2)), (hd_3, .inl (cB_4, 64, .inl (fun _ => 0))), (q_6, .inr (0, fs1_7)), (hd_8, .inl (cB_9, 64, .inl (fun _ => 0))), (q_11, .inr (0, fs1_12)), (hd_13, .inl (cB_14, 64, .inl (fun _ => 0))), (q_19, .inr (2, fs1_20)), (hr_21, .inr (6, fs2_22))] := by rw [e_dfX12_27]; exact hD
  have L_dfX12_27 : dfX12_27.length = 18 := fx_len e_dfX12_27 L_dfX12_25
  have g_dfX12_27_10 := fx_ne (j := 10) e_dfX12_27 g_dfX12_25_10 (by decide)
  have g_dfX12_27_11 := fx_ne (j := 11) e_dfX12_27 g_dfX12_25_11 (by decide)
  have g_dfX12_27_12 := fx_ne (j := 12) e_dfX12_27 g_dfX12_25_12 (by decide)
  have g_dfX12_27_13 := fx_ne (j := 13) e_dfX12_27 g_dfX12_25_13 (by decide)
  have g_dfX12_27_0 := fx_ne (j := 0) e_dfX12_27 g_dfX12_25_0 (by decide)
  have g_dfX12_27_1 := fx_ne (j := 1) e_dfX12_27 g_dfX12_25_1 (by decide)
  have g_dfX12_27_4 := fx_ne (j := 4) e_dfX12_27 g_dfX12_25_4 (by decide)
  refine lv_aload_n hx hb dX12_init_79 rfl (lv_at hl 0 rfl) ?_
  refine va_new (ci := 5) (fs := dfX5) (C := RX5) (T := TX5) (N := 20) hx hb hts inX5 tyX5 tyX5_ok hown (hts _ kw_126) (hts _ kw_127) (hts _ kw_128) hK hP hD hS hA rfl dfX5_ok (Nat.le_of_ble_eq_true rfl) (Nat.le_of_ble_eq_true rfl) dX12_init_80 (fun q_28 H hP hD hS => ?_)
  have hP : va_P (dC, dI) cl0 [(h0, .inr (10, dfX12_27)), (q_1, .inr (0, fs1_2)), (hd_3, .inl (cB_4, 64, .inl (fun _ => 0))), (q_6, .inr (0, fs1_7)), (hd_8, .inl (cB_9, 64, .inl (fun _ => 0))), (q_11, .inr (0, fs1_12)), (hd_13, .inl (cB_14, 64, .inl (fun _ => 0))), (q_19, .inr (2, fs1_20)), (hr_21, .inr (6, fs2_22)), (q_28, .inr (5, dfX5))] H := hP
  have hD : va_D A [(h0, .inr (10, dfX12_27)), (q_1, .inr (0, fs1_2)), (hd_3, .inl (cB_4, 64, .inl (fun _ => 0))), (q_6, .inr (0, fs1_7)), (hd_8, .inl (cB_9, 64, .inl (fun _ => 0))), (q_11, .inr (0, fs1_12)), (hd_13, .inl (cB_14, 64, .inl (fun _ => 0))), (q_19, .inr (2, fs1_20)), (hr_21, .inr (6, fs2_22)), (q_28, .inr (5, dfX5))] := hD
  refine W.widen (k := 44) (n := 3442) (Nat.le_of_ble_eq_true rfl) (Nat.le_of_ble_eq_true rfl) ?_
  refine lv_dup hx hb dX12_init_83 rfl ?_
  have hPc := hP.sub (ws' := [(q_28, .inr (5, dfX5))]) [9] rfl
  have hDc := hD.sub (ws' := [(q_28, .inr (5, dfX5))]) [9] (by decide) rfl
  have hKc := hK.sub (tys' := []) [] rfl
  have hFc := va_free (wc := [(q_28, .inr (5, dfX5))]) hD hS hA [9] rfl
  refine va_callv (va_runIN (As := []) (rest := [.ref q_28, .ref h0]) ⟨hx, hb, hml, hown, hts⟩ (m_X5_init l dC dI H.size q_28 ) ⟨va_cnB 0 hts (gd_I kw_129) rfl rfl rfl (nw_of (by exact nn_X12_51) hex) (hts _ kw_128) (by decide +kernel) ⟨Nat.le_of_ble_eq_true rfl, Nat.le_of_ble_eq_true rfl⟩, rfl, hts _ kw_130⟩ ⟨st_blind, fun U hU hW9 => st_mk hU hW9 hPc hKc hDc hex⟩ rfl rfl hl.1 rfl (lv_room (Nat.le_of_ble_eq_true rfl)) dX12_init_84 ⟨Nat.le_of_ble_eq_true rfl, Nat.le_of_ble_eq_true rfl⟩) hS (fun q _ h => hFc q h) hFc (fun  u9 t9 H1 locs ht9 hvm9 hw9 hB9 hz9 hk9 hS => ?_)
  obtain ⟨fs1_29, ha_30, cJ_31, L_fs1_29, g_fs1_29_0, g_fs1_29_5, g_fs1_29_6, g_fs1_29_7, g_fs1_29_16, g_fs1_29_17, g_fs1_29_18, g_fs1_29_19, hP1, hK1, hD1⟩ := hB9
  rw [ht9] at hP1
  have hK1 := va_K.moved hvm9.symm hK1
  obtain ⟨hP, hD⟩ := va_join (wr := [(h0, .inr (10, dfX12_27)), (q_1, .inr (0, fs1_2)), (hd_3, .inl (cB_4, 64, .inl (fun _ => 0))), (q_6, .inr (0, fs1_7)), (hd_8, .inl (cB_9, 64, .inl (fun _ => 0))), (q_11, .inr (0, fs1_12)), (hd_13, .inl (cB_14, 64, .inl (fun _ => 0))), (q_19, .inr (2, fs1_20)), (hr_21, .inr (6, fs2_22))]) (w1 := [(q_28, .inr (5, fs1_29)), (ha_30, .inl (cJ_31, 8, .inr (.inl (fun _ => 0))))]) hP hD [9] [0, 1, 2, 3, 4, 5, 6, 7, 8] rfl rfl (by decide) (by decide) hk9 hFc hP1 hD1
  have hK := (hK.sub (tys' := [(cB_4, .byte), (cB_9, .byte), (cB_14, .byte)]) [0, 1, 2] rfl).app hK1
  generalize H1 = H at hP hS ⊢
  have hP : va_P (dC, dI) cl0 [(h0, .inr (10, dfX12_27)), (q_1, .inr (0, fs1_2)), (hd_3, .inl (cB_4, 64, .inl (fun _ => 0))), (q_6, .inr (0, fs1_7)), (hd_8, .inl (cB_9, 64, .inl (fun _ => 0))), (q_11, .inr (0, fs1_12)), (hd_13, .inl (cB_14, 64, .inl (fun _ => 0))), (q_19, .inr (2, fs1_20)), (hr_21, .inr (6, fs2_22)), (q_28, .inr (5, fs1_29)), (ha_30, .inl (cJ_31, 8, .inr (.inl (fun _ => 0))))] H := hP
  have hD : va_D A [(h0, .inr (10, dfX12_27)), (q_1, .inr (0, fs1_2)), (hd_3, .inl (cB_4, 64, .inl (fun _ => 0))), (q_6, .inr (0, fs1_7)), (hd_8, .inl (cB_9, 64, .inl (fun _ => 0))), (q_11, .inr (0, fs1_12)), (hd_13, .inl (cB_14, 64, .inl (fun _ => 0))), (q_19, .inr (2, fs1_20)), (hr_21, .inr (6, fs2_22)), (q_28, .inr (5, fs1_29)), (ha_30, .inl (cJ_31, 8, .inr (.inl (fun _ => 0))))] := hD
  have hK : va_K (dC, dI) cl0 [(cB_4, .byte), (cB_9, .byte), (cB_14, .byte), (cJ_31, .long)] s := hK
  refine W.widen (k := 51) (n := 3662) (by omega) (by omega) ?_
  refine va_putF (D := (dC, dI)) (ci := 10) (v := .ref q_28) (ty := (.object "CodeFoundry$Machine")) (C := RX12) (T := TX12) (N := 18) hx hb hts inX12 tyX12 tyX12_ok nmX12 hown hK hP hD hS 0 rfl rfl 7 (by decide) (hts _ kw_131) (fun _ h9 => h9) rfl hin rfl (by decide +kernel) rfl rfl (by rw [L_dfX12_27]; decide) dX12_init_87 (fun H locs hP hD hS => ?_)
  obtain ⟨dfX12_32, e_dfX12_32⟩ : ∃ z, z = dfX12_27.set 7 (.ref q_28) := ⟨_, rfl⟩
  have hP : va_P (dC, dI) cl0 [(h0, .inr (10, dfX12_32)), (q_1, .inr (0, fs1_2)), (hd_3, .inl (cB_4, 64, .inl (fun _ => 0))), (q_6, .inr (0, fs1_7)), (hd_8, .inl (cB_9, 64, .inl (fun _ => 0))), (q_11, .inr (0, fs1_12)), (hd_13, .inl (cB_14, 64, .inl (fun _ => 0))), (q_19, .inr (2, fs1_20)), (hr_21, .inr (6, fs2_22)), (q_28, .inr (5, fs1_29)), (ha_30, .inl (cJ_31, 8, .inr (.inl (fun _ => 0))))] H := by rw [e_dfX12_32]; exact hP
  have hD : va_D A [(h0, .inr (10, dfX12_32)), (q_1, .inr (0, fs1_2)), (hd_3, .inl (cB_4, 64, .inl (fun _ => 0))), (q_6, .inr (0, fs1_7)), (hd_8, .inl (cB_9, 64, .inl (fun _ => 0))), (q_11, .inr (0, fs1_12)), (hd_13, .inl (cB_14, 64, .inl (fun _ => 0))), (q_19, .inr (2, fs1_20)), (hr_21, .inr (6, fs2_22)), (q_28, .inr (5, fs1_29)), (ha_30, .inl (cJ_31, 8, .inr (.inl (fun _ => 0))))] := by rw [e_dfX12_32]; exact hD
  have L_dfX12_32 : dfX12_32.length = 18 := fx_len e_dfX12_32 L_dfX12_27
  have g_dfX12_32_10 := fx_ne (j := 10) e_dfX12_32 g_dfX12_27_10 (by decide)
  have g_dfX12_32_11 := fx_ne (j := 11) e_dfX12_32 g_dfX12_27_11 (by decide)
  have g_dfX12_32_12 := fx_ne (j := 12) e_dfX12_32 g_dfX12_27_12 (by decide)
  have g_dfX12_32_13 := fx_ne (j := 13) e_dfX12_32 g_dfX12_27_13 (by decide)
  have g_dfX12_32_0 := fx_ne (j := 0) e_dfX12_32 g_dfX12_27_0 (by decide)
  have g_dfX12_32_1 := fx_ne (j := 1) e_dfX12_32 g_dfX12_27_1 (by decide)
  have g_dfX12_32_4 := fx_ne (j := 4) e_dfX12_32 g_dfX12_27_4 (by decide)
  have g_dfX12_32_7 := fx_self e_dfX12_32 (by rw [L_dfX12_27]; decide)
  refine lv_aload_n hx hb dX12_init_90 rfl (lv_at hl 0 rfl) ?_
  refine va_new (ci := 3) (fs := dfX3) (C := RX3) (T := TX3) (N := 16) hx hb hts inX3 tyX3 tyX3_ok hown (hts _ kw_132) (hts _ kw_133) (hts _ kw_134) hK hP hD hS hA rfl dfX3_ok (Nat.le_of_ble_eq_true rfl) (Nat.le_of_ble_eq_true rfl) dX12_init_91 (fun q_33 H hP hD hS => ?_)
  have hP : va_P (dC, dI) cl0 [(h0, .inr (10, dfX12_32)), (q_1, .inr (0, fs1_2)), (hd_3, .inl (cB_4, 64, .inl (fun _ => 0))), (q_6, .inr (0, fs1_7)), (hd_8, .inl (cB_9, 64, .inl (fun _ => 0))), (q_11, .inr (0, fs1_12)), (hd_13, .inl (cB_14, 64, .inl (fun _ => 0))), (q_19, .inr (2, fs1_20)), (hr_21, .inr (6, fs2_22)), (q_28, .inr (5, fs1_29)), (ha_30, .inl (cJ_31, 8, .inr (.inl (fun _ => 0)))), (q_33, .inr (3, dfX3))] H := hP
  have hD : va_D A [(h0, .inr (10, dfX12_32)), (q_1, .inr (0, fs1_2)), (hd_3, .inl (cB_4, 64, .inl (fun _ => 0))), (q_6, .inr (0, fs1_7)), (hd_8, .inl (cB_9, 64, .inl (fun _ => 0))), (q_11, .inr (0, fs1_12)), (hd_13, .inl (cB_14, 64, .inl (fun _ => 0))), (q_19, .inr (2, fs1_20)), (hr_21, .inr (6, fs2_22)), (q_28, .inr (5, fs1_29)), (ha_30, .inl (cJ_31, 8, .inr (.inl (fun _ => 0)))), (q_33, .inr (3, dfX3))] := hD
  refine W.widen (k := 52) (n := 3678) (Nat.le_of_ble_eq_true rfl) (Nat.le_of_ble_eq_true rfl) ?_
  refine lv_dup hx hb dX12_init_94 rfl ?_
  have hPc := hP.sub (ws' := [(q_33, .inr (3, dfX3))]) [11] rfl
  have hDc := hD.sub (ws' := [(q_33, .inr (3, dfX3))]) [11] (by decide) rfl
  have hKc := hK.sub (tys' := []) [] rfl
  have hFc := va_free (wc := [(q_33, .inr (3, dfX3))]) hD hS hA [11] rfl
  refine va_callv (va_runIN (As := []) (rest := [.ref q_33, .ref h0]) ⟨hx, hb, hml, hown, hts⟩ (m_X3_init l dC dI H.size q_33 ) ⟨va_cnB 0 hts (gd_I kw_135) rfl rfl rfl (nw_of (by exact nn_X12_58) hex) (hts _ kw_134) (by decide +kernel) ⟨Nat.le_of_ble_eq_true rfl, Nat.le_of_ble_eq_true rfl⟩, rfl, hts _ kw_136⟩ ⟨st_blind, fun U hU hW9 => st_mk hU hW9 hPc hKc hDc hex⟩ rfl rfl hl.1 rfl (lv_room (Nat.le_of_ble_eq_true rfl)) dX12_init_95 ⟨Nat.le_of_ble_eq_true rfl, Nat.le_of_ble_eq_true rfl⟩) hS (fun q _ h => hFc q h) hFc (fun  u9 t9 H1 locs ht9 hvm9 hw9 hB9 hz9 hk9 hS => ?_)
  have hP1 : va_P (dC, dI) cl0 [] H1 := fun k q h => by simp at h
  have hD1 : va_D (va_A [(q_33, .inr (3, dfX3))] H.size) [] := ⟨fun i j p q h => by simp at h, fun k q h => by simp at h⟩
  obtain ⟨hP, hD⟩ := va_join (wr := [(h0, .inr (10, dfX12_32)), (q_1, .inr (0, fs1_2)), (hd_3, .inl (cB_4, 64, .inl (fun _ => 0))), (q_6, .inr (0, fs1_7)), (hd_8, .inl (cB_9, 64, .inl (fun _ => 0))), (q_11, .inr (0, fs1_12)), (hd_13, .inl (cB_14, 64, .inl (fun _ => 0))), (q_19, .inr (2, fs1_20)), (hr_21, .inr (6, fs2_22)), (q_28, .inr (5, fs1_29)), (ha_30, .inl (cJ_31, 8, .inr (.inl (fun _ => 0))))]) (w1 := []) hP hD [11] [0, 1, 2, 3, 4, 5, 6, 7, 8, 9, 10] rfl rfl (by decide) (by decide) hk9 hFc hP1 hD1
  generalize H1 = H at hP hS ⊢
  have hP : va_P (dC, dI) cl0 [(h0, .inr (10, dfX12_32)), (q_1, .inr (0, fs1_2)), (hd_3, .inl (cB_4, 64, .inl (fun _ => 0))), (q_6, .inr (0, fs1_7)), (hd_8, .inl (cB_9, 64, .inl (fun _ => 0))), (q_11, .inr (0, fs1_12)), (hd_13, .inl (cB_14, 64, .inl (fun _ => 0))), (q_19, .inr (2, fs1_20)), (hr_21, .inr (6, fs2_22)), (q_28, .inr (5, fs1_29)), (ha_30, .inl (cJ_31, 8, .inr (.inl (fun _ => 0))))] H := hP
  have hD : va_D A [(h0, .inr (10, dfX12_32)), (q_1, .inr (0, fs1_2)), (hd_3, .inl (cB_4, 64, .inl (fun _ => 0))), (q_6, .inr (0, fs1_7)), (hd_8, .inl (cB_9, 64, .inl (fun _ => 0))), (q_11, .inr (0, fs1_12)), (hd_13, .inl (cB_14, 64, .inl (fun _ => 0))), (q_19, .inr (2, fs1_20)), (hr_21, .inr (6, fs2_22)), (q_28, .inr (5, fs1_29)), (ha_30, .inl (cJ_31, 8, .inr (.inl (fun _ => 0))))] := hD
  refine W.widen (k := 65) (n := 3694) (by omega) (by omega) ?_
  refine va_putF (D := (dC, dI)) (ci := 10) (v := .ref q_33) (ty := (.object "CodeFoundry$Graph")) (C := RX12) (T := TX12) (N := 18) hx hb hts inX12 tyX12 tyX12_ok nmX12 hown hK hP hD hS 0 rfl rfl 8 (by decide) (hts _ kw_137) (fun _ h9 => h9) rfl hin rfl (by decide +kernel) rfl rfl (by rw [L_dfX12_32]; decide) dX12_init_98 (fun H locs hP hD hS => ?_)
  obtain ⟨dfX12_34, e_dfX12_34⟩ : ∃ z, z = dfX12_32.set 8 (.ref q_33) := ⟨_, rfl⟩
  have hP : va_P (dC, dI) cl0 [(h0, .inr (10, dfX12_34)), (q_1, .inr (0, fs1_2)), (hd_3, .inl (cB_4, 64, .inl (fun _ => 0))), (q_6, .inr (0, fs1_7)), (hd_8, .inl (cB_9, 64, .inl (fun _ => 0))), (q_11, .inr (0, fs1_12)), (hd_13, .inl (cB_14, 64, .inl (fun _ => 0))), (q_19, .inr (2, fs1_20)), (hr_21, .inr (6, fs2_22)), (q_28, .inr (5, fs1_29)), (ha_30, .inl (cJ_31, 8, .inr (.inl (fun _ => 0))))] H := by rw [e_dfX12_34]; exact hP
  have hD : va_D A [(h0, .inr (10, dfX12_34)), (q_1, .inr (0, fs1_2)), (hd_3, .inl (cB_4, 64, .inl (fun _ => 0))), (q_6, .inr (0, fs1_7)), (hd_8, .inl (cB_9, 64, .inl (fun _ => 0))), (q_11, .inr (0, fs1_12)), (hd_13, .inl (cB_14, 64, .inl (fun _ => 0))), (q_19, .inr (2, fs1_20)), (hr_21, .inr (6, fs2_22)), (q_28, .inr (5, fs1_29)), (ha_30, .inl (cJ_31, 8, .inr (.inl (fun _ => 0))))] := by rw [e_dfX12_34]; exact hD
  have L_dfX12_34 : dfX12_34.length = 18 := fx_len e_dfX12_34 L_dfX12_32
  have g_dfX12_34_10 := fx_ne (j := 10) e_dfX12_34 g_dfX12_32_10 (by decide)
  have g_dfX12_34_11 := fx_ne (j := 11) e_dfX12_34 g_dfX12_32_11 (by decide)
  have g_dfX12_34_12 := fx_ne (j := 12) e_dfX12_34 g_dfX12_32_12 (by decide)
  have g_dfX12_34_13 := fx_ne (j := 13) e_dfX12_34 g_dfX12_32_13 (by decide)
  have g_dfX12_34_0 := fx_ne (j := 0) e_dfX12_34 g_dfX12_32_0 (by decide)
  have g_dfX12_34_1 := fx_ne (j := 1) e_dfX12_34 g_dfX12_32_1 (by decide)
  have g_dfX12_34_4 := fx_ne (j := 4) e_dfX12_34 g_dfX12_32_4 (by decide)
  have g_dfX12_34_7 := fx_ne (j := 7) e_dfX12_34 g_dfX12_32_7 (by decide)
  refine lv_aload_n hx hb dX12_init_101 rfl (lv_at hl 0 rfl) ?_
  refine va_new (ci := 8) (fs := dfX9) (C := RX9) (T := TX9) (N := 6) hx hb hts inX9 tyX9 tyX9_ok hown (hts _ kw_138) (hts _ kw_139) (hts _ kw_140) hK hP hD hS hA rfl dfX9_ok (Nat.le_of_ble_eq_true rfl) (Nat.le_of_ble_eq_true rfl) dX12_init_102 (fun q_35 H hP hD hS => ?_)
  have hP : va_P (dC, dI) cl0 [(h0, .inr (10, dfX12_34)), (q_1, .inr (0, fs1_2)), (hd_3, .inl (cB_4, 64, .inl (fun _ => 0))), (q_6, .inr (0, fs1_7)), (hd_8, .inl (cB_9, 64, .inl (fun _ => 0))), (q_11, .inr (0, fs1_12)), (hd_13, .inl (cB_14, 64, .inl (fun _ => 0))), (q_19, .inr (2, fs1_20)), (hr_21, .inr (6, fs2_22)), (q_28, .inr (5, fs1_29)), (ha_30, .inl (cJ_31, 8, .inr (.inl (fun _ => 0)))), (q_35, .inr (8, dfX9))] H := hP
  have hD : va_D A [(h0, .inr (10, dfX12_34)), (q_1, .inr (0, fs1_2)), (hd_3, .inl (cB_4, 64, .inl (fun _ => 0))), (q_6, .inr (0, fs1_7)), (hd_8, .inl (cB_9, 64, .inl (fun _ => 0))), (q_11, .inr (0, fs1_12)), (hd_13, .inl (cB_14, 64, .inl (fun _ => 0))), (q_19, .inr (2, fs1_20)), (hr_21, .inr (6, fs2_22)), (q_28, .inr (5, fs1_29)), (ha_30, .inl (cJ_31, 8, .inr (.inl (fun _ => 0)))), (q_35, .inr (8, dfX9))] := hD
  refine W.widen (k := 66) (n := 3700) (Nat.le_of_ble_eq_true rfl) (Nat.le_of_ble_eq_true rfl) ?_
  refine lv_dup hx hb dX12_init_105 rfl ?_
  have hPc := hP.sub (ws' := [(q_35, .inr (8, dfX9))]) [11] rfl
  have hDc := hD.sub (ws' := [(q_35, .inr (8, dfX9))]) [11] (by decide) rfl
  have hKc := hK.sub (tys' := []) [] rfl
  have hFc := va_free (wc := [(q_35, .inr (8, dfX9))]) hD hS hA [11] rfl
  refine va_callv (va_runIN (As := []) (rest := [.ref q_35, .ref h0]) ⟨hx, hb, hml, hown, hts⟩ (m_X9_init l dC dI H.size q_35 ) ⟨va_cnB 0 hts (gd_I kw_141) rfl rfl rfl (nw_of (by exact nn_X12_65) hex) (hts _ kw_140) (by decide +kernel) ⟨Nat.le_of_ble_eq_true rfl, Nat.le_of_ble_eq_true rfl⟩, rfl, hts _ kw_142⟩ ⟨st_blind, fun U hU hW9 => st_mk hU hW9 hPc hKc hDc hex⟩ rfl rfl hl.1 rfl (lv_room (Nat.le_of_ble_eq_true rfl)) dX12_init_106 ⟨Nat.le_of_ble_eq_true rfl, Nat.le_of_ble_eq_true rfl⟩) hS (fun q _ h => hFc q h) hFc (fun  u9 t9 H1 locs ht9 hvm9 hw9 hB9 hz9 hk9 hS => ?_)
  obtain ⟨fs1_36, ha_37, cI_38, L_fs1_36, g_fs1_36_1, hP1, hK1, hD1⟩ := hB9
  rw [ht9] at hP1
  have hK1 := va_K.moved hvm9.symm hK1
  obtain ⟨hP, hD⟩ := va_join (wr := [(h0, .inr (10, dfX12_34)), (q_1, .inr (0, fs1_2)), (hd_3, .inl (cB_4, 64, .inl (fun _ => 0))), (q_6, .inr (0, fs1_7)), (hd_8, .inl (cB_9, 64, .inl (fun _ => 0))), (q_11, .inr (0, fs1_12)), (hd_13, .inl (cB_14, 64, .inl (fun _ => 0))), (q_19, .inr (2, fs1_20)), (hr_21, .inr (6, fs2_22)), (q_28, .inr (5, fs1_29)), (ha_30, .inl (cJ_31, 8, .inr (.inl (fun _ => 0))))]) (w1 := [(q_35, .inr (8, fs1_36)), (ha_37, .inl (cI_38, 12, .inl (fun _ => 0)))]) hP hD [11] [0, 1, 2, 3, 4, 5, 6, 7, 8, 9, 10] rfl rfl (by decide) (by decide) hk9 hFc hP1 hD1
  have hK := (hK.sub (tys' := [(cB_4, .byte), (cB_9, .byte), (cB_14, .byte), (cJ_31, .long)]) [0, 1, 2, 3] rfl).app hK1
  generalize H1 = H at hP hS ⊢
  have hP : va_P (dC, dI) cl0 [(h0, .inr (10, dfX12_34)), (q_1, .inr (0, fs1_2)), (hd_3, .inl (cB_4, 64, .inl (fun _ => 0))), (q_6, .inr (0, fs1_7)), (hd_8, .inl (cB_9, 64, .inl (fun _ => 0))), (q_11, .inr (0, fs1_12)), (hd_13, .inl (cB_14, 64, .inl (fun _ => 0))), (q_19, .inr (2, fs1_20)), (hr_21, .inr (6, fs2_22)), (q_28, .inr (5, fs1_29)), (ha_30, .inl (cJ_31, 8, .inr (.inl (fun _ => 0)))), (q_35, .inr (8, fs1_36)), (ha_37, .inl (cI_38, 12, .inl (fun _ => 0)))] H := hP
  have hD : va_D A [(h0, .inr (10, dfX12_34)), (q_1, .inr (0, fs1_2)), (hd_3, .inl (cB_4, 64, .inl (fun _ => 0))), (q_6, .inr (0, fs1_7)), (hd_8, .inl (cB_9, 64, .inl (fun _ => 0))), (q_11, .inr (0, fs1_12)), (hd_13, .inl (cB_14, 64, .inl (fun _ => 0))), (q_19, .inr (2, fs1_20)), (hr_21, .inr (6, fs2_22)), (q_28, .inr (5, fs1_29)), (ha_30, .inl (cJ_31, 8, .inr (.inl (fun _ => 0)))), (q_35, .inr (8, fs1_36)), (ha_37, .inl (cI_38, 12, .inl (fun _ => 0)))] := hD
  have hK : va_K (dC, dI) cl0 [(cB_4, .byte), (cB_9, .byte), (cB_14, .byte), (cJ_31, .long), (cI_38, .int)] s := hK
  refine W.widen (k := 79) (n := 3727) (by omega) (by omega) ?_
  refine va_putF (D := (dC, dI)) (ci := 10) (v := .ref q_35) (ty := (.object "CodeFoundry$Smith")) (C := RX12) (T := TX12) (N := 18) hx hb hts inX12 tyX12 tyX12_ok nmX12 hown hK hP hD hS 0 rfl rfl 9 (by decide) (hts _ kw_143) (fun _ h9 => h9) rfl hin rfl (by decide +kernel) rfl rfl (by rw [L_dfX12_34]; decide) dX12_init_109 (fun H locs hP hD hS => ?_)
  obtain ⟨dfX12_39, e_dfX12_39⟩ : ∃ z, z = dfX12_34.set 9 (.ref q_35) := ⟨_, rfl⟩
  have hP : va_P (dC, dI) cl0 [(h0, .inr (10, dfX12_39)), (q_1, .inr (0, fs1_2)), (hd_3, .inl (cB_4, 64, .inl (fun _ => 0))), (q_6, .inr (0, fs1_7)), (hd_8, .inl (cB_9, 64, .inl (fun _ => 0))), (q_11, .inr (0, fs1_12)), (hd_13, .inl (cB_14, 64, .inl (fun _ => 0))), (q_19, .inr (2, fs1_20)), (hr_21, .inr (6, fs2_22)), (q_28, .inr (5, fs1_29)), (ha_30, .inl (cJ_31, 8, .inr (.inl (fun _ => 0)))), (q_35, .inr (8, fs1_36)), (ha_37, .inl (cI_38, 12, .inl (fun _ => 0)))] H := by rw [e_dfX12_39]; exact hP
  have hD : va_D A [(h0, .inr (10, dfX12_39)), (q_1, .inr (0, fs1_2)), (hd_3, .inl (cB_4, 64, .inl (fun _ => 0))), (q_6, .inr (0, fs1_7)), (hd_8, .inl (cB_9, 64, .inl (fun _ => 0))), (q_11, .inr (0, fs1_12)), (hd_13, .inl (cB_14, 64, .inl (fun _ => 0))), (q_19, .inr (2, fs1_20)), (hr_21, .inr (6, fs2_22)), (q_28, .inr (5, fs1_29)), (ha_30, .inl (cJ_31, 8, .inr (.inl (fun _ => 0)))), (q_35, .inr (8, fs1_36)), (ha_37, .inl (cI_38, 12, .inl (fun _ => 0)))] := by rw [e_dfX12_39]; exact hD
  have L_dfX12_39 : dfX12_39.length = 18 := fx_len e_dfX12_39 L_dfX12_34
  have g_dfX12_39_10 := fx_ne (j := 10) e_dfX12_39 g_dfX12_34_10 (by decide)
  have g_dfX12_39_11 := fx_ne (j := 11) e_dfX12_39 g_dfX12_34_11 (by decide)
  have g_dfX12_39_12 := fx_ne (j := 12) e_dfX12_39 g_dfX12_34_12 (by decide)
  have g_dfX12_39_13 := fx_ne (j := 13) e_dfX12_39 g_dfX12_34_13 (by decide)
  have g_dfX12_39_0 := fx_ne (j := 0) e_dfX12_39 g_dfX12_34_0 (by decide)
  have g_dfX12_39_1 := fx_ne (j := 1) e_dfX12_39 g_dfX12_34_1 (by decide)
  have g_dfX12_39_4 := fx_ne (j := 4) e_dfX12_39 g_dfX12_34_4 (by decide)
  have g_dfX12_39_7 := fx_ne (j := 7) e_dfX12_39 g_dfX12_34_7 (by decide)
  have g_dfX12_39_9 := fx_self e_dfX12_39 (by rw [L_dfX12_34]; decide)
  refine lv_aload_n hx hb dX12_init_112 rfl (lv_at hl 0 rfl) ?_
  refine lv_iconst (v := (-1)) hx hb dX12_init_113 (by decide) ?_
  refine va_put (D := (dC, dI)) (ci := 10) (v := .int (-1)) (ty := .int) (C := RX12) (T := TX12) (N := 18) hx hb hts inX12 tyX12 tyX12_ok nmX12 hown hK hP hD hS 0 rfl rfl 14 (by decide) (hts _ kw_144) (fun _ h9 => h9) rfl (by decide +kernel) rfl rfl (by rw [L_dfX12_39]; decide) dX12_init_114 (fun H locs hP hD hS => ?_)
  obtain ⟨dfX12_40, e_dfX12_40⟩ : ∃ z, z = dfX12_39.set 14 (.int (-1)) := ⟨_, rfl⟩
  have hP : va_P (dC, dI) cl0 [(h0, .inr (10, dfX12_40)), (q_1, .inr (0, fs1_2)), (hd_3, .inl (cB_4, 64, .inl (fun _ => 0))), (q_6, .inr (0, fs1_7)), (hd_8, .inl (cB_9, 64, .inl (fun _ => 0))), (q_11, .inr (0, fs1_12)), (hd_13, .inl (cB_14, 64, .inl (fun _ => 0))), (q_19, .inr (2, fs1_20)), (hr_21, .inr (6, fs2_22)), (q_28, .inr (5, fs1_29)), (ha_30, .inl (cJ_31, 8, .inr (.inl (fun _ => 0)))), (q_35, .inr (8, fs1_36)), (ha_37, .inl (cI_38, 12, .inl (fun _ => 0)))] H := by rw [e_dfX12_40]; exact hP
  have hD : va_D A [(h0, .inr (10, dfX12_40)), (q_1, .inr (0, fs1_2)), (hd_3, .inl (cB_4, 64, .inl (fun _ => 0))), (q_6, .inr (0, fs1_7)), (hd_8, .inl (cB_9, 64, .inl (fun _ => 0))), (q_11, .inr (0, fs1_12)), (hd_13, .inl (cB_14, 64, .inl (fun _ => 0))), (q_19, .inr (2, fs1_20)), (hr_21, .inr (6, fs2_22)), (q_28, .inr (5, fs1_29)), (ha_30, .inl (cJ_31, 8, .inr (.inl (fun _ => 0)))), (q_35, .inr (8, fs1_36)), (ha_37, .inl (cI_38, 12, .inl (fun _ => 0)))] := by rw [e_dfX12_40]; exact hD
  have L_dfX12_40 : dfX12_40.length = 18 := fx_len e_dfX12_40 L_dfX12_39
  have g_dfX12_40_10 := fx_ne (j := 10) e_dfX12_40 g_dfX12_39_10 (by decide)
  have g_dfX12_40_11 := fx_ne (j := 11) e_dfX12_40 g_dfX12_39_11 (by decide)
  have g_dfX12_40_12 := fx_ne (j := 12) e_dfX12_40 g_dfX12_39_12 (by decide)
  have g_dfX12_40_13 := fx_ne (j := 13) e_dfX12_40 g_dfX12_39_13 (by decide)
  have g_dfX12_40_0 := fx_ne (j := 0) e_dfX12_40 g_dfX12_39_0 (by decide)
  have g_dfX12_40_1 := fx_ne (j := 1) e_dfX12_40 g_dfX12_39_1 (by decide)
  have g_dfX12_40_4 := fx_ne (j := 4) e_dfX12_40 g_dfX12_39_4 (by decide)
  have g_dfX12_40_7 := fx_ne (j := 7) e_dfX12_40 g_dfX12_39_7 (by decide)
  have g_dfX12_40_9 := fx_ne (j := 9) e_dfX12_40 g_dfX12_39_9 (by decide)
  have g_dfX12_40_14 := fx_self e_dfX12_40 (by rw [L_dfX12_39]; decide)
  refine lv_aload_n hx hb dX12_init_117 rfl (lv_at hl 0 rfl) ?_
  refine lv_iconst (v := (-1)) hx hb dX12_init_118 (by decide) ?_
  refine va_put (D := (dC, dI)) (ci := 10) (v := .int (-1)) (ty := .int) (C := RX12) (T := TX12) (N := 18) hx hb hts inX12 tyX12 tyX12_ok nmX12 hown hK hP hD hS 0 rfl rfl 15 (by decide) (hts _ kw_145) (fun _ h9 => h9) rfl (by decide +kernel) rfl rfl (by rw [L_dfX12_40]; decide) dX12_init_119 (fun H locs hP hD hS => ?_)
  obtain ⟨dfX12_41, e_dfX12_41⟩ : ∃ z, z = dfX12_40.set 15 (.int (-1)) := ⟨_, rfl⟩
  have hP : va_P (dC, dI) cl0 [(h0, .inr (10, dfX12_41)), (q_1, .inr (0, fs1_2)), (hd_3, .inl (cB_4, 64, .inl (fun _ => 0))), (q_6, .inr (0, fs1_7)), (hd_8, .inl (cB_9, 64, .inl (fun _ => 0))), (q_11, .inr (0, fs1_12)), (hd_13, .inl (cB_14, 64, .inl (fun _ => 0))), (q_19, .inr (2, fs1_20)), (hr_21, .inr (6, fs2_22)), (q_28, .inr (5, fs1_29)), (ha_30, .inl (cJ_31, 8, .inr (.inl (fun _ => 0)))), (q_35, .inr (8, fs1_36)), (ha_37, .inl (cI_38, 12, .inl (fun _ => 0)))] H := by rw [e_dfX12_41]; exact hP
  have hD : va_D A [(h0, .inr (10, dfX12_41)), (q_1, .inr (0, fs1_2)), (hd_3, .inl (cB_4, 64, .inl (fun _ => 0))), (q_6, .inr (0, fs1_7)), (hd_8, .inl (cB_9, 64, .inl (fun _ => 0))), (q_11, .inr (0, fs1_12)), (hd_13, .inl (cB_14, 64, .inl (fun _ => 0))), (q_19, .inr (2, fs1_20)), (hr_21, .inr (6, fs2_22)), (q_28, .inr (5, fs1_29)), (ha_30, .inl (cJ_31, 8, .inr (.inl (fun _ => 0)))), (q_35, .inr (8, fs1_36)), (ha_37, .inl (cI_38, 12, .inl (fun _ => 0)))] := by rw [e_dfX12_41]; exact hD
  have L_dfX12_41 : dfX12_41.length = 18 := fx_len e_dfX12_41 L_dfX12_40
  have g_dfX12_41_10 := fx_ne (j := 10) e_dfX12_41 g_dfX12_40_10 (by decide)
  have g_dfX12_41_11 := fx_ne (j := 11) e_dfX12_41 g_dfX12_40_11 (by decide)
  have g_dfX12_41_12 := fx_ne (j := 12) e_dfX12_41 g_dfX12_40_12 (by decide)
  have g_dfX12_41_13 := fx_ne (j := 13) e_dfX12_41 g_dfX12_40_13 (by decide)
  have g_dfX12_41_0 := fx_ne (j := 0) e_dfX12_41 g_dfX12_40_0 (by decide)
  have g_dfX12_41_1 := fx_ne (j := 1) e_dfX12_41 g_dfX12_40_1 (by decide)
  have g_dfX12_41_4 := fx_ne (j := 4) e_dfX12_41 g_dfX12_40_4 (by decide)
  have g_dfX12_41_7 := fx_ne (j := 7) e_dfX12_41 g_dfX12_40_7 (by decide)
  have g_dfX12_41_9 := fx_ne (j := 9) e_dfX12_41 g_dfX12_40_9 (by decide)
  have g_dfX12_41_14 := fx_ne (j := 14) e_dfX12_41 g_dfX12_40_14 (by decide)
  have g_dfX12_41_15 := fx_self e_dfX12_41 (by rw [L_dfX12_40]; decide)
  refine lv_aload_n hx hb dX12_init_122 rfl (lv_at hl 0 rfl) ?_
  refine lv_iconst (v := (-1)) hx hb dX12_init_123 (by decide) ?_
  refine va_put (D := (dC, dI)) (ci := 10) (v := .int (-1)) (ty := .int) (C := RX12) (T := TX12) (N := 18) hx hb hts inX12 tyX12 tyX12_ok nmX12 hown hK hP hD hS 0 rfl rfl 16 (by decide) (hts _ kw_146) (fun _ h9 => h9) rfl (by decide +kernel) rfl rfl (by rw [L_dfX12_41]; decide) dX12_init_124 (fun H locs hP hD hS => ?_)
  obtain ⟨dfX12_42, e_dfX12_42⟩ : ∃ z, z = dfX12_41.set 16 (.int (-1)) := ⟨_, rfl⟩
  have hP : va_P (dC, dI) cl0 [(h0, .inr (10, dfX12_42)), (q_1, .inr (0, fs1_2)), (hd_3, .inl (cB_4, 64, .inl (fun _ => 0))), (q_6, .inr (0, fs1_7)), (hd_8, .inl (cB_9, 64, .inl (fun _ => 0))), (q_11, .inr (0, fs1_12)), (hd_13, .inl (cB_14, 64, .inl (fun _ => 0))), (q_19, .inr (2, fs1_20)), (hr_21, .inr (6, fs2_22)), (q_28, .inr (5, fs1_29)), (ha_30, .inl (cJ_31, 8, .inr (.inl (fun _ => 0)))), (q_35, .inr (8, fs1_36)), (ha_37, .inl (cI_38, 12, .inl (fun _ => 0)))] H := by rw [e_dfX12_42]; exact hP
  have hD : va_D A [(h0, .inr (10, dfX12_42)), (q_1, .inr (0, fs1_2)), (hd_3, .inl (cB_4, 64, .inl (fun _ => 0))), (q_6, .inr (0, fs1_7)), (hd_8, .inl (cB_9, 64, .inl (fun _ => 0))), (q_11, .inr (0, fs1_12)), (hd_13, .inl (cB_14, 64, .inl (fun _ => 0))), (q_19, .inr (2, fs1_20)), (hr_21, .inr (6, fs2_22)), (q_28, .inr (5, fs1_29)), (ha_30, .inl (cJ_31, 8, .inr (.inl (fun _ => 0)))), (q_35, .inr (8, fs1_36)), (ha_37, .inl (cI_38, 12, .inl (fun _ => 0)))] := by rw [e_dfX12_42]; exact hD
  have L_dfX12_42 : dfX12_42.length = 18 := fx_len e_dfX12_42 L_dfX12_41
  have g_dfX12_42_10 := fx_ne (j := 10) e_dfX12_42 g_dfX12_41_10 (by decide)
  have g_dfX12_42_11 := fx_ne (j := 11) e_dfX12_42 g_dfX12_41_11 (by decide)
  have g_dfX12_42_12 := fx_ne (j := 12) e_dfX12_42 g_dfX12_41_12 (by decide)
  have g_dfX12_42_13 := fx_ne (j := 13) e_dfX12_42 g_dfX12_41_13 (by decide)
  have g_dfX12_42_0 := fx_ne (j := 0) e_dfX12_42 g_dfX12_41_0 (by decide)
  have g_dfX12_42_1 := fx_ne (j := 1) e_dfX12_42 g_dfX12_41_1 (by decide)
  have g_dfX12_42_4 := fx_ne (j := 4) e_dfX12_42 g_dfX12_41_4 (by decide)
  have g_dfX12_42_7 := fx_ne (j := 7) e_dfX12_42 g_dfX12_41_7 (by decide)
  have g_dfX12_42_9 := fx_ne (j := 9) e_dfX12_42 g_dfX12_41_9 (by decide)
  have g_dfX12_42_14 := fx_ne (j := 14) e_dfX12_42 g_dfX12_41_14 (by decide)
  have g_dfX12_42_15 := fx_ne (j := 15) e_dfX12_42 g_dfX12_41_15 (by decide)
  have g_dfX12_42_16 := fx_self e_dfX12_42 (by rw [L_dfX12_41]; decide)
  refine lv_aload_n hx hb dX12_init_127 rfl (lv_at hl 0 rfl) ?_
  refine lv_iconst (v := (-1)) hx hb dX12_init_128 (by decide) ?_
  refine va_put (D := (dC, dI)) (ci := 10) (v := .int (-1)) (ty := .int) (C := RX12) (T := TX12) (N := 18) hx hb hts inX12 tyX12 tyX12_ok nmX12 hown hK hP hD hS 0 rfl rfl 17 (by decide) (hts _ kw_147) (fun _ h9 => h9) rfl (by decide +kernel) rfl rfl (by rw [L_dfX12_42]; decide) dX12_init_129 (fun H locs hP hD hS => ?_)
  obtain ⟨dfX12_43, e_dfX12_43⟩ : ∃ z, z = dfX12_42.set 17 (.int (-1)) := ⟨_, rfl⟩
  have hP : va_P (dC, dI) cl0 [(h0, .inr (10, dfX12_43)), (q_1, .inr (0, fs1_2)), (hd_3, .inl (cB_4, 64, .inl (fun _ => 0))), (q_6, .inr (0, fs1_7)), (hd_8, .inl (cB_9, 64, .inl (fun _ => 0))), (q_11, .inr (0, fs1_12)), (hd_13, .inl (cB_14, 64, .inl (fun _ => 0))), (q_19, .inr (2, fs1_20)), (hr_21, .inr (6, fs2_22)), (q_28, .inr (5, fs1_29)), (ha_30, .inl (cJ_31, 8, .inr (.inl (fun _ => 0)))), (q_35, .inr (8, fs1_36)), (ha_37, .inl (cI_38, 12, .inl (fun _ => 0)))] H := by rw [e_dfX12_43]; exact hP
  have hD : va_D A [(h0, .inr (10, dfX12_43)), (q_1, .inr (0, fs1_2)), (hd_3, .inl (cB_4, 64, .inl (fun _ => 0))), (q_6, .inr (0, fs1_7)), (hd_8, .inl (cB_9, 64, .inl (fun _ => 0))), (q_11, .inr (0, fs1_12)), (hd_13, .inl (cB_14, 64, .inl (fun _ => 0))), (q_19, .inr (2, fs1_20)), (hr_21, .inr (6, fs2_22)), (q_28, .inr (5, fs1_29)), (ha_30, .inl (cJ_31, 8, .inr (.inl (fun _ => 0)))), (q_35, .inr (8, fs1_36)), (ha_37, .inl (cI_38, 12, .inl (fun _ => 0)))] := by rw [e_dfX12_43]; exact hD
  have L_dfX12_43 : dfX12_43.length = 18 := fx_len e_dfX12_43 L_dfX12_42
  have g_dfX12_43_10 := fx_ne (j := 10) e_dfX12_43 g_dfX12_42_10 (by decide)
  have g_dfX12_43_11 := fx_ne (j := 11) e_dfX12_43 g_dfX12_42_11 (by decide)
  have g_dfX12_43_12 := fx_ne (j := 12) e_dfX12_43 g_dfX12_42_12 (by decide)
  have g_dfX12_43_13 := fx_ne (j := 13) e_dfX12_43 g_dfX12_42_13 (by decide)
  have g_dfX12_43_0 := fx_ne (j := 0) e_dfX12_43 g_dfX12_42_0 (by decide)
  have g_dfX12_43_1 := fx_ne (j := 1) e_dfX12_43 g_dfX12_42_1 (by decide)
  have g_dfX12_43_4 := fx_ne (j := 4) e_dfX12_43 g_dfX12_42_4 (by decide)
  have g_dfX12_43_7 := fx_ne (j := 7) e_dfX12_43 g_dfX12_42_7 (by decide)
  have g_dfX12_43_9 := fx_ne (j := 9) e_dfX12_43 g_dfX12_42_9 (by decide)
  have g_dfX12_43_14 := fx_ne (j := 14) e_dfX12_43 g_dfX12_42_14 (by decide)
  have g_dfX12_43_15 := fx_ne (j := 15) e_dfX12_43 g_dfX12_42_15 (by decide)
  have g_dfX12_43_16 := fx_ne (j := 16) e_dfX12_43 g_dfX12_42_16 (by decide)
  refine W.widen (k := 79) (n := 3727) (Nat.le_of_ble_eq_true rfl) (Nat.le_of_ble_eq_true rfl) ?_
  have hP9 := hP.sub (ws' := [(h0, .inr (10, dfX12_43)), (q_1, .inr (0, fs1_2)), (hd_3, .inl (cB_4, 64, .inl (fun _ => 0))), (q_6, .inr (0, fs1_7)), (q_19, .inr (2, fs1_20)), (hr_21, .inr (6, fs2_22)), (q_28, .inr (5, fs1_29)), (ha_30, .inl (cJ_31, 8, .inr (.inl (fun _ => 0)))), (q_35, .inr (8, fs1_36)), (ha_37, .inl (cI_38, 12, .inl (fun _ => 0)))]) [0, 1, 2, 3, 7, 8, 9, 10, 11, 12] rfl
  have hD9 := hD.sub (ws' := [(h0, .inr (10, dfX12_43)), (q_1, .inr (0, fs1_2)), (hd_3, .inl (cB_4, 64, .inl (fun _ => 0))), (q_6, .inr (0, fs1_7)), (q_19, .inr (2, fs1_20)), (hr_21, .inr (6, fs2_22)), (q_28, .inr (5, fs1_29)), (ha_30, .inl (cJ_31, 8, .inr (.inl (fun _ => 0)))), (q_35, .inr (8, fs1_36)), (ha_37, .inl (cI_38, 12, .inl (fun _ => 0)))]) [0, 1, 2, 3, 7, 8, 9, 10, 11, 12] (by decide) rfl
  have hK9 := hK.sub (tys' := [(cB_4, .byte), (cJ_31, .long), (cI_38, .int)]) [0, 3, 4] rfl
  exact W.vret hx hb hr (fun t9 ht9 hW9 => ⟨⟨(), rfl, trivial, dfX12_43, q_1, fs1_2, hd_3, cB_4, q_6, fs1_7, q_19, fs1_20, hr_21, fs2_22, q_28, fs1_29, ha_30, cJ_31, q_35, fs1_36, ha_37, cI_38, L_dfX12_43, g_dfX12_43_0, g_dfX12_43_1, g_dfX12_43_4, g_dfX12_43_7, g_dfX12_43_9, g_dfX12_43_10, g_dfX12_43_11, g_dfX12_43_12, g_dfX12_43_13, g_dfX12_43_14, g_dfX12_43_15, g_dfX12_43_16, L_fs1_2, g_fs1_2_0, g_fs1_2_1, L_fs1_7, g_fs1_7_1, L_fs1_20, g_fs1_20_0, L_fs2_22, L_fs1_29, g_fs1_29_0, g_fs1_29_5, g_fs1_29_6, g_fs1_29_7, g_fs1_29_16, g_fs1_29_17, g_fs1_29_18, g_fs1_29_19, L_fs1_36, g_fs1_36_1, by rw [ht9]; exact hP9, va_K.moved hW9.alike hK9, hD9⟩, hS.F ht9⟩) hS.2.2 dX12_init_132
end
section
set_option maxHeartbeats 400000 in
set_option maxRecDepth 100000 in
theorem m_X0_put (l : Launch) (dC : Nat → ClassId) (dI : Nat → Nat → Nat) (sz : Nat) (h0 : Nat) (fs0 : List Value) (hd : Nat) (cB : ClassId) (f : Nat → Int32) (n : Int32) (b : Int32) (L_fs0 : fs0.length = 2) (g_fs0_0 : fs0[0]? = some (.ref hd)) (g_fs0_1 : fs0[1]? = some (.int n)) (hn : bk n = true) : Met l yX0_put (wt yX0_put cX0_put 2 none) ({ frames := 0, cells := 0, slots := 0, locals := 0 }) (va_Pc [.ref h0, .int b] (st_U dC dI sz [(h0, .inr (0, fs0)), (hd, .inl (cB, 64, .inl f))] [(cB, .byte)])) (va_Qv (fun _ : Unit => True) (fun (_ : Unit) (t : State) => ∃ (fs1 : List Value), ∃ (f1 : Nat → Int32), (fs1.length = 2) ∧ (fs1[0]? = some (.ref hd)) ∧ (fs1[1]? = some (.int (n + 1))) ∧ va_P (dC, dI) cl0 [(h0, .inr (0, fs1)), (hd, .inl (cB, 64, .inl f1))] t.heap ∧ va_K (dC, dI) cl0 [(cB, .byte)] t ∧ va_D (va_A [(h0, .inr (0, fs0)), (hd, .inl (cB, 64, .inl f))] sz) [(h0, .inr (0, fs1)), (hd, .inl (cB, 64, .inl f1))]) (va_A [(h0, .inr (0, fs0)), (hd, .inl (cB, 64, .inl f))] sz)) 0 0 (va_A [(h0, .inr (0, fs0)), (hd, .inl (cB, 64, .inl f))] sz) := by
  refine Met.ofW (cc := cX0_put) (maxL := 2) (ret := none) (by decide) rfl ?_
  intro p e s m args below meth c s₁ B hml hv
  obtain ⟨rfl, hsz, hP, hK, hD0, hex⟩ := hv
  have hx := B.exec
  have hb := B.bytes
  have hr := B.returns
  have hts0 := atoms_spec (ws := wt yX0_put cX0_put 2 none) B.pre
  have hts : ∀ w ∈ tb, w.before _ s = true := fun w h => hts0 w (List.mem_cons_of_mem _ h)
  have hown : s.vm.findClass RX0 = some m.cls := findClass_of_methodNamed B.named
  have hlocks := B.notSynchronized
  subst hsz
  have hD := hD0.self (sz := s.heap.size)
  generalize hAe : va_A [(h0, .inr (0, fs0)), (hd, .inl (cB, 64, .inl f))] s.heap.size = A at hD ⊢
  have hA : ∀ q : Nat, s.heap.size ≤ q → A q := fun q h => by rw [← hAe]; exact Or.inr h
  have hS : va_S A s.heap s.heap [] := va_S.rf
  have hl := lv_entry ([.ref h0, .int b]) (n := 2) (Nat.le_of_ble_eq_true rfl)
  rw [lg_entry_eq]
  generalize (lg_sl ([.ref h0, .int b]) ++ List.replicate (2 - (lg_sl ([.ref h0, .int b])).length) Slot.unset).toArray = ls at hl ⊢
  have hl : lv_has ls 2 [(0, .ref h0), (1, .int b)] := hl
  refine lv_aload_n hx hb dX0_put_0 rfl (lv_at hl 0 rfl) ?_
  refine va_get (D := (dC, dI)) (ci := 0) (v := .int n) (C := RX0) (T := TX0) (N := 2) hx hb hts inX0 hown hK hP 0 rfl rfl 1 (by decide) (hts _ kw_148) (fun _ h9 => h9) g_fs0_1 dX0_put_1 ?_
  refine lv_aload_n hx hb dX0_put_4 rfl (lv_at hl 0 rfl) ?_
  refine va_get (D := (dC, dI)) (ci := 0) (v := .ref hd) (C := RX0) (T := TX0) (N := 2) hx hb hts inX0 hown hK hP 0 rfl rfl 0 (by decide) (hts _ kw_4) (fun _ h9 => h9) g_fs0_0 dX0_put_5 ?_
  refine va_alen (v := 64) hx hb hK hP 1 0 rfl rfl rfl dX0_put_8 ?_
  refine lv_icmp_lt (tgt := 30) hx hb dX0_put_9 (by decide) (fun c_9 => ?_) (fun c_9 => False.elim (c_9 (bk1 hn)))
  refine lv_aload_n hx hb dX0_put_30 rfl (lv_at hl 0 rfl) ?_
  refine va_get (D := (dC, dI)) (ci := 0) (v := .ref hd) (C := RX0) (T := TX0) (N := 2) hx hb hts inX0 hown hK hP 0 rfl rfl 0 (by decide) (hts _ kw_4) (fun _ h9 => h9) g_fs0_0 dX0_put_31 ?_
  refine lv_aload_n hx hb dX0_put_34 rfl (lv_at hl 0 rfl) ?_
  refine va_get (D := (dC, dI)) (ci := 0) (v := .int n) (C := RX0) (T := TX0) (N := 2) hx hb hts inX0 hown hK hP 0 rfl rfl 1 (by decide) (hts _ kw_148) (fun _ h9 => h9) g_fs0_1 dX0_put_35 ?_
  refine lv_iload_n hx hb dX0_put_38 rfl (lv_at hl 1 rfl) ?_
  obtain ⟨z_1, ez_1⟩ : ∃ y : Int32, b.toInt8.toInt32 = y := ⟨_, rfl⟩
  refine lv_i2b (v := z_1) hx hb dX0_put_39 ez_1 ?_
  refine va_bast hx hb hK hP hD hS 1 0 rfl rfl (bk2 hn) dX0_put_40 (fun H locs hP hD hS => ?_)
  obtain ⟨f_2, e_f_2⟩ : ∃ z, z = upd f (n : Int32).toNatClampNeg (vp_nar .byte z_1) := ⟨_, rfl⟩
  have hP : va_P (dC, dI) cl0 [(h0, .inr (0, fs0)), (hd, .inl (cB, 64, .inl f_2))] H := by rw [e_f_2]; exact hP
  have hD : va_D A [(h0, .inr (0, fs0)), (hd, .inl (cB, 64, .inl f_2))] := by rw [e_f_2]; exact hD
  refine lv_aload_n hx hb dX0_put_41 rfl (lv_at hl 0 rfl) ?_
  refine lv_dup hx hb dX0_put_42 rfl ?_
  refine va_get (D := (dC, dI)) (ci := 0) (v := .int n) (C := RX0) (T := TX0) (N := 2) hx hb hts inX0 hown hK hP 0 rfl rfl 1 (by decide) (hts _ kw_148) (fun _ h9 => h9) g_fs0_1 dX0_put_43 ?_
  refine lv_iconst (v := 1) hx hb dX0_put_46 (by decide) ?_
  refine lv_iadd hx hb dX0_put_47 ?_
  refine va_put (D := (dC, dI)) (ci := 0) (v := .int (n + 1)) (ty := .int) (C := RX0) (T := TX0) (N := 2) hx hb hts inX0 tyX0 tyX0_ok nmX0 hown hK hP hD hS 0 rfl rfl 1 (by decide) (hts _ kw_148) (fun _ h9 => h9) rfl (by decide +kernel) rfl rfl (by rw [L_fs0]; decide) dX0_put_48 (fun H locs hP hD hS => ?_)
  obtain ⟨fs0_3, e_fs0_3⟩ : ∃ z, z = fs0.set 1 (.int (n + 1)) := ⟨_, rfl⟩
  have hP : va_P (dC, dI) cl0 [(h0, .inr (0, fs0_3)), (hd, .inl (cB, 64, .inl f_2))] H := by rw [e_fs0_3]; exact hP
  have hD : va_D A [(h0, .inr (0, fs0_3)), (hd, .inl (cB, 64, .inl f_2))] := by rw [e_fs0_3]; exact hD
  have L_fs0_3 : fs0_3.length = 2 := fx_len e_fs0_3 L_fs0
  have g_fs0_3_0 := fx_ne (j := 0) e_fs0_3 g_fs0_0 (by decide)
  have g_fs0_3_1 := fx_self e_fs0_3 (by rw [L_fs0]; decide)
  refine W.widen (k := 0) (n := 0) (Nat.le_of_ble_eq_true rfl) (Nat.le_of_ble_eq_true rfl) ?_
  have hP9 := hP.sub (ws' := [(h0, .inr (0, fs0_3)), (hd, .inl (cB, 64, .inl f_2))]) [0, 1] rfl
  have hD9 := hD.sub (ws' := [(h0, .inr (0, fs0_3)), (hd, .inl (cB, 64, .inl f_2))]) [0, 1] (by decide) rfl
  have hK9 := hK.sub (tys' := [(cB, .byte)]) [0] rfl
  exact W.vret hx hb hr (fun t9 ht9 hW9 => ⟨⟨(), rfl, trivial, fs0_3, f_2, L_fs0_3, g_fs0_3_0, g_fs0_3_1, by rw [ht9]; exact hP9, va_K.moved hW9.alike hK9, hD9⟩, hS.F ht9⟩) hS.2.2 dX0_put_51
set_option maxHeartbeats 400000 in
set_option maxRecDepth 100000 in
theorem m_X0_put2 (l : Launch) (dC : Nat → ClassId) (dI : Nat → Nat → Nat) (sz : Nat) (h0 : Nat) (fs0 : List Value) (hd : Nat) (cB : ClassId) (f : Nat → Int32) (n : Int32) (b : Int32) (L_fs0 : fs0.length = 2) (g_fs0_0 : fs0[0]? = some (.ref hd)) (g_fs0_1 : fs0[1]? = some (.int n)) (hn : bk n = true) (hn1 : bk (n + 1) = true) : Met l yX0_put2 (wt yX0_put2 cX0_put2 2 none) ({ frames := 1, cells := 0, slots := 0, locals := 21 }) (va_Pc [.ref h0, .int b] (st_U dC dI sz [(h0, .inr (0, fs0)), (hd, .inl (cB, 64, .inl f))] [(cB, .byte)])) (va_Qv (fun _ : Unit => True) (fun (_ : Unit) (t : State) => ∃ (fs1 : List Value), ∃ (f1 : Nat → Int32), (fs1.length = 2) ∧ (fs1[0]? = some (.ref hd)) ∧ (fs1[1]? = some (.int ((n + 1) + 1))) ∧ va_P (dC, dI) cl0 [(h0, .inr (0, fs1)), (hd, .inl (cB, 64, .inl f1))] t.heap ∧ va_K (dC, dI) cl0 [(cB, .byte)] t ∧ va_D (va_A [(h0, .inr (0, fs0)), (hd, .inl (cB, 64, .inl f))] sz) [(h0, .inr (0, fs1)), (hd, .inl (cB, 64, .inl f1))]) (va_A [(h0, .inr (0, fs0)), (hd, .inl (cB, 64, .inl f))] sz)) 0 0 (va_A [(h0, .inr (0, fs0)), (hd, .inl (cB, 64, .inl f))] sz) := by
  refine Met.ofW (cc := cX0_put2) (maxL := 2) (ret := none) (by decide) rfl ?_
  intro p e s m args below meth c s₁ B hml hv
  obtain ⟨rfl, hsz, hP, hK, hD0, hex⟩ := hv
  have hx := B.exec
  have hb := B.bytes
  have hr := B.returns
  have hts0 := atoms_spec (ws := wt yX0_put2 cX0_put2 2 none) B.pre
  have hts : ∀ w ∈ tb, w.before _ s = true := fun w h => hts0 w (List.mem_cons_of_mem _ h)
  have hown : s.vm.findClass RX0 = some m.cls := findClass_of_methodNamed B.named
  have hlocks := B.notSynchronized
  subst hsz
  have hD := hD0.self (sz := s.heap.size)
  generalize hAe : va_A [(h0, .inr (0, fs0)), (hd, .inl (cB, 64, .inl f))] s.heap.size = A at hD ⊢
  have hA : ∀ q : Nat, s.heap.size ≤ q → A q := fun q h => by rw [← hAe]; exact Or.inr h
  have hS : va_S A s.heap s.heap [] := va_S.rf
  have hl := lv_entry ([.ref h0, .int b]) (n := 2) (Nat.le_of_ble_eq_true rfl)
  rw [lg_entry_eq]
  generalize (lg_sl ([.ref h0, .int b]) ++ List.replicate (2 - (lg_sl ([.ref h0, .int b])).length) Slot.unset).toArray = ls at hl ⊢
  have hl : lv_has ls 2 [(0, .ref h0), (1, .int b)] := hl
  refine lv_aload_n hx hb dX0_put2_0 rfl (lv_at hl 0 rfl) ?_
  refine lv_iload_n hx hb dX0_put2_1 rfl (lv_at hl 1 rfl) ?_
  refine lv_bipush (v := 8) hx hb dX0_put2_2 (by decide) ?_
  refine lv_ishr hx hb dX0_put2_4 ?_
  refine lv_topi (fun z_1 ez_1 => ?_)
  have hPc := hP.sub (ws' := [(h0, .inr (0, fs0)), (hd, .inl (cB, 64, .inl f))]) [0, 1] rfl
  have hDc := hD.sub (ws' := [(h0, .inr (0, fs0)), (hd, .inl (cB, 64, .inl f))]) [0, 1] (by decide) rfl
  have hKc := hK.sub (tys' := [(cB, .byte)]) [0] rfl
  have hFc := va_free (wc := [(h0, .inr (0, fs0)), (hd, .inl (cB, 64, .inl f))]) hD hS hA [0, 1] rfl
  refine va_callv (va_runV (As := [.int z_1]) (rest := []) ⟨hx, hb, hml, hown, hts⟩ (m_X0_put l dC dI s.heap.size h0 fs0 hd cB f n z_1 L_fs0 g_fs0_0 g_fs0_1 hn) (cwV 1 hts (gd_V kw_149 kw_150 kw_151 kw_49 kw_152) rfl rfl rfl (by decide +kernel) ⟨Nat.le_of_ble_eq_true rfl, Nat.le_of_ble_eq_true rfl⟩) ⟨st_blind, va_recv hKc hPc (ci := 0) (q0 := 0) rfl rfl, fun U hU hW9 => st_mk hU hW9 hPc hKc hDc hex⟩ rfl rfl hl.1 rfl (lv_room (Nat.le_of_ble_eq_true rfl)) dX0_put2_5 ⟨Nat.le_of_ble_eq_true rfl, Nat.le_of_ble_eq_true rfl⟩) hS (fun q _ h => hFc q h) hFc (fun  u9 t9 H1 locs ht9 hvm9 hw9 hB9 hz9 hk9 hS => ?_)
  obtain ⟨fs1_2, f1_3, L_fs1_2, g_fs1_2_0, g_fs1_2_1, hP1, hK1, hD1⟩ := hB9
  rw [ht9] at hP1
  have hK1 := va_K.moved hvm9.symm hK1
  obtain ⟨hP, hD⟩ := va_join (wr := []) (w1 := [(h0, .inr (0, fs1_2)), (hd, .inl (cB, 64, .inl f1_3))]) hP hD [0, 1] [] rfl rfl (by decide) (by decide) hk9 hFc hP1 hD1
  have hK := (hK.sub (tys' := [(cB, .byte)]) [0] rfl).app hK1
  generalize H1 = H at hP hS ⊢
  have hP : va_P (dC, dI) cl0 [(h0, .inr (0, fs1_2)), (hd, .inl (cB, 64, .inl f1_3))] H := hP
  have hD : va_D A [(h0, .inr (0, fs1_2)), (hd, .inl (cB, 64, .inl f1_3))] := hD
  have hK : va_K (dC, dI) cl0 [(cB, .byte), (cB, .byte)] s := hK
  have hK := hK.sub (tys' := [(cB, .byte)]) [0] rfl
  refine lv_aload_n hx hb dX0_put2_8 rfl (lv_at hl 0 rfl) ?_
  refine lv_iload_n hx hb dX0_put2_9 rfl (lv_at hl 1 rfl) ?_
  have hPc := hP.sub (ws' := [(h0, .inr (0, fs1_2)), (hd, .inl (cB, 64, .inl f1_3))]) [0, 1] rfl
  have hDc := hD.sub (ws' := [(h0, .inr (0, fs1_2)), (hd, .inl (cB, 64, .inl f1_3))]) [0, 1] (by decide) rfl
  have hKc := hK.sub (tys' := [(cB, .byte)]) [0] rfl
  have hFc := va_free (wc := [(h0, .inr (0, fs1_2)), (hd, .inl (cB, 64, .inl f1_3))]) hD hS hA [0, 1] rfl
  refine va_callv (va_runV (As := [.int b]) (rest := []) ⟨hx, hb, hml, hown, hts⟩ (m_X0_put l dC dI H.size h0 fs1_2 hd cB f1_3 ((n + 1)) b L_fs1_2 g_fs1_2_0 g_fs1_2_1 hn1) (cwV 1 hts (gd_V kw_149 kw_150 kw_151 kw_49 kw_152) rfl rfl rfl (by decide +kernel) ⟨Nat.le_of_ble_eq_true rfl, Nat.le_of_ble_eq_true rfl⟩) ⟨st_blind, va_recv hKc hPc (ci := 0) (q0 := 0) rfl rfl, fun U hU hW9 => st_mk hU hW9 hPc hKc hDc hex⟩ rfl rfl hl.1 rfl (lv_room (Nat.le_of_ble_eq_true rfl)) dX0_put2_10 ⟨Nat.le_of_ble_eq_true rfl, Nat.le_of_ble_eq_true rfl⟩) hS (fun q _ h => hFc q h) hFc (fun  u9 t9 H1 locs ht9 hvm9 hw9 hB9 hz9 hk9 hS => ?_)
  obtain ⟨fs1_4, f1_5, L_fs1_4, g_fs1_4_0, g_fs1_4_1, hP1, hK1, hD1⟩ := hB9
  rw [ht9] at hP1
  have hK1 := va_K.moved hvm9.symm hK1
  obtain ⟨hP, hD⟩ := va_join (wr := []) (w1 := [(h0, .inr (0, fs1_4)), (hd, .inl (cB, 64, .inl f1_5))]) hP hD [0, 1] [] rfl rfl (by decide) (by decide) hk9 hFc hP1 hD1
  have hK := (hK.sub (tys' := [(cB, .byte)]) [0] rfl).app hK1
  generalize H1 = H at hP hS ⊢
  have hP : va_P (dC, dI) cl0 [(h0, .inr (0, fs1_4)), (hd, .inl (cB, 64, .inl f1_5))] H := hP
  have hD : va_D A [(h0, .inr (0, fs1_4)), (hd, .inl (cB, 64, .inl f1_5))] := hD
  have hK : va_K (dC, dI) cl0 [(cB, .byte), (cB, .byte)] s := hK
  have hK := hK.sub (tys' := [(cB, .byte)]) [0] rfl
  refine W.widen (k := 0) (n := 0) (Nat.le_of_ble_eq_true rfl) (Nat.le_of_ble_eq_true rfl) ?_
  have hP9 := hP.sub (ws' := [(h0, .inr (0, fs1_4)), (hd, .inl (cB, 64, .inl f1_5))]) [0, 1] rfl
  have hD9 := hD.sub (ws' := [(h0, .inr (0, fs1_4)), (hd, .inl (cB, 64, .inl f1_5))]) [0, 1] (by decide) rfl
  have hK9 := hK.sub (tys' := [(cB, .byte)]) [0] rfl
  exact W.vret hx hb hr (fun t9 ht9 hW9 => ⟨⟨(), rfl, trivial, fs1_4, f1_5, L_fs1_4, g_fs1_4_0, g_fs1_4_1, by rw [ht9]; exact hP9, va_K.moved hW9.alike hK9, hD9⟩, hS.F ht9⟩) hS.2.2 dX0_put2_13
set_option maxHeartbeats 400000 in
set_option maxRecDepth 100000 in
theorem m_X0_put4 (l : Launch) (dC : Nat → ClassId) (dI : Nat → Nat → Nat) (sz : Nat) (h0 : Nat) (fs0 : List Value) (hd : Nat) (cB : ClassId) (f : Nat → Int32) (n : Int32) (b : Int32) (L_fs0 : fs0.length = 2) (g_fs0_0 : fs0[0]? = some (.ref hd)) (g_fs0_1 : fs0[1]? = some (.int n)) (hn : bk n = true) (hn1 : bk (n + 1) = true) (hn2 : bk ((n + 1) + 1) = true) (hn3 : bk (((n + 1) + 1) + 1) = true) : Met l yX0_put4 (wt yX0_put4 cX0_put4 2 none) ({ frames := 2, cells := 0, slots := 0, locals := 42 }) (va_Pc [.ref h0, .int b] (st_U dC dI sz [(h0, .inr (0, fs0)), (hd, .inl (cB, 64, .inl f))] [(cB, .byte)])) (va_Qv (fun _ : Unit => True) (fun (_ : Unit) (t : State) => ∃ (fs1 : List Value), ∃ (f1 : Nat → Int32), (fs1.length = 2) ∧ (fs1[0]? = some (.ref hd)) ∧ (fs1[1]? = some (.int ((((n + 1) + 1) + 1) + 1))) ∧ va_P (dC, dI) cl0 [(h0, .inr (0, fs1)), (hd, .inl (cB, 64, .inl f1))] t.heap ∧ va_K (dC, dI) cl0 [(cB, .byte)] t ∧ va_D (va_A [(h0, .inr (0, fs0)), (hd, .inl (cB, 64, .inl f))] sz) [(h0, .inr (0, fs1)), (hd, .inl (cB, 64, .inl f1))]) (va_A [(h0, .inr (0, fs0)), (hd, .inl (cB, 64, .inl f))] sz)) 0 0 (va_A [(h0, .inr (0, fs0)), (hd, .inl (cB, 64, .inl f))] sz) := by
  refine Met.ofW (cc := cX0_put4) (maxL := 2) (ret := none) (by decide) rfl ?_
  intro p e s m args below meth c s₁ B hml hv
  obtain ⟨rfl, hsz, hP, hK, hD0, hex⟩ := hv
  have hx := B.exec
  have hb := B.bytes
  have hr := B.returns
  have hts0 := atoms_spec (ws := wt yX0_put4 cX0_put4 2 none) B.pre
  have hts : ∀ w ∈ tb, w.before _ s = true := fun w h => hts0 w (List.mem_cons_of_mem _ h)
  have hown : s.vm.findClass RX0 = some m.cls := findClass_of_methodNamed B.named
  have hlocks := B.notSynchronized
  subst hsz
  have hD := hD0.self (sz := s.heap.size)
  generalize hAe : va_A [(h0, .inr (0, fs0)), (hd, .inl (cB, 64, .inl f))] s.heap.size = A at hD ⊢
  have hA : ∀ q : Nat, s.heap.size ≤ q → A q := fun q h => by rw [← hAe]; exact Or.inr h
  have hS : va_S A s.heap s.heap [] := va_S.rf
  have hl := lv_entry ([.ref h0, .int b]) (n := 2) (Nat.le_of_ble_eq_true rfl)
  rw [lg_entry_eq]
  generalize (lg_sl ([.ref h0, .int b]) ++ List.replicate (2 - (lg_sl ([.ref h0, .int b])).length) Slot.unset).toArray = ls at hl ⊢
  have hl : lv_has ls 2 [(0, .ref h0), (1, .int b)] := hl
  refine lv_aload_n hx hb dX0_put4_0 rfl (lv_at hl 0 rfl) ?_
  refine lv_iload_n hx hb dX0_put4_1 rfl (lv_at hl 1 rfl) ?_
  refine lv_bipush (v := 16) hx hb dX0_put4_2 (by decide) ?_
  refine lv_ishr hx hb dX0_put4_4 ?_
  refine lv_topi (fun z_1 ez_1 => ?_)
  have hPc := hP.sub (ws' := [(h0, .inr (0, fs0)), (hd, .inl (cB, 64, .inl f))]) [0, 1] rfl
  have hDc := hD.sub (ws' := [(h0, .inr (0, fs0)), (hd, .inl (cB, 64, .inl f))]) [0, 1] (by decide) rfl
  have hKc := hK.sub (tys' := [(cB, .byte)]) [0] rfl
  have hFc := va_free (wc := [(h0, .inr (0, fs0)), (hd, .inl (cB, 64, .inl f))]) hD hS hA [0, 1] rfl
  refine va_callv (va_runV (As := [.int z_1]) (rest := []) ⟨hx, hb, hml, hown, hts⟩ (m_X0_put2 l dC dI s.heap.size h0 fs0 hd cB f n z_1 L_fs0 g_fs0_0 g_fs0_1 hn hn1) (cwV 1 hts (gd_V kw_153 kw_154 kw_155 kw_49 kw_156) rfl rfl rfl (by decide +kernel) ⟨Nat.le_of_ble_eq_true rfl, Nat.le_of_ble_eq_true rfl⟩) ⟨st_blind, va_recv hKc hPc (ci := 0) (q0 := 0) rfl rfl, fun U hU hW9 => st_mk hU hW9 hPc hKc hDc hex⟩ rfl rfl hl.1 rfl (lv_room (Nat.le_of_ble_eq_true rfl)) dX0_put4_5 ⟨Nat.le_of_ble_eq_true rfl, Nat.le_of_ble_eq_true rfl⟩) hS (fun q _ h => hFc q h) hFc (fun  u9 t9 H1 locs ht9 hvm9 hw9 hB9 hz9 hk9 hS => ?_)
  obtain ⟨fs1_2, f1_3, L_fs1_2, g_fs1_2_0, g_fs1_2_1, hP1, hK1, hD1⟩ := hB9
  rw [ht9] at hP1
  have hK1 := va_K.moved hvm9.symm hK1
  obtain ⟨hP, hD⟩ := va_join (wr := []) (w1 := [(h0, .inr (0, fs1_2)), (hd, .inl (cB, 64, .inl f1_3))]) hP hD [0, 1] [] rfl rfl (by decide) (by decide) hk9 hFc hP1 hD1
  have hK := (hK.sub (tys' := [(cB, .byte)]) [0] rfl).app hK1
  generalize H1 = H at hP hS ⊢
  have hP : va_P (dC, dI) cl0 [(h0, .inr (0, fs1_2)), (hd, .inl (cB, 64, .inl f1_3))] H := hP
  have hD : va_D A [(h0, .inr (0, fs1_2)), (hd, .inl (cB, 64, .inl f1_3))] := hD
  have hK : va_K (dC, dI) cl0 [(cB, .byte), (cB, .byte)] s := hK
  have hK := hK.sub (tys' := [(cB, .byte)]) [0] rfl
  refine lv_aload_n hx hb dX0_put4_8 rfl (lv_at hl 0 rfl) ?_
  refine lv_iload_n hx hb dX0_put4_9 rfl (lv_at hl 1 rfl) ?_
  have hPc := hP.sub (ws' := [(h0, .inr (0, fs1_2)), (hd, .inl (cB, 64, .inl f1_3))]) [0, 1] rfl
  have hDc := hD.sub (ws' := [(h0, .inr (0, fs1_2)), (hd, .inl (cB, 64, .inl f1_3))]) [0, 1] (by decide) rfl
  have hKc := hK.sub (tys' := [(cB, .byte)]) [0] rfl
  have hFc := va_free (wc := [(h0, .inr (0, fs1_2)), (hd, .inl (cB, 64, .inl f1_3))]) hD hS hA [0, 1] rfl
  refine va_callv (va_runV (As := [.int b]) (rest := []) ⟨hx, hb, hml, hown, hts⟩ (m_X0_put2 l dC dI H.size h0 fs1_2 hd cB f1_3 (((n + 1) + 1)) b L_fs1_2 g_fs1_2_0 g_fs1_2_1 hn2 hn3) (cwV 1 hts (gd_V kw_153 kw_154 kw_155 kw_49 kw_156) rfl rfl rfl (by decide +kernel) ⟨Nat.le_of_ble_eq_true rfl, Nat.le_of_ble_eq_true rfl⟩) ⟨st_blind, va_recv hKc hPc (ci := 0) (q0 := 0) rfl rfl, fun U hU hW9 => st_mk hU hW9 hPc hKc hDc hex⟩ rfl rfl hl.1 rfl (lv_room (Nat.le_of_ble_eq_true rfl)) dX0_put4_10 ⟨Nat.le_of_ble_eq_true rfl, Nat.le_of_ble_eq_true rfl⟩) hS (fun q _ h => hFc q h) hFc (fun  u9 t9 H1 locs ht9 hvm9 hw9 hB9 hz9 hk9 hS => ?_)
  obtain ⟨fs1_4, f1_5, L_fs1_4, g_fs1_4_0, g_fs1_4_1, hP1, hK1, hD1⟩ := hB9
  rw [ht9] at hP1
  have hK1 := va_K.moved hvm9.symm hK1
  obtain ⟨hP, hD⟩ := va_join (wr := []) (w1 := [(h0, .inr (0, fs1_4)), (hd, .inl (cB, 64, .inl f1_5))]) hP hD [0, 1] [] rfl rfl (by decide) (by decide) hk9 hFc hP1 hD1
  have hK := (hK.sub (tys' := [(cB, .byte)]) [0] rfl).app hK1
  generalize H1 = H at hP hS ⊢
  have hP : va_P (dC, dI) cl0 [(h0, .inr (0, fs1_4)), (hd, .inl (cB, 64, .inl f1_5))] H := hP
  have hD : va_D A [(h0, .inr (0, fs1_4)), (hd, .inl (cB, 64, .inl f1_5))] := hD
  have hK : va_K (dC, dI) cl0 [(cB, .byte), (cB, .byte)] s := hK
  have hK := hK.sub (tys' := [(cB, .byte)]) [0] rfl
  refine W.widen (k := 0) (n := 0) (Nat.le_of_ble_eq_true rfl) (Nat.le_of_ble_eq_true rfl) ?_
  have hP9 := hP.sub (ws' := [(h0, .inr (0, fs1_4)), (hd, .inl (cB, 64, .inl f1_5))]) [0, 1] rfl
  have hD9 := hD.sub (ws' := [(h0, .inr (0, fs1_4)), (hd, .inl (cB, 64, .inl f1_5))]) [0, 1] (by decide) rfl
  have hK9 := hK.sub (tys' := [(cB, .byte)]) [0] rfl
  exact W.vret hx hb hr (fun t9 ht9 hW9 => ⟨⟨(), rfl, trivial, fs1_4, f1_5, L_fs1_4, g_fs1_4_0, g_fs1_4_1, by rw [ht9]; exact hP9, va_K.moved hW9.alike hK9, hD9⟩, hS.F ht9⟩) hS.2.2 dX0_put4_13
set_option maxHeartbeats 400000 in
set_option maxRecDepth 100000 in
theorem m_X12_feed (l : Launch) (dC : Nat → ClassId) (dI : Nat → Nat → Nat) (sz : Nat) (h0 : Nat) (fx : List Value) (ht : Nat) (ft : List Value) (htd : Nat) (cB : ClassId) (a : Int32) (b : Int32) (c0 : Int32) (d : Int32) (e0 : Int32) (L_fx : fx.length = 18) (g_fx_0 : fx[0]? = some (.ref ht)) (g_fx_10 : fx[10]? = some (.int 0)) (L_ft : ft.length = 2) (g_ft_0 : ft[0]? = some (.ref htd)) (g_ft_1 : ft[1]? = some (.int 0)) : Met l yX12_feed (wt yX12_feed cX12_feed 6 (some .int)) ({ frames := 3, cells := 0, slots := 0, locals := 63 }) (va_Pc [.ref h0, .int a, .int b, .int c0, .int d, .int e0] (st_U dC dI sz [(h0, .inr (10, fx)), (ht, .inr (0, ft)), (htd, .inl (cB, 64, .inl (fun _ => 0)))] [(cB, .byte)])) (va_Qi (fun (r : Int32) (_ : Unit) => r = 20) (fun (_ : Unit) (_ : State) => True) (va_A [(h0, .inr (10, fx)), (ht, .inr (0, ft)), (htd, .inl (cB, 64, .inl (fun _ => 0)))] sz)) 0 0 (va_A [(h0, .inr (10, fx)), (ht, .inr (0, ft)), (htd, .inl (cB, 64, .inl (fun _ => 0)))] sz) := by
  refine Met.ofW (cc := cX12_feed) (maxL := 6) (ret := (some .int)) (by decide) rfl ?_
  intro p e s m args below meth c s₁ B hml hv
  obtain ⟨rfl, hsz, hP, hK, hD0, hex⟩ := hv
  have hx := B.exec
  have hb := B.bytes
  have hr := B.returns
  have hts0 := atoms_spec (ws := wt yX12_feed cX12_feed 6 (some .int)) B.pre
  have hts : ∀ w ∈ tb, w.before _ s = true := fun w h => hts0 w (List.mem_cons_of_mem _ h)
  have hown : s.vm.findClass RX12 = some m.cls := findClass_of_methodNamed B.named
  have hlocks := B.notSynchronized
  subst hsz
  have hD := hD0.self (sz := s.heap.size)
  generalize hAe : va_A [(h0, .inr (10, fx)), (ht, .inr (0, ft)), (htd, .inl (cB, 64, .inl (fun _ => 0)))] s.heap.size = A at hD ⊢
  have hA : ∀ q : Nat, s.heap.size ≤ q → A q := fun q h => by rw [← hAe]; exact Or.inr h
  have hS : va_S A s.heap s.heap [] := va_S.rf
  have hl := lv_entry ([.ref h0, .int a, .int b, .int c0, .int d, .int e0]) (n := 6) (Nat.le_of_ble_eq_true rfl)
  rw [lg_entry_eq]
  generalize (lg_sl ([.ref h0, .int a, .int b, .int c0, .int d, .int e0]) ++ List.replicate (6 - (lg_sl ([.ref h0, .int a, .int b, .int c0, .int d, .int e0])).length) Slot.unset).toArray = ls at hl ⊢
  have hl : lv_has ls 6 [(0, .ref h0), (1, .int a), (2, .int b), (3, .int c0), (4, .int d), (5, .int e0)] := hl
  refine lv_aload_n hx hb dX12_feed_0 rfl (lv_at hl 0 rfl) ?_
  refine va_get (D := (dC, dI)) (ci := 10) (v := .ref ht) (C := RX12) (T := TX12) (N := 18) hx hb hts inX12 hown hK hP 0 rfl rfl 0 (by decide) (hts _ kw_103) (fun _ h9 => h9) g_fx_0 dX12_feed_1 ?_
  refine va_get (D := (dC, dI)) (ci := 0) (v := .int 0) (C := RX0) (T := TX0) (N := 2) hx hb hts inX0 hown hK hP 1 rfl rfl 1 (by decide) (hts _ kw_157) (fun _ h9 => h9) g_ft_1 dX12_feed_4 ?_
  refine lv_bipush (v := 20) hx hb dX12_feed_7 (by decide) ?_
  refine lv_iadd hx hb dX12_feed_9 ?_
  refine lv_topi (fun z_1 ez_1 => ?_)
  obtain rfl : z_1 = 20 := ez_1.trans (by decide)
  refine lv_sipush (v := 16000) hx hb dX12_feed_10 (by decide) ?_
  refine lv_icmp_gt (tgt := 28) hx hb dX12_feed_13 (by decide) (fun c9 => absurd c9 (by decide)) (fun _ => ?_)
  refine lv_aload_n hx hb dX12_feed_16 rfl (lv_at hl 0 rfl) ?_
  refine va_get (D := (dC, dI)) (ci := 10) (v := .int 0) (C := RX12) (T := TX12) (N := 18) hx hb hts inX12 hown hK hP 0 rfl rfl 10 (by decide) (hts _ kw_158) (fun _ h9 => h9) g_fx_10 dX12_feed_17 ?_
  refine lv_bipush (v := 20) hx hb dX12_feed_20 (by decide) ?_
  refine lv_iadd hx hb dX12_feed_22 ?_
  refine lv_topi (fun z_2 ez_2 => ?_)
  obtain rfl : z_2 = 20 := ez_2.trans (by decide)
  refine lv_ldc hx hb hown (hts _ kw_159) dX12_feed_23 ?_
  refine lv_icmp_le (tgt := 30) hx hb dX12_feed_25 (by decide) (fun _ => ?_) (fun c9 => absurd (by decide) c9)
  refine lv_aload_n hx hb dX12_feed_30 rfl (lv_at hl 0 rfl) ?_
  refine va_get (D := (dC, dI)) (ci := 10) (v := .ref ht) (C := RX12) (T := TX12) (N := 18) hx hb hts inX12 hown hK hP 0 rfl rfl 0 (by decide) (hts _ kw_103) (fun _ h9 => h9) g_fx_0 dX12_feed_31 ?_
  refine lv_iload_n hx hb dX12_feed_34 rfl (lv_at hl 1 rfl) ?_
  have hPc := hP.sub (ws' := [(ht, .inr (0, ft)), (htd, .inl (cB, 64, .inl (fun _ => 0)))]) [1, 2] rfl
  have hDc := hD.sub (ws' := [(ht, .inr (0, ft)), (htd, .inl (cB, 64, .inl (fun _ => 0)))]) [1, 2] (by decide) rfl
  have hKc := hK.sub (tys' := [(cB, .byte)]) [0] rfl
  have hFc := va_free (wc := [(ht, .inr (0, ft)), (htd, .inl (cB, 64, .inl (fun _ => 0)))]) hD hS hA [1, 2] rfl
  refine va_callv (va_runV (As := [.int a]) (rest := []) ⟨hx, hb, hml, hown, hts⟩ (m_X0_put4 l dC dI s.heap.size ht ft htd cB ((fun _ => 0)) 0 a L_ft g_ft_0 g_ft_1 (by decide) (by decide) (by decide) (by decide)) (cwV 1 hts (gd_V kw_160 kw_161 kw_162 kw_49 kw_163) rfl rfl rfl (by decide +kernel) ⟨Nat.le_of_ble_eq_true rfl, Nat.le_of_ble_eq_true rfl⟩) ⟨st_blind, va_recv hKc hPc (ci := 0) (q0 := 0) rfl rfl, fun U hU hW9 => st_mk hU hW9 hPc hKc hDc hex⟩ rfl rfl hl.1 rfl (lv_room (Nat.le_of_ble_eq_true rfl)) dX12_feed_35 ⟨Nat.le_of_ble_eq_true rfl, Nat.le_of_ble_eq_true rfl⟩) hS (fun q _ h => hFc q h) hFc (fun  u9 t9 H1 locs ht9 hvm9 hw9 hB9 hz9 hk9 hS => ?_)
  obtain ⟨fs1_3, f1_4, L_fs1_3, g_fs1_3_0, g_fs1_3_1, hP1, hK1, hD1⟩ := hB9
  rw [ht9] at hP1
  have hK1 := va_K.moved hvm9.symm hK1
  obtain ⟨hP, hD⟩ := va_join (wr := [(h0, .inr (10, fx))]) (w1 := [(ht, .inr (0, fs1_3)), (htd, .inl (cB, 64, .inl f1_4))]) hP hD [1, 2] [0] rfl rfl (by decide) (by decide) hk9 hFc hP1 hD1
  have hK := (hK.sub (tys' := [(cB, .byte)]) [0] rfl).app hK1
  generalize H1 = H at hP hS ⊢
  have hP : va_P (dC, dI) cl0 [(h0, .inr (10, fx)), (ht, .inr (0, fs1_3)), (htd, .inl (cB, 64, .inl f1_4))] H := hP
  have hD : va_D A [(h0, .inr (10, fx)), (ht, .inr (0, fs1_3)), (htd, .inl (cB, 64, .inl f1_4))] := hD
  have hK : va_K (dC, dI) cl0 [(cB, .byte), (cB, .byte)] s := hK
  have hK := hK.sub (tys' := [(cB, .byte)]) [0] rfl
  refine lv_aload_n hx hb dX12_feed_38 rfl (lv_at hl 0 rfl) ?_
  refine va_get (D := (dC, dI)) (ci := 10) (v := .ref ht) (C := RX12) (T := TX12) (N := 18) hx hb hts inX12 hown hK hP 0 rfl rfl 0 (by decide) (hts _ kw_103) (fun _ h9 => h9) g_fx_0 dX12_feed_39 ?_
  refine lv_iload_n hx hb dX12_feed_42 rfl (lv_at hl 2 rfl) ?_
  have hPc := hP.sub (ws' := [(ht, .inr (0, fs1_3)), (htd, .inl (cB, 64, .inl f1_4))]) [1, 2] rfl
  have hDc := hD.sub (ws' := [(ht, .inr (0, fs1_3)), (htd, .inl (cB, 64, .inl f1_4))]) [1, 2] (by decide) rfl
  have hKc := hK.sub (tys' := [(cB, .byte)]) [0] rfl
  have hFc := va_free (wc := [(ht, .inr (0, fs1_3)), (htd, .inl (cB, 64, .inl f1_4))]) hD hS hA [1, 2] rfl
  refine va_callv (va_runV (As := [.int b]) (rest := []) ⟨hx, hb, hml, hown, hts⟩ (m_X0_put4 l dC dI H.size ht fs1_3 htd cB f1_4 (((((0 + 1) + 1) + 1) + 1)) b L_fs1_3 g_fs1_3_0 g_fs1_3_1 (by decide) (by decide) (by decide) (by decide)) (cwV 1 hts (gd_V kw_160 kw_161 kw_162 kw_49 kw_163) rfl rfl rfl (by decide +kernel) ⟨Nat.le_of_ble_eq_true rfl, Nat.le_of_ble_eq_true rfl⟩) ⟨st_blind, va_recv hKc hPc (ci := 0) (q0 := 0) rfl rfl, fun U hU hW9 => st_mk hU hW9 hPc hKc hDc hex⟩ rfl rfl hl.1 rfl (lv_room (Nat.le_of_ble_eq_true rfl)) dX12_feed_43 ⟨Nat.le_of_ble_eq_true rfl, Nat.le_of_ble_eq_true rfl⟩) hS (fun q _ h => hFc q h) hFc (fun  u9 t9 H1 locs ht9 hvm9 hw9 hB9 hz9 hk9 hS => ?_)
  obtain ⟨fs1_5, f1_6, L_fs1_5, g_fs1_5_0, g_fs1_5_1, hP1, hK1, hD1⟩ := hB9
  rw [ht9] at hP1
  have hK1 := va_K.moved hvm9.symm hK1
  obtain ⟨hP, hD⟩ := va_join (wr := [(h0, .inr (10, fx))]) (w1 := [(ht, .inr (0, fs1_5)), (htd, .inl (cB, 64, .inl f1_6))]) hP hD [1, 2] [0] rfl rfl (by decide) (by decide) hk9 hFc hP1 hD1
  have hK := (hK.sub (tys' := [(cB, .byte)]) [0] rfl).app hK1
  generalize H1 = H at hP hS ⊢
  have hP : va_P (dC, dI) cl0 [(h0, .inr (10, fx)), (ht, .inr (0, fs1_5)), (htd, .inl (cB, 64, .inl f1_6))] H := hP
  have hD : va_D A [(h0, .inr (10, fx)), (ht, .inr (0, fs1_5)), (htd, .inl (cB, 64, .inl f1_6))] := hD
  have hK : va_K (dC, dI) cl0 [(cB, .byte), (cB, .byte)] s := hK
  have hK := hK.sub (tys' := [(cB, .byte)]) [0] rfl
  refine lv_aload_n hx hb dX12_feed_46 rfl (lv_at hl 0 rfl) ?_
  refine va_get (D := (dC, dI)) (ci := 10) (v := .ref ht) (C := RX12) (T := TX12) (N := 18) hx hb hts inX12 hown hK hP 0 rfl rfl 0 (by decide) (hts _ kw_103) (fun _ h9 => h9) g_fx_0 dX12_feed_47 ?_
  refine lv_iload_n hx hb dX12_feed_50 rfl (lv_at hl 3 rfl) ?_
  have hPc := hP.sub (ws' := [(ht, .inr (0, fs1_5)), (htd, .inl (cB, 64, .inl f1_6))]) [1, 2] rfl
  have hDc := hD.sub (ws' := [(ht, .inr (0, fs1_5)), (htd, .inl (cB, 64, .inl f1_6))]) [1, 2] (by decide) rfl
  have hKc := hK.sub (tys' := [(cB, .byte)]) [0] rfl
  have hFc := va_free (wc := [(ht, .inr (0, fs1_5)), (htd, .inl (cB, 64, .inl f1_6))]) hD hS hA [1, 2] rfl
  refine va_callv (va_runV (As := [.int c0]) (rest := []) ⟨hx, hb, hml, hown, hts⟩ (m_X0_put4 l dC dI H.size ht fs1_5 htd cB f1_6 (((((((((0 + 1) + 1) + 1) + 1) + 1) + 1) + 1) + 1)) c0 L_fs1_5 g_fs1_5_0 g_fs1_5_1 (by decide) (by decide) (by decide) (by decide)) (cwV 1 hts (gd_V kw_160 kw_161 kw_162 kw_49 kw_163) rfl rfl rfl (by decide +kernel) ⟨Nat.le_of_ble_eq_true rfl, Nat.le_of_ble_eq_true rfl⟩) ⟨st_blind, va_recv hKc hPc (ci := 0) (q0 := 0) rfl rfl, fun U hU hW9 => st_mk hU hW9 hPc hKc hDc hex⟩ rfl rfl hl.1 rfl (lv_room (Nat.le_of_ble_eq_true rfl)) dX12_feed_51 ⟨Nat.le_of_ble_eq_true rfl, Nat.le_of_ble_eq_true rfl⟩) hS (fun q _ h => hFc q h) hFc (fun  u9 t9 H1 locs ht9 hvm9 hw9 hB9 hz9 hk9 hS => ?_)
  obtain ⟨fs1_7, f1_8, L_fs1_7, g_fs1_7_0, g_fs1_7_1, hP1, hK1, hD1⟩ := hB9
  rw [ht9] at hP1
  have hK1 := va_K.moved hvm9.symm hK1
  obtain ⟨hP, hD⟩ := va_join (wr := [(h0, .inr (10, fx))]) (w1 := [(ht, .inr (0, fs1_7)), (htd, .inl (cB, 64, .inl f1_8))]) hP hD [1, 2] [0] rfl rfl (by decide) (by decide) hk9 hFc hP1 hD1
  have hK := (hK.sub (tys' := [(cB, .byte)]) [0] rfl).app hK1
  generalize H1 = H at hP hS ⊢
  have hP : va_P (dC, dI) cl0 [(h0, .inr (10, fx)), (ht, .inr (0, fs1_7)), (htd, .inl (cB, 64, .inl f1_8))] H := hP
  have hD : va_D A [(h0, .inr (10, fx)), (ht, .inr (0, fs1_7)), (htd, .inl (cB, 64, .inl f1_8))] := hD
  have hK : va_K (dC, dI) cl0 [(cB, .byte), (cB, .byte)] s := hK
  have hK := hK.sub (tys' := [(cB, .byte)]) [0] rfl
  refine lv_aload_n hx hb dX12_feed_54 rfl (lv_at hl 0 rfl) ?_
  refine va_get (D := (dC, dI)) (ci := 10) (v := .ref ht) (C := RX12) (T := TX12) (N := 18) hx hb hts inX12 hown hK hP 0 rfl rfl 0 (by decide) (hts _ kw_103) (fun _ h9 => h9) g_fx_0 dX12_feed_55 ?_
  refine lv_iload hx hb dX12_feed_58 (lv_at hl 4 rfl) ?_
  have hPc := hP.sub (ws' := [(ht, .inr (0, fs1_7)), (htd, .inl (cB, 64, .inl f1_8))]) [1, 2] rfl
  have hDc := hD.sub (ws' := [(ht, .inr (0, fs1_7)), (htd, .inl (cB, 64, .inl f1_8))]) [1, 2] (by decide) rfl
  have hKc := hK.sub (tys' := [(cB, .byte)]) [0] rfl
  have hFc := va_free (wc := [(ht, .inr (0, fs1_7)), (htd, .inl (cB, 64, .inl f1_8))]) hD hS hA [1, 2] rfl
  refine va_callv (va_runV (As := [.int d]) (rest := []) ⟨hx, hb, hml, hown, hts⟩ (m_X0_put4 l dC dI H.size ht fs1_7 htd cB f1_8 (((((((((((((0 + 1) + 1) + 1) + 1) + 1) + 1) + 1) + 1) + 1) + 1) + 1) + 1)) d L_fs1_7 g_fs1_7_0 g_fs1_7_1 (by decide) (by decide) (by decide) (by decide)) (cwV 1 hts (gd_V kw_160 kw_161 kw_162 kw_49 kw_163) rfl rfl rfl (by decide +kernel) ⟨Nat.le_of_ble_eq_true rfl, Nat.le_of_ble_eq_true rfl⟩) ⟨st_blind, va_recv hKc hPc (ci := 0) (q0 := 0) rfl rfl, fun U hU hW9 => st_mk hU hW9 hPc hKc hDc hex⟩ rfl rfl hl.1 rfl (lv_room (Nat.le_of_ble_eq_true rfl)) dX12_feed_60 ⟨Nat.le_of_ble_eq_true rfl, Nat.le_of_ble_eq_true rfl⟩) hS (fun q _ h => hFc q h) hFc (fun  u9 t9 H1 locs ht9 hvm9 hw9 hB9 hz9 hk9 hS => ?_)
  obtain ⟨fs1_9, f1_10, L_fs1_9, g_fs1_9_0, g_fs1_9_1, hP1, hK1, hD1⟩ := hB9
  rw [ht9] at hP1
  have hK1 := va_K.moved hvm9.symm hK1
  obtain ⟨hP, hD⟩ := va_join (wr := [(h0, .inr (10, fx))]) (w1 := [(ht, .inr (0, fs1_9)), (htd, .inl (cB, 64, .inl f1_10))]) hP hD [1, 2] [0] rfl rfl (by decide) (by decide) hk9 hFc hP1 hD1
  have hK := (hK.sub (tys' := [(cB, .byte)]) [0] rfl).app hK1
  generalize H1 = H at hP hS ⊢
  have hP : va_P (dC, dI) cl0 [(h0, .inr (10, fx)), (ht, .inr (0, fs1_9)), (htd, .inl (cB, 64, .inl f1_10))] H := hP
  have hD : va_D A [(h0, .inr (10, fx)), (ht, .inr (0, fs1_9)), (htd, .inl (cB, 64, .inl f1_10))] := hD
  have hK : va_K (dC, dI) cl0 [(cB, .byte), (cB, .byte)] s := hK
  have hK := hK.sub (tys' := [(cB, .byte)]) [0] rfl
  refine lv_aload_n hx hb dX12_feed_63 rfl (lv_at hl 0 rfl) ?_
  refine va_get (D := (dC, dI)) (ci := 10) (v := .ref ht) (C := RX12) (T := TX12) (N := 18) hx hb hts inX12 hown hK hP 0 rfl rfl 0 (by decide) (hts _ kw_103) (fun _ h9 => h9) g_fx_0 dX12_feed_64 ?_
  refine lv_iload hx hb dX12_feed_67 (lv_at hl 5 rfl) ?_
  have hPc := hP.sub (ws' := [(ht, .inr (0, fs1_9)), (htd, .inl (cB, 64, .inl f1_10))]) [1, 2] rfl
  have hDc := hD.sub (ws' := [(ht, .inr (0, fs1_9)), (htd, .inl (cB, 64, .inl f1_10))]) [1, 2] (by decide) rfl
  have hKc := hK.sub (tys' := [(cB, .byte)]) [0] rfl
  have hFc := va_free (wc := [(ht, .inr (0, fs1_9)), (htd, .inl (cB, 64, .inl f1_10))]) hD hS hA [1, 2] rfl
  refine va_callv (va_runV (As := [.int e0]) (rest := []) ⟨hx, hb, hml, hown, hts⟩ (m_X0_put4 l dC dI H.size ht fs1_9 htd cB f1_10 (((((((((((((((((0 + 1) + 1) + 1) + 1) + 1) + 1) + 1) + 1) + 1) + 1) + 1) + 1) + 1) + 1) + 1) + 1)) e0 L_fs1_9 g_fs1_9_0 g_fs1_9_1 (by decide) (by decide) (by decide) (by decide)) (cwV 1 hts (gd_V kw_160 kw_161 kw_162 kw_49 kw_163) rfl rfl rfl (by decide +kernel) ⟨Nat.le_of_ble_eq_true rfl, Nat.le_of_ble_eq_true rfl⟩) ⟨st_blind, va_recv hKc hPc (ci := 0) (q0 := 0) rfl rfl, fun U hU hW9 => st_mk hU hW9 hPc hKc hDc hex⟩ rfl rfl hl.1 rfl (lv_room (Nat.le_of_ble_eq_true rfl)) dX12_feed_69 ⟨Nat.le_of_ble_eq_true rfl, Nat.le_of_ble_eq_true rfl⟩) hS (fun q _ h => hFc q h) hFc (fun  u9 t9 H1 locs ht9 hvm9 hw9 hB9 hz9 hk9 hS => ?_)
  obtain ⟨fs1_11, f1_12, L_fs1_11, g_fs1_11_0, g_fs1_11_1, hP1, hK1, hD1⟩ := hB9
  rw [ht9] at hP1
  have hK1 := va_K.moved hvm9.symm hK1
  obtain ⟨hP, hD⟩ := va_join (wr := [(h0, .inr (10, fx))]) (w1 := [(ht, .inr (0, fs1_11)), (htd, .inl (cB, 64, .inl f1_12))]) hP hD [1, 2] [0] rfl rfl (by decide) (by decide) hk9 hFc hP1 hD1
  have hK := (hK.sub (tys' := [(cB, .byte)]) [0] rfl).app hK1
  generalize H1 = H at hP hS ⊢
  have hP : va_P (dC, dI) cl0 [(h0, .inr (10, fx)), (ht, .inr (0, fs1_11)), (htd, .inl (cB, 64, .inl f1_12))] H := hP
  have hD : va_D A [(h0, .inr (10, fx)), (ht, .inr (0, fs1_11)), (htd, .inl (cB, 64, .inl f1_12))] := hD
  have hK : va_K (dC, dI) cl0 [(cB, .byte), (cB, .byte)] s := hK
  have hK := hK.sub (tys' := [(cB, .byte)]) [0] rfl
  refine lv_aload_n hx hb dX12_feed_72 rfl (lv_at hl 0 rfl) ?_
  refine lv_dup hx hb dX12_feed_73 rfl ?_
  refine va_get (D := (dC, dI)) (ci := 10) (v := .int 0) (C := RX12) (T := TX12) (N := 18) hx hb hts inX12 hown hK hP 0 rfl rfl 10 (by decide) (hts _ kw_158) (fun _ h9 => h9) g_fx_10 dX12_feed_74 ?_
  refine lv_bipush (v := 20) hx hb dX12_feed_77 (by decide) ?_
  refine lv_iadd hx hb dX12_feed_79 ?_
  refine lv_topi (fun z_13 ez_13 => ?_)
  obtain rfl : z_13 = 20 := ez_13.trans (by decide)
  refine va_put (D := (dC, dI)) (ci := 10) (v := .int 20) (ty := .int) (C := RX12) (T := TX12) (N := 18) hx hb hts inX12 tyX12 tyX12_ok nmX12 hown hK hP hD hS 0 rfl rfl 10 (by decide) (hts _ kw_158) (fun _ h9 => h9) rfl (by decide +kernel) rfl rfl (by rw [L_fx]; decide) dX12_feed_80 (fun H locs hP hD hS => ?_)
  obtain ⟨fx_14, e_fx_14⟩ : ∃ z, z = fx.set 10 (.int 20) := ⟨_, rfl⟩
  have hP : va_P (dC, dI) cl0 [(h0, .inr (10, fx_14)), (ht, .inr (0, fs1_11)), (htd, .inl (cB, 64, .inl f1_12))] H := by rw [e_fx_14]; exact hP
  have hD : va_D A [(h0, .inr (10, fx_14)), (ht, .inr (0, fs1_11)), (htd, .inl (cB, 64, .inl f1_12))] := by rw [e_fx_14]; exact hD
  have L_fx_14 : fx_14.length = 18 := fx_len e_fx_14 L_fx
  have g_fx_14_0 := fx_ne (j := 0) e_fx_14 g_fx_0 (by decide)
  have g_fx_14_10 := fx_self e_fx_14 (by rw [L_fx]; decide)
  refine lv_aload_n hx hb dX12_feed_83 rfl (lv_at hl 0 rfl) ?_
  refine va_get (D := (dC, dI)) (ci := 10) (v := .ref ht) (C := RX12) (T := TX12) (N := 18) hx hb hts inX12 hown hK hP 0 rfl rfl 0 (by decide) (hts _ kw_103) (fun _ h9 => h9) g_fx_14_0 dX12_feed_84 ?_
  refine va_get (D := (dC, dI)) (ci := 0) (v := .int ((((((((((((((((((((0 + 1) + 1) + 1) + 1) + 1) + 1) + 1) + 1) + 1) + 1) + 1) + 1) + 1) + 1) + 1) + 1) + 1) + 1) + 1) + 1)) (C := RX0) (T := TX0) (N := 2) hx hb hts inX0 hown hK hP 1 rfl rfl 1 (by decide) (hts _ kw_157) (fun _ h9 => h9) g_fs1_11_1 dX12_feed_87 ?_
  refine W.widen (k := 0) (n := 0) (Nat.le_of_ble_eq_true rfl) (Nat.le_of_ble_eq_true rfl) ?_
  exact W.iret (v := ((((((((((((((((((((0 + 1) + 1) + 1) + 1) + 1) + 1) + 1) + 1) + 1) + 1) + 1) + 1) + 1) + 1) + 1) + 1) + 1) + 1) + 1) + 1)) hx hb hr (fun t9 ht9 hW9 => ⟨⟨_, (), rfl, (by decide), trivial⟩, hS.F ht9⟩) hS.2.2 dX12_feed_90
set_option maxHeartbeats 400000 in
set_option maxRecDepth 100000 in
theorem m_X12_end (l : Launch) (dC : Nat → ClassId) (dI : Nat → Nat → Nat) (sz : Nat) (h0 : Nat) (fx : List Value) (ht : Nat) (ft : List Value) (n : Int32) (L_fx : fx.length = 18) (g_fx_0 : fx[0]? = some (.ref ht)) (L_ft : ft.length = 2) (g_ft_1 : ft[1]? = some (.int 0)) : Met l yX12_end (wt yX12_end cX12_end 2 (some .boolean)) ({ frames := 0, cells := 0, slots := 0, locals := 0 }) (va_Pc [.ref h0, .int n] (st_U dC dI sz [(h0, .inr (10, fx)), (ht, .inr (0, ft))] [])) (va_Qi (fun (r : Int32) (_ : Unit) => r = (if n < 0 then (0 : Int32) else if n ≤ 0 then 1 else 0)) (fun (_ : Unit) (_ : State) => True) (va_A [(h0, .inr (10, fx)), (ht, .inr (0, ft))] sz)) 0 0 (va_A [(h0, .inr (10, fx)), (ht, .inr (0, ft))] sz) := by
  refine Met.ofW (cc := cX12_end) (maxL := 2) (ret := (some .boolean)) (by decide) rfl ?_
  intro p e s m args below meth c s₁ B hml hv
  obtain ⟨rfl, hsz, hP, hK, hD0, hex⟩ := hv
  have hx := B.exec
  have hb := B.bytes
  have hr := B.returns
  have hts0 := atoms_spec (ws := wt yX12_end cX12_end 2 (some .boolean)) B.pre
  have hts : ∀ w ∈ tb, w.before _ s = true := fun w h => hts0 w (List.mem_cons_of_mem _ h)
  have hown : s.vm.findClass RX12 = some m.cls := findClass_of_methodNamed B.named
  have hlocks := B.notSynchronized
  subst hsz
  have hD := hD0.self (sz := s.heap.size)
  generalize hAe : va_A [(h0, .inr (10, fx)), (ht, .inr (0, ft))] s.heap.size = A at hD ⊢
  have hA : ∀ q : Nat, s.heap.size ≤ q → A q := fun q h => by rw [← hAe]; exact Or.inr h
  have hS : va_S A s.heap s.heap [] := va_S.rf
  have hl := lv_entry ([.ref h0, .int n]) (n := 2) (Nat.le_of_ble_eq_true rfl)
  rw [lg_entry_eq]
  generalize (lg_sl ([.ref h0, .int n]) ++ List.replicate (2 - (lg_sl ([.ref h0, .int n])).length) Slot.unset).toArray = ls at hl ⊢
  have hl : lv_has ls 2 [(0, .ref h0), (1, .int n)] := hl
  refine lv_iload_n hx hb dX12_end_0 rfl (lv_at hl 1 rfl) ?_
  refine lv_if_lt (tgt := 15) hx hb dX12_end_1 (by decide) (fun c_1 => ?_) (fun c_1 => ?_)
  · refine lv_iconst (v := 0) hx hb dX12_end_15 (by decide) ?_
    refine W.widen (k := 0) (n := 0) (Nat.le_of_ble_eq_true rfl) (Nat.le_of_ble_eq_true rfl) ?_
    exact W.zret (v := 0) hx hb hr rfl (fun t9 ht9 hW9 => ⟨⟨_, (), rfl, (by rw [if_pos c_1]), trivial⟩, hS.F ht9⟩) hS.2.2 dX12_end_16
  · refine lv_iload_n hx hb dX12_end_4 rfl (lv_at hl 1 rfl) ?_
    refine lv_aload_n hx hb dX12_end_5 rfl (lv_at hl 0 rfl) ?_
    refine va_get (D := (dC, dI)) (ci := 10) (v := .ref ht) (C := RX12) (T := TX12) (N := 18) hx hb hts inX12 hown hK hP 0 rfl rfl 0 (by decide) (hts _ kw_103) (fun _ h9 => h9) g_fx_0 dX12_end_6 ?_
    refine va_get (D := (dC, dI)) (ci := 0) (v := .int 0) (C := RX0) (T := TX0) (N := 2) hx hb hts inX0 hown hK hP 1 rfl rfl 1 (by decide) (hts _ kw_157) (fun _ h9 => h9) g_ft_1 dX12_end_9 ?_
    refine lv_icmp_le (tgt := 17) hx hb dX12_end_12 (by decide) (fun c_12 => ?_) (fun c_12 => ?_)
    · refine lv_aload_n hx hb dX12_end_17 rfl (lv_at hl 0 rfl) ?_
      refine va_get (D := (dC, dI)) (ci := 10) (v := .ref ht) (C := RX12) (T := TX12) (N := 18) hx hb hts inX12 hown hK hP 0 rfl rfl 0 (by decide) (hts _ kw_103) (fun _ h9 => h9) g_fx_0 dX12_end_18 ?_
      refine lv_iload_n hx hb dX12_end_21 rfl (lv_at hl 1 rfl) ?_
      refine va_put (D := (dC, dI)) (ci := 0) (v := .int n) (ty := .int) (C := RX0) (T := TX0) (N := 2) hx hb hts inX0 tyX0 tyX0_ok nmX0 hown hK hP hD hS 1 rfl rfl 1 (by decide) (hts _ kw_157) (fun _ h9 => h9) rfl (by decide +kernel) rfl rfl (by rw [L_ft]; decide) dX12_end_22 (fun H locs hP hD hS => ?_)
      obtain ⟨ft_1, e_ft_1⟩ : ∃ z, z = ft.set 1 (.int n) := ⟨_, rfl⟩
      have hP : va_P (dC, dI) cl0 [(h0, .inr (10, fx)), (ht, .inr (0, ft_1))] H := by rw [e_ft_1]; exact hP
      have hD : va_D A [(h0, .inr (10, fx)), (ht, .inr (0, ft_1))] := by rw [e_ft_1]; exact hD
      have L_ft_1 : ft_1.length = 2 := fx_len e_ft_1 L_ft
      have g_ft_1_1 := fx_self e_ft_1 (by rw [L_ft]; decide)
      refine lv_iconst (v := 1) hx hb dX12_end_25 (by decide) ?_
      refine W.widen (k := 0) (n := 0) (Nat.le_of_ble_eq_true rfl) (Nat.le_of_ble_eq_true rfl) ?_
      exact W.zret (v := 1) hx hb hr rfl (fun t9 ht9 hW9 => ⟨⟨_, (), rfl, (by rw [if_neg c_1, if_pos c_12]), trivial⟩, hS.F ht9⟩) hS.2.2 dX12_end_26
    · refine lv_iconst (v := 0) hx hb dX12_end_15 (by decide) ?_
      refine W.widen (k := 0) (n := 0) (Nat.le_of_ble_eq_true rfl) (Nat.le_of_ble_eq_true rfl) ?_
      exact W.zret (v := 0) hx hb hr rfl (fun t9 ht9 hW9 => ⟨⟨_, (), rfl, (by rw [if_neg c_1, if_neg c_12]), trivial⟩, hS.F ht9⟩) hS.2.2 dX12_end_16
set_option maxHeartbeats 400000 in
set_option maxRecDepth 100000 in
theorem m_X12_rule (l : Launch) (dC : Nat → ClassId) (dI : Nat → Nat → Nat) (sz : Nat) (h0 : Nat) (fx : List Value) (L_fx : fx.length = 18) (g_fx_13 : fx[13]? = some (.int 0)) : Met l yX12_rule (wt yX12_rule cX12_rule 1 (some .int)) ({ frames := 0, cells := 0, slots := 0, locals := 0 }) (va_Pc [.ref h0] (st_U dC dI sz [(h0, .inr (10, fx))] [])) (va_Qi (fun (r : Int32) (_ : Unit) => r = 0) (fun (_ : Unit) (_ : State) => True) (va_A [(h0, .inr (10, fx))] sz)) 0 0 (va_A [(h0, .inr (10, fx))] sz) := by
  refine Met.ofW (cc := cX12_rule) (maxL := 1) (ret := (some .int)) (by decide) rfl ?_
  intro p e s m args below meth c s₁ B hml hv
  obtain ⟨rfl, hsz, hP, hK, hD0, hex⟩ := hv
  have hx := B.exec
  have hb := B.bytes
  have hr := B.returns
  have hts0 := atoms_spec (ws := wt yX12_rule cX12_rule 1 (some .int)) B.pre
  have hts : ∀ w ∈ tb, w.before _ s = true := fun w h => hts0 w (List.mem_cons_of_mem _ h)
  have hown : s.vm.findClass RX12 = some m.cls := findClass_of_methodNamed B.named
  have hlocks := B.notSynchronized
  subst hsz
  have hD := hD0.self (sz := s.heap.size)
  generalize hAe : va_A [(h0, .inr (10, fx))] s.heap.size = A at hD ⊢
  have hA : ∀ q : Nat, s.heap.size ≤ q → A q := fun q h => by rw [← hAe]; exact Or.inr h
  have hS : va_S A s.heap s.heap [] := va_S.rf
  have hl := lv_entry ([.ref h0]) (n := 1) (Nat.le_of_ble_eq_true rfl)
  rw [lg_entry_eq]
  generalize (lg_sl ([.ref h0]) ++ List.replicate (1 - (lg_sl ([.ref h0])).length) Slot.unset).toArray = ls at hl ⊢
  have hl : lv_has ls 1 [(0, .ref h0)] := hl
  refine lv_aload_n hx hb dX12_rule_0 rfl (lv_at hl 0 rfl) ?_
  refine va_get (D := (dC, dI)) (ci := 10) (v := .int 0) (C := RX12) (T := TX12) (N := 18) hx hb hts inX12 hown hK hP 0 rfl rfl 13 (by decide) (hts _ kw_164) (fun _ h9 => h9) g_fx_13 dX12_rule_1 ?_
  refine W.widen (k := 0) (n := 0) (Nat.le_of_ble_eq_true rfl) (Nat.le_of_ble_eq_true rfl) ?_
  exact W.iret (v := 0) hx hb hr (fun t9 ht9 hW9 => ⟨⟨_, (), rfl, rfl, trivial⟩, hS.F ht9⟩) hS.2.2 dX12_rule_4
set_option maxHeartbeats 400000 in
set_option maxRecDepth 100000 in
theorem m_X12_place (l : Launch) (dC : Nat → ClassId) (dI : Nat → Nat → Nat) (sz : Nat) (h0 : Nat) (fx : List Value) (L_fx : fx.length = 18) (g_fx_14 : fx[14]? = some (.int (-1))) : Met l yX12_place (wt yX12_place cX12_place 1 (some .int)) ({ frames := 0, cells := 0, slots := 0, locals := 0 }) (va_Pc [.ref h0] (st_U dC dI sz [(h0, .inr (10, fx))] [])) (va_Qi (fun (r : Int32) (_ : Unit) => r = (-1)) (fun (_ : Unit) (_ : State) => True) (va_A [(h0, .inr (10, fx))] sz)) 0 0 (va_A [(h0, .inr (10, fx))] sz) := by
  refine Met.ofW (cc := cX12_place) (maxL := 1) (ret := (some .int)) (by decide) rfl ?_
  intro p e s m args below meth c s₁ B hml hv
  obtain ⟨rfl, hsz, hP, hK, hD0, hex⟩ := hv
  have hx := B.exec
  have hb := B.bytes
  have hr := B.returns
  have hts0 := atoms_spec (ws := wt yX12_place cX12_place 1 (some .int)) B.pre
  have hts : ∀ w ∈ tb, w.before _ s = true := fun w h => hts0 w (List.mem_cons_of_mem _ h)
  have hown : s.vm.findClass RX12 = some m.cls := findClass_of_methodNamed B.named
  have hlocks := B.notSynchronized
  subst hsz
  have hD := hD0.self (sz := s.heap.size)
  generalize hAe : va_A [(h0, .inr (10, fx))] s.heap.size = A at hD ⊢
  have hA : ∀ q : Nat, s.heap.size ≤ q → A q := fun q h => by rw [← hAe]; exact Or.inr h
  have hS : va_S A s.heap s.heap [] := va_S.rf
  have hl := lv_entry ([.ref h0]) (n := 1) (Nat.le_of_ble_eq_true rfl)
  rw [lg_entry_eq]
  generalize (lg_sl ([.ref h0]) ++ List.replicate (1 - (lg_sl ([.ref h0])).length) Slot.unset).toArray = ls at hl ⊢
  have hl : lv_has ls 1 [(0, .ref h0)] := hl
  refine lv_aload_n hx hb dX12_place_0 rfl (lv_at hl 0 rfl) ?_
  refine va_get (D := (dC, dI)) (ci := 10) (v := .int (-1)) (C := RX12) (T := TX12) (N := 18) hx hb hts inX12 hown hK hP 0 rfl rfl 14 (by decide) (hts _ kw_144) (fun _ h9 => h9) g_fx_14 dX12_place_1 ?_
  refine W.widen (k := 0) (n := 0) (Nat.le_of_ble_eq_true rfl) (Nat.le_of_ble_eq_true rfl) ?_
  exact W.iret (v := (-1)) hx hb hr (fun t9 ht9 hW9 => ⟨⟨_, (), rfl, rfl, trivial⟩, hS.F ht9⟩) hS.2.2 dX12_place_4
set_option maxHeartbeats 400000 in
set_option maxRecDepth 100000 in
theorem m_X12_method (l : Launch) (dC : Nat → ClassId) (dI : Nat → Nat → Nat) (sz : Nat) (h0 : Nat) (fx : List Value) (L_fx : fx.length = 18) (g_fx_15 : fx[15]? = some (.int (-1))) : Met l yX12_method (wt yX12_method cX12_method 1 (some .int)) ({ frames := 0, cells := 0, slots := 0, locals := 0 }) (va_Pc [.ref h0] (st_U dC dI sz [(h0, .inr (10, fx))] [])) (va_Qi (fun (r : Int32) (_ : Unit) => r = (-1)) (fun (_ : Unit) (_ : State) => True) (va_A [(h0, .inr (10, fx))] sz)) 0 0 (va_A [(h0, .inr (10, fx))] sz) := by
  refine Met.ofW (cc := cX12_method) (maxL := 1) (ret := (some .int)) (by decide) rfl ?_
  intro p e s m args below meth c s₁ B hml hv
  obtain ⟨rfl, hsz, hP, hK, hD0, hex⟩ := hv
  have hx := B.exec
  have hb := B.bytes
  have hr := B.returns
  have hts0 := atoms_spec (ws := wt yX12_method cX12_method 1 (some .int)) B.pre
  have hts : ∀ w ∈ tb, w.before _ s = true := fun w h => hts0 w (List.mem_cons_of_mem _ h)
  have hown : s.vm.findClass RX12 = some m.cls := findClass_of_methodNamed B.named
  have hlocks := B.notSynchronized
  subst hsz
  have hD := hD0.self (sz := s.heap.size)
  generalize hAe : va_A [(h0, .inr (10, fx))] s.heap.size = A at hD ⊢
  have hA : ∀ q : Nat, s.heap.size ≤ q → A q := fun q h => by rw [← hAe]; exact Or.inr h
  have hS : va_S A s.heap s.heap [] := va_S.rf
  have hl := lv_entry ([.ref h0]) (n := 1) (Nat.le_of_ble_eq_true rfl)
  rw [lg_entry_eq]
  generalize (lg_sl ([.ref h0]) ++ List.replicate (1 - (lg_sl ([.ref h0])).length) Slot.unset).toArray = ls at hl ⊢
  have hl : lv_has ls 1 [(0, .ref h0)] := hl
  refine lv_aload_n hx hb dX12_method_0 rfl (lv_at hl 0 rfl) ?_
  refine va_get (D := (dC, dI)) (ci := 10) (v := .int (-1)) (C := RX12) (T := TX12) (N := 18) hx hb hts inX12 hown hK hP 0 rfl rfl 15 (by decide) (hts _ kw_145) (fun _ h9 => h9) g_fx_15 dX12_method_1 ?_
  refine W.widen (k := 0) (n := 0) (Nat.le_of_ble_eq_true rfl) (Nat.le_of_ble_eq_true rfl) ?_
  exact W.iret (v := (-1)) hx hb hr (fun t9 ht9 hW9 => ⟨⟨_, (), rfl, rfl, trivial⟩, hS.F ht9⟩) hS.2.2 dX12_method_4
set_option maxHeartbeats 400000 in
set_option maxRecDepth 100000 in
theorem m_X12_at (l : Launch) (dC : Nat → ClassId) (dI : Nat → Nat → Nat) (sz : Nat) (h0 : Nat) (fx : List Value) (L_fx : fx.length = 18) (g_fx_16 : fx[16]? = some (.int (-1))) : Met l yX12_at (wt yX12_at cX12_at 1 (some .int)) ({ frames := 0, cells := 0, slots := 0, locals := 0 }) (va_Pc [.ref h0] (st_U dC dI sz [(h0, .inr (10, fx))] [])) (va_Qi (fun (r : Int32) (_ : Unit) => r = (-1)) (fun (_ : Unit) (_ : State) => True) (va_A [(h0, .inr (10, fx))] sz)) 0 0 (va_A [(h0, .inr (10, fx))] sz) := by
  refine Met.ofW (cc := cX12_at) (maxL := 1) (ret := (some .int)) (by decide) rfl ?_
  intro p e s m args below meth c s₁ B hml hv
  obtain ⟨rfl, hsz, hP, hK, hD0, hex⟩ := hv
  have hx := B.exec
  have hb := B.bytes
  have hr := B.returns
  have hts0 := atoms_spec (ws := wt yX12_at cX12_at 1 (some .int)) B.pre
  have hts : ∀ w ∈ tb, w.before _ s = true := fun w h => hts0 w (List.mem_cons_of_mem _ h)
  have hown : s.vm.findClass RX12 = some m.cls := findClass_of_methodNamed B.named
  have hlocks := B.notSynchronized
  subst hsz
  have hD := hD0.self (sz := s.heap.size)
  generalize hAe : va_A [(h0, .inr (10, fx))] s.heap.size = A at hD ⊢
  have hA : ∀ q : Nat, s.heap.size ≤ q → A q := fun q h => by rw [← hAe]; exact Or.inr h
  have hS : va_S A s.heap s.heap [] := va_S.rf
  have hl := lv_entry ([.ref h0]) (n := 1) (Nat.le_of_ble_eq_true rfl)
  rw [lg_entry_eq]
  generalize (lg_sl ([.ref h0]) ++ List.replicate (1 - (lg_sl ([.ref h0])).length) Slot.unset).toArray = ls at hl ⊢
  have hl : lv_has ls 1 [(0, .ref h0)] := hl
  refine lv_aload_n hx hb dX12_at_0 rfl (lv_at hl 0 rfl) ?_
  refine va_get (D := (dC, dI)) (ci := 10) (v := .int (-1)) (C := RX12) (T := TX12) (N := 18) hx hb hts inX12 hown hK hP 0 rfl rfl 16 (by decide) (hts _ kw_146) (fun _ h9 => h9) g_fx_16 dX12_at_1 ?_
  refine W.widen (k := 0) (n := 0) (Nat.le_of_ble_eq_true rfl) (Nat.le_of_ble_eq_true rfl) ?_
  exact W.iret (v := (-1)) hx hb hr (fun t9 ht9 hW9 => ⟨⟨_, (), rfl, rfl, trivial⟩, hS.F ht9⟩) hS.2.2 dX12_at_4
set_option maxHeartbeats 400000 in
set_option maxRecDepth 100000 in
theorem m_X12_unitAt (l : Launch) (dC : Nat → ClassId) (dI : Nat → Nat → Nat) (sz : Nat) (h0 : Nat) (fx : List Value) (f0 : Int32) (L_fx : fx.length = 18) (g_fx_11 : fx[11]? = some (.int 0)) : Met l yX12_unitAt (wt yX12_unitAt cX12_unitAt 2 (some (.object "CodeFoundry$Unit"))) ({ frames := 0, cells := 0, slots := 0, locals := 0 }) (va_Pc [.ref h0, .int f0] (st_U dC dI sz [(h0, .inr (10, fx))] [])) (va_Qq (fun (r : Option Nat) (_ : Unit) => r = none) (fun (_ : Unit) (_ : State) => True) (va_A [(h0, .inr (10, fx))] sz)) 0 0 (va_A [(h0, .inr (10, fx))] sz) := by
  refine Met.ofW (cc := cX12_unitAt) (maxL := 2) (ret := (some (.object "CodeFoundry$Unit"))) (by decide) rfl ?_
  intro p e s m args below meth c s₁ B hml hv
  obtain ⟨rfl, hsz, hP, hK, hD0, hex⟩ := hv
  have hx := B.exec
  have hb := B.bytes
  have hr := B.returns
  have hts0 := atoms_spec (ws := wt yX12_unitAt cX12_unitAt 2 (some (.object "CodeFoundry$Unit"))) B.pre
  have hts : ∀ w ∈ tb, w.before _ s = true := fun w h => hts0 w (List.mem_cons_of_mem _ h)
  have hown : s.vm.findClass RX12 = some m.cls := findClass_of_methodNamed B.named
  have hlocks := B.notSynchronized
  subst hsz
  have hD := hD0.self (sz := s.heap.size)
  generalize hAe : va_A [(h0, .inr (10, fx))] s.heap.size = A at hD ⊢
  have hA : ∀ q : Nat, s.heap.size ≤ q → A q := fun q h => by rw [← hAe]; exact Or.inr h
  have hS : va_S A s.heap s.heap [] := va_S.rf
  have hl := lv_entry ([.ref h0, .int f0]) (n := 2) (Nat.le_of_ble_eq_true rfl)
  rw [lg_entry_eq]
  generalize (lg_sl ([.ref h0, .int f0]) ++ List.replicate (2 - (lg_sl ([.ref h0, .int f0])).length) Slot.unset).toArray = ls at hl ⊢
  have hl : lv_has ls 2 [(0, .ref h0), (1, .int f0)] := hl
  refine lv_iload_n hx hb dX12_unitAt_0 rfl (lv_at hl 1 rfl) ?_
  refine lv_if_lt (tgt := 12) hx hb dX12_unitAt_1 (by decide) (fun c_1 => ?_) (fun c_1 => ?_)
  · refine lv_null hx hb dX12_unitAt_12 ?_
    refine lv_goto (tgt := 22) hx hb dX12_unitAt_13 (by decide) ?_
    refine W.widen (k := 0) (n := 0) (Nat.le_of_ble_eq_true rfl) (Nat.le_of_ble_eq_true rfl) ?_
    exact W.aret (v := .null) hx hb hr (Or.inl ⟨_, rfl⟩) (Or.inl rfl) (fun t9 ht9 hW9 => ⟨⟨none, (), rfl, rfl, trivial⟩, hS.F ht9⟩) hS.2.2 dX12_unitAt_22
  · refine lv_iload_n hx hb dX12_unitAt_4 rfl (lv_at hl 1 rfl) ?_
    refine lv_aload_n hx hb dX12_unitAt_5 rfl (lv_at hl 0 rfl) ?_
    refine va_get (D := (dC, dI)) (ci := 10) (v := .int 0) (C := RX12) (T := TX12) (N := 18) hx hb hts inX12 hown hK hP 0 rfl rfl 11 (by decide) (hts _ kw_165) (fun _ h9 => h9) g_fx_11 dX12_unitAt_6 ?_
    refine lv_icmp_lt (tgt := 16) hx hb dX12_unitAt_9 (by decide) (fun c_9 => False.elim (c_1 c_9)) (fun c_9 => ?_)
    refine lv_null hx hb dX12_unitAt_12 ?_
    refine lv_goto (tgt := 22) hx hb dX12_unitAt_13 (by decide) ?_
    refine W.widen (k := 0) (n := 0) (Nat.le_of_ble_eq_true rfl) (Nat.le_of_ble_eq_true rfl) ?_
    exact W.aret (v := .null) hx hb hr (Or.inl ⟨_, rfl⟩) (Or.inl rfl) (fun t9 ht9 hW9 => ⟨⟨none, (), rfl, rfl, trivial⟩, hS.F ht9⟩) hS.2.2 dX12_unitAt_22
set_option maxHeartbeats 400000 in
set_option maxRecDepth 100000 in
theorem m_X12_soundUnitAt (l : Launch) (dC : Nat → ClassId) (dI : Nat → Nat → Nat) (sz : Nat) (h0 : Nat) (fx : List Value) (f0 : Int32) (L_fx : fx.length = 18) (g_fx_11 : fx[11]? = some (.int 0)) : Met l yX12_soundUnitAt (wt yX12_soundUnitAt cX12_soundUnitAt 3 (some (.object "CodeFoundry$Unit"))) ({ frames := 1, cells := 0, slots := 0, locals := 21 }) (va_Pc [.ref h0, .int f0] (st_U dC dI sz [(h0, .inr (10, fx))] [])) (va_Qq (fun (r : Option Nat) (_ : Unit) => r = none) (fun (_ : Unit) (_ : State) => True) (va_A [(h0, .inr (10, fx))] sz)) 0 0 (va_A [(h0, .inr (10, fx))] sz) := by
  refine Met.ofW (cc := cX12_soundUnitAt) (maxL := 3) (ret := (some (.object "CodeFoundry$Unit"))) (by decide) rfl ?_
  intro p e s m args below meth c s₁ B hml hv
  obtain ⟨rfl, hsz, hP, hK, hD0, hex⟩ := hv
  have hx := B.exec
  have hb := B.bytes
  have hr := B.returns
  have hts0 := atoms_spec (ws := wt yX12_soundUnitAt cX12_soundUnitAt 3 (some (.object "CodeFoundry$Unit"))) B.pre
  have hts : ∀ w ∈ tb, w.before _ s = true := fun w h => hts0 w (List.mem_cons_of_mem _ h)
  have hown : s.vm.findClass RX12 = some m.cls := findClass_of_methodNamed B.named
  have hlocks := B.notSynchronized
  subst hsz
  have hD := hD0.self (sz := s.heap.size)
  generalize hAe : va_A [(h0, .inr (10, fx))] s.heap.size = A at hD ⊢
  have hA : ∀ q : Nat, s.heap.size ≤ q → A q := fun q h => by rw [← hAe]; exact Or.inr h
  have hS : va_S A s.heap s.heap [] := va_S.rf
  have hl := lv_entry ([.ref h0, .int f0]) (n := 3) (Nat.le_of_ble_eq_true rfl)
  rw [lg_entry_eq]
  generalize (lg_sl ([.ref h0, .int f0]) ++ List.replicate (3 - (lg_sl ([.ref h0, .int f0])).length) Slot.unset).toArray = ls at hl ⊢
  have hl : lv_has ls 3 [(0, .ref h0), (1, .int f0)] := hl
  refine lv_aload_n hx hb dX12_soundUnitAt_0 rfl (lv_at hl 0 rfl) ?_
  refine lv_iload_n hx hb dX12_soundUnitAt_1 rfl (lv_at hl 1 rfl) ?_
  have hPc := hP.sub (ws' := [(h0, .inr (10, fx))]) [0] rfl
  have hDc := hD.sub (ws' := [(h0, .inr (10, fx))]) [0] (by decide) rfl
  have hKc := hK.sub (tys' := []) [] rfl
  have hFc := va_free (wc := [(h0, .inr (10, fx))]) hD hS hA [0] rfl
  refine va_callq (va_runV (As := [.int f0]) (rest := []) ⟨hx, hb, hml, hown, hts⟩ (m_X12_unitAt l dC dI s.heap.size h0 fx f0 L_fx g_fx_11) (cwV 1 hts (gd_V kw_166 kw_167 kw_168 kw_169 kw_170) rfl rfl rfl (by decide +kernel) ⟨Nat.le_of_ble_eq_true rfl, Nat.le_of_ble_eq_true rfl⟩) ⟨st_blind, va_recv hKc hPc (ci := 10) (q0 := 0) rfl rfl, fun U hU hW9 => st_mk hU hW9 hPc hKc hDc hex⟩ rfl rfl hl.1 rfl (lv_room (Nat.le_of_ble_eq_true rfl)) dX12_soundUnitAt_2 ⟨Nat.le_of_ble_eq_true rfl, Nat.le_of_ble_eq_true rfl⟩) hS (fun q _ h => hFc q h) hFc (fun r_1 u9 t9 H1 locs ht9 hvm9 hw9 hB9 hz9 hk9 hS => ?_)
  have hP1 : va_P (dC, dI) cl0 [] H1 := fun k q h => by simp at h
  have hD1 : va_D (va_A [(h0, .inr (10, fx))] s.heap.size) [] := ⟨fun i j p q h => by simp at h, fun k q h => by simp at h⟩
  obtain ⟨hP, hD⟩ := va_join (wr := []) (w1 := []) hP hD [0] [] rfl rfl (by decide) (by decide) hk9 hFc hP1 hD1
  generalize H1 = H at hP hS ⊢
  have hP : va_P (dC, dI) cl0 [] H := hP
  have hD : va_D A [] := hD
  have hw9 : r_1 = none := hw9
  subst hw9
  refine lv_astore_nN (lv' := [(2, .null), (0, .ref h0), (1, .int f0)]) hx hb dX12_soundUnitAt_5 rfl hl (by decide) rfl (fun ls hl => ?_)
  refine lv_aload_nN hx hb dX12_soundUnitAt_6 rfl (lv_at hl 0 rfl) ?_
  refine lv_ifnullN (tgt := 24) hx hb dX12_soundUnitAt_7 (by decide) ?_
  refine lv_null hx hb dX12_soundUnitAt_24 ?_
  refine lv_goto (tgt := 29) hx hb dX12_soundUnitAt_25 (by decide) ?_
  refine W.widen (k := 0) (n := 0) (Nat.le_of_ble_eq_true rfl) (Nat.le_of_ble_eq_true rfl) ?_
  exact W.aret (v := .null) hx hb hr (Or.inl ⟨_, rfl⟩) (Or.inl rfl) (fun t9 ht9 hW9 => ⟨⟨none, (), rfl, rfl, trivial⟩, hS.F ht9⟩) hS.2.2 dX12_soundUnitAt_29
set_option maxHeartbeats 400000 in
set_option maxRecDepth 100000 in
theorem m_X12_rowAt (l : Launch) (dC : Nat → ClassId) (dI : Nat → Nat → Nat) (sz : Nat) (h0 : Nat) (fx : List Value) (f0 : Int32) (m0 : Int32) (L_fx : fx.length = 18) (g_fx_11 : fx[11]? = some (.int 0)) : Met l yX12_rowAt (wt yX12_rowAt cX12_rowAt 4 (some (.object "CodeFoundry$Row"))) ({ frames := 1, cells := 0, slots := 0, locals := 21 }) (va_Pc [.ref h0, .int f0, .int m0] (st_U dC dI sz [(h0, .inr (10, fx))] [])) (va_Qq (fun (r : Option Nat) (_ : Unit) => r = none) (fun (_ : Unit) (_ : State) => True) (va_A [(h0, .inr (10, fx))] sz)) 0 0 (va_A [(h0, .inr (10, fx))] sz) := by
  refine Met.ofW (cc := cX12_rowAt) (maxL := 4) (ret := (some (.object "CodeFoundry$Row"))) (by decide) rfl ?_
  intro p e s m args below meth c s₁ B hml hv
  obtain ⟨rfl, hsz, hP, hK, hD0, hex⟩ := hv
  have hx := B.exec
  have hb := B.bytes
  have hr := B.returns
  have hts0 := atoms_spec (ws := wt yX12_rowAt cX12_rowAt 4 (some (.object "CodeFoundry$Row"))) B.pre
  have hts : ∀ w ∈ tb, w.before _ s = true := fun w h => hts0 w (List.mem_cons_of_mem _ h)
  have hown : s.vm.findClass RX12 = some m.cls := findClass_of_methodNamed B.named
  have hlocks := B.notSynchronized
  subst hsz
  have hD := hD0.self (sz := s.heap.size)
  generalize hAe : va_A [(h0, .inr (10, fx))] s.heap.size = A at hD ⊢
  have hA : ∀ q : Nat, s.heap.size ≤ q → A q := fun q h => by rw [← hAe]; exact Or.inr h
  have hS : va_S A s.heap s.heap [] := va_S.rf
  have hl := lv_entry ([.ref h0, .int f0, .int m0]) (n := 4) (Nat.le_of_ble_eq_true rfl)
  rw [lg_entry_eq]
  generalize (lg_sl ([.ref h0, .int f0, .int m0]) ++ List.replicate (4 - (lg_sl ([.ref h0, .int f0, .int m0])).length) Slot.unset).toArray = ls at hl ⊢
  have hl : lv_has ls 4 [(0, .ref h0), (1, .int f0), (2, .int m0)] := hl
  refine lv_aload_n hx hb dX12_rowAt_0 rfl (lv_at hl 0 rfl) ?_
  refine lv_iload_n hx hb dX12_rowAt_1 rfl (lv_at hl 1 rfl) ?_
  have hPc := hP.sub (ws' := [(h0, .inr (10, fx))]) [0] rfl
  have hDc := hD.sub (ws' := [(h0, .inr (10, fx))]) [0] (by decide) rfl
  have hKc := hK.sub (tys' := []) [] rfl
  have hFc := va_free (wc := [(h0, .inr (10, fx))]) hD hS hA [0] rfl
  refine va_callq (va_runV (As := [.int f0]) (rest := []) ⟨hx, hb, hml, hown, hts⟩ (m_X12_unitAt l dC dI s.heap.size h0 fx f0 L_fx g_fx_11) (cwV 1 hts (gd_V kw_166 kw_167 kw_168 kw_169 kw_170) rfl rfl rfl (by decide +kernel) ⟨Nat.le_of_ble_eq_true rfl, Nat.le_of_ble_eq_true rfl⟩) ⟨st_blind, va_recv hKc hPc (ci := 10) (q0 := 0) rfl rfl, fun U hU hW9 => st_mk hU hW9 hPc hKc hDc hex⟩ rfl rfl hl.1 rfl (lv_room (Nat.le_of_ble_eq_true rfl)) dX12_rowAt_2 ⟨Nat.le_of_ble_eq_true rfl, Nat.le_of_ble_eq_true rfl⟩) hS (fun q _ h => hFc q h) hFc (fun r_1 u9 t9 H1 locs ht9 hvm9 hw9 hB9 hz9 hk9 hS => ?_)
  have hP1 : va_P (dC, dI) cl0 [] H1 := fun k q h => by simp at h
  have hD1 : va_D (va_A [(h0, .inr (10, fx))] s.heap.size) [] := ⟨fun i j p q h => by simp at h, fun k q h => by simp at h⟩
  obtain ⟨hP, hD⟩ := va_join (wr := []) (w1 := []) hP hD [0] [] rfl rfl (by decide) (by decide) hk9 hFc hP1 hD1
  generalize H1 = H at hP hS ⊢
  have hP : va_P (dC, dI) cl0 [] H := hP
  have hD : va_D A [] := hD
  have hw9 : r_1 = none := hw9
  subst hw9
  refine lv_astore_nN (lv' := [(3, .null), (0, .ref h0), (1, .int f0), (2, .int m0)]) hx hb dX12_rowAt_5 rfl hl (by decide) rfl (fun ls hl => ?_)
  refine lv_aload_nN hx hb dX12_rowAt_6 rfl (lv_at hl 0 rfl) ?_
  refine lv_ifnonnullN hx hb dX12_rowAt_7 ?_
  refine lv_null hx hb dX12_rowAt_10 ?_
  refine lv_goto (tgt := 19) hx hb dX12_rowAt_11 (by decide) ?_
  refine W.widen (k := 0) (n := 0) (Nat.le_of_ble_eq_true rfl) (Nat.le_of_ble_eq_true rfl) ?_
  exact W.aret (v := .null) hx hb hr (Or.inl ⟨_, rfl⟩) (Or.inl rfl) (fun t9 ht9 hW9 => ⟨⟨none, (), rfl, rfl, trivial⟩, hS.F ht9⟩) hS.2.2 dX12_rowAt_19
set_option maxHeartbeats 400000 in
set_option maxRecDepth 100000 in
theorem m_X12_size (l : Launch) (dC : Nat → ClassId) (dI : Nat → Nat → Nat) (sz : Nat) (h0 : Nat) (fx : List Value) (f0 : Int32) (w0 : Int32) (L_fx : fx.length = 18) (g_fx_11 : fx[11]? = some (.int 0)) : Met l yX12_size (wt yX12_size cX12_size 4 (some .int)) ({ frames := 1, cells := 0, slots := 0, locals := 21 }) (va_Pc [.ref h0, .int f0, .int w0] (st_U dC dI sz [(h0, .inr (10, fx))] [])) (va_Qi (fun (r : Int32) (_ : Unit) => r = (-1)) (fun (_ : Unit) (_ : State) => True) (va_A [(h0, .inr (10, fx))] sz)) 0 0 (va_A [(h0, .inr (10, fx))] sz) := by
  refine Met.ofW (cc := cX12_size) (maxL := 4) (ret := (some .int)) (by decide) rfl ?_
  intro p e s m args below meth c s₁ B hml hv
  obtain ⟨rfl, hsz, hP, hK, hD0, hex⟩ := hv
  have hx := B.exec
  have hb := B.bytes
  have hr := B.returns
  have hts0 := atoms_spec (ws := wt yX12_size cX12_size 4 (some .int)) B.pre
  have hts : ∀ w ∈ tb, w.before _ s = true := fun w h => hts0 w (List.mem_cons_of_mem _ h)
  have hown : s.vm.findClass RX12 = some m.cls := findClass_of_methodNamed B.named
  have hlocks := B.notSynchronized
  subst hsz
  have hD := hD0.self (sz := s.heap.size)
  generalize hAe : va_A [(h0, .inr (10, fx))] s.heap.size = A at hD ⊢
  have hA : ∀ q : Nat, s.heap.size ≤ q → A q := fun q h => by rw [← hAe]; exact Or.inr h
  have hS : va_S A s.heap s.heap [] := va_S.rf
  have hl := lv_entry ([.ref h0, .int f0, .int w0]) (n := 4) (Nat.le_of_ble_eq_true rfl)
  rw [lg_entry_eq]
  generalize (lg_sl ([.ref h0, .int f0, .int w0]) ++ List.replicate (4 - (lg_sl ([.ref h0, .int f0, .int w0])).length) Slot.unset).toArray = ls at hl ⊢
  have hl : lv_has ls 4 [(0, .ref h0), (1, .int f0), (2, .int w0)] := hl
  refine lv_aload_n hx hb dX12_size_0 rfl (lv_at hl 0 rfl) ?_
  refine lv_iload_n hx hb dX12_size_1 rfl (lv_at hl 1 rfl) ?_
  have hPc := hP.sub (ws' := [(h0, .inr (10, fx))]) [0] rfl
  have hDc := hD.sub (ws' := [(h0, .inr (10, fx))]) [0] (by decide) rfl
  have hKc := hK.sub (tys' := []) [] rfl
  have hFc := va_free (wc := [(h0, .inr (10, fx))]) hD hS hA [0] rfl
  refine va_callq (va_runV (As := [.int f0]) (rest := []) ⟨hx, hb, hml, hown, hts⟩ (m_X12_unitAt l dC dI s.heap.size h0 fx f0 L_fx g_fx_11) (cwV 1 hts (gd_V kw_166 kw_167 kw_168 kw_169 kw_170) rfl rfl rfl (by decide +kernel) ⟨Nat.le_of_ble_eq_true rfl, Nat.le_of_ble_eq_true rfl⟩) ⟨st_blind, va_recv hKc hPc (ci := 10) (q0 := 0) rfl rfl, fun U hU hW9 => st_mk hU hW9 hPc hKc hDc hex⟩ rfl rfl hl.1 rfl (lv_room (Nat.le_of_ble_eq_true rfl)) dX12_size_2 ⟨Nat.le_of_ble_eq_true rfl, Nat.le_of_ble_eq_true rfl⟩) hS (fun q _ h => hFc q h) hFc (fun r_1 u9 t9 H1 locs ht9 hvm9 hw9 hB9 hz9 hk9 hS => ?_)
  have hP1 : va_P (dC, dI) cl0 [] H1 := fun k q h => by simp at h
  have hD1 : va_D (va_A [(h0, .inr (10, fx))] s.heap.size) [] := ⟨fun i j p q h => by simp at h, fun k q h => by simp at h⟩
  obtain ⟨hP, hD⟩ := va_join (wr := []) (w1 := []) hP hD [0] [] rfl rfl (by decide) (by decide) hk9 hFc hP1 hD1
  generalize H1 = H at hP hS ⊢
  have hP : va_P (dC, dI) cl0 [] H := hP
  have hD : va_D A [] := hD
  have hw9 : r_1 = none := hw9
  subst hw9
  refine lv_astore_nN (lv' := [(3, .null), (0, .ref h0), (1, .int f0), (2, .int w0)]) hx hb dX12_size_5 rfl hl (by decide) rfl (fun ls hl => ?_)
  refine lv_aload_nN hx hb dX12_size_6 rfl (lv_at hl 0 rfl) ?_
  refine lv_ifnonnullN hx hb dX12_size_7 ?_
  refine lv_iconst (v := (-1)) hx hb dX12_size_10 (by decide) ?_
  refine W.widen (k := 0) (n := 0) (Nat.le_of_ble_eq_true rfl) (Nat.le_of_ble_eq_true rfl) ?_
  exact W.iret (v := (-1)) hx hb hr (fun t9 ht9 hW9 => ⟨⟨_, (), rfl, rfl, trivial⟩, hS.F ht9⟩) hS.2.2 dX12_size_11
set_option maxHeartbeats 400000 in
set_option maxRecDepth 100000 in
theorem m_X12_length (l : Launch) (dC : Nat → ClassId) (dI : Nat → Nat → Nat) (sz : Nat) (h0 : Nat) (fx : List Value) (f0 : Int32) (m0 : Int32) (L_fx : fx.length = 18) (g_fx_11 : fx[11]? = some (.int 0)) : Met l yX12_length (wt yX12_length cX12_length 4 (some .int)) ({ frames := 2, cells := 0, slots := 0, locals := 44 }) (va_Pc [.ref h0, .int f0, .int m0] (st_U dC dI sz [(h0, .inr (10, fx))] [])) (va_Qi (fun (r : Int32) (_ : Unit) => r = (-1)) (fun (_ : Unit) (_ : State) => True) (va_A [(h0, .inr (10, fx))] sz)) 0 0 (va_A [(h0, .inr (10, fx))] sz) := by
  refine Met.ofW (cc := cX12_length) (maxL := 4) (ret := (some .int)) (by decide) rfl ?_
  intro p e s m args below meth c s₁ B hml hv
  obtain ⟨rfl, hsz, hP, hK, hD0, hex⟩ := hv
  have hx := B.exec
  have hb := B.bytes
  have hr := B.returns
  have hts0 := atoms_spec (ws := wt yX12_length cX12_length 4 (some .int)) B.pre
  have hts : ∀ w ∈ tb, w.before _ s = true := fun w h => hts0 w (List.mem_cons_of_mem _ h)
  have hown : s.vm.findClass RX12 = some m.cls := findClass_of_methodNamed B.named
  have hlocks := B.notSynchronized
  subst hsz
  have hD := hD0.self (sz := s.heap.size)
  generalize hAe : va_A [(h0, .inr (10, fx))] s.heap.size = A at hD ⊢
  have hA : ∀ q : Nat, s.heap.size ≤ q → A q := fun q h => by rw [← hAe]; exact Or.inr h
  have hS : va_S A s.heap s.heap [] := va_S.rf
  have hl := lv_entry ([.ref h0, .int f0, .int m0]) (n := 4) (Nat.le_of_ble_eq_true rfl)
  rw [lg_entry_eq]
  generalize (lg_sl ([.ref h0, .int f0, .int m0]) ++ List.replicate (4 - (lg_sl ([.ref h0, .int f0, .int m0])).length) Slot.unset).toArray = ls at hl ⊢
  have hl : lv_has ls 4 [(0, .ref h0), (1, .int f0), (2, .int m0)] := hl
  refine lv_aload_n hx hb dX12_length_0 rfl (lv_at hl 0 rfl) ?_
  refine lv_iload_n hx hb dX12_length_1 rfl (lv_at hl 1 rfl) ?_
  refine lv_iload_n hx hb dX12_length_2 rfl (lv_at hl 2 rfl) ?_
  have hPc := hP.sub (ws' := [(h0, .inr (10, fx))]) [0] rfl
  have hDc := hD.sub (ws' := [(h0, .inr (10, fx))]) [0] (by decide) rfl
  have hKc := hK.sub (tys' := []) [] rfl
  have hFc := va_free (wc := [(h0, .inr (10, fx))]) hD hS hA [0] rfl
  refine va_callq (va_runV (As := [.int f0, .int m0]) (rest := []) ⟨hx, hb, hml, hown, hts⟩ (m_X12_rowAt l dC dI s.heap.size h0 fx f0 m0 L_fx g_fx_11) (cwV 2 hts (gd_V kw_171 kw_172 kw_173 kw_169 kw_174) rfl rfl rfl (by decide +kernel) ⟨Nat.le_of_ble_eq_true rfl, Nat.le_of_ble_eq_true rfl⟩) ⟨st_blind, va_recv hKc hPc (ci := 10) (q0 := 0) rfl rfl, fun U hU hW9 => st_mk hU hW9 hPc hKc hDc hex⟩ rfl rfl hl.1 rfl (lv_room (Nat.le_of_ble_eq_true rfl)) dX12_length_3 ⟨Nat.le_of_ble_eq_true rfl, Nat.le_of_ble_eq_true rfl⟩) hS (fun q _ h => hFc q h) hFc (fun r_1 u9 t9 H1 locs ht9 hvm9 hw9 hB9 hz9 hk9 hS => ?_)
  have hP1 : va_P (dC, dI) cl0 [] H1 := fun k q h => by simp at h
  have hD1 : va_D (va_A [(h0, .inr (10, fx))] s.heap.size) [] := ⟨fun i j p q h => by simp at h, fun k q h => by simp at h⟩
  obtain ⟨hP, hD⟩ := va_join (wr := []) (w1 := []) hP hD [0] [] rfl rfl (by decide) (by decide) hk9 hFc hP1 hD1
  generalize H1 = H at hP hS ⊢
  have hP : va_P (dC, dI) cl0 [] H := hP
  have hD : va_D A [] := hD
  have hw9 : r_1 = none := hw9
  subst hw9
  refine lv_astore_nN (lv' := [(3, .null), (0, .ref h0), (1, .int f0), (2, .int m0)]) hx hb dX12_length_6 rfl hl (by decide) rfl (fun ls hl => ?_)
  refine lv_aload_nN hx hb dX12_length_7 rfl (lv_at hl 0 rfl) ?_
  refine lv_ifnonnullN hx hb dX12_length_8 ?_
  refine lv_iconst (v := (-1)) hx hb dX12_length_11 (by decide) ?_
  refine lv_goto (tgt := 19) hx hb dX12_length_12 (by decide) ?_
  refine W.widen (k := 0) (n := 0) (Nat.le_of_ble_eq_true rfl) (Nat.le_of_ble_eq_true rfl) ?_
  exact W.iret (v := (-1)) hx hb hr (fun t9 ht9 hW9 => ⟨⟨_, (), rfl, rfl, trivial⟩, hS.F ht9⟩) hS.2.2 dX12_length_19
set_option maxHeartbeats 400000 in
set_option maxRecDepth 100000 in
theorem m_X12_verify (l : Launch) (dC : Nat → ClassId) (dI : Nat → Nat → Nat) (sz : Nat) (h0 : Nat) (fx : List Value) (f0 : Int32) (L_fx : fx.length = 18) (g_fx_11 : fx[11]? = some (.int 0)) : Met l yX12_verify (wt yX12_verify cX12_verify 4 (some .int)) ({ frames := 1, cells := 0, slots := 0, locals := 21 }) (va_Pc [.ref h0, .int f0] (st_U dC dI sz [(h0, .inr (10, fx))] [])) (va_Qi (fun (r : Int32) (_ : Unit) => r = (-1)) (fun (_ : Unit) (_ : State) => True) (va_A [(h0, .inr (10, fx))] sz)) 0 0 (va_A [(h0, .inr (10, fx))] sz) := by
  refine Met.ofW (cc := cX12_verify) (maxL := 4) (ret := (some .int)) (by decide) rfl ?_
  intro p e s m args below meth c s₁ B hml hv
  obtain ⟨rfl, hsz, hP, hK, hD0, hex⟩ := hv
  have hx := B.exec
  have hb := B.bytes
  have hr := B.returns
  have hts0 := atoms_spec (ws := wt yX12_verify cX12_verify 4 (some .int)) B.pre
  have hts : ∀ w ∈ tb, w.before _ s = true := fun w h => hts0 w (List.mem_cons_of_mem _ h)
  have hown : s.vm.findClass RX12 = some m.cls := findClass_of_methodNamed B.named
  have hlocks := B.notSynchronized
  subst hsz
  have hD := hD0.self (sz := s.heap.size)
  generalize hAe : va_A [(h0, .inr (10, fx))] s.heap.size = A at hD ⊢
  have hA : ∀ q : Nat, s.heap.size ≤ q → A q := fun q h => by rw [← hAe]; exact Or.inr h
  have hS : va_S A s.heap s.heap [] := va_S.rf
  have hl := lv_entry ([.ref h0, .int f0]) (n := 4) (Nat.le_of_ble_eq_true rfl)
  rw [lg_entry_eq]
  generalize (lg_sl ([.ref h0, .int f0]) ++ List.replicate (4 - (lg_sl ([.ref h0, .int f0])).length) Slot.unset).toArray = ls at hl ⊢
  have hl : lv_has ls 4 [(0, .ref h0), (1, .int f0)] := hl
  refine lv_aload_n hx hb dX12_verify_0 rfl (lv_at hl 0 rfl) ?_
  refine lv_iconst (v := (-1)) hx hb dX12_verify_1 (by decide) ?_
  refine va_put (D := (dC, dI)) (ci := 10) (v := .int (-1)) (ty := .int) (C := RX12) (T := TX12) (N := 18) hx hb hts inX12 tyX12 tyX12_ok nmX12 hown hK hP hD hS 0 rfl rfl 15 (by decide) (hts _ kw_145) (fun _ h9 => h9) rfl (by decide +kernel) rfl rfl (by rw [L_fx]; decide) dX12_verify_2 (fun H locs hP hD hS => ?_)
  obtain ⟨fx_1, e_fx_1⟩ : ∃ z, z = fx.set 15 (.int (-1)) := ⟨_, rfl⟩
  have hP : va_P (dC, dI) cl0 [(h0, .inr (10, fx_1))] H := by rw [e_fx_1]; exact hP
  have hD : va_D A [(h0, .inr (10, fx_1))] := by rw [e_fx_1]; exact hD
  have L_fx_1 : fx_1.length = 18 := fx_len e_fx_1 L_fx
  have g_fx_1_11 := fx_ne (j := 11) e_fx_1 g_fx_11 (by decide)
  have g_fx_1_15 := fx_self e_fx_1 (by rw [L_fx]; decide)
  refine lv_aload_n hx hb dX12_verify_5 rfl (lv_at hl 0 rfl) ?_
  refine lv_iconst (v := (-1)) hx hb dX12_verify_6 (by decide) ?_
  refine va_put (D := (dC, dI)) (ci := 10) (v := .int (-1)) (ty := .int) (C := RX12) (T := TX12) (N := 18) hx hb hts inX12 tyX12 tyX12_ok nmX12 hown hK hP hD hS 0 rfl rfl 16 (by decide) (hts _ kw_146) (fun _ h9 => h9) rfl (by decide +kernel) rfl rfl (by rw [L_fx_1]; decide) dX12_verify_7 (fun H locs hP hD hS => ?_)
  obtain ⟨fx_2, e_fx_2⟩ : ∃ z, z = fx_1.set 16 (.int (-1)) := ⟨_, rfl⟩
  have hP : va_P (dC, dI) cl0 [(h0, .inr (10, fx_2))] H := by rw [e_fx_2]; exact hP
  have hD : va_D A [(h0, .inr (10, fx_2))] := by rw [e_fx_2]; exact hD
  have L_fx_2 : fx_2.length = 18 := fx_len e_fx_2 L_fx_1
  have g_fx_2_11 := fx_ne (j := 11) e_fx_2 g_fx_1_11 (by decide)
  have g_fx_2_15 := fx_ne (j := 15) e_fx_2 g_fx_1_15 (by decide)
  have g_fx_2_16 := fx_self e_fx_2 (by rw [L_fx_1]; decide)
  refine lv_aload_n hx hb dX12_verify_10 rfl (lv_at hl 0 rfl) ?_
  refine lv_iload_n hx hb dX12_verify_11 rfl (lv_at hl 1 rfl) ?_
  have hPc := hP.sub (ws' := [(h0, .inr (10, fx_2))]) [0] rfl
  have hDc := hD.sub (ws' := [(h0, .inr (10, fx_2))]) [0] (by decide) rfl
  have hKc := hK.sub (tys' := []) [] rfl
  have hFc := va_free (wc := [(h0, .inr (10, fx_2))]) hD hS hA [0] rfl
  refine va_callq (va_runV (As := [.int f0]) (rest := []) ⟨hx, hb, hml, hown, hts⟩ (m_X12_unitAt l dC dI H.size h0 fx_2 f0 L_fx_2 g_fx_2_11) (cwV 1 hts (gd_V kw_166 kw_167 kw_168 kw_169 kw_170) rfl rfl rfl (by decide +kernel) ⟨Nat.le_of_ble_eq_true rfl, Nat.le_of_ble_eq_true rfl⟩) ⟨st_blind, va_recv hKc hPc (ci := 10) (q0 := 0) rfl rfl, fun U hU hW9 => st_mk hU hW9 hPc hKc hDc hex⟩ rfl rfl hl.1 rfl (lv_room (Nat.le_of_ble_eq_true rfl)) dX12_verify_12 ⟨Nat.le_of_ble_eq_true rfl, Nat.le_of_ble_eq_true rfl⟩) hS (fun q _ h => hFc q h) hFc (fun r_3 u9 t9 H1 locs ht9 hvm9 hw9 hB9 hz9 hk9 hS => ?_)
  have hP1 : va_P (dC, dI) cl0 [] H1 := fun k q h => by simp at h
  have hD1 : va_D (va_A [(h0, .inr (10, fx_2))] H.size) [] := ⟨fun i j p q h => by simp at h, fun k q h => by simp at h⟩
  obtain ⟨hP, hD⟩ := va_join (wr := []) (w1 := []) hP hD [0] [] rfl rfl (by decide) (by decide) hk9 hFc hP1 hD1
  generalize H1 = H at hP hS ⊢
  have hP : va_P (dC, dI) cl0 [] H := hP
  have hD : va_D A [] := hD
  have hw9 : r_3 = none := hw9
  subst hw9
  refine lv_astore_nN (lv' := [(2, .null), (0, .ref h0), (1, .int f0)]) hx hb dX12_verify_15 rfl hl (by decide) rfl (fun ls hl => ?_)
  refine lv_aload_nN hx hb dX12_verify_16 rfl (lv_at hl 0 rfl) ?_
  refine lv_ifnonnullN hx hb dX12_verify_17 ?_
  refine lv_iconst (v := (-1)) hx hb dX12_verify_20 (by decide) ?_
  refine W.widen (k := 0) (n := 0) (Nat.le_of_ble_eq_true rfl) (Nat.le_of_ble_eq_true rfl) ?_
  exact W.iret (v := (-1)) hx hb hr (fun t9 ht9 hW9 => ⟨⟨_, (), rfl, rfl, trivial⟩, hS.F ht9⟩) hS.2.2 dX12_verify_21
set_option maxHeartbeats 400000 in
set_option maxRecDepth 100000 in
theorem m_X12_height (l : Launch) (dC : Nat → ClassId) (dI : Nat → Nat → Nat) (sz : Nat) (h0 : Nat) (fx : List Value) (f0 : Int32) (m0 : Int32) (i0 : Int32) (L_fx : fx.length = 18) (g_fx_11 : fx[11]? = some (.int 0)) : Met l yX12_height (wt yX12_height cX12_height 5 (some .int)) ({ frames := 2, cells := 0, slots := 0, locals := 43 }) (va_Pc [.ref h0, .int f0, .int m0, .int i0] (st_U dC dI sz [(h0, .inr (10, fx))] [])) (va_Qi (fun (r : Int32) (_ : Unit) => r = (-1)) (fun (_ : Unit) (_ : State) => True) (va_A [(h0, .inr (10, fx))] sz)) 0 0 (va_A [(h0, .inr (10, fx))] sz) := by
  refine Met.ofW (cc := cX12_height) (maxL := 5) (ret := (some .int)) (by decide) rfl ?_
  intro p e s m args below meth c s₁ B hml hv
  obtain ⟨rfl, hsz, hP, hK, hD0, hex⟩ := hv
  have hx := B.exec
  have hb := B.bytes
  have hr := B.returns
  have hts0 := atoms_spec (ws := wt yX12_height cX12_height 5 (some .int)) B.pre
  have hts : ∀ w ∈ tb, w.before _ s = true := fun w h => hts0 w (List.mem_cons_of_mem _ h)
  have hown : s.vm.findClass RX12 = some m.cls := findClass_of_methodNamed B.named
  have hlocks := B.notSynchronized
  subst hsz
  have hD := hD0.self (sz := s.heap.size)
  generalize hAe : va_A [(h0, .inr (10, fx))] s.heap.size = A at hD ⊢
  have hA : ∀ q : Nat, s.heap.size ≤ q → A q := fun q h => by rw [← hAe]; exact Or.inr h
  have hS : va_S A s.heap s.heap [] := va_S.rf
  have hl := lv_entry ([.ref h0, .int f0, .int m0, .int i0]) (n := 5) (Nat.le_of_ble_eq_true rfl)
  rw [lg_entry_eq]
  generalize (lg_sl ([.ref h0, .int f0, .int m0, .int i0]) ++ List.replicate (5 - (lg_sl ([.ref h0, .int f0, .int m0, .int i0])).length) Slot.unset).toArray = ls at hl ⊢
  have hl : lv_has ls 5 [(0, .ref h0), (1, .int f0), (2, .int m0), (3, .int i0)] := hl
  refine lv_aload_n hx hb dX12_height_0 rfl (lv_at hl 0 rfl) ?_
  refine lv_iload_n hx hb dX12_height_1 rfl (lv_at hl 1 rfl) ?_
  have hPc := hP.sub (ws' := [(h0, .inr (10, fx))]) [0] rfl
  have hDc := hD.sub (ws' := [(h0, .inr (10, fx))]) [0] (by decide) rfl
  have hKc := hK.sub (tys' := []) [] rfl
  have hFc := va_free (wc := [(h0, .inr (10, fx))]) hD hS hA [0] rfl
  refine va_callq (va_runV (As := [.int f0]) (rest := []) ⟨hx, hb, hml, hown, hts⟩ (m_X12_soundUnitAt l dC dI s.heap.size h0 fx f0 L_fx g_fx_11) (cwV 1 hts (gd_V kw_175 kw_176 kw_177 kw_169 kw_178) rfl rfl rfl (by decide +kernel) ⟨Nat.le_of_ble_eq_true rfl, Nat.le_of_ble_eq_true rfl⟩) ⟨st_blind, va_recv hKc hPc (ci := 10) (q0 := 0) rfl rfl, fun U hU hW9 => st_mk hU hW9 hPc hKc hDc hex⟩ rfl rfl hl.1 rfl (lv_room (Nat.le_of_ble_eq_true rfl)) dX12_height_2 ⟨Nat.le_of_ble_eq_true rfl, Nat.le_of_ble_eq_true rfl⟩) hS (fun q _ h => hFc q h) hFc (fun r_1 u9 t9 H1 locs ht9 hvm9 hw9 hB9 hz9 hk9 hS => ?_)
  have hP1 : va_P (dC, dI) cl0 [] H1 := fun k q h => by simp at h
  have hD1 : va_D (va_A [(h0, .inr (10, fx))] s.heap.size) [] := ⟨fun i j p q h => by simp at h, fun k q h => by simp at h⟩
  obtain ⟨hP, hD⟩ := va_join (wr := []) (w1 := []) hP hD [0] [] rfl rfl (by decide) (by decide) hk9 hFc hP1 hD1
  generalize H1 = H at hP hS ⊢
  have hP : va_P (dC, dI) cl0 [] H := hP
  have hD : va_D A [] := hD
  have hw9 : r_1 = none := hw9
  subst hw9
  refine lv_ifnonnullN hx hb dX12_height_5 ?_
  refine lv_null hx hb dX12_height_8 ?_
  refine lv_goto (tgt := 18) hx hb dX12_height_9 (by decide) ?_
  refine lv_astoreN (lv' := [(4, .null), (0, .ref h0), (1, .int f0), (2, .int m0), (3, .int i0)]) hx hb dX12_height_18 hl (by decide) rfl (fun ls hl => ?_)
  refine lv_aloadN hx hb dX12_height_20 (lv_at hl 0 rfl) ?_
  refine lv_ifnonnullN hx hb dX12_height_22 ?_
  refine lv_iconst (v := (-1)) hx hb dX12_height_25 (by decide) ?_
  refine lv_goto (tgt := 35) hx hb dX12_height_26 (by decide) ?_
  refine W.widen (k := 0) (n := 0) (Nat.le_of_ble_eq_true rfl) (Nat.le_of_ble_eq_true rfl) ?_
  exact W.iret (v := (-1)) hx hb hr (fun t9 ht9 hW9 => ⟨⟨_, (), rfl, rfl, trivial⟩, hS.F ht9⟩) hS.2.2 dX12_height_35
set_option maxHeartbeats 400000 in
set_option maxRecDepth 100000 in
theorem m_X12_local (l : Launch) (dC : Nat → ClassId) (dI : Nat → Nat → Nat) (sz : Nat) (h0 : Nat) (fx : List Value) (f0 : Int32) (m0 : Int32) (i0 : Int32) (k0 : Int32) (L_fx : fx.length = 18) (g_fx_11 : fx[11]? = some (.int 0)) : Met l yX12_local (wt yX12_local cX12_local 6 (some .int)) ({ frames := 2, cells := 0, slots := 0, locals := 43 }) (va_Pc [.ref h0, .int f0, .int m0, .int i0, .int k0] (st_U dC dI sz [(h0, .inr (10, fx))] [])) (va_Qi (fun (r : Int32) (_ : Unit) => r = (-1)) (fun (_ : Unit) (_ : State) => True) (va_A [(h0, .inr (10, fx))] sz)) 0 0 (va_A [(h0, .inr (10, fx))] sz) := by
  refine Met.ofW (cc := cX12_local) (maxL := 6) (ret := (some .int)) (by decide) rfl ?_
  intro p e s m args below meth c s₁ B hml hv
  obtain ⟨rfl, hsz, hP, hK, hD0, hex⟩ := hv
  have hx := B.exec
  have hb := B.bytes
  have hr := B.returns
  have hts0 := atoms_spec (ws := wt yX12_local cX12_local 6 (some .int)) B.pre
  have hts : ∀ w ∈ tb, w.before _ s = true := fun w h => hts0 w (List.mem_cons_of_mem _ h)
  have hown : s.vm.findClass RX12 = some m.cls := findClass_of_methodNamed B.named
  have hlocks := B.notSynchronized
  subst hsz
  have hD := hD0.self (sz := s.heap.size)
  generalize hAe : va_A [(h0, .inr (10, fx))] s.heap.size = A at hD ⊢
  have hA : ∀ q : Nat, s.heap.size ≤ q → A q := fun q h => by rw [← hAe]; exact Or.inr h
  have hS : va_S A s.heap s.heap [] := va_S.rf
  have hl := lv_entry ([.ref h0, .int f0, .int m0, .int i0, .int k0]) (n := 6) (Nat.le_of_ble_eq_true rfl)
  rw [lg_entry_eq]
  generalize (lg_sl ([.ref h0, .int f0, .int m0, .int i0, .int k0]) ++ List.replicate (6 - (lg_sl ([.ref h0, .int f0, .int m0, .int i0, .int k0])).length) Slot.unset).toArray = ls at hl ⊢
  have hl : lv_has ls 6 [(0, .ref h0), (1, .int f0), (2, .int m0), (3, .int i0), (4, .int k0)] := hl
  refine lv_aload_n hx hb dX12_local_0 rfl (lv_at hl 0 rfl) ?_
  refine lv_iload_n hx hb dX12_local_1 rfl (lv_at hl 1 rfl) ?_
  have hPc := hP.sub (ws' := [(h0, .inr (10, fx))]) [0] rfl
  have hDc := hD.sub (ws' := [(h0, .inr (10, fx))]) [0] (by decide) rfl
  have hKc := hK.sub (tys' := []) [] rfl
  have hFc := va_free (wc := [(h0, .inr (10, fx))]) hD hS hA [0] rfl
  refine va_callq (va_runV (As := [.int f0]) (rest := []) ⟨hx, hb, hml, hown, hts⟩ (m_X12_soundUnitAt l dC dI s.heap.size h0 fx f0 L_fx g_fx_11) (cwV 1 hts (gd_V kw_175 kw_176 kw_177 kw_169 kw_178) rfl rfl rfl (by decide +kernel) ⟨Nat.le_of_ble_eq_true rfl, Nat.le_of_ble_eq_true rfl⟩) ⟨st_blind, va_recv hKc hPc (ci := 10) (q0 := 0) rfl rfl, fun U hU hW9 => st_mk hU hW9 hPc hKc hDc hex⟩ rfl rfl hl.1 rfl (lv_room (Nat.le_of_ble_eq_true rfl)) dX12_local_2 ⟨Nat.le_of_ble_eq_true rfl, Nat.le_of_ble_eq_true rfl⟩) hS (fun q _ h => hFc q h) hFc (fun r_1 u9 t9 H1 locs ht9 hvm9 hw9 hB9 hz9 hk9 hS => ?_)
  have hP1 : va_P (dC, dI) cl0 [] H1 := fun k q h => by simp at h
  have hD1 : va_D (va_A [(h0, .inr (10, fx))] s.heap.size) [] := ⟨fun i j p q h => by simp at h, fun k q h => by simp at h⟩
  obtain ⟨hP, hD⟩ := va_join (wr := []) (w1 := []) hP hD [0] [] rfl rfl (by decide) (by decide) hk9 hFc hP1 hD1
  generalize H1 = H at hP hS ⊢
  have hP : va_P (dC, dI) cl0 [] H := hP
  have hD : va_D A [] := hD
  have hw9 : r_1 = none := hw9
  subst hw9
  refine lv_ifnonnullN hx hb dX12_local_5 ?_
  refine lv_null hx hb dX12_local_8 ?_
  refine lv_goto (tgt := 18) hx hb dX12_local_9 (by decide) ?_
  refine lv_astoreN (lv' := [(5, .null), (0, .ref h0), (1, .int f0), (2, .int m0), (3, .int i0), (4, .int k0)]) hx hb dX12_local_18 hl (by decide) rfl (fun ls hl => ?_)
  refine lv_aloadN hx hb dX12_local_20 (lv_at hl 0 rfl) ?_
  refine lv_ifnullN (tgt := 46) hx hb dX12_local_22 (by decide) ?_
  refine lv_iconst (v := (-1)) hx hb dX12_local_46 (by decide) ?_
  refine W.widen (k := 0) (n := 0) (Nat.le_of_ble_eq_true rfl) (Nat.le_of_ble_eq_true rfl) ?_
  exact W.iret (v := (-1)) hx hb hr (fun t9 ht9 hW9 => ⟨⟨_, (), rfl, rfl, trivial⟩, hS.F ht9⟩) hS.2.2 dX12_local_47
set_option maxHeartbeats 400000 in
set_option maxRecDepth 100000 in
theorem m_X12_write (l : Launch) (dC : Nat → ClassId) (dI : Nat → Nat → Nat) (sz : Nat) (h0 : Nat) (fx : List Value) (f0 : Int32) (L_fx : fx.length = 18) (g_fx_11 : fx[11]? = some (.int 0)) : Met l yX12_write (wt yX12_write cX12_write 4 (some .int)) ({ frames := 2, cells := 0, slots := 0, locals := 43 }) (va_Pc [.ref h0, .int f0] (st_U dC dI sz [(h0, .inr (10, fx))] [])) (va_Qi (fun (r : Int32) (_ : Unit) => r = (-1)) (fun (_ : Unit) (_ : State) => True) (va_A [(h0, .inr (10, fx))] sz)) 0 0 (va_A [(h0, .inr (10, fx))] sz) := by
  refine Met.ofW (cc := cX12_write) (maxL := 4) (ret := (some .int)) (by decide) rfl ?_
  intro p e s m args below meth c s₁ B hml hv
  obtain ⟨rfl, hsz, hP, hK, hD0, hex⟩ := hv
  have hx := B.exec
  have hb := B.bytes
  have hr := B.returns
  have hts0 := atoms_spec (ws := wt yX12_write cX12_write 4 (some .int)) B.pre
  have hts : ∀ w ∈ tb, w.before _ s = true := fun w h => hts0 w (List.mem_cons_of_mem _ h)
  have hown : s.vm.findClass RX12 = some m.cls := findClass_of_methodNamed B.named
  have hlocks := B.notSynchronized
  subst hsz
  have hD := hD0.self (sz := s.heap.size)
  generalize hAe : va_A [(h0, .inr (10, fx))] s.heap.size = A at hD ⊢
  have hA : ∀ q : Nat, s.heap.size ≤ q → A q := fun q h => by rw [← hAe]; exact Or.inr h
  have hS : va_S A s.heap s.heap [] := va_S.rf
  have hl := lv_entry ([.ref h0, .int f0]) (n := 4) (Nat.le_of_ble_eq_true rfl)
  rw [lg_entry_eq]
  generalize (lg_sl ([.ref h0, .int f0]) ++ List.replicate (4 - (lg_sl ([.ref h0, .int f0])).length) Slot.unset).toArray = ls at hl ⊢
  have hl : lv_has ls 4 [(0, .ref h0), (1, .int f0)] := hl
  refine lv_aload_n hx hb dX12_write_0 rfl (lv_at hl 0 rfl) ?_
  refine lv_iload_n hx hb dX12_write_1 rfl (lv_at hl 1 rfl) ?_
  have hPc := hP.sub (ws' := [(h0, .inr (10, fx))]) [0] rfl
  have hDc := hD.sub (ws' := [(h0, .inr (10, fx))]) [0] (by decide) rfl
  have hKc := hK.sub (tys' := []) [] rfl
  have hFc := va_free (wc := [(h0, .inr (10, fx))]) hD hS hA [0] rfl
  refine va_callq (va_runV (As := [.int f0]) (rest := []) ⟨hx, hb, hml, hown, hts⟩ (m_X12_soundUnitAt l dC dI s.heap.size h0 fx f0 L_fx g_fx_11) (cwV 1 hts (gd_V kw_175 kw_176 kw_177 kw_169 kw_178) rfl rfl rfl (by decide +kernel) ⟨Nat.le_of_ble_eq_true rfl, Nat.le_of_ble_eq_true rfl⟩) ⟨st_blind, va_recv hKc hPc (ci := 10) (q0 := 0) rfl rfl, fun U hU hW9 => st_mk hU hW9 hPc hKc hDc hex⟩ rfl rfl hl.1 rfl (lv_room (Nat.le_of_ble_eq_true rfl)) dX12_write_2 ⟨Nat.le_of_ble_eq_true rfl, Nat.le_of_ble_eq_true rfl⟩) hS (fun q _ h => hFc q h) hFc (fun r_1 u9 t9 H1 locs ht9 hvm9 hw9 hB9 hz9 hk9 hS => ?_)
  have hP1 : va_P (dC, dI) cl0 [] H1 := fun k q h => by simp at h
  have hD1 : va_D (va_A [(h0, .inr (10, fx))] s.heap.size) [] := ⟨fun i j p q h => by simp at h, fun k q h => by simp at h⟩
  obtain ⟨hP, hD⟩ := va_join (wr := []) (w1 := []) hP hD [0] [] rfl rfl (by decide) (by decide) hk9 hFc hP1 hD1
  generalize H1 = H at hP hS ⊢
  have hP : va_P (dC, dI) cl0 [] H := hP
  have hD : va_D A [] := hD
  have hw9 : r_1 = none := hw9
  subst hw9
  refine lv_astore_nN (lv' := [(2, .null), (0, .ref h0), (1, .int f0)]) hx hb dX12_write_5 rfl hl (by decide) rfl (fun ls hl => ?_)
  refine lv_aload_nN hx hb dX12_write_6 rfl (lv_at hl 0 rfl) ?_
  refine lv_ifnonnullN hx hb dX12_write_7 ?_
  refine lv_iconst (v := (-1)) hx hb dX12_write_10 (by decide) ?_
  refine W.widen (k := 0) (n := 0) (Nat.le_of_ble_eq_true rfl) (Nat.le_of_ble_eq_true rfl) ?_
  exact W.iret (v := (-1)) hx hb hr (fun t9 ht9 hW9 => ⟨⟨_, (), rfl, rfl, trivial⟩, hS.F ht9⟩) hS.2.2 dX12_write_11
set_option maxHeartbeats 400000 in
set_option maxRecDepth 100000 in
theorem m_X12_byteAt (l : Launch) (dC : Nat → ClassId) (dI : Nat → Nat → Nat) (sz : Nat) (h0 : Nat) (fx : List Value) (hw0 : Nat) (fw : List Value) (i0 : Int32) (L_fx : fx.length = 18) (g_fx_1 : fx[1]? = some (.ref hw0)) (L_fw : fw.length = 2) (g_fw_1 : fw[1]? = some (.int 0)) : Met l yX12_byteAt (wt yX12_byteAt cX12_byteAt 2 (some .int)) ({ frames := 0, cells := 0, slots := 0, locals := 0 }) (va_Pc [.ref h0, .int i0] (st_U dC dI sz [(h0, .inr (10, fx)), (hw0, .inr (0, fw))] [])) (va_Qi (fun (r : Int32) (_ : Unit) => r = (-1)) (fun (_ : Unit) (_ : State) => True) (va_A [(h0, .inr (10, fx)), (hw0, .inr (0, fw))] sz)) 0 0 (va_A [(h0, .inr (10, fx)), (hw0, .inr (0, fw))] sz) := by
  refine Met.ofW (cc := cX12_byteAt) (maxL := 2) (ret := (some .int)) (by decide) rfl ?_
  intro p e s m args below meth c s₁ B hml hv
  obtain ⟨rfl, hsz, hP, hK, hD0, hex⟩ := hv
  have hx := B.exec
  have hb := B.bytes
  have hr := B.returns
  have hts0 := atoms_spec (ws := wt yX12_byteAt cX12_byteAt 2 (some .int)) B.pre
  have hts : ∀ w ∈ tb, w.before _ s = true := fun w h => hts0 w (List.mem_cons_of_mem _ h)
  have hown : s.vm.findClass RX12 = some m.cls := findClass_of_methodNamed B.named
  have hlocks := B.notSynchronized
  subst hsz
  have hD := hD0.self (sz := s.heap.size)
  generalize hAe : va_A [(h0, .inr (10, fx)), (hw0, .inr (0, fw))] s.heap.size = A at hD ⊢
  have hA : ∀ q : Nat, s.heap.size ≤ q → A q := fun q h => by rw [← hAe]; exact Or.inr h
  have hS : va_S A s.heap s.heap [] := va_S.rf
  have hl := lv_entry ([.ref h0, .int i0]) (n := 2) (Nat.le_of_ble_eq_true rfl)
  rw [lg_entry_eq]
  generalize (lg_sl ([.ref h0, .int i0]) ++ List.replicate (2 - (lg_sl ([.ref h0, .int i0])).length) Slot.unset).toArray = ls at hl ⊢
  have hl : lv_has ls 2 [(0, .ref h0), (1, .int i0)] := hl
  refine lv_iload_n hx hb dX12_byteAt_0 rfl (lv_at hl 1 rfl) ?_
  refine lv_if_lt (tgt := 15) hx hb dX12_byteAt_1 (by decide) (fun c_1 => ?_) (fun c_1 => ?_)
  · refine lv_iconst (v := (-1)) hx hb dX12_byteAt_15 (by decide) ?_
    refine lv_goto (tgt := 27) hx hb dX12_byteAt_16 (by decide) ?_
    refine W.widen (k := 0) (n := 0) (Nat.le_of_ble_eq_true rfl) (Nat.le_of_ble_eq_true rfl) ?_
    exact W.iret (v := (-1)) hx hb hr (fun t9 ht9 hW9 => ⟨⟨_, (), rfl, rfl, trivial⟩, hS.F ht9⟩) hS.2.2 dX12_byteAt_27
  · refine lv_iload_n hx hb dX12_byteAt_4 rfl (lv_at hl 1 rfl) ?_
    refine lv_aload_n hx hb dX12_byteAt_5 rfl (lv_at hl 0 rfl) ?_
    refine va_get (D := (dC, dI)) (ci := 10) (v := .ref hw0) (C := RX12) (T := TX12) (N := 18) hx hb hts inX12 hown hK hP 0 rfl rfl 1 (by decide) (hts _ kw_104) (fun _ h9 => h9) g_fx_1 dX12_byteAt_6 ?_
    refine va_get (D := (dC, dI)) (ci := 0) (v := .int 0) (C := RX0) (T := TX0) (N := 2) hx hb hts inX0 hown hK hP 1 rfl rfl 1 (by decide) (hts _ kw_157) (fun _ h9 => h9) g_fw_1 dX12_byteAt_9 ?_
    refine lv_icmp_lt (tgt := 19) hx hb dX12_byteAt_12 (by decide) (fun c_12 => False.elim (c_1 c_12)) (fun c_12 => ?_)
    refine lv_iconst (v := (-1)) hx hb dX12_byteAt_15 (by decide) ?_
    refine lv_goto (tgt := 27) hx hb dX12_byteAt_16 (by decide) ?_
    refine W.widen (k := 0) (n := 0) (Nat.le_of_ble_eq_true rfl) (Nat.le_of_ble_eq_true rfl) ?_
    exact W.iret (v := (-1)) hx hb hr (fun t9 ht9 hW9 => ⟨⟨_, (), rfl, rfl, trivial⟩, hS.F ht9⟩) hS.2.2 dX12_byteAt_27
set_option maxHeartbeats 400000 in
set_option maxRecDepth 100000 in
theorem m_X12_stage (l : Launch) (dC : Nat → ClassId) (dI : Nat → Nat → Nat) (sz : Nat) (h0 : Nat) (fx : List Value) (f0 : Int32) (L_fx : fx.length = 18) (g_fx_11 : fx[11]? = some (.int 0)) : Met l yX12_stage (wt yX12_stage cX12_stage 3 (some .boolean)) ({ frames := 2, cells := 0, slots := 0, locals := 43 }) (va_Pc [.ref h0, .int f0] (st_U dC dI sz [(h0, .inr (10, fx))] [])) (va_Qi (fun (r : Int32) (_ : Unit) => r = 0) (fun (_ : Unit) (_ : State) => True) (va_A [(h0, .inr (10, fx))] sz)) 0 0 (va_A [(h0, .inr (10, fx))] sz) := by
  refine Met.ofW (cc := cX12_stage) (maxL := 3) (ret := (some .boolean)) (by decide) rfl ?_
  intro p e s m args below meth c s₁ B hml hv
  obtain ⟨rfl, hsz, hP, hK, hD0, hex⟩ := hv
  have hx := B.exec
  have hb := B.bytes
  have hr := B.returns
  have hts0 := atoms_spec (ws := wt yX12_stage cX12_stage 3 (some .boolean)) B.pre
  have hts : ∀ w ∈ tb, w.before _ s = true := fun w h => hts0 w (List.mem_cons_of_mem _ h)
  have hown : s.vm.findClass RX12 = some m.cls := findClass_of_methodNamed B.named
  have hlocks := B.notSynchronized
  subst hsz
  have hD := hD0.self (sz := s.heap.size)
  generalize hAe : va_A [(h0, .inr (10, fx))] s.heap.size = A at hD ⊢
  have hA : ∀ q : Nat, s.heap.size ≤ q → A q := fun q h => by rw [← hAe]; exact Or.inr h
  have hS : va_S A s.heap s.heap [] := va_S.rf
  have hl := lv_entry ([.ref h0, .int f0]) (n := 3) (Nat.le_of_ble_eq_true rfl)
  rw [lg_entry_eq]
  generalize (lg_sl ([.ref h0, .int f0]) ++ List.replicate (3 - (lg_sl ([.ref h0, .int f0])).length) Slot.unset).toArray = ls at hl ⊢
  have hl : lv_has ls 3 [(0, .ref h0), (1, .int f0)] := hl
  refine lv_aload_n hx hb dX12_stage_0 rfl (lv_at hl 0 rfl) ?_
  refine lv_iload_n hx hb dX12_stage_1 rfl (lv_at hl 1 rfl) ?_
  have hPc := hP.sub (ws' := [(h0, .inr (10, fx))]) [0] rfl
  have hDc := hD.sub (ws' := [(h0, .inr (10, fx))]) [0] (by decide) rfl
  have hKc := hK.sub (tys' := []) [] rfl
  have hFc := va_free (wc := [(h0, .inr (10, fx))]) hD hS hA [0] rfl
  refine va_callq (va_runV (As := [.int f0]) (rest := []) ⟨hx, hb, hml, hown, hts⟩ (m_X12_soundUnitAt l dC dI s.heap.size h0 fx f0 L_fx g_fx_11) (cwV 1 hts (gd_V kw_175 kw_176 kw_177 kw_169 kw_178) rfl rfl rfl (by decide +kernel) ⟨Nat.le_of_ble_eq_true rfl, Nat.le_of_ble_eq_true rfl⟩) ⟨st_blind, va_recv hKc hPc (ci := 10) (q0 := 0) rfl rfl, fun U hU hW9 => st_mk hU hW9 hPc hKc hDc hex⟩ rfl rfl hl.1 rfl (lv_room (Nat.le_of_ble_eq_true rfl)) dX12_stage_2 ⟨Nat.le_of_ble_eq_true rfl, Nat.le_of_ble_eq_true rfl⟩) hS (fun q _ h => hFc q h) hFc (fun r_1 u9 t9 H1 locs ht9 hvm9 hw9 hB9 hz9 hk9 hS => ?_)
  have hP1 : va_P (dC, dI) cl0 [] H1 := fun k q h => by simp at h
  have hD1 : va_D (va_A [(h0, .inr (10, fx))] s.heap.size) [] := ⟨fun i j p q h => by simp at h, fun k q h => by simp at h⟩
  obtain ⟨hP, hD⟩ := va_join (wr := []) (w1 := []) hP hD [0] [] rfl rfl (by decide) (by decide) hk9 hFc hP1 hD1
  generalize H1 = H at hP hS ⊢
  have hP : va_P (dC, dI) cl0 [] H := hP
  have hD : va_D A [] := hD
  have hw9 : r_1 = none := hw9
  subst hw9
  refine lv_astore_nN (lv' := [(2, .null), (0, .ref h0), (1, .int f0)]) hx hb dX12_stage_5 rfl hl (by decide) rfl (fun ls hl => ?_)
  refine lv_aload_nN hx hb dX12_stage_6 rfl (lv_at hl 0 rfl) ?_
  refine lv_ifnonnullN hx hb dX12_stage_7 ?_
  refine lv_iconst (v := 0) hx hb dX12_stage_10 (by decide) ?_
  refine W.widen (k := 0) (n := 0) (Nat.le_of_ble_eq_true rfl) (Nat.le_of_ble_eq_true rfl) ?_
  exact W.zret (v := 0) hx hb hr rfl (fun t9 ht9 hW9 => ⟨⟨_, (), rfl, rfl, trivial⟩, hS.F ht9⟩) hS.2.2 dX12_stage_11
set_option maxHeartbeats 400000 in
set_option maxRecDepth 100000 in
theorem m_X5_addArgument (l : Launch) (dC : Nat → ClassId) (dI : Nat → Nat → Nat) (sz : Nat) (h0 : Nat) (fm : List Value) (hma : Nat) (cJ : ClassId) (v : Int64) (L_fm : fm.length = 20) (g_fm_6 : fm[6]? = some (.ref hma)) (g_fm_7 : fm[7]? = some (.int 0)) : Met l yX5_addArgument (wt yX5_addArgument cX5_addArgument 3 (some .int)) ({ frames := 0, cells := 0, slots := 0, locals := 0 }) (va_Pc [.ref h0, .long v] (st_U dC dI sz [(h0, .inr (5, fm)), (hma, .inl (cJ, 8, .inr (.inl (fun _ => 0))))] [(cJ, .long)])) (va_Qi (fun (r : Int32) (_ : Unit) => r = 1) (fun (_ : Unit) (_ : State) => True) (va_A [(h0, .inr (5, fm)), (hma, .inl (cJ, 8, .inr (.inl (fun _ => 0))))] sz)) 0 0 (va_A [(h0, .inr (5, fm)), (hma, .inl (cJ, 8, .inr (.inl (fun _ => 0))))] sz) := by
  refine Met.ofW (cc := cX5_addArgument) (maxL := 3) (ret := (some .int)) (by decide) rfl ?_
  intro p e s m args below meth c s₁ B hml hv
  obtain ⟨rfl, hsz, hP, hK, hD0, hex⟩ := hv
  have hx := B.exec
  have hb := B.bytes
  have hr := B.returns
  have hts0 := atoms_spec (ws := wt yX5_addArgument cX5_addArgument 3 (some .int)) B.pre
  have hts : ∀ w ∈ tb, w.before _ s = true := fun w h => hts0 w (List.mem_cons_of_mem _ h)
  have hown : s.vm.findClass RX5 = some m.cls := findClass_of_methodNamed B.named
  have hlocks := B.notSynchronized
  subst hsz
  have hD := hD0.self (sz := s.heap.size)
  generalize hAe : va_A [(h0, .inr (5, fm)), (hma, .inl (cJ, 8, .inr (.inl (fun _ => 0))))] s.heap.size = A at hD ⊢
  have hA : ∀ q : Nat, s.heap.size ≤ q → A q := fun q h => by rw [← hAe]; exact Or.inr h
  have hS : va_S A s.heap s.heap [] := va_S.rf
  have hl := lv_entry ([.ref h0, .long v]) (n := 3) (Nat.le_of_ble_eq_true rfl)
  rw [lg_entry_eq]
  generalize (lg_sl ([.ref h0, .long v]) ++ List.replicate (3 - (lg_sl ([.ref h0, .long v])).length) Slot.unset).toArray = ls at hl ⊢
  have hl : lv_has ls 3 [(0, .ref h0), (1, .long v)] := hl
  refine lv_aload_n hx hb dX5_addArgument_0 rfl (lv_at hl 0 rfl) ?_
  refine va_get (D := (dC, dI)) (ci := 5) (v := .int 0) (C := RX5) (T := TX5) (N := 20) hx hb hts inX5 hown hK hP 0 rfl rfl 7 (by decide) (hts _ kw_179) (fun _ h9 => h9) g_fm_7 dX5_addArgument_1 ?_
  refine lv_bipush (v := 8) hx hb dX5_addArgument_4 (by decide) ?_
  refine lv_icmp_lt (tgt := 11) hx hb dX5_addArgument_6 (by decide) (fun _ => ?_) (fun c9 => absurd (by decide) c9)
  refine lv_aload_n hx hb dX5_addArgument_11 rfl (lv_at hl 0 rfl) ?_
  refine va_get (D := (dC, dI)) (ci := 5) (v := .ref hma) (C := RX5) (T := TX5) (N := 20) hx hb hts inX5 hown hK hP 0 rfl rfl 6 (by decide) (hts _ kw_69) (fun _ h9 => h9) g_fm_6 dX5_addArgument_12 ?_
  refine lv_aload_n hx hb dX5_addArgument_15 rfl (lv_at hl 0 rfl) ?_
  refine va_get (D := (dC, dI)) (ci := 5) (v := .int 0) (C := RX5) (T := TX5) (N := 20) hx hb hts inX5 hown hK hP 0 rfl rfl 7 (by decide) (hts _ kw_179) (fun _ h9 => h9) g_fm_7 dX5_addArgument_16 ?_
  refine lv_lload_n hx hb dX5_addArgument_19 rfl (lv_at hl 1 rfl) ?_
  refine va_last hx hb hK hP hD hS 1 0 rfl rfl (vi rfl) dX5_addArgument_20 (fun H locs hP hD hS => ?_)
  obtain ⟨f_1, e_f_1⟩ : ∃ z, z = vp_updL (fun _ => 0) (0 : Int32).toNatClampNeg v := ⟨_, rfl⟩
  have hP : va_P (dC, dI) cl0 [(h0, .inr (5, fm)), (hma, .inl (cJ, 8, .inr (.inl f_1)))] H := by rw [e_f_1]; exact hP
  have hD : va_D A [(h0, .inr (5, fm)), (hma, .inl (cJ, 8, .inr (.inl f_1)))] := by rw [e_f_1]; exact hD
  refine lv_aload_n hx hb dX5_addArgument_21 rfl (lv_at hl 0 rfl) ?_
  refine lv_dup hx hb dX5_addArgument_22 rfl ?_
  refine va_get (D := (dC, dI)) (ci := 5) (v := .int 0) (C := RX5) (T := TX5) (N := 20) hx hb hts inX5 hown hK hP 0 rfl rfl 7 (by decide) (hts _ kw_179) (fun _ h9 => h9) g_fm_7 dX5_addArgument_23 ?_
  refine lv_iconst (v := 1) hx hb dX5_addArgument_26 (by decide) ?_
  refine lv_iadd hx hb dX5_addArgument_27 ?_
  refine lv_topi (fun z_2 ez_2 => ?_)
  obtain rfl : z_2 = 1 := ez_2.trans (by decide)
  refine va_put (D := (dC, dI)) (ci := 5) (v := .int 1) (ty := .int) (C := RX5) (T := TX5) (N := 20) hx hb hts inX5 tyX5 tyX5_ok nmX5 hown hK hP hD hS 0 rfl rfl 7 (by decide) (hts _ kw_179) (fun _ h9 => h9) rfl (by decide +kernel) rfl rfl (by rw [L_fm]; decide) dX5_addArgument_28 (fun H locs hP hD hS => ?_)
  obtain ⟨fm_3, e_fm_3⟩ : ∃ z, z = fm.set 7 (.int 1) := ⟨_, rfl⟩
  have hP : va_P (dC, dI) cl0 [(h0, .inr (5, fm_3)), (hma, .inl (cJ, 8, .inr (.inl f_1)))] H := by rw [e_fm_3]; exact hP
  have hD : va_D A [(h0, .inr (5, fm_3)), (hma, .inl (cJ, 8, .inr (.inl f_1)))] := by rw [e_fm_3]; exact hD
  have L_fm_3 : fm_3.length = 20 := fx_len e_fm_3 L_fm
  have g_fm_3_6 := fx_ne (j := 6) e_fm_3 g_fm_6 (by decide)
  have g_fm_3_7 := fx_self e_fm_3 (by rw [L_fm]; decide)
  refine lv_aload_n hx hb dX5_addArgument_31 rfl (lv_at hl 0 rfl) ?_
  refine va_get (D := (dC, dI)) (ci := 5) (v := .int 1) (C := RX5) (T := TX5) (N := 20) hx hb hts inX5 hown hK hP 0 rfl rfl 7 (by decide) (hts _ kw_179) (fun _ h9 => h9) g_fm_3_7 dX5_addArgument_32 ?_
  refine W.widen (k := 0) (n := 0) (Nat.le_of_ble_eq_true rfl) (Nat.le_of_ble_eq_true rfl) ?_
  exact W.iret (v := 1) hx hb hr (fun t9 ht9 hW9 => ⟨⟨_, (), rfl, rfl, trivial⟩, hS.F ht9⟩) hS.2.2 dX5_addArgument_35
set_option maxHeartbeats 400000 in
set_option maxRecDepth 100000 in
theorem m_X5_refusal (l : Launch) (dC : Nat → ClassId) (dI : Nat → Nat → Nat) (sz : Nat) (h0 : Nat) (fm : List Value) (m0 : Int32) (u0 : Int32) (L_fm : fm.length = 20) (g_fm_0 : fm[0]? = some (.null)) : Met l yX5_refusal (wt yX5_refusal cX5_refusal 5 (some .int)) ({ frames := 0, cells := 0, slots := 0, locals := 0 }) (va_Pc [.ref h0, .int m0, .int u0] (st_U dC dI sz [(h0, .inr (5, fm))] [])) (va_Qi (fun (r : Int32) (_ : Unit) => r = (-1)) (fun (_ : Unit) (t : State) => ∃ (fm1 : List Value), (fm1.length = 20) ∧ va_P (dC, dI) cl0 [(h0, .inr (5, fm1))] t.heap ∧ va_K (dC, dI) cl0 [] t ∧ va_D (va_A [(h0, .inr (5, fm))] sz) [(h0, .inr (5, fm1))]) (va_A [(h0, .inr (5, fm))] sz)) 0 0 (va_A [(h0, .inr (5, fm))] sz) := by
  refine Met.ofW (cc := cX5_refusal) (maxL := 5) (ret := (some .int)) (by decide) rfl ?_
  intro p e s m args below meth c s₁ B hml hv
  obtain ⟨rfl, hsz, hP, hK, hD0, hex⟩ := hv
  have hx := B.exec
  have hb := B.bytes
  have hr := B.returns
  have hts0 := atoms_spec (ws := wt yX5_refusal cX5_refusal 5 (some .int)) B.pre
  have hts : ∀ w ∈ tb, w.before _ s = true := fun w h => hts0 w (List.mem_cons_of_mem _ h)
  have hown : s.vm.findClass RX5 = some m.cls := findClass_of_methodNamed B.named
  have hlocks := B.notSynchronized
  subst hsz
  have hD := hD0.self (sz := s.heap.size)
  generalize hAe : va_A [(h0, .inr (5, fm))] s.heap.size = A at hD ⊢
  have hA : ∀ q : Nat, s.heap.size ≤ q → A q := fun q h => by rw [← hAe]; exact Or.inr h
  have hS : va_S A s.heap s.heap [] := va_S.rf
  have hl := lv_entry ([.ref h0, .int m0, .int u0]) (n := 5) (Nat.le_of_ble_eq_true rfl)
  rw [lg_entry_eq]
  generalize (lg_sl ([.ref h0, .int m0, .int u0]) ++ List.replicate (5 - (lg_sl ([.ref h0, .int m0, .int u0])).length) Slot.unset).toArray = ls at hl ⊢
  have hl : lv_has ls 5 [(0, .ref h0), (1, .int m0), (2, .int u0)] := hl
  refine lv_aload_n hx hb dX5_refusal_0 rfl (lv_at hl 0 rfl) ?_
  refine va_get (D := (dC, dI)) (ci := 5) (v := .null) (C := RX5) (T := TX5) (N := 20) hx hb hts inX5 hown hK hP 0 rfl rfl 0 (by decide) (hts _ kw_180) (fun _ h9 => h9) g_fm_0 dX5_refusal_1 ?_
  refine lv_ifnullN (tgt := 18) hx hb dX5_refusal_4 (by decide) ?_
  refine lv_iconst (v := (-1)) hx hb dX5_refusal_18 (by decide) ?_
  refine W.widen (k := 0) (n := 0) (Nat.le_of_ble_eq_true rfl) (Nat.le_of_ble_eq_true rfl) ?_
  have hP9 := hP.sub (ws' := [(h0, .inr (5, fm))]) [0] rfl
  have hD9 := hD.sub (ws' := [(h0, .inr (5, fm))]) [0] (by decide) rfl
  have hK9 := hK.sub (tys' := []) [] rfl
  exact W.iret (v := (-1)) hx hb hr (fun t9 ht9 hW9 => ⟨⟨_, (), rfl, rfl, fm, L_fm, by rw [ht9]; exact hP9, va_K.moved hW9.alike hK9, hD9⟩, hS.F ht9⟩) hS.2.2 dX5_refusal_19
set_option maxHeartbeats 400000 in
set_option maxRecDepth 100000 in
theorem m_X5_fieldAt (l : Launch) (dC : Nat → ClassId) (dI : Nat → Nat → Nat) (sz : Nat) (h0 : Nat) (fm : List Value) (k0 : Int32) (L_fm : fm.length = 20) (g_fm_0 : fm[0]? = some (.null)) : Met l yX5_fieldAt (wt yX5_fieldAt cX5_fieldAt 2 (some .long)) ({ frames := 0, cells := 0, slots := 0, locals := 0 }) (va_Pc [.ref h0, .int k0] (st_U dC dI sz [(h0, .inr (5, fm))] [])) (va_Ql (fun (r : Int64) (_ : Unit) => r = 0) (fun (_ : Unit) (_ : State) => True) (va_A [(h0, .inr (5, fm))] sz)) 0 0 (va_A [(h0, .inr (5, fm))] sz) := by
  refine Met.ofW (cc := cX5_fieldAt) (maxL := 2) (ret := (some .long)) (by decide) rfl ?_
  intro p e s m args below meth c s₁ B hml hv
  obtain ⟨rfl, hsz, hP, hK, hD0, hex⟩ := hv
  have hx := B.exec
  have hb := B.bytes
  have hr := B.returns
  have hts0 := atoms_spec (ws := wt yX5_fieldAt cX5_fieldAt 2 (some .long)) B.pre
  have hts : ∀ w ∈ tb, w.before _ s = true := fun w h => hts0 w (List.mem_cons_of_mem _ h)
  have hown : s.vm.findClass RX5 = some m.cls := findClass_of_methodNamed B.named
  have hlocks := B.notSynchronized
  subst hsz
  have hD := hD0.self (sz := s.heap.size)
  generalize hAe : va_A [(h0, .inr (5, fm))] s.heap.size = A at hD ⊢
  have hA : ∀ q : Nat, s.heap.size ≤ q → A q := fun q h => by rw [← hAe]; exact Or.inr h
  have hS : va_S A s.heap s.heap [] := va_S.rf
  have hl := lv_entry ([.ref h0, .int k0]) (n := 2) (Nat.le_of_ble_eq_true rfl)
  rw [lg_entry_eq]
  generalize (lg_sl ([.ref h0, .int k0]) ++ List.replicate (2 - (lg_sl ([.ref h0, .int k0])).length) Slot.unset).toArray = ls at hl ⊢
  have hl : lv_has ls 2 [(0, .ref h0), (1, .int k0)] := hl
  refine lv_aload_n hx hb dX5_fieldAt_0 rfl (lv_at hl 0 rfl) ?_
  refine va_get (D := (dC, dI)) (ci := 5) (v := .null) (C := RX5) (T := TX5) (N := 20) hx hb hts inX5 hown hK hP 0 rfl rfl 0 (by decide) (hts _ kw_180) (fun _ h9 => h9) g_fm_0 dX5_fieldAt_1 ?_
  refine lv_ifnullN (tgt := 28) hx hb dX5_fieldAt_4 (by decide) ?_
  refine lv_lconst (v := 0) hx hb dX5_fieldAt_28 (by decide) ?_
  refine lv_goto (tgt := 38) hx hb dX5_fieldAt_29 (by decide) ?_
  refine W.widen (k := 0) (n := 0) (Nat.le_of_ble_eq_true rfl) (Nat.le_of_ble_eq_true rfl) ?_
  exact W.lret (v := 0) hx hb hr (fun t9 ht9 hW9 => ⟨⟨_, (), rfl, rfl, trivial⟩, hS.F ht9⟩) hS.2.2 dX5_fieldAt_38
set_option maxHeartbeats 400000 in
set_option maxRecDepth 100000 in
theorem m_X5_isArray (l : Launch) (dC : Nat → ClassId) (dI : Nat → Nat → Nat) (sz : Nat) (h0 : Nat) (fm : List Value) (v : Int64) (L_fm : fm.length = 20) (g_fm_5 : fm[5]? = some (.int 0)) : Met l yX5_isArray (wt yX5_isArray cX5_isArray 3 (some .boolean)) ({ frames := 0, cells := 0, slots := 0, locals := 0 }) (va_Pc [.ref h0, .long v] (st_U dC dI sz [(h0, .inr (5, fm))] [])) (va_Qi (fun (r : Int32) (_ : Unit) => r = 0) (fun (_ : Unit) (_ : State) => True) (va_A [(h0, .inr (5, fm))] sz)) 0 0 (va_A [(h0, .inr (5, fm))] sz) := by
  refine Met.ofW (cc := cX5_isArray) (maxL := 3) (ret := (some .boolean)) (by decide) rfl ?_
  intro p e s m args below meth c s₁ B hml hv
  obtain ⟨rfl, hsz, hP, hK, hD0, hex⟩ := hv
  have hx := B.exec
  have hb := B.bytes
  have hr := B.returns
  have hts0 := atoms_spec (ws := wt yX5_isArray cX5_isArray 3 (some .boolean)) B.pre
  have hts : ∀ w ∈ tb, w.before _ s = true := fun w h => hts0 w (List.mem_cons_of_mem _ h)
  have hown : s.vm.findClass RX5 = some m.cls := findClass_of_methodNamed B.named
  have hlocks := B.notSynchronized
  subst hsz
  have hD := hD0.self (sz := s.heap.size)
  generalize hAe : va_A [(h0, .inr (5, fm))] s.heap.size = A at hD ⊢
  have hA : ∀ q : Nat, s.heap.size ≤ q → A q := fun q h => by rw [← hAe]; exact Or.inr h
  have hS : va_S A s.heap s.heap [] := va_S.rf
  have hl := lv_entry ([.ref h0, .long v]) (n := 3) (Nat.le_of_ble_eq_true rfl)
  rw [lg_entry_eq]
  generalize (lg_sl ([.ref h0, .long v]) ++ List.replicate (3 - (lg_sl ([.ref h0, .long v])).length) Slot.unset).toArray = ls at hl ⊢
  have hl : lv_has ls 3 [(0, .ref h0), (1, .long v)] := hl
  refine lv_lload_n hx hb dX5_isArray_0 rfl (lv_at hl 1 rfl) ?_
  refine lv_lconst (v := 1) hx hb dX5_isArray_1 (by decide) ?_
  refine W.lcmp hx hb dX5_isArray_2 ?_
  refine lv_if_lt (tgt := 20) hx hb dX5_isArray_3 (by decide) (fun c_3 => ?_) (fun c_3 => ?_)
  · refine lv_iconst (v := 0) hx hb dX5_isArray_20 (by decide) ?_
    refine W.widen (k := 0) (n := 0) (Nat.le_of_ble_eq_true rfl) (Nat.le_of_ble_eq_true rfl) ?_
    exact W.zret (v := 0) hx hb hr rfl (fun t9 ht9 hW9 => ⟨⟨_, (), rfl, rfl, trivial⟩, hS.F ht9⟩) hS.2.2 dX5_isArray_21
  · refine lv_lload_n hx hb dX5_isArray_6 rfl (lv_at hl 1 rfl) ?_
    refine lv_aload_n hx hb dX5_isArray_7 rfl (lv_at hl 0 rfl) ?_
    refine va_get (D := (dC, dI)) (ci := 5) (v := .int 0) (C := RX5) (T := TX5) (N := 20) hx hb hts inX5 hown hK hP 0 rfl rfl 5 (by decide) (hts _ kw_181) (fun _ h9 => h9) g_fm_5 dX5_isArray_8 ?_
    refine lv_i2l (v := (0 : Int32).toInt64) hx hb dX5_isArray_11 rfl ?_
    refine W.lcmp hx hb dX5_isArray_12 ?_
    refine lv_if_gt (tgt := 20) hx hb dX5_isArray_13 (by decide) (fun c_13 => ?_) (fun c_13 => False.elim (k_cmp c_3 c_13))
    refine lv_iconst (v := 0) hx hb dX5_isArray_20 (by decide) ?_
    refine W.widen (k := 0) (n := 0) (Nat.le_of_ble_eq_true rfl) (Nat.le_of_ble_eq_true rfl) ?_
    exact W.zret (v := 0) hx hb hr rfl (fun t9 ht9 hW9 => ⟨⟨_, (), rfl, rfl, trivial⟩, hS.F ht9⟩) hS.2.2 dX5_isArray_21
set_option maxHeartbeats 400000 in
set_option maxRecDepth 100000 in
theorem m_X5_lengthOf (l : Launch) (dC : Nat → ClassId) (dI : Nat → Nat → Nat) (sz : Nat) (h0 : Nat) (fm : List Value) (a0 : Int32) (L_fm : fm.length = 20) (g_fm_5 : fm[5]? = some (.int 0)) : Met l yX5_lengthOf (wt yX5_lengthOf cX5_lengthOf 2 (some .int)) ({ frames := 1, cells := 0, slots := 0, locals := 22 }) (va_Pc [.ref h0, .int a0] (st_U dC dI sz [(h0, .inr (5, fm))] [])) (va_Qi (fun (r : Int32) (_ : Unit) => r = (-1)) (fun (_ : Unit) (_ : State) => True) (va_A [(h0, .inr (5, fm))] sz)) 0 0 (va_A [(h0, .inr (5, fm))] sz) := by
  refine Met.ofW (cc := cX5_lengthOf) (maxL := 2) (ret := (some .int)) (by decide) rfl ?_
  intro p e s m args below meth c s₁ B hml hv
  obtain ⟨rfl, hsz, hP, hK, hD0, hex⟩ := hv
  have hx := B.exec
  have hb := B.bytes
  have hr := B.returns
  have hts0 := atoms_spec (ws := wt yX5_lengthOf cX5_lengthOf 2 (some .int)) B.pre
  have hts : ∀ w ∈ tb, w.before _ s = true := fun w h => hts0 w (List.mem_cons_of_mem _ h)
  have hown : s.vm.findClass RX5 = some m.cls := findClass_of_methodNamed B.named
  have hlocks := B.notSynchronized
  subst hsz
  have hD := hD0.self (sz := s.heap.size)
  generalize hAe : va_A [(h0, .inr (5, fm))] s.heap.size = A at hD ⊢
  have hA : ∀ q : Nat, s.heap.size ≤ q → A q := fun q h => by rw [← hAe]; exact Or.inr h
  have hS : va_S A s.heap s.heap [] := va_S.rf
  have hl := lv_entry ([.ref h0, .int a0]) (n := 2) (Nat.le_of_ble_eq_true rfl)
  rw [lg_entry_eq]
  generalize (lg_sl ([.ref h0, .int a0]) ++ List.replicate (2 - (lg_sl ([.ref h0, .int a0])).length) Slot.unset).toArray = ls at hl ⊢
  have hl : lv_has ls 2 [(0, .ref h0), (1, .int a0)] := hl
  refine lv_aload_n hx hb dX5_lengthOf_0 rfl (lv_at hl 0 rfl) ?_
  refine lv_iload_n hx hb dX5_lengthOf_1 rfl (lv_at hl 1 rfl) ?_
  refine lv_i2l (v := (a0).toInt64) hx hb dX5_lengthOf_2 rfl ?_
  have hPc := hP.sub (ws' := [(h0, .inr (5, fm))]) [0] rfl
  have hDc := hD.sub (ws' := [(h0, .inr (5, fm))]) [0] (by decide) rfl
  have hKc := hK.sub (tys' := []) [] rfl
  have hFc := va_free (wc := [(h0, .inr (5, fm))]) hD hS hA [0] rfl
  refine va_calli (va_runV (As := [.long ((a0).toInt64)]) (rest := []) ⟨hx, hb, hml, hown, hts⟩ (m_X5_isArray l dC dI s.heap.size h0 fm ((a0).toInt64) L_fm g_fm_5) (cwV 1 hts (gd_V kw_182 kw_183 kw_184 kw_128 kw_185) rfl rfl rfl (by decide +kernel) ⟨Nat.le_of_ble_eq_true rfl, Nat.le_of_ble_eq_true rfl⟩) ⟨st_blind, va_recv hKc hPc (ci := 5) (q0 := 0) rfl rfl, fun U hU hW9 => st_mk hU hW9 hPc hKc hDc hex⟩ rfl rfl hl.1 rfl (lv_room (Nat.le_of_ble_eq_true rfl)) dX5_lengthOf_3 ⟨Nat.le_of_ble_eq_true rfl, Nat.le_of_ble_eq_true rfl⟩) hS (fun q _ h => hFc q h) hFc (fun r_1 u9 t9 H1 locs ht9 hvm9 hw9 hB9 hz9 hk9 hS => ?_)
  have hP1 : va_P (dC, dI) cl0 [] H1 := fun k q h => by simp at h
  have hD1 : va_D (va_A [(h0, .inr (5, fm))] s.heap.size) [] := ⟨fun i j p q h => by simp at h, fun k q h => by simp at h⟩
  obtain ⟨hP, hD⟩ := va_join (wr := []) (w1 := []) hP hD [0] [] rfl rfl (by decide) (by decide) hk9 hFc hP1 hD1
  generalize H1 = H at hP hS ⊢
  have hP : va_P (dC, dI) cl0 [] H := hP
  have hD : va_D A [] := hD
  have hw9 : r_1 = 0 := hw9
  subst hw9
  refine lv_if_eq (tgt := 25) hx hb dX5_lengthOf_6 (by decide) (fun _ => ?_) (fun c9 => absurd (by decide) c9)
  refine lv_iconst (v := (-1)) hx hb dX5_lengthOf_25 (by decide) ?_
  refine W.widen (k := 0) (n := 0) (Nat.le_of_ble_eq_true rfl) (Nat.le_of_ble_eq_true rfl) ?_
  exact W.iret (v := (-1)) hx hb hr (fun t9 ht9 hW9 => ⟨⟨_, (), rfl, rfl, trivial⟩, hS.F ht9⟩) hS.2.2 dX5_lengthOf_26
set_option maxHeartbeats 400000 in
set_option maxRecDepth 100000 in
theorem m_X5_elementAt (l : Launch) (dC : Nat → ClassId) (dI : Nat → Nat → Nat) (sz : Nat) (h0 : Nat) (fm : List Value) (a0 : Int32) (i0 : Int32) (L_fm : fm.length = 20) (g_fm_5 : fm[5]? = some (.int 0)) : Met l yX5_elementAt (wt yX5_elementAt cX5_elementAt 3 (some .int)) ({ frames := 2, cells := 0, slots := 0, locals := 43 }) (va_Pc [.ref h0, .int a0, .int i0] (st_U dC dI sz [(h0, .inr (5, fm))] [])) (va_Qi (fun (r : Int32) (_ : Unit) => r = 0) (fun (_ : Unit) (_ : State) => True) (va_A [(h0, .inr (5, fm))] sz)) 0 0 (va_A [(h0, .inr (5, fm))] sz) := by
  refine Met.ofW (cc := cX5_elementAt) (maxL := 3) (ret := (some .int)) (by decide) rfl ?_
  intro p e s m args below meth c s₁ B hml hv
  obtain ⟨rfl, hsz, hP, hK, hD0, hex⟩ := hv
  have hx := B.exec
  have hb := B.bytes
  have hr := B.returns
  have hts0 := atoms_spec (ws := wt yX5_elementAt cX5_elementAt 3 (some .int)) B.pre
  have hts : ∀ w ∈ tb, w.before _ s = true := fun w h => hts0 w (List.mem_cons_of_mem _ h)
  have hown : s.vm.findClass RX5 = some m.cls := findClass_of_methodNamed B.named
  have hlocks := B.notSynchronized
  subst hsz
  have hD := hD0.self (sz := s.heap.size)
  generalize hAe : va_A [(h0, .inr (5, fm))] s.heap.size = A at hD ⊢
  have hA : ∀ q : Nat, s.heap.size ≤ q → A q := fun q h => by rw [← hAe]; exact Or.inr h
  have hS : va_S A s.heap s.heap [] := va_S.rf
  have hl := lv_entry ([.ref h0, .int a0, .int i0]) (n := 3) (Nat.le_of_ble_eq_true rfl)
  rw [lg_entry_eq]
  generalize (lg_sl ([.ref h0, .int a0, .int i0]) ++ List.replicate (3 - (lg_sl ([.ref h0, .int a0, .int i0])).length) Slot.unset).toArray = ls at hl ⊢
  have hl : lv_has ls 3 [(0, .ref h0), (1, .int a0), (2, .int i0)] := hl
  refine lv_iload_n hx hb dX5_elementAt_0 rfl (lv_at hl 2 rfl) ?_
  refine lv_if_lt (tgt := 13) hx hb dX5_elementAt_1 (by decide) (fun c_1 => ?_) (fun c_1 => ?_)
  · refine lv_iconst (v := 0) hx hb dX5_elementAt_13 (by decide) ?_
    refine lv_goto (tgt := 28) hx hb dX5_elementAt_14 (by decide) ?_
    refine W.widen (k := 0) (n := 0) (Nat.le_of_ble_eq_true rfl) (Nat.le_of_ble_eq_true rfl) ?_
    exact W.iret (v := 0) hx hb hr (fun t9 ht9 hW9 => ⟨⟨_, (), rfl, rfl, trivial⟩, hS.F ht9⟩) hS.2.2 dX5_elementAt_28
  · refine lv_iload_n hx hb dX5_elementAt_4 rfl (lv_at hl 2 rfl) ?_
    refine lv_aload_n hx hb dX5_elementAt_5 rfl (lv_at hl 0 rfl) ?_
    refine lv_iload_n hx hb dX5_elementAt_6 rfl (lv_at hl 1 rfl) ?_
    have hPc := hP.sub (ws' := [(h0, .inr (5, fm))]) [0] rfl
    have hDc := hD.sub (ws' := [(h0, .inr (5, fm))]) [0] (by decide) rfl
    have hKc := hK.sub (tys' := []) [] rfl
    have hFc := va_free (wc := [(h0, .inr (5, fm))]) hD hS hA [0] rfl
    refine va_calli (va_runV (As := [.int a0]) (rest := [.int i0]) ⟨hx, hb, hml, hown, hts⟩ (m_X5_lengthOf l dC dI s.heap.size h0 fm a0 L_fm g_fm_5) (cwV 1 hts (gd_V kw_186 kw_187 kw_188 kw_128 kw_189) rfl rfl rfl (by decide +kernel) ⟨Nat.le_of_ble_eq_true rfl, Nat.le_of_ble_eq_true rfl⟩) ⟨st_blind, va_recv hKc hPc (ci := 5) (q0 := 0) rfl rfl, fun U hU hW9 => st_mk hU hW9 hPc hKc hDc hex⟩ rfl rfl hl.1 rfl (lv_room (Nat.le_of_ble_eq_true rfl)) dX5_elementAt_7 ⟨Nat.le_of_ble_eq_true rfl, Nat.le_of_ble_eq_true rfl⟩) hS (fun q _ h => hFc q h) hFc (fun r_1 u9 t9 H1 locs ht9 hvm9 hw9 hB9 hz9 hk9 hS => ?_)
    have hP1 : va_P (dC, dI) cl0 [] H1 := fun k q h => by simp at h
    have hD1 : va_D (va_A [(h0, .inr (5, fm))] s.heap.size) [] := ⟨fun i j p q h => by simp at h, fun k q h => by simp at h⟩
    obtain ⟨hP, hD⟩ := va_join (wr := []) (w1 := []) hP hD [0] [] rfl rfl (by decide) (by decide) hk9 hFc hP1 hD1
    generalize H1 = H at hP hS ⊢
    have hP : va_P (dC, dI) cl0 [] H := hP
    have hD : va_D A [] := hD
    have hw9 : r_1 = (-1) := hw9
    subst hw9
    refine lv_icmp_lt (tgt := 17) hx hb dX5_elementAt_10 (by decide) (fun c_10 => False.elim (k_m1 c_1 c_10)) (fun c_10 => ?_)
    refine lv_iconst (v := 0) hx hb dX5_elementAt_13 (by decide) ?_
    refine lv_goto (tgt := 28) hx hb dX5_elementAt_14 (by decide) ?_
    refine W.widen (k := 0) (n := 0) (Nat.le_of_ble_eq_true rfl) (Nat.le_of_ble_eq_true rfl) ?_
    exact W.iret (v := 0) hx hb hr (fun t9 ht9 hW9 => ⟨⟨_, (), rfl, rfl, trivial⟩, hS.F ht9⟩) hS.2.2 dX5_elementAt_28
set_option maxHeartbeats 400000 in
set_option maxRecDepth 100000 in
theorem m_X12_argument (l : Launch) (dC : Nat → ClassId) (dI : Nat → Nat → Nat) (sz : Nat) (h0 : Nat) (fx : List Value) (hm : Nat) (fm : List Value) (hma : Nat) (cJ : ClassId) (v : Int64) (L_fx : fx.length = 18) (g_fx_7 : fx[7]? = some (.ref hm)) (L_fm : fm.length = 20) (g_fm_6 : fm[6]? = some (.ref hma)) (g_fm_7 : fm[7]? = some (.int 0)) : Met l yX12_argument (wt yX12_argument cX12_argument 3 (some .int)) ({ frames := 1, cells := 0, slots := 0, locals := 22 }) (va_Pc [.ref h0, .long v] (st_U dC dI sz [(h0, .inr (10, fx)), (hm, .inr (5, fm)), (hma, .inl (cJ, 8, .inr (.inl (fun _ => 0))))] [(cJ, .long)])) (va_Qi (fun (r : Int32) (_ : Unit) => r = 1) (fun (_ : Unit) (_ : State) => True) (va_A [(h0, .inr (10, fx)), (hm, .inr (5, fm)), (hma, .inl (cJ, 8, .inr (.inl (fun _ => 0))))] sz)) 0 0 (va_A [(h0, .inr (10, fx)), (hm, .inr (5, fm)), (hma, .inl (cJ, 8, .inr (.inl (fun _ => 0))))] sz) := by
  refine Met.ofW (cc := cX12_argument) (maxL := 3) (ret := (some .int)) (by decide) rfl ?_
  intro p e s m args below meth c s₁ B hml hv
  obtain ⟨rfl, hsz, hP, hK, hD0, hex⟩ := hv
  have hx := B.exec
  have hb := B.bytes
  have hr := B.returns
  have hts0 := atoms_spec (ws := wt yX12_argument cX12_argument 3 (some .int)) B.pre
  have hts : ∀ w ∈ tb, w.before _ s = true := fun w h => hts0 w (List.mem_cons_of_mem _ h)
  have hown : s.vm.findClass RX12 = some m.cls := findClass_of_methodNamed B.named
  have hlocks := B.notSynchronized
  subst hsz
  have hD := hD0.self (sz := s.heap.size)
  generalize hAe : va_A [(h0, .inr (10, fx)), (hm, .inr (5, fm)), (hma, .inl (cJ, 8, .inr (.inl (fun _ => 0))))] s.heap.size = A at hD ⊢
  have hA : ∀ q : Nat, s.heap.size ≤ q → A q := fun q h => by rw [← hAe]; exact Or.inr h
  have hS : va_S A s.heap s.heap [] := va_S.rf
  have hl := lv_entry ([.ref h0, .long v]) (n := 3) (Nat.le_of_ble_eq_true rfl)
  rw [lg_entry_eq]
  generalize (lg_sl ([.ref h0, .long v]) ++ List.replicate (3 - (lg_sl ([.ref h0, .long v])).length) Slot.unset).toArray = ls at hl ⊢
  have hl : lv_has ls 3 [(0, .ref h0), (1, .long v)] := hl
  refine lv_aload_n hx hb dX12_argument_0 rfl (lv_at hl 0 rfl) ?_
  refine va_get (D := (dC, dI)) (ci := 10) (v := .ref hm) (C := RX12) (T := TX12) (N := 18) hx hb hts inX12 hown hK hP 0 rfl rfl 7 (by decide) (hts _ kw_131) (fun _ h9 => h9) g_fx_7 dX12_argument_1 ?_
  refine lv_lload_n hx hb dX12_argument_4 rfl (lv_at hl 1 rfl) ?_
  have hPc := hP.sub (ws' := [(hm, .inr (5, fm)), (hma, .inl (cJ, 8, .inr (.inl (fun _ => 0))))]) [1, 2] rfl
  have hDc := hD.sub (ws' := [(hm, .inr (5, fm)), (hma, .inl (cJ, 8, .inr (.inl (fun _ => 0))))]) [1, 2] (by decide) rfl
  have hKc := hK.sub (tys' := [(cJ, .long)]) [0] rfl
  have hFc := va_free (wc := [(hm, .inr (5, fm)), (hma, .inl (cJ, 8, .inr (.inl (fun _ => 0))))]) hD hS hA [1, 2] rfl
  refine va_calli (va_runV (As := [.long v]) (rest := []) ⟨hx, hb, hml, hown, hts⟩ (m_X5_addArgument l dC dI s.heap.size hm fm hma cJ v L_fm g_fm_6 g_fm_7) (cwV 1 hts (gd_V kw_190 kw_191 kw_192 kw_128 kw_193) rfl rfl rfl (by decide +kernel) ⟨Nat.le_of_ble_eq_true rfl, Nat.le_of_ble_eq_true rfl⟩) ⟨st_blind, va_recv hKc hPc (ci := 5) (q0 := 0) rfl rfl, fun U hU hW9 => st_mk hU hW9 hPc hKc hDc hex⟩ rfl rfl hl.1 rfl (lv_room (Nat.le_of_ble_eq_true rfl)) dX12_argument_5 ⟨Nat.le_of_ble_eq_true rfl, Nat.le_of_ble_eq_true rfl⟩) hS (fun q _ h => hFc q h) hFc (fun r_1 u9 t9 H1 locs ht9 hvm9 hw9 hB9 hz9 hk9 hS => ?_)
  have hP1 : va_P (dC, dI) cl0 [] H1 := fun k q h => by simp at h
  have hD1 : va_D (va_A [(hm, .inr (5, fm)), (hma, .inl (cJ, 8, .inr (.inl (fun _ => 0))))] s.heap.size) [] := ⟨fun i j p q h => by simp at h, fun k q h => by simp at h⟩
  obtain ⟨hP, hD⟩ := va_join (wr := [(h0, .inr (10, fx))]) (w1 := []) hP hD [1, 2] [0] rfl rfl (by decide) (by decide) hk9 hFc hP1 hD1
  generalize H1 = H at hP hS ⊢
  have hP : va_P (dC, dI) cl0 [(h0, .inr (10, fx))] H := hP
  have hD : va_D A [(h0, .inr (10, fx))] := hD
  have hw9 : r_1 = 1 := hw9
  subst hw9
  refine W.widen (k := 0) (n := 0) (Nat.le_of_ble_eq_true rfl) (Nat.le_of_ble_eq_true rfl) ?_
  exact W.iret (v := 1) hx hb hr (fun t9 ht9 hW9 => ⟨⟨_, (), rfl, rfl, trivial⟩, hS.F ht9⟩) hS.2.2 dX12_argument_8
set_option maxHeartbeats 400000 in
set_option maxRecDepth 100000 in
theorem m_X12_run (l : Launch) (dC : Nat → ClassId) (dI : Nat → Nat → Nat) (sz : Nat) (h0 : Nat) (fx : List Value) (hm : Nat) (fm : List Value) (m0 : Int32) (u0 : Int32) (L_fx : fx.length = 18) (g_fx_7 : fx[7]? = some (.ref hm)) (L_fm : fm.length = 20) (g_fm_0 : fm[0]? = some (.null)) : Met l yX12_run (wt yX12_run cX12_run 4 (some .int)) ({ frames := 1, cells := 0, slots := 0, locals := 24 }) (va_Pc [.ref h0, .int m0, .int u0] (st_U dC dI sz [(h0, .inr (10, fx)), (hm, .inr (5, fm))] [])) (va_Qi (fun (r : Int32) (_ : Unit) => r = (-1)) (fun (_ : Unit) (_ : State) => True) (va_A [(h0, .inr (10, fx)), (hm, .inr (5, fm))] sz)) 0 0 (va_A [(h0, .inr (10, fx)), (hm, .inr (5, fm))] sz) := by
  refine Met.ofW (cc := cX12_run) (maxL := 4) (ret := (some .int)) (by decide) rfl ?_
  intro p e s m args below meth c s₁ B hml hv
  obtain ⟨rfl, hsz, hP, hK, hD0, hex⟩ := hv
  have hx := B.exec
  have hb := B.bytes
  have hr := B.returns
  have hts0 := atoms_spec (ws := wt yX12_run cX12_run 4 (some .int)) B.pre
  have hts : ∀ w ∈ tb, w.before _ s = true := fun w h => hts0 w (List.mem_cons_of_mem _ h)
  have hown : s.vm.findClass RX12 = some m.cls := findClass_of_methodNamed B.named
  have hlocks := B.notSynchronized
  subst hsz
  have hD := hD0.self (sz := s.heap.size)
  generalize hAe : va_A [(h0, .inr (10, fx)), (hm, .inr (5, fm))] s.heap.size = A at hD ⊢
  have hA : ∀ q : Nat, s.heap.size ≤ q → A q := fun q h => by rw [← hAe]; exact Or.inr h
  have hS : va_S A s.heap s.heap [] := va_S.rf
  have hl := lv_entry ([.ref h0, .int m0, .int u0]) (n := 4) (Nat.le_of_ble_eq_true rfl)
  rw [lg_entry_eq]
  generalize (lg_sl ([.ref h0, .int m0, .int u0]) ++ List.replicate (4 - (lg_sl ([.ref h0, .int m0, .int u0])).length) Slot.unset).toArray = ls at hl ⊢
  have hl : lv_has ls 4 [(0, .ref h0), (1, .int m0), (2, .int u0)] := hl
  refine lv_aload_n hx hb dX12_run_0 rfl (lv_at hl 0 rfl) ?_
  refine va_get (D := (dC, dI)) (ci := 10) (v := .ref hm) (C := RX12) (T := TX12) (N := 18) hx hb hts inX12 hown hK hP 0 rfl rfl 7 (by decide) (hts _ kw_131) (fun _ h9 => h9) g_fx_7 dX12_run_1 ?_
  refine lv_iload_n hx hb dX12_run_4 rfl (lv_at hl 1 rfl) ?_
  refine lv_iload_n hx hb dX12_run_5 rfl (lv_at hl 2 rfl) ?_
  have hPc := hP.sub (ws' := [(hm, .inr (5, fm))]) [1] rfl
  have hDc := hD.sub (ws' := [(hm, .inr (5, fm))]) [1] (by decide) rfl
  have hKc := hK.sub (tys' := []) [] rfl
  have hFc := va_free (wc := [(hm, .inr (5, fm))]) hD hS hA [1] rfl
  refine va_calli (va_runV (As := [.int m0, .int u0]) (rest := []) ⟨hx, hb, hml, hown, hts⟩ (m_X5_refusal l dC dI s.heap.size hm fm m0 u0 L_fm g_fm_0) (cwV 2 hts (gd_V kw_194 kw_195 kw_196 kw_128 kw_197) rfl rfl rfl (by decide +kernel) ⟨Nat.le_of_ble_eq_true rfl, Nat.le_of_ble_eq_true rfl⟩) ⟨st_blind, va_recv hKc hPc (ci := 5) (q0 := 0) rfl rfl, fun U hU hW9 => st_mk hU hW9 hPc hKc hDc hex⟩ rfl rfl hl.1 rfl (lv_room (Nat.le_of_ble_eq_true rfl)) dX12_run_6 ⟨Nat.le_of_ble_eq_true rfl, Nat.le_of_ble_eq_true rfl⟩) hS (fun q _ h => hFc q h) hFc (fun r_1 u9 t9 H1 locs ht9 hvm9 hw9 hB9 hz9 hk9 hS => ?_)
  obtain ⟨fm1_2, L_fm1_2, hP1, hK1, hD1⟩ := hB9
  rw [ht9] at hP1
  have hK1 := va_K.moved hvm9.symm hK1
  obtain ⟨hP, hD⟩ := va_join (wr := [(h0, .inr (10, fx))]) (w1 := [(hm, .inr (5, fm1_2))]) hP hD [1] [0] rfl rfl (by decide) (by decide) hk9 hFc hP1 hD1
  have hK := (hK.sub (tys' := []) [] rfl).app hK1
  generalize H1 = H at hP hS ⊢
  have hP : va_P (dC, dI) cl0 [(h0, .inr (10, fx)), (hm, .inr (5, fm1_2))] H := hP
  have hD : va_D A [(h0, .inr (10, fx)), (hm, .inr (5, fm1_2))] := hD
  have hK : va_K (dC, dI) cl0 [] s := hK
  have hw9 : r_1 = (-1) := hw9
  subst hw9
  refine lv_istore_n (lv' := [(3, .int (-1)), (0, .ref h0), (1, .int m0), (2, .int u0)]) hx hb dX12_run_9 rfl hl (by decide) rfl (fun ls hl => ?_)
  refine lv_iload_n hx hb dX12_run_10 rfl (lv_at hl 0 rfl) ?_
  refine lv_if_ne (tgt := 24) hx hb dX12_run_11 (by decide) (fun _ => ?_) (fun c9 => absurd c9 (by decide))
  refine lv_aload_n hx hb dX12_run_24 rfl (lv_at hl 1 rfl) ?_
  refine va_get (D := (dC, dI)) (ci := 10) (v := .ref hm) (C := RX12) (T := TX12) (N := 18) hx hb hts inX12 hown hK hP 0 rfl rfl 7 (by decide) (hts _ kw_131) (fun _ h9 => h9) g_fx_7 dX12_run_25 ?_
  refine lv_iconst (v := 0) hx hb dX12_run_28 (by decide) ?_
  refine va_put (D := (dC, dI)) (ci := 5) (v := .int 0) (ty := .int) (C := RX5) (T := TX5) (N := 20) hx hb hts inX5 tyX5 tyX5_ok nmX5 hown hK hP hD hS 1 rfl rfl 7 (by decide) (hts _ kw_198) (fun _ h9 => h9) rfl (by decide +kernel) rfl rfl (by rw [L_fm1_2]; decide) dX12_run_29 (fun H locs hP hD hS => ?_)
  obtain ⟨fm1_3, e_fm1_3⟩ : ∃ z, z = fm1_2.set 7 (.int 0) := ⟨_, rfl⟩
  have hP : va_P (dC, dI) cl0 [(h0, .inr (10, fx)), (hm, .inr (5, fm1_3))] H := by rw [e_fm1_3]; exact hP
  have hD : va_D A [(h0, .inr (10, fx)), (hm, .inr (5, fm1_3))] := by rw [e_fm1_3]; exact hD
  have L_fm1_3 : fm1_3.length = 20 := fx_len e_fm1_3 L_fm1_2
  have g_fm1_3_7 := fx_self e_fm1_3 (by rw [L_fm1_2]; decide)
  refine lv_iload_n hx hb dX12_run_32 rfl (lv_at hl 0 rfl) ?_
  refine W.widen (k := 0) (n := 0) (Nat.le_of_ble_eq_true rfl) (Nat.le_of_ble_eq_true rfl) ?_
  exact W.iret (v := (-1)) hx hb hr (fun t9 ht9 hW9 => ⟨⟨_, (), rfl, rfl, trivial⟩, hS.F ht9⟩) hS.2.2 dX12_run_33
set_option maxHeartbeats 400000 in
set_option maxRecDepth 100000 in
theorem m_X12_result (l : Launch) (dC : Nat → ClassId) (dI : Nat → Nat → Nat) (sz : Nat) (h0 : Nat) (fx : List Value) (hm : Nat) (fm : List Value) (L_fx : fx.length = 18) (g_fx_7 : fx[7]? = some (.ref hm)) (L_fm : fm.length = 20) (g_fm_16 : fm[16]? = some (.long 0)) : Met l yX12_result (wt yX12_result cX12_result 1 (some .long)) ({ frames := 0, cells := 0, slots := 0, locals := 0 }) (va_Pc [.ref h0] (st_U dC dI sz [(h0, .inr (10, fx)), (hm, .inr (5, fm))] [])) (va_Ql (fun (r : Int64) (_ : Unit) => r = 0) (fun (_ : Unit) (_ : State) => True) (va_A [(h0, .inr (10, fx)), (hm, .inr (5, fm))] sz)) 0 0 (va_A [(h0, .inr (10, fx)), (hm, .inr (5, fm))] sz) := by
  refine Met.ofW (cc := cX12_result) (maxL := 1) (ret := (some .long)) (by decide) rfl ?_
  intro p e s m args below meth c s₁ B hml hv
  obtain ⟨rfl, hsz, hP, hK, hD0, hex⟩ := hv
  have hx := B.exec
  have hb := B.bytes
  have hr := B.returns
  have hts0 := atoms_spec (ws := wt yX12_result cX12_result 1 (some .long)) B.pre
  have hts : ∀ w ∈ tb, w.before _ s = true := fun w h => hts0 w (List.mem_cons_of_mem _ h)
  have hown : s.vm.findClass RX12 = some m.cls := findClass_of_methodNamed B.named
  have hlocks := B.notSynchronized
  subst hsz
  have hD := hD0.self (sz := s.heap.size)
  generalize hAe : va_A [(h0, .inr (10, fx)), (hm, .inr (5, fm))] s.heap.size = A at hD ⊢
  have hA : ∀ q : Nat, s.heap.size ≤ q → A q := fun q h => by rw [← hAe]; exact Or.inr h
  have hS : va_S A s.heap s.heap [] := va_S.rf
  have hl := lv_entry ([.ref h0]) (n := 1) (Nat.le_of_ble_eq_true rfl)
  rw [lg_entry_eq]
  generalize (lg_sl ([.ref h0]) ++ List.replicate (1 - (lg_sl ([.ref h0])).length) Slot.unset).toArray = ls at hl ⊢
  have hl : lv_has ls 1 [(0, .ref h0)] := hl
  refine lv_aload_n hx hb dX12_result_0 rfl (lv_at hl 0 rfl) ?_
  refine va_get (D := (dC, dI)) (ci := 10) (v := .ref hm) (C := RX12) (T := TX12) (N := 18) hx hb hts inX12 hown hK hP 0 rfl rfl 7 (by decide) (hts _ kw_131) (fun _ h9 => h9) g_fx_7 dX12_result_1 ?_
  refine va_get (D := (dC, dI)) (ci := 5) (v := .long 0) (C := RX5) (T := TX5) (N := 20) hx hb hts inX5 hown hK hP 1 rfl rfl 16 (by decide) (hts _ kw_199) (fun _ h9 => h9) g_fm_16 dX12_result_4 ?_
  refine W.widen (k := 0) (n := 0) (Nat.le_of_ble_eq_true rfl) (Nat.le_of_ble_eq_true rfl) ?_
  exact W.lret (v := 0) hx hb hr (fun t9 ht9 hW9 => ⟨⟨_, (), rfl, rfl, trivial⟩, hS.F ht9⟩) hS.2.2 dX12_result_7
set_option maxHeartbeats 400000 in
set_option maxRecDepth 100000 in
theorem m_X12_error (l : Launch) (dC : Nat → ClassId) (dI : Nat → Nat → Nat) (sz : Nat) (h0 : Nat) (fx : List Value) (hm : Nat) (fm : List Value) (L_fx : fx.length = 18) (g_fx_7 : fx[7]? = some (.ref hm)) (L_fm : fm.length = 20) (g_fm_17 : fm[17]? = some (.int (-1))) : Met l yX12_error (wt yX12_error cX12_error 1 (some .int)) ({ frames := 0, cells := 0, slots := 0, locals := 0 }) (va_Pc [.ref h0] (st_U dC dI sz [(h0, .inr (10, fx)), (hm, .inr (5, fm))] [])) (va_Qi (fun (r : Int32) (_ : Unit) => r = (-1)) (fun (_ : Unit) (_ : State) => True) (va_A [(h0, .inr (10, fx)), (hm, .inr (5, fm))] sz)) 0 0 (va_A [(h0, .inr (10, fx)), (hm, .inr (5, fm))] sz) := by
  refine Met.ofW (cc := cX12_error) (maxL := 1) (ret := (some .int)) (by decide) rfl ?_
  intro p e s m args below meth c s₁ B hml hv
  obtain ⟨rfl, hsz, hP, hK, hD0, hex⟩ := hv
  have hx := B.exec
  have hb := B.bytes
  have hr := B.returns
  have hts0 := atoms_spec (ws := wt yX12_error cX12_error 1 (some .int)) B.pre
  have hts : ∀ w ∈ tb, w.before _ s = true := fun w h => hts0 w (List.mem_cons_of_mem _ h)
  have hown : s.vm.findClass RX12 = some m.cls := findClass_of_methodNamed B.named
  have hlocks := B.notSynchronized
  subst hsz
  have hD := hD0.self (sz := s.heap.size)
  generalize hAe : va_A [(h0, .inr (10, fx)), (hm, .inr (5, fm))] s.heap.size = A at hD ⊢
  have hA : ∀ q : Nat, s.heap.size ≤ q → A q := fun q h => by rw [← hAe]; exact Or.inr h
  have hS : va_S A s.heap s.heap [] := va_S.rf
  have hl := lv_entry ([.ref h0]) (n := 1) (Nat.le_of_ble_eq_true rfl)
  rw [lg_entry_eq]
  generalize (lg_sl ([.ref h0]) ++ List.replicate (1 - (lg_sl ([.ref h0])).length) Slot.unset).toArray = ls at hl ⊢
  have hl : lv_has ls 1 [(0, .ref h0)] := hl
  refine lv_aload_n hx hb dX12_error_0 rfl (lv_at hl 0 rfl) ?_
  refine va_get (D := (dC, dI)) (ci := 10) (v := .ref hm) (C := RX12) (T := TX12) (N := 18) hx hb hts inX12 hown hK hP 0 rfl rfl 7 (by decide) (hts _ kw_131) (fun _ h9 => h9) g_fx_7 dX12_error_1 ?_
  refine va_get (D := (dC, dI)) (ci := 5) (v := .int (-1)) (C := RX5) (T := TX5) (N := 20) hx hb hts inX5 hown hK hP 1 rfl rfl 17 (by decide) (hts _ kw_200) (fun _ h9 => h9) g_fm_17 dX12_error_4 ?_
  refine W.widen (k := 0) (n := 0) (Nat.le_of_ble_eq_true rfl) (Nat.le_of_ble_eq_true rfl) ?_
  exact W.iret (v := (-1)) hx hb hr (fun t9 ht9 hW9 => ⟨⟨_, (), rfl, rfl, trivial⟩, hS.F ht9⟩) hS.2.2 dX12_error_7
set_option maxHeartbeats 400000 in
set_option maxRecDepth 100000 in
theorem m_X12_steps (l : Launch) (dC : Nat → ClassId) (dI : Nat → Nat → Nat) (sz : Nat) (h0 : Nat) (fx : List Value) (hm : Nat) (fm : List Value) (L_fx : fx.length = 18) (g_fx_7 : fx[7]? = some (.ref hm)) (L_fm : fm.length = 20) (g_fm_18 : fm[18]? = some (.int 0)) : Met l yX12_steps (wt yX12_steps cX12_steps 1 (some .int)) ({ frames := 0, cells := 0, slots := 0, locals := 0 }) (va_Pc [.ref h0] (st_U dC dI sz [(h0, .inr (10, fx)), (hm, .inr (5, fm))] [])) (va_Qi (fun (r : Int32) (_ : Unit) => r = 0) (fun (_ : Unit) (_ : State) => True) (va_A [(h0, .inr (10, fx)), (hm, .inr (5, fm))] sz)) 0 0 (va_A [(h0, .inr (10, fx)), (hm, .inr (5, fm))] sz) := by
  refine Met.ofW (cc := cX12_steps) (maxL := 1) (ret := (some .int)) (by decide) rfl ?_
  intro p e s m args below meth c s₁ B hml hv
  obtain ⟨rfl, hsz, hP, hK, hD0, hex⟩ := hv
  have hx := B.exec
  have hb := B.bytes
  have hr := B.returns
  have hts0 := atoms_spec (ws := wt yX12_steps cX12_steps 1 (some .int)) B.pre
  have hts : ∀ w ∈ tb, w.before _ s = true := fun w h => hts0 w (List.mem_cons_of_mem _ h)
  have hown : s.vm.findClass RX12 = some m.cls := findClass_of_methodNamed B.named
  have hlocks := B.notSynchronized
  subst hsz
  have hD := hD0.self (sz := s.heap.size)
  generalize hAe : va_A [(h0, .inr (10, fx)), (hm, .inr (5, fm))] s.heap.size = A at hD ⊢
  have hA : ∀ q : Nat, s.heap.size ≤ q → A q := fun q h => by rw [← hAe]; exact Or.inr h
  have hS : va_S A s.heap s.heap [] := va_S.rf
  have hl := lv_entry ([.ref h0]) (n := 1) (Nat.le_of_ble_eq_true rfl)
  rw [lg_entry_eq]
  generalize (lg_sl ([.ref h0]) ++ List.replicate (1 - (lg_sl ([.ref h0])).length) Slot.unset).toArray = ls at hl ⊢
  have hl : lv_has ls 1 [(0, .ref h0)] := hl
  refine lv_aload_n hx hb dX12_steps_0 rfl (lv_at hl 0 rfl) ?_
  refine va_get (D := (dC, dI)) (ci := 10) (v := .ref hm) (C := RX12) (T := TX12) (N := 18) hx hb hts inX12 hown hK hP 0 rfl rfl 7 (by decide) (hts _ kw_131) (fun _ h9 => h9) g_fx_7 dX12_steps_1 ?_
  refine va_get (D := (dC, dI)) (ci := 5) (v := .int 0) (C := RX5) (T := TX5) (N := 20) hx hb hts inX5 hown hK hP 1 rfl rfl 18 (by decide) (hts _ kw_201) (fun _ h9 => h9) g_fm_18 dX12_steps_4 ?_
  refine W.widen (k := 0) (n := 0) (Nat.le_of_ble_eq_true rfl) (Nat.le_of_ble_eq_true rfl) ?_
  exact W.iret (v := 0) hx hb hr (fun t9 ht9 hW9 => ⟨⟨_, (), rfl, rfl, trivial⟩, hS.F ht9⟩) hS.2.2 dX12_steps_7
set_option maxHeartbeats 400000 in
set_option maxRecDepth 100000 in
theorem m_X12_strays (l : Launch) (dC : Nat → ClassId) (dI : Nat → Nat → Nat) (sz : Nat) (h0 : Nat) (fx : List Value) (hm : Nat) (fm : List Value) (L_fx : fx.length = 18) (g_fx_7 : fx[7]? = some (.ref hm)) (L_fm : fm.length = 20) (g_fm_19 : fm[19]? = some (.int 0)) : Met l yX12_strays (wt yX12_strays cX12_strays 1 (some .int)) ({ frames := 0, cells := 0, slots := 0, locals := 0 }) (va_Pc [.ref h0] (st_U dC dI sz [(h0, .inr (10, fx)), (hm, .inr (5, fm))] [])) (va_Qi (fun (r : Int32) (_ : Unit) => r = 0) (fun (_ : Unit) (_ : State) => True) (va_A [(h0, .inr (10, fx)), (hm, .inr (5, fm))] sz)) 0 0 (va_A [(h0, .inr (10, fx)), (hm, .inr (5, fm))] sz) := by
  refine Met.ofW (cc := cX12_strays) (maxL := 1) (ret := (some .int)) (by decide) rfl ?_
  intro p e s m args below meth c s₁ B hml hv
  obtain ⟨rfl, hsz, hP, hK, hD0, hex⟩ := hv
  have hx := B.exec
  have hb := B.bytes
  have hr := B.returns
  have hts0 := atoms_spec (ws := wt yX12_strays cX12_strays 1 (some .int)) B.pre
  have hts : ∀ w ∈ tb, w.before _ s = true := fun w h => hts0 w (List.mem_cons_of_mem _ h)
  have hown : s.vm.findClass RX12 = some m.cls := findClass_of_methodNamed B.named
  have hlocks := B.notSynchronized
  subst hsz
  have hD := hD0.self (sz := s.heap.size)
  generalize hAe : va_A [(h0, .inr (10, fx)), (hm, .inr (5, fm))] s.heap.size = A at hD ⊢
  have hA : ∀ q : Nat, s.heap.size ≤ q → A q := fun q h => by rw [← hAe]; exact Or.inr h
  have hS : va_S A s.heap s.heap [] := va_S.rf
  have hl := lv_entry ([.ref h0]) (n := 1) (Nat.le_of_ble_eq_true rfl)
  rw [lg_entry_eq]
  generalize (lg_sl ([.ref h0]) ++ List.replicate (1 - (lg_sl ([.ref h0])).length) Slot.unset).toArray = ls at hl ⊢
  have hl : lv_has ls 1 [(0, .ref h0)] := hl
  refine lv_aload_n hx hb dX12_strays_0 rfl (lv_at hl 0 rfl) ?_
  refine va_get (D := (dC, dI)) (ci := 10) (v := .ref hm) (C := RX12) (T := TX12) (N := 18) hx hb hts inX12 hown hK hP 0 rfl rfl 7 (by decide) (hts _ kw_131) (fun _ h9 => h9) g_fx_7 dX12_strays_1 ?_
  refine va_get (D := (dC, dI)) (ci := 5) (v := .int 0) (C := RX5) (T := TX5) (N := 20) hx hb hts inX5 hown hK hP 1 rfl rfl 19 (by decide) (hts _ kw_202) (fun _ h9 => h9) g_fm_19 dX12_strays_4 ?_
  refine W.widen (k := 0) (n := 0) (Nat.le_of_ble_eq_true rfl) (Nat.le_of_ble_eq_true rfl) ?_
  exact W.iret (v := 0) hx hb hr (fun t9 ht9 hW9 => ⟨⟨_, (), rfl, rfl, trivial⟩, hS.F ht9⟩) hS.2.2 dX12_strays_7
set_option maxHeartbeats 400000 in
set_option maxRecDepth 100000 in
theorem m_X12_field (l : Launch) (dC : Nat → ClassId) (dI : Nat → Nat → Nat) (sz : Nat) (h0 : Nat) (fx : List Value) (hm : Nat) (fm : List Value) (k0 : Int32) (L_fx : fx.length = 18) (g_fx_7 : fx[7]? = some (.ref hm)) (L_fm : fm.length = 20) (g_fm_0 : fm[0]? = some (.null)) : Met l yX12_field (wt yX12_field cX12_field 2 (some .long)) ({ frames := 1, cells := 0, slots := 0, locals := 21 }) (va_Pc [.ref h0, .int k0] (st_U dC dI sz [(h0, .inr (10, fx)), (hm, .inr (5, fm))] [])) (va_Ql (fun (r : Int64) (_ : Unit) => r = 0) (fun (_ : Unit) (_ : State) => True) (va_A [(h0, .inr (10, fx)), (hm, .inr (5, fm))] sz)) 0 0 (va_A [(h0, .inr (10, fx)), (hm, .inr (5, fm))] sz) := by
  refine Met.ofW (cc := cX12_field) (maxL := 2) (ret := (some .long)) (by decide) rfl ?_
  intro p e s m args below meth c s₁ B hml hv
  obtain ⟨rfl, hsz, hP, hK, hD0, hex⟩ := hv
  have hx := B.exec
  have hb := B.bytes
  have hr := B.returns
  have hts0 := atoms_spec (ws := wt yX12_field cX12_field 2 (some .long)) B.pre
  have hts : ∀ w ∈ tb, w.before _ s = true := fun w h => hts0 w (List.mem_cons_of_mem _ h)
  have hown : s.vm.findClass RX12 = some m.cls := findClass_of_methodNamed B.named
  have hlocks := B.notSynchronized
  subst hsz
  have hD := hD0.self (sz := s.heap.size)
  generalize hAe : va_A [(h0, .inr (10, fx)), (hm, .inr (5, fm))] s.heap.size = A at hD ⊢
  have hA : ∀ q : Nat, s.heap.size ≤ q → A q := fun q h => by rw [← hAe]; exact Or.inr h
  have hS : va_S A s.heap s.heap [] := va_S.rf
  have hl := lv_entry ([.ref h0, .int k0]) (n := 2) (Nat.le_of_ble_eq_true rfl)
  rw [lg_entry_eq]
  generalize (lg_sl ([.ref h0, .int k0]) ++ List.replicate (2 - (lg_sl ([.ref h0, .int k0])).length) Slot.unset).toArray = ls at hl ⊢
  have hl : lv_has ls 2 [(0, .ref h0), (1, .int k0)] := hl
  refine lv_aload_n hx hb dX12_field_0 rfl (lv_at hl 0 rfl) ?_
  refine va_get (D := (dC, dI)) (ci := 10) (v := .ref hm) (C := RX12) (T := TX12) (N := 18) hx hb hts inX12 hown hK hP 0 rfl rfl 7 (by decide) (hts _ kw_131) (fun _ h9 => h9) g_fx_7 dX12_field_1 ?_
  refine lv_iload_n hx hb dX12_field_4 rfl (lv_at hl 1 rfl) ?_
  have hPc := hP.sub (ws' := [(hm, .inr (5, fm))]) [1] rfl
  have hDc := hD.sub (ws' := [(hm, .inr (5, fm))]) [1] (by decide) rfl
  have hKc := hK.sub (tys' := []) [] rfl
  have hFc := va_free (wc := [(hm, .inr (5, fm))]) hD hS hA [1] rfl
  refine va_calll (va_runV (As := [.int k0]) (rest := []) ⟨hx, hb, hml, hown, hts⟩ (m_X5_fieldAt l dC dI s.heap.size hm fm k0 L_fm g_fm_0) (cwV 1 hts (gd_V kw_203 kw_204 kw_205 kw_128 kw_206) rfl rfl rfl (by decide +kernel) ⟨Nat.le_of_ble_eq_true rfl, Nat.le_of_ble_eq_true rfl⟩) ⟨st_blind, va_recv hKc hPc (ci := 5) (q0 := 0) rfl rfl, fun U hU hW9 => st_mk hU hW9 hPc hKc hDc hex⟩ rfl rfl hl.1 rfl (lv_room (Nat.le_of_ble_eq_true rfl)) dX12_field_5 ⟨Nat.le_of_ble_eq_true rfl, Nat.le_of_ble_eq_true rfl⟩) hS (fun q _ h => hFc q h) hFc (fun r_1 u9 t9 H1 locs ht9 hvm9 hw9 hB9 hz9 hk9 hS => ?_)
  have hP1 : va_P (dC, dI) cl0 [] H1 := fun k q h => by simp at h
  have hD1 : va_D (va_A [(hm, .inr (5, fm))] s.heap.size) [] := ⟨fun i j p q h => by simp at h, fun k q h => by simp at h⟩
  obtain ⟨hP, hD⟩ := va_join (wr := [(h0, .inr (10, fx))]) (w1 := []) hP hD [1] [0] rfl rfl (by decide) (by decide) hk9 hFc hP1 hD1
  generalize H1 = H at hP hS ⊢
  have hP : va_P (dC, dI) cl0 [(h0, .inr (10, fx))] H := hP
  have hD : va_D A [(h0, .inr (10, fx))] := hD
  have hw9 : r_1 = 0 := hw9
  subst hw9
  refine W.widen (k := 0) (n := 0) (Nat.le_of_ble_eq_true rfl) (Nat.le_of_ble_eq_true rfl) ?_
  exact W.lret (v := 0) hx hb hr (fun t9 ht9 hW9 => ⟨⟨_, (), rfl, rfl, trivial⟩, hS.F ht9⟩) hS.2.2 dX12_field_8
set_option maxHeartbeats 400000 in
set_option maxRecDepth 100000 in
theorem m_X12_element (l : Launch) (dC : Nat → ClassId) (dI : Nat → Nat → Nat) (sz : Nat) (h0 : Nat) (fx : List Value) (hm : Nat) (fm : List Value) (a0 : Int32) (i0 : Int32) (L_fx : fx.length = 18) (g_fx_7 : fx[7]? = some (.ref hm)) (L_fm : fm.length = 20) (g_fm_5 : fm[5]? = some (.int 0)) : Met l yX12_element (wt yX12_element cX12_element 3 (some .int)) ({ frames := 3, cells := 0, slots := 0, locals := 65 }) (va_Pc [.ref h0, .int a0, .int i0] (st_U dC dI sz [(h0, .inr (10, fx)), (hm, .inr (5, fm))] [])) (va_Qi (fun (r : Int32) (_ : Unit) => r = 0) (fun (_ : Unit) (_ : State) => True) (va_A [(h0, .inr (10, fx)), (hm, .inr (5, fm))] sz)) 0 0 (va_A [(h0, .inr (10, fx)), (hm, .inr (5, fm))] sz) := by
  refine Met.ofW (cc := cX12_element) (maxL := 3) (ret := (some .int)) (by decide) rfl ?_
  intro p e s m args below meth c s₁ B hml hv
  obtain ⟨rfl, hsz, hP, hK, hD0, hex⟩ := hv
  have hx := B.exec
  have hb := B.bytes
  have hr := B.returns
  have hts0 := atoms_spec (ws := wt yX12_element cX12_element 3 (some .int)) B.pre
  have hts : ∀ w ∈ tb, w.before _ s = true := fun w h => hts0 w (List.mem_cons_of_mem _ h)
  have hown : s.vm.findClass RX12 = some m.cls := findClass_of_methodNamed B.named
  have hlocks := B.notSynchronized
  subst hsz
  have hD := hD0.self (sz := s.heap.size)
  generalize hAe : va_A [(h0, .inr (10, fx)), (hm, .inr (5, fm))] s.heap.size = A at hD ⊢
  have hA : ∀ q : Nat, s.heap.size ≤ q → A q := fun q h => by rw [← hAe]; exact Or.inr h
  have hS : va_S A s.heap s.heap [] := va_S.rf
  have hl := lv_entry ([.ref h0, .int a0, .int i0]) (n := 3) (Nat.le_of_ble_eq_true rfl)
  rw [lg_entry_eq]
  generalize (lg_sl ([.ref h0, .int a0, .int i0]) ++ List.replicate (3 - (lg_sl ([.ref h0, .int a0, .int i0])).length) Slot.unset).toArray = ls at hl ⊢
  have hl : lv_has ls 3 [(0, .ref h0), (1, .int a0), (2, .int i0)] := hl
  refine lv_aload_n hx hb dX12_element_0 rfl (lv_at hl 0 rfl) ?_
  refine va_get (D := (dC, dI)) (ci := 10) (v := .ref hm) (C := RX12) (T := TX12) (N := 18) hx hb hts inX12 hown hK hP 0 rfl rfl 7 (by decide) (hts _ kw_131) (fun _ h9 => h9) g_fx_7 dX12_element_1 ?_
  refine lv_iload_n hx hb dX12_element_4 rfl (lv_at hl 1 rfl) ?_
  refine lv_iload_n hx hb dX12_element_5 rfl (lv_at hl 2 rfl) ?_
  have hPc := hP.sub (ws' := [(hm, .inr (5, fm))]) [1] rfl
  have hDc := hD.sub (ws' := [(hm, .inr (5, fm))]) [1] (by decide) rfl
  have hKc := hK.sub (tys' := []) [] rfl
  have hFc := va_free (wc := [(hm, .inr (5, fm))]) hD hS hA [1] rfl
  refine va_calli (va_runV (As := [.int a0, .int i0]) (rest := []) ⟨hx, hb, hml, hown, hts⟩ (m_X5_elementAt l dC dI s.heap.size hm fm a0 i0 L_fm g_fm_5) (cwV 2 hts (gd_V kw_207 kw_208 kw_209 kw_128 kw_210) rfl rfl rfl (by decide +kernel) ⟨Nat.le_of_ble_eq_true rfl, Nat.le_of_ble_eq_true rfl⟩) ⟨st_blind, va_recv hKc hPc (ci := 5) (q0 := 0) rfl rfl, fun U hU hW9 => st_mk hU hW9 hPc hKc hDc hex⟩ rfl rfl hl.1 rfl (lv_room (Nat.le_of_ble_eq_true rfl)) dX12_element_6 ⟨Nat.le_of_ble_eq_true rfl, Nat.le_of_ble_eq_true rfl⟩) hS (fun q _ h => hFc q h) hFc (fun r_1 u9 t9 H1 locs ht9 hvm9 hw9 hB9 hz9 hk9 hS => ?_)
  have hP1 : va_P (dC, dI) cl0 [] H1 := fun k q h => by simp at h
  have hD1 : va_D (va_A [(hm, .inr (5, fm))] s.heap.size) [] := ⟨fun i j p q h => by simp at h, fun k q h => by simp at h⟩
  obtain ⟨hP, hD⟩ := va_join (wr := [(h0, .inr (10, fx))]) (w1 := []) hP hD [1] [0] rfl rfl (by decide) (by decide) hk9 hFc hP1 hD1
  generalize H1 = H at hP hS ⊢
  have hP : va_P (dC, dI) cl0 [(h0, .inr (10, fx))] H := hP
  have hD : va_D A [(h0, .inr (10, fx))] := hD
  have hw9 : r_1 = 0 := hw9
  subst hw9
  refine W.widen (k := 0) (n := 0) (Nat.le_of_ble_eq_true rfl) (Nat.le_of_ble_eq_true rfl) ?_
  exact W.iret (v := 0) hx hb hr (fun t9 ht9 hW9 => ⟨⟨_, (), rfl, rfl, trivial⟩, hS.F ht9⟩) hS.2.2 dX12_element_9
set_option maxHeartbeats 400000 in
set_option maxRecDepth 100000 in
theorem m_X12_arrayLength (l : Launch) (dC : Nat → ClassId) (dI : Nat → Nat → Nat) (sz : Nat) (h0 : Nat) (fx : List Value) (hm : Nat) (fm : List Value) (a0 : Int32) (L_fx : fx.length = 18) (g_fx_7 : fx[7]? = some (.ref hm)) (L_fm : fm.length = 20) (g_fm_5 : fm[5]? = some (.int 0)) : Met l yX12_arrayLength (wt yX12_arrayLength cX12_arrayLength 2 (some .int)) ({ frames := 2, cells := 0, slots := 0, locals := 43 }) (va_Pc [.ref h0, .int a0] (st_U dC dI sz [(h0, .inr (10, fx)), (hm, .inr (5, fm))] [])) (va_Qi (fun (r : Int32) (_ : Unit) => r = (-1)) (fun (_ : Unit) (_ : State) => True) (va_A [(h0, .inr (10, fx)), (hm, .inr (5, fm))] sz)) 0 0 (va_A [(h0, .inr (10, fx)), (hm, .inr (5, fm))] sz) := by
  refine Met.ofW (cc := cX12_arrayLength) (maxL := 2) (ret := (some .int)) (by decide) rfl ?_
  intro p e s m args below meth c s₁ B hml hv
  obtain ⟨rfl, hsz, hP, hK, hD0, hex⟩ := hv
  have hx := B.exec
  have hb := B.bytes
  have hr := B.returns
  have hts0 := atoms_spec (ws := wt yX12_arrayLength cX12_arrayLength 2 (some .int)) B.pre
  have hts : ∀ w ∈ tb, w.before _ s = true := fun w h => hts0 w (List.mem_cons_of_mem _ h)
  have hown : s.vm.findClass RX12 = some m.cls := findClass_of_methodNamed B.named
  have hlocks := B.notSynchronized
  subst hsz
  have hD := hD0.self (sz := s.heap.size)
  generalize hAe : va_A [(h0, .inr (10, fx)), (hm, .inr (5, fm))] s.heap.size = A at hD ⊢
  have hA : ∀ q : Nat, s.heap.size ≤ q → A q := fun q h => by rw [← hAe]; exact Or.inr h
  have hS : va_S A s.heap s.heap [] := va_S.rf
  have hl := lv_entry ([.ref h0, .int a0]) (n := 2) (Nat.le_of_ble_eq_true rfl)
  rw [lg_entry_eq]
  generalize (lg_sl ([.ref h0, .int a0]) ++ List.replicate (2 - (lg_sl ([.ref h0, .int a0])).length) Slot.unset).toArray = ls at hl ⊢
  have hl : lv_has ls 2 [(0, .ref h0), (1, .int a0)] := hl
  refine lv_aload_n hx hb dX12_arrayLength_0 rfl (lv_at hl 0 rfl) ?_
  refine va_get (D := (dC, dI)) (ci := 10) (v := .ref hm) (C := RX12) (T := TX12) (N := 18) hx hb hts inX12 hown hK hP 0 rfl rfl 7 (by decide) (hts _ kw_131) (fun _ h9 => h9) g_fx_7 dX12_arrayLength_1 ?_
  refine lv_iload_n hx hb dX12_arrayLength_4 rfl (lv_at hl 1 rfl) ?_
  have hPc := hP.sub (ws' := [(hm, .inr (5, fm))]) [1] rfl
  have hDc := hD.sub (ws' := [(hm, .inr (5, fm))]) [1] (by decide) rfl
  have hKc := hK.sub (tys' := []) [] rfl
  have hFc := va_free (wc := [(hm, .inr (5, fm))]) hD hS hA [1] rfl
  refine va_calli (va_runV (As := [.int a0]) (rest := []) ⟨hx, hb, hml, hown, hts⟩ (m_X5_lengthOf l dC dI s.heap.size hm fm a0 L_fm g_fm_5) (cwV 1 hts (gd_V kw_211 kw_187 kw_188 kw_128 kw_189) rfl rfl rfl (by decide +kernel) ⟨Nat.le_of_ble_eq_true rfl, Nat.le_of_ble_eq_true rfl⟩) ⟨st_blind, va_recv hKc hPc (ci := 5) (q0 := 0) rfl rfl, fun U hU hW9 => st_mk hU hW9 hPc hKc hDc hex⟩ rfl rfl hl.1 rfl (lv_room (Nat.le_of_ble_eq_true rfl)) dX12_arrayLength_5 ⟨Nat.le_of_ble_eq_true rfl, Nat.le_of_ble_eq_true rfl⟩) hS (fun q _ h => hFc q h) hFc (fun r_1 u9 t9 H1 locs ht9 hvm9 hw9 hB9 hz9 hk9 hS => ?_)
  have hP1 : va_P (dC, dI) cl0 [] H1 := fun k q h => by simp at h
  have hD1 : va_D (va_A [(hm, .inr (5, fm))] s.heap.size) [] := ⟨fun i j p q h => by simp at h, fun k q h => by simp at h⟩
  obtain ⟨hP, hD⟩ := va_join (wr := [(h0, .inr (10, fx))]) (w1 := []) hP hD [1] [0] rfl rfl (by decide) (by decide) hk9 hFc hP1 hD1
  generalize H1 = H at hP hS ⊢
  have hP : va_P (dC, dI) cl0 [(h0, .inr (10, fx))] H := hP
  have hD : va_D A [(h0, .inr (10, fx))] := hD
  have hw9 : r_1 = (-1) := hw9
  subst hw9
  refine W.widen (k := 0) (n := 0) (Nat.le_of_ble_eq_true rfl) (Nat.le_of_ble_eq_true rfl) ?_
  exact W.iret (v := (-1)) hx hb hr (fun t9 ht9 hW9 => ⟨⟨_, (), rfl, rfl, trivial⟩, hS.F ht9⟩) hS.2.2 dX12_arrayLength_8
set_option maxHeartbeats 400000 in
set_option maxRecDepth 100000 in
theorem m_X12_blocks (l : Launch) (dC : Nat → ClassId) (dI : Nat → Nat → Nat) (sz : Nat) (h0 : Nat) (fx : List Value) (f0 : Int32) (m0 : Int32) (L_fx : fx.length = 18) (g_fx_11 : fx[11]? = some (.int 0)) : Met l yX12_blocks (wt yX12_blocks cX12_blocks 4 (some .int)) ({ frames := 2, cells := 0, slots := 0, locals := 44 }) (va_Pc [.ref h0, .int f0, .int m0] (st_U dC dI sz [(h0, .inr (10, fx))] [])) (va_Qi (fun (r : Int32) (_ : Unit) => r = (-1)) (fun (_ : Unit) (_ : State) => True) (va_A [(h0, .inr (10, fx))] sz)) 0 0 (va_A [(h0, .inr (10, fx))] sz) := by
  refine Met.ofW (cc := cX12_blocks) (maxL := 4) (ret := (some .int)) (by decide) rfl ?_
  intro p e s m args below meth c s₁ B hml hv
  obtain ⟨rfl, hsz, hP, hK, hD0, hex⟩ := hv
  have hx := B.exec
  have hb := B.bytes
  have hr := B.returns
  have hts0 := atoms_spec (ws := wt yX12_blocks cX12_blocks 4 (some .int)) B.pre
  have hts : ∀ w ∈ tb, w.before _ s = true := fun w h => hts0 w (List.mem_cons_of_mem _ h)
  have hown : s.vm.findClass RX12 = some m.cls := findClass_of_methodNamed B.named
  have hlocks := B.notSynchronized
  subst hsz
  have hD := hD0.self (sz := s.heap.size)
  generalize hAe : va_A [(h0, .inr (10, fx))] s.heap.size = A at hD ⊢
  have hA : ∀ q : Nat, s.heap.size ≤ q → A q := fun q h => by rw [← hAe]; exact Or.inr h
  have hS : va_S A s.heap s.heap [] := va_S.rf
  have hl := lv_entry ([.ref h0, .int f0, .int m0]) (n := 4) (Nat.le_of_ble_eq_true rfl)
  rw [lg_entry_eq]
  generalize (lg_sl ([.ref h0, .int f0, .int m0]) ++ List.replicate (4 - (lg_sl ([.ref h0, .int f0, .int m0])).length) Slot.unset).toArray = ls at hl ⊢
  have hl : lv_has ls 4 [(0, .ref h0), (1, .int f0), (2, .int m0)] := hl
  refine lv_aload_n hx hb dX12_blocks_0 rfl (lv_at hl 0 rfl) ?_
  refine lv_iload_n hx hb dX12_blocks_1 rfl (lv_at hl 1 rfl) ?_
  refine lv_iload_n hx hb dX12_blocks_2 rfl (lv_at hl 2 rfl) ?_
  have hPc := hP.sub (ws' := [(h0, .inr (10, fx))]) [0] rfl
  have hDc := hD.sub (ws' := [(h0, .inr (10, fx))]) [0] (by decide) rfl
  have hKc := hK.sub (tys' := []) [] rfl
  have hFc := va_free (wc := [(h0, .inr (10, fx))]) hD hS hA [0] rfl
  refine va_callq (va_runV (As := [.int f0, .int m0]) (rest := []) ⟨hx, hb, hml, hown, hts⟩ (m_X12_rowAt l dC dI s.heap.size h0 fx f0 m0 L_fx g_fx_11) (cwV 2 hts (gd_V kw_171 kw_172 kw_173 kw_169 kw_174) rfl rfl rfl (by decide +kernel) ⟨Nat.le_of_ble_eq_true rfl, Nat.le_of_ble_eq_true rfl⟩) ⟨st_blind, va_recv hKc hPc (ci := 10) (q0 := 0) rfl rfl, fun U hU hW9 => st_mk hU hW9 hPc hKc hDc hex⟩ rfl rfl hl.1 rfl (lv_room (Nat.le_of_ble_eq_true rfl)) dX12_blocks_3 ⟨Nat.le_of_ble_eq_true rfl, Nat.le_of_ble_eq_true rfl⟩) hS (fun q _ h => hFc q h) hFc (fun r_1 u9 t9 H1 locs ht9 hvm9 hw9 hB9 hz9 hk9 hS => ?_)
  have hP1 : va_P (dC, dI) cl0 [] H1 := fun k q h => by simp at h
  have hD1 : va_D (va_A [(h0, .inr (10, fx))] s.heap.size) [] := ⟨fun i j p q h => by simp at h, fun k q h => by simp at h⟩
  obtain ⟨hP, hD⟩ := va_join (wr := []) (w1 := []) hP hD [0] [] rfl rfl (by decide) (by decide) hk9 hFc hP1 hD1
  generalize H1 = H at hP hS ⊢
  have hP : va_P (dC, dI) cl0 [] H := hP
  have hD : va_D A [] := hD
  have hw9 : r_1 = none := hw9
  subst hw9
  refine lv_astore_nN (lv' := [(3, .null), (0, .ref h0), (1, .int f0), (2, .int m0)]) hx hb dX12_blocks_6 rfl hl (by decide) rfl (fun ls hl => ?_)
  refine lv_aload_nN hx hb dX12_blocks_7 rfl (lv_at hl 0 rfl) ?_
  refine lv_ifnonnullN hx hb dX12_blocks_8 ?_
  refine lv_iconst (v := (-1)) hx hb dX12_blocks_11 (by decide) ?_
  refine W.widen (k := 0) (n := 0) (Nat.le_of_ble_eq_true rfl) (Nat.le_of_ble_eq_true rfl) ?_
  exact W.iret (v := (-1)) hx hb hr (fun t9 ht9 hW9 => ⟨⟨_, (), rfl, rfl, trivial⟩, hS.F ht9⟩) hS.2.2 dX12_blocks_12
set_option maxHeartbeats 400000 in
set_option maxRecDepth 100000 in
theorem m_X12_block (l : Launch) (dC : Nat → ClassId) (dI : Nat → Nat → Nat) (sz : Nat) (h0 : Nat) (fx : List Value) (f0 : Int32) (m0 : Int32) (b0 : Int32) (w0 : Int32) (L_fx : fx.length = 18) (g_fx_11 : fx[11]? = some (.int 0)) : Met l yX12_block (wt yX12_block cX12_block 6 (some .int)) ({ frames := 2, cells := 0, slots := 0, locals := 44 }) (va_Pc [.ref h0, .int f0, .int m0, .int b0, .int w0] (st_U dC dI sz [(h0, .inr (10, fx))] [])) (va_Qi (fun (r : Int32) (_ : Unit) => r = (-1)) (fun (_ : Unit) (_ : State) => True) (va_A [(h0, .inr (10, fx))] sz)) 0 0 (va_A [(h0, .inr (10, fx))] sz) := by
  refine Met.ofW (cc := cX12_block) (maxL := 6) (ret := (some .int)) (by decide) rfl ?_
  intro p e s m args below meth c s₁ B hml hv
  obtain ⟨rfl, hsz, hP, hK, hD0, hex⟩ := hv
  have hx := B.exec
  have hb := B.bytes
  have hr := B.returns
  have hts0 := atoms_spec (ws := wt yX12_block cX12_block 6 (some .int)) B.pre
  have hts : ∀ w ∈ tb, w.before _ s = true := fun w h => hts0 w (List.mem_cons_of_mem _ h)
  have hown : s.vm.findClass RX12 = some m.cls := findClass_of_methodNamed B.named
  have hlocks := B.notSynchronized
  subst hsz
  have hD := hD0.self (sz := s.heap.size)
  generalize hAe : va_A [(h0, .inr (10, fx))] s.heap.size = A at hD ⊢
  have hA : ∀ q : Nat, s.heap.size ≤ q → A q := fun q h => by rw [← hAe]; exact Or.inr h
  have hS : va_S A s.heap s.heap [] := va_S.rf
  have hl := lv_entry ([.ref h0, .int f0, .int m0, .int b0, .int w0]) (n := 6) (Nat.le_of_ble_eq_true rfl)
  rw [lg_entry_eq]
  generalize (lg_sl ([.ref h0, .int f0, .int m0, .int b0, .int w0]) ++ List.replicate (6 - (lg_sl ([.ref h0, .int f0, .int m0, .int b0, .int w0])).length) Slot.unset).toArray = ls at hl ⊢
  have hl : lv_has ls 6 [(0, .ref h0), (1, .int f0), (2, .int m0), (3, .int b0), (4, .int w0)] := hl
  refine lv_aload_n hx hb dX12_block_0 rfl (lv_at hl 0 rfl) ?_
  refine lv_iload_n hx hb dX12_block_1 rfl (lv_at hl 1 rfl) ?_
  refine lv_iload_n hx hb dX12_block_2 rfl (lv_at hl 2 rfl) ?_
  have hPc := hP.sub (ws' := [(h0, .inr (10, fx))]) [0] rfl
  have hDc := hD.sub (ws' := [(h0, .inr (10, fx))]) [0] (by decide) rfl
  have hKc := hK.sub (tys' := []) [] rfl
  have hFc := va_free (wc := [(h0, .inr (10, fx))]) hD hS hA [0] rfl
  refine va_callq (va_runV (As := [.int f0, .int m0]) (rest := []) ⟨hx, hb, hml, hown, hts⟩ (m_X12_rowAt l dC dI s.heap.size h0 fx f0 m0 L_fx g_fx_11) (cwV 2 hts (gd_V kw_171 kw_172 kw_173 kw_169 kw_174) rfl rfl rfl (by decide +kernel) ⟨Nat.le_of_ble_eq_true rfl, Nat.le_of_ble_eq_true rfl⟩) ⟨st_blind, va_recv hKc hPc (ci := 10) (q0 := 0) rfl rfl, fun U hU hW9 => st_mk hU hW9 hPc hKc hDc hex⟩ rfl rfl hl.1 rfl (lv_room (Nat.le_of_ble_eq_true rfl)) dX12_block_3 ⟨Nat.le_of_ble_eq_true rfl, Nat.le_of_ble_eq_true rfl⟩) hS (fun q _ h => hFc q h) hFc (fun r_1 u9 t9 H1 locs ht9 hvm9 hw9 hB9 hz9 hk9 hS => ?_)
  have hP1 : va_P (dC, dI) cl0 [] H1 := fun k q h => by simp at h
  have hD1 : va_D (va_A [(h0, .inr (10, fx))] s.heap.size) [] := ⟨fun i j p q h => by simp at h, fun k q h => by simp at h⟩
  obtain ⟨hP, hD⟩ := va_join (wr := []) (w1 := []) hP hD [0] [] rfl rfl (by decide) (by decide) hk9 hFc hP1 hD1
  generalize H1 = H at hP hS ⊢
  have hP : va_P (dC, dI) cl0 [] H := hP
  have hD : va_D A [] := hD
  have hw9 : r_1 = none := hw9
  subst hw9
  refine lv_astoreN (lv' := [(5, .null), (0, .ref h0), (1, .int f0), (2, .int m0), (3, .int b0), (4, .int w0)]) hx hb dX12_block_6 hl (by decide) rfl (fun ls hl => ?_)
  refine lv_aloadN hx hb dX12_block_8 (lv_at hl 0 rfl) ?_
  refine lv_ifnonnullN hx hb dX12_block_10 ?_
  refine lv_iconst (v := (-1)) hx hb dX12_block_13 (by decide) ?_
  refine W.widen (k := 0) (n := 0) (Nat.le_of_ble_eq_true rfl) (Nat.le_of_ble_eq_true rfl) ?_
  exact W.iret (v := (-1)) hx hb hr (fun t9 ht9 hW9 => ⟨⟨_, (), rfl, rfl, trivial⟩, hS.F ht9⟩) hS.2.2 dX12_block_14
set_option maxHeartbeats 400000 in
set_option maxRecDepth 100000 in
theorem m_X12_edge (l : Launch) (dC : Nat → ClassId) (dI : Nat → Nat → Nat) (sz : Nat) (h0 : Nat) (fx : List Value) (f0 : Int32) (m0 : Int32) (a0 : Int32) (b0 : Int32) (L_fx : fx.length = 18) (g_fx_11 : fx[11]? = some (.int 0)) : Met l yX12_edge (wt yX12_edge cX12_edge 6 (some .boolean)) ({ frames := 2, cells := 0, slots := 0, locals := 44 }) (va_Pc [.ref h0, .int f0, .int m0, .int a0, .int b0] (st_U dC dI sz [(h0, .inr (10, fx))] [])) (va_Qi (fun (r : Int32) (_ : Unit) => r = 0) (fun (_ : Unit) (_ : State) => True) (va_A [(h0, .inr (10, fx))] sz)) 0 0 (va_A [(h0, .inr (10, fx))] sz) := by
  refine Met.ofW (cc := cX12_edge) (maxL := 6) (ret := (some .boolean)) (by decide) rfl ?_
  intro p e s m args below meth c s₁ B hml hv
  obtain ⟨rfl, hsz, hP, hK, hD0, hex⟩ := hv
  have hx := B.exec
  have hb := B.bytes
  have hr := B.returns
  have hts0 := atoms_spec (ws := wt yX12_edge cX12_edge 6 (some .boolean)) B.pre
  have hts : ∀ w ∈ tb, w.before _ s = true := fun w h => hts0 w (List.mem_cons_of_mem _ h)
  have hown : s.vm.findClass RX12 = some m.cls := findClass_of_methodNamed B.named
  have hlocks := B.notSynchronized
  subst hsz
  have hD := hD0.self (sz := s.heap.size)
  generalize hAe : va_A [(h0, .inr (10, fx))] s.heap.size = A at hD ⊢
  have hA : ∀ q : Nat, s.heap.size ≤ q → A q := fun q h => by rw [← hAe]; exact Or.inr h
  have hS : va_S A s.heap s.heap [] := va_S.rf
  have hl := lv_entry ([.ref h0, .int f0, .int m0, .int a0, .int b0]) (n := 6) (Nat.le_of_ble_eq_true rfl)
  rw [lg_entry_eq]
  generalize (lg_sl ([.ref h0, .int f0, .int m0, .int a0, .int b0]) ++ List.replicate (6 - (lg_sl ([.ref h0, .int f0, .int m0, .int a0, .int b0])).length) Slot.unset).toArray = ls at hl ⊢
  have hl : lv_has ls 6 [(0, .ref h0), (1, .int f0), (2, .int m0), (3, .int a0), (4, .int b0)] := hl
  refine lv_aload_n hx hb dX12_edge_0 rfl (lv_at hl 0 rfl) ?_
  refine lv_iload_n hx hb dX12_edge_1 rfl (lv_at hl 1 rfl) ?_
  refine lv_iload_n hx hb dX12_edge_2 rfl (lv_at hl 2 rfl) ?_
  have hPc := hP.sub (ws' := [(h0, .inr (10, fx))]) [0] rfl
  have hDc := hD.sub (ws' := [(h0, .inr (10, fx))]) [0] (by decide) rfl
  have hKc := hK.sub (tys' := []) [] rfl
  have hFc := va_free (wc := [(h0, .inr (10, fx))]) hD hS hA [0] rfl
  refine va_callq (va_runV (As := [.int f0, .int m0]) (rest := []) ⟨hx, hb, hml, hown, hts⟩ (m_X12_rowAt l dC dI s.heap.size h0 fx f0 m0 L_fx g_fx_11) (cwV 2 hts (gd_V kw_171 kw_172 kw_173 kw_169 kw_174) rfl rfl rfl (by decide +kernel) ⟨Nat.le_of_ble_eq_true rfl, Nat.le_of_ble_eq_true rfl⟩) ⟨st_blind, va_recv hKc hPc (ci := 10) (q0 := 0) rfl rfl, fun U hU hW9 => st_mk hU hW9 hPc hKc hDc hex⟩ rfl rfl hl.1 rfl (lv_room (Nat.le_of_ble_eq_true rfl)) dX12_edge_3 ⟨Nat.le_of_ble_eq_true rfl, Nat.le_of_ble_eq_true rfl⟩) hS (fun q _ h => hFc q h) hFc (fun r_1 u9 t9 H1 locs ht9 hvm9 hw9 hB9 hz9 hk9 hS => ?_)
  have hP1 : va_P (dC, dI) cl0 [] H1 := fun k q h => by simp at h
  have hD1 : va_D (va_A [(h0, .inr (10, fx))] s.heap.size) [] := ⟨fun i j p q h => by simp at h, fun k q h => by simp at h⟩
  obtain ⟨hP, hD⟩ := va_join (wr := []) (w1 := []) hP hD [0] [] rfl rfl (by decide) (by decide) hk9 hFc hP1 hD1
  generalize H1 = H at hP hS ⊢
  have hP : va_P (dC, dI) cl0 [] H := hP
  have hD : va_D A [] := hD
  have hw9 : r_1 = none := hw9
  subst hw9
  refine lv_astoreN (lv' := [(5, .null), (0, .ref h0), (1, .int f0), (2, .int m0), (3, .int a0), (4, .int b0)]) hx hb dX12_edge_6 hl (by decide) rfl (fun ls hl => ?_)
  refine lv_aloadN hx hb dX12_edge_8 (lv_at hl 0 rfl) ?_
  refine lv_ifnonnullN hx hb dX12_edge_10 ?_
  refine lv_iconst (v := 0) hx hb dX12_edge_13 (by decide) ?_
  refine W.widen (k := 0) (n := 0) (Nat.le_of_ble_eq_true rfl) (Nat.le_of_ble_eq_true rfl) ?_
  exact W.zret (v := 0) hx hb hr rfl (fun t9 ht9 hW9 => ⟨⟨_, (), rfl, rfl, trivial⟩, hS.F ht9⟩) hS.2.2 dX12_edge_14
set_option maxHeartbeats 400000 in
set_option maxRecDepth 100000 in
theorem m_X12_count (l : Launch) (dC : Nat → ClassId) (dI : Nat → Nat → Nat) (sz : Nat) (h0 : Nat) (fx : List Value) (f0 : Int32) (L_fx : fx.length = 18) (g_fx_11 : fx[11]? = some (.int 0)) : Met l yX12_count (wt yX12_count cX12_count 7 (some .int)) ({ frames := 2, cells := 0, slots := 0, locals := 43 }) (va_Pc [.ref h0, .int f0] (st_U dC dI sz [(h0, .inr (10, fx))] [])) (va_Qi (fun (r : Int32) (_ : Unit) => r = (-1)) (fun (_ : Unit) (_ : State) => True) (va_A [(h0, .inr (10, fx))] sz)) 0 0 (va_A [(h0, .inr (10, fx))] sz) := by
  refine Met.ofW (cc := cX12_count) (maxL := 7) (ret := (some .int)) (by decide) rfl ?_
  intro p e s m args below meth c s₁ B hml hv
  obtain ⟨rfl, hsz, hP, hK, hD0, hex⟩ := hv
  have hx := B.exec
  have hb := B.bytes
  have hr := B.returns
  have hts0 := atoms_spec (ws := wt yX12_count cX12_count 7 (some .int)) B.pre
  have hts : ∀ w ∈ tb, w.before _ s = true := fun w h => hts0 w (List.mem_cons_of_mem _ h)
  have hown : s.vm.findClass RX12 = some m.cls := findClass_of_methodNamed B.named
  have hlocks := B.notSynchronized
  subst hsz
  have hD := hD0.self (sz := s.heap.size)
  generalize hAe : va_A [(h0, .inr (10, fx))] s.heap.size = A at hD ⊢
  have hA : ∀ q : Nat, s.heap.size ≤ q → A q := fun q h => by rw [← hAe]; exact Or.inr h
  have hS : va_S A s.heap s.heap [] := va_S.rf
  have hl := lv_entry ([.ref h0, .int f0]) (n := 7) (Nat.le_of_ble_eq_true rfl)
  rw [lg_entry_eq]
  generalize (lg_sl ([.ref h0, .int f0]) ++ List.replicate (7 - (lg_sl ([.ref h0, .int f0])).length) Slot.unset).toArray = ls at hl ⊢
  have hl : lv_has ls 7 [(0, .ref h0), (1, .int f0)] := hl
  refine lv_aload_n hx hb dX12_count_0 rfl (lv_at hl 0 rfl) ?_
  refine lv_iload_n hx hb dX12_count_1 rfl (lv_at hl 1 rfl) ?_
  have hPc := hP.sub (ws' := [(h0, .inr (10, fx))]) [0] rfl
  have hDc := hD.sub (ws' := [(h0, .inr (10, fx))]) [0] (by decide) rfl
  have hKc := hK.sub (tys' := []) [] rfl
  have hFc := va_free (wc := [(h0, .inr (10, fx))]) hD hS hA [0] rfl
  refine va_callq (va_runV (As := [.int f0]) (rest := []) ⟨hx, hb, hml, hown, hts⟩ (m_X12_soundUnitAt l dC dI s.heap.size h0 fx f0 L_fx g_fx_11) (cwV 1 hts (gd_V kw_175 kw_176 kw_177 kw_169 kw_178) rfl rfl rfl (by decide +kernel) ⟨Nat.le_of_ble_eq_true rfl, Nat.le_of_ble_eq_true rfl⟩) ⟨st_blind, va_recv hKc hPc (ci := 10) (q0 := 0) rfl rfl, fun U hU hW9 => st_mk hU hW9 hPc hKc hDc hex⟩ rfl rfl hl.1 rfl (lv_room (Nat.le_of_ble_eq_true rfl)) dX12_count_2 ⟨Nat.le_of_ble_eq_true rfl, Nat.le_of_ble_eq_true rfl⟩) hS (fun q _ h => hFc q h) hFc (fun r_1 u9 t9 H1 locs ht9 hvm9 hw9 hB9 hz9 hk9 hS => ?_)
  have hP1 : va_P (dC, dI) cl0 [] H1 := fun k q h => by simp at h
  have hD1 : va_D (va_A [(h0, .inr (10, fx))] s.heap.size) [] := ⟨fun i j p q h => by simp at h, fun k q h => by simp at h⟩
  obtain ⟨hP, hD⟩ := va_join (wr := []) (w1 := []) hP hD [0] [] rfl rfl (by decide) (by decide) hk9 hFc hP1 hD1
  generalize H1 = H at hP hS ⊢
  have hP : va_P (dC, dI) cl0 [] H := hP
  have hD : va_D A [] := hD
  have hw9 : r_1 = none := hw9
  subst hw9
  refine lv_astore_nN (lv' := [(2, .null), (0, .ref h0), (1, .int f0)]) hx hb dX12_count_5 rfl hl (by decide) rfl (fun ls hl => ?_)
  refine lv_aload_nN hx hb dX12_count_6 rfl (lv_at hl 0 rfl) ?_
  refine lv_ifnonnullN hx hb dX12_count_7 ?_
  refine lv_iconst (v := (-1)) hx hb dX12_count_10 (by decide) ?_
  refine W.widen (k := 0) (n := 0) (Nat.le_of_ble_eq_true rfl) (Nat.le_of_ble_eq_true rfl) ?_
  exact W.iret (v := (-1)) hx hb hr (fun t9 ht9 hW9 => ⟨⟨_, (), rfl, rfl, trivial⟩, hS.F ht9⟩) hS.2.2 dX12_count_11
set_option maxHeartbeats 400000 in
set_option maxRecDepth 100000 in
theorem m_J7_fill_53178 (l : Launch) (dC : Nat → ClassId) (dI : Nat → Nat → Nat) (sz : Nat) (h0 : Nat) (cI : ClassId)  : Met l yJ7_fill_53178 (wt yJ7_fill_53178 cJ7_fill_53178 4 none) ({ frames := 0, cells := 0, slots := 0, locals := 0 }) (va_Pc [.ref h0, .int 0] (st_U dC dI sz [(h0, .inl (cI, 12, .inl (fun _ => 0)))] [(cI, .int)])) (va_Qv (fun _ : Unit => True) (fun (_ : Unit) (_ : State) => True) (va_A [(h0, .inl (cI, 12, .inl (fun _ => 0)))] sz)) 0 0 (va_A [(h0, .inl (cI, 12, .inl (fun _ => 0)))] sz) := by
  refine Met.ofW (cc := cJ7_fill_53178) (maxL := 4) (ret := none) (by decide) rfl ?_
  intro p e s m args below meth c s₁ B hml hv
  obtain ⟨rfl, hsz, hP, hK, hD0, hex⟩ := hv
  have hx := B.exec
  have hb := B.bytes
  have hr := B.returns
  have hts0 := atoms_spec (ws := wt yJ7_fill_53178 cJ7_fill_53178 4 none) B.pre
  have hts : ∀ w ∈ tb, w.before _ s = true := fun w h => hts0 w (List.mem_cons_of_mem _ h)
  have hown : s.vm.findClass RJ7 = some m.cls := findClass_of_methodNamed B.named
  have hlocks := B.notSynchronized
  subst hsz
  have hD := hD0.self (sz := s.heap.size)
  generalize hAe : va_A [(h0, .inl (cI, 12, .inl (fun _ => 0)))] s.heap.size = A at hD ⊢
  have hA : ∀ q : Nat, s.heap.size ≤ q → A q := fun q h => by rw [← hAe]; exact Or.inr h
  have hS : va_S A s.heap s.heap [] := va_S.rf
  have hl := lv_entry ([.ref h0, .int 0]) (n := 4) (Nat.le_of_ble_eq_true rfl)
  rw [lg_entry_eq]
  generalize (lg_sl ([.ref h0, .int 0]) ++ List.replicate (4 - (lg_sl ([.ref h0, .int 0])).length) Slot.unset).toArray = ls at hl ⊢
  have hl : lv_has ls 4 [(0, .ref h0), (1, .int 0)] := hl
  refine lv_iconst (v := 0) hx hb dJ7_fill_53178_0 (by decide) ?_
  refine lv_istore_n (lv' := [(2, .int 0), (0, .ref h0), (1, .int 0)]) hx hb dJ7_fill_53178_1 rfl hl (by decide) rfl (fun ls hl => ?_)
  refine lv_aload_n hx hb dJ7_fill_53178_2 rfl (lv_at hl 1 rfl) ?_
  refine va_alen (v := 12) hx hb hK hP 0 0 rfl rfl rfl dJ7_fill_53178_3 ?_
  refine lv_istore_n (lv' := [(3, .int 12), (2, .int 0), (0, .ref h0), (1, .int 0)]) hx hb dJ7_fill_53178_4 rfl hl (by decide) rfl (fun ls hl => ?_)
  refine lv_iload_n hx hb dJ7_fill_53178_5 rfl (lv_at hl 1 rfl) ?_
  refine lv_iload_n hx hb dJ7_fill_53178_6 rfl (lv_at hl 0 rfl) ?_
  refine lv_icmp_ge (tgt := 20) hx hb dJ7_fill_53178_7 (by decide) (fun c9 => absurd c9 (by decide)) (fun _ => ?_)
  refine lv_aload_n hx hb dJ7_fill_53178_10 rfl (lv_at hl 2 rfl) ?_
  refine lv_iload_n hx hb dJ7_fill_53178_11 rfl (lv_at hl 1 rfl) ?_
  refine lv_iload_n hx hb dJ7_fill_53178_12 rfl (lv_at hl 3 rfl) ?_
  refine va_iast hx hb hK hP hD hS 0 0 rfl rfl (vi rfl) dJ7_fill_53178_13 (fun H locs hP hD hS => ?_)
  obtain ⟨f_1, e_f_1⟩ : ∃ z, z = upd (fun _ => 0) (0 : Int32).toNatClampNeg 0 := ⟨_, rfl⟩
  have hP : va_P (dC, dI) cl0 [(h0, .inl (cI, 12, .inl f_1))] H := by rw [e_f_1]; exact hP
  have hD : va_D A [(h0, .inl (cI, 12, .inl f_1))] := by rw [e_f_1]; exact hD
  refine lv_iinc (v := 1) (lv' := [(2, .int 1), (3, .int 12), (0, .ref h0), (1, .int 0)]) hx hb dJ7_fill_53178_14 hl (k := 1) rfl (by decide) (by decide) rfl (fun ls hl => ?_)
  refine lv_goto (tgt := 5) hx hb dJ7_fill_53178_17 (by decide) ?_
  refine lv_iload_n hx hb dJ7_fill_53178_5 rfl (lv_at hl 0 rfl) ?_
  refine lv_iload_n hx hb dJ7_fill_53178_6 rfl (lv_at hl 1 rfl) ?_
  refine lv_icmp_ge (tgt := 20) hx hb dJ7_fill_53178_7 (by decide) (fun c9 => absurd c9 (by decide)) (fun _ => ?_)
  refine lv_aload_n hx hb dJ7_fill_53178_10 rfl (lv_at hl 2 rfl) ?_
  refine lv_iload_n hx hb dJ7_fill_53178_11 rfl (lv_at hl 0 rfl) ?_
  refine lv_iload_n hx hb dJ7_fill_53178_12 rfl (lv_at hl 3 rfl) ?_
  refine va_iast hx hb hK hP hD hS 0 0 rfl rfl (vi rfl) dJ7_fill_53178_13 (fun H locs hP hD hS => ?_)
  obtain ⟨f_2, e_f_2⟩ : ∃ z, z = upd f_1 (1 : Int32).toNatClampNeg 0 := ⟨_, rfl⟩
  have hP : va_P (dC, dI) cl0 [(h0, .inl (cI, 12, .inl f_2))] H := by rw [e_f_2]; exact hP
  have hD : va_D A [(h0, .inl (cI, 12, .inl f_2))] := by rw [e_f_2]; exact hD
  refine lv_iinc (v := 2) (lv' := [(2, .int 2), (3, .int 12), (0, .ref h0), (1, .int 0)]) hx hb dJ7_fill_53178_14 hl (k := 0) rfl (by decide) (by decide) rfl (fun ls hl => ?_)
  refine lv_goto (tgt := 5) hx hb dJ7_fill_53178_17 (by decide) ?_
  refine lv_iload_n hx hb dJ7_fill_53178_5 rfl (lv_at hl 0 rfl) ?_
  refine lv_iload_n hx hb dJ7_fill_53178_6 rfl (lv_at hl 1 rfl) ?_
  refine lv_icmp_ge (tgt := 20) hx hb dJ7_fill_53178_7 (by decide) (fun c9 => absurd c9 (by decide)) (fun _ => ?_)
  refine lv_aload_n hx hb dJ7_fill_53178_10 rfl (lv_at hl 2 rfl) ?_
  refine lv_iload_n hx hb dJ7_fill_53178_11 rfl (lv_at hl 0 rfl) ?_
  refine lv_iload_n hx hb dJ7_fill_53178_12 rfl (lv_at hl 3 rfl) ?_
  refine va_iast hx hb hK hP hD hS 0 0 rfl rfl (vi rfl) dJ7_fill_53178_13 (fun H locs hP hD hS => ?_)
  obtain ⟨f_3, e_f_3⟩ : ∃ z, z = upd f_2 (2 : Int32).toNatClampNeg 0 := ⟨_, rfl⟩
  have hP : va_P (dC, dI) cl0 [(h0, .inl (cI, 12, .inl f_3))] H := by rw [e_f_3]; exact hP
  have hD : va_D A [(h0, .inl (cI, 12, .inl f_3))] := by rw [e_f_3]; exact hD
  refine lv_iinc (v := 3) (lv' := [(2, .int 3), (3, .int 12), (0, .ref h0), (1, .int 0)]) hx hb dJ7_fill_53178_14 hl (k := 0) rfl (by decide) (by decide) rfl (fun ls hl => ?_)
  refine lv_goto (tgt := 5) hx hb dJ7_fill_53178_17 (by decide) ?_
  refine lv_iload_n hx hb dJ7_fill_53178_5 rfl (lv_at hl 0 rfl) ?_
  refine lv_iload_n hx hb dJ7_fill_53178_6 rfl (lv_at hl 1 rfl) ?_
  refine lv_icmp_ge (tgt := 20) hx hb dJ7_fill_53178_7 (by decide) (fun c9 => absurd c9 (by decide)) (fun _ => ?_)
  refine lv_aload_n hx hb dJ7_fill_53178_10 rfl (lv_at hl 2 rfl) ?_
  refine lv_iload_n hx hb dJ7_fill_53178_11 rfl (lv_at hl 0 rfl) ?_
  refine lv_iload_n hx hb dJ7_fill_53178_12 rfl (lv_at hl 3 rfl) ?_
  refine va_iast hx hb hK hP hD hS 0 0 rfl rfl (vi rfl) dJ7_fill_53178_13 (fun H locs hP hD hS => ?_)
  obtain ⟨f_4, e_f_4⟩ : ∃ z, z = upd f_3 (3 : Int32).toNatClampNeg 0 := ⟨_, rfl⟩
  have hP : va_P (dC, dI) cl0 [(h0, .inl (cI, 12, .inl f_4))] H := by rw [e_f_4]; exact hP
  have hD : va_D A [(h0, .inl (cI, 12, .inl f_4))] := by rw [e_f_4]; exact hD
  refine lv_iinc (v := 4) (lv' := [(2, .int 4), (3, .int 12), (0, .ref h0), (1, .int 0)]) hx hb dJ7_fill_53178_14 hl (k := 0) rfl (by decide) (by decide) rfl (fun ls hl => ?_)
  refine lv_goto (tgt := 5) hx hb dJ7_fill_53178_17 (by decide) ?_
  refine lv_iload_n hx hb dJ7_fill_53178_5 rfl (lv_at hl 0 rfl) ?_
  refine lv_iload_n hx hb dJ7_fill_53178_6 rfl (lv_at hl 1 rfl) ?_
  refine lv_icmp_ge (tgt := 20) hx hb dJ7_fill_53178_7 (by decide) (fun c9 => absurd c9 (by decide)) (fun _ => ?_)
  refine lv_aload_n hx hb dJ7_fill_53178_10 rfl (lv_at hl 2 rfl) ?_
  refine lv_iload_n hx hb dJ7_fill_53178_11 rfl (lv_at hl 0 rfl) ?_
  refine lv_iload_n hx hb dJ7_fill_53178_12 rfl (lv_at hl 3 rfl) ?_
  refine va_iast hx hb hK hP hD hS 0 0 rfl rfl (vi rfl) dJ7_fill_53178_13 (fun H locs hP hD hS => ?_)
  obtain ⟨f_5, e_f_5⟩ : ∃ z, z = upd f_4 (4 : Int32).toNatClampNeg 0 := ⟨_, rfl⟩
  have hP : va_P (dC, dI) cl0 [(h0, .inl (cI, 12, .inl f_5))] H := by rw [e_f_5]; exact hP
  have hD : va_D A [(h0, .inl (cI, 12, .inl f_5))] := by rw [e_f_5]; exact hD
  refine lv_iinc (v := 5) (lv' := [(2, .int 5), (3, .int 12), (0, .ref h0), (1, .int 0)]) hx hb dJ7_fill_53178_14 hl (k := 0) rfl (by decide) (by decide) rfl (fun ls hl => ?_)
  refine lv_goto (tgt := 5) hx hb dJ7_fill_53178_17 (by decide) ?_
  refine lv_iload_n hx hb dJ7_fill_53178_5 rfl (lv_at hl 0 rfl) ?_
  refine lv_iload_n hx hb dJ7_fill_53178_6 rfl (lv_at hl 1 rfl) ?_
  refine lv_icmp_ge (tgt := 20) hx hb dJ7_fill_53178_7 (by decide) (fun c9 => absurd c9 (by decide)) (fun _ => ?_)
  refine lv_aload_n hx hb dJ7_fill_53178_10 rfl (lv_at hl 2 rfl) ?_
  refine lv_iload_n hx hb dJ7_fill_53178_11 rfl (lv_at hl 0 rfl) ?_
  refine lv_iload_n hx hb dJ7_fill_53178_12 rfl (lv_at hl 3 rfl) ?_
  refine va_iast hx hb hK hP hD hS 0 0 rfl rfl (vi rfl) dJ7_fill_53178_13 (fun H locs hP hD hS => ?_)
  obtain ⟨f_6, e_f_6⟩ : ∃ z, z = upd f_5 (5 : Int32).toNatClampNeg 0 := ⟨_, rfl⟩
  have hP : va_P (dC, dI) cl0 [(h0, .inl (cI, 12, .inl f_6))] H := by rw [e_f_6]; exact hP
  have hD : va_D A [(h0, .inl (cI, 12, .inl f_6))] := by rw [e_f_6]; exact hD
  refine lv_iinc (v := 6) (lv' := [(2, .int 6), (3, .int 12), (0, .ref h0), (1, .int 0)]) hx hb dJ7_fill_53178_14 hl (k := 0) rfl (by decide) (by decide) rfl (fun ls hl => ?_)
  refine lv_goto (tgt := 5) hx hb dJ7_fill_53178_17 (by decide) ?_
  refine lv_iload_n hx hb dJ7_fill_53178_5 rfl (lv_at hl 0 rfl) ?_
  refine lv_iload_n hx hb dJ7_fill_53178_6 rfl (lv_at hl 1 rfl) ?_
  refine lv_icmp_ge (tgt := 20) hx hb dJ7_fill_53178_7 (by decide) (fun c9 => absurd c9 (by decide)) (fun _ => ?_)
  refine lv_aload_n hx hb dJ7_fill_53178_10 rfl (lv_at hl 2 rfl) ?_
  refine lv_iload_n hx hb dJ7_fill_53178_11 rfl (lv_at hl 0 rfl) ?_
  refine lv_iload_n hx hb dJ7_fill_53178_12 rfl (lv_at hl 3 rfl) ?_
  refine va_iast hx hb hK hP hD hS 0 0 rfl rfl (vi rfl) dJ7_fill_53178_13 (fun H locs hP hD hS => ?_)
  obtain ⟨f_7, e_f_7⟩ : ∃ z, z = upd f_6 (6 : Int32).toNatClampNeg 0 := ⟨_, rfl⟩
  have hP : va_P (dC, dI) cl0 [(h0, .inl (cI, 12, .inl f_7))] H := by rw [e_f_7]; exact hP
  have hD : va_D A [(h0, .inl (cI, 12, .inl f_7))] := by rw [e_f_7]; exact hD
  refine lv_iinc (v := 7) (lv' := [(2, .int 7), (3, .int 12), (0, .ref h0), (1, .int 0)]) hx hb dJ7_fill_53178_14 hl (k := 0) rfl (by decide) (by decide) rfl (fun ls hl => ?_)
  refine lv_goto (tgt := 5) hx hb dJ7_fill_53178_17 (by decide) ?_
  refine lv_iload_n hx hb dJ7_fill_53178_5 rfl (lv_at hl 0 rfl) ?_
  refine lv_iload_n hx hb dJ7_fill_53178_6 rfl (lv_at hl 1 rfl) ?_
  refine lv_icmp_ge (tgt := 20) hx hb dJ7_fill_53178_7 (by decide) (fun c9 => absurd c9 (by decide)) (fun _ => ?_)
  refine lv_aload_n hx hb dJ7_fill_53178_10 rfl (lv_at hl 2 rfl) ?_
  refine lv_iload_n hx hb dJ7_fill_53178_11 rfl (lv_at hl 0 rfl) ?_
  refine lv_iload_n hx hb dJ7_fill_53178_12 rfl (lv_at hl 3 rfl) ?_
  refine va_iast hx hb hK hP hD hS 0 0 rfl rfl (vi rfl) dJ7_fill_53178_13 (fun H locs hP hD hS => ?_)
  obtain ⟨f_8, e_f_8⟩ : ∃ z, z = upd f_7 (7 : Int32).toNatClampNeg 0 := ⟨_, rfl⟩
  have hP : va_P (dC, dI) cl0 [(h0, .inl (cI, 12, .inl f_8))] H := by rw [e_f_8]; exact hP
  have hD : va_D A [(h0, .inl (cI, 12, .inl f_8))] := by rw [e_f_8]; exact hD
  refine lv_iinc (v := 8) (lv' := [(2, .int 8), (3, .int 12), (0, .ref h0), (1, .int 0)]) hx hb dJ7_fill_53178_14 hl (k := 0) rfl (by decide) (by decide) rfl (fun ls hl => ?_)
  refine lv_goto (tgt := 5) hx hb dJ7_fill_53178_17 (by decide) ?_
  refine lv_iload_n hx hb dJ7_fill_53178_5 rfl (lv_at hl 0 rfl) ?_
  refine lv_iload_n hx hb dJ7_fill_53178_6 rfl (lv_at hl 1 rfl) ?_
  refine lv_icmp_ge (tgt := 20) hx hb dJ7_fill_53178_7 (by decide) (fun c9 => absurd c9 (by decide)) (fun _ => ?_)
  refine lv_aload_n hx hb dJ7_fill_53178_10 rfl (lv_at hl 2 rfl) ?_
  refine lv_iload_n hx hb dJ7_fill_53178_11 rfl (lv_at hl 0 rfl) ?_
  refine lv_iload_n hx hb dJ7_fill_53178_12 rfl (lv_at hl 3 rfl) ?_
  refine va_iast hx hb hK hP hD hS 0 0 rfl rfl (vi rfl) dJ7_fill_53178_13 (fun H locs hP hD hS => ?_)
  obtain ⟨f_9, e_f_9⟩ : ∃ z, z = upd f_8 (8 : Int32).toNatClampNeg 0 := ⟨_, rfl⟩
  have hP : va_P (dC, dI) cl0 [(h0, .inl (cI, 12, .inl f_9))] H := by rw [e_f_9]; exact hP
  have hD : va_D A [(h0, .inl (cI, 12, .inl f_9))] := by rw [e_f_9]; exact hD
  refine lv_iinc (v := 9) (lv' := [(2, .int 9), (3, .int 12), (0, .ref h0), (1, .int 0)]) hx hb dJ7_fill_53178_14 hl (k := 0) rfl (by decide) (by decide) rfl (fun ls hl => ?_)
  refine lv_goto (tgt := 5) hx hb dJ7_fill_53178_17 (by decide) ?_
  refine lv_iload_n hx hb dJ7_fill_53178_5 rfl (lv_at hl 0 rfl) ?_
  refine lv_iload_n hx hb dJ7_fill_53178_6 rfl (lv_at hl 1 rfl) ?_
  refine lv_icmp_ge (tgt := 20) hx hb dJ7_fill_53178_7 (by decide) (fun c9 => absurd c9 (by decide)) (fun _ => ?_)
  refine lv_aload_n hx hb dJ7_fill_53178_10 rfl (lv_at hl 2 rfl) ?_
  refine lv_iload_n hx hb dJ7_fill_53178_11 rfl (lv_at hl 0 rfl) ?_
  refine lv_iload_n hx hb dJ7_fill_53178_12 rfl (lv_at hl 3 rfl) ?_
  refine va_iast hx hb hK hP hD hS 0 0 rfl rfl (vi rfl) dJ7_fill_53178_13 (fun H locs hP hD hS => ?_)
  obtain ⟨f_10, e_f_10⟩ : ∃ z, z = upd f_9 (9 : Int32).toNatClampNeg 0 := ⟨_, rfl⟩
  have hP : va_P (dC, dI) cl0 [(h0, .inl (cI, 12, .inl f_10))] H := by rw [e_f_10]; exact hP
  have hD : va_D A [(h0, .inl (cI, 12, .inl f_10))] := by rw [e_f_10]; exact hD
  refine lv_iinc (v := 10) (lv' := [(2, .int 10), (3, .int 12), (0, .ref h0), (1, .int 0)]) hx hb dJ7_fill_53178_14 hl (k := 0) rfl (by decide) (by decide) rfl (fun ls hl => ?_)
  refine lv_goto (tgt := 5) hx hb dJ7_fill_53178_17 (by decide) ?_
  refine lv_iload_n hx hb dJ7_fill_53178_5 rfl (lv_at hl 0 rfl) ?_
  refine lv_iload_n hx hb dJ7_fill_53178_6 rfl (lv_at hl 1 rfl) ?_
  refine lv_icmp_ge (tgt := 20) hx hb dJ7_fill_53178_7 (by decide) (fun c9 => absurd c9 (by decide)) (fun _ => ?_)
  refine lv_aload_n hx hb dJ7_fill_53178_10 rfl (lv_at hl 2 rfl) ?_
  refine lv_iload_n hx hb dJ7_fill_53178_11 rfl (lv_at hl 0 rfl) ?_
  refine lv_iload_n hx hb dJ7_fill_53178_12 rfl (lv_at hl 3 rfl) ?_
  refine va_iast hx hb hK hP hD hS 0 0 rfl rfl (vi rfl) dJ7_fill_53178_13 (fun H locs hP hD hS => ?_)
  obtain ⟨f_11, e_f_11⟩ : ∃ z, z = upd f_10 (10 : Int32).toNatClampNeg 0 := ⟨_, rfl⟩
  have hP : va_P (dC, dI) cl0 [(h0, .inl (cI, 12, .inl f_11))] H := by rw [e_f_11]; exact hP
  have hD : va_D A [(h0, .inl (cI, 12, .inl f_11))] := by rw [e_f_11]; exact hD
  refine lv_iinc (v := 11) (lv' := [(2, .int 11), (3, .int 12), (0, .ref h0), (1, .int 0)]) hx hb dJ7_fill_53178_14 hl (k := 0) rfl (by decide) (by decide) rfl (fun ls hl => ?_)
  refine lv_goto (tgt := 5) hx hb dJ7_fill_53178_17 (by decide) ?_
  refine lv_iload_n hx hb dJ7_fill_53178_5 rfl (lv_at hl 0 rfl) ?_
  refine lv_iload_n hx hb dJ7_fill_53178_6 rfl (lv_at hl 1 rfl) ?_
  refine lv_icmp_ge (tgt := 20) hx hb dJ7_fill_53178_7 (by decide) (fun c9 => absurd c9 (by decide)) (fun _ => ?_)
  refine lv_aload_n hx hb dJ7_fill_53178_10 rfl (lv_at hl 2 rfl) ?_
  refine lv_iload_n hx hb dJ7_fill_53178_11 rfl (lv_at hl 0 rfl) ?_
  refine lv_iload_n hx hb dJ7_fill_53178_12 rfl (lv_at hl 3 rfl) ?_
  refine va_iast hx hb hK hP hD hS 0 0 rfl rfl (vi rfl) dJ7_fill_53178_13 (fun H locs hP hD hS => ?_)
  obtain ⟨f_12, e_f_12⟩ : ∃ z, z = upd f_11 (11 : Int32).toNatClampNeg 0 := ⟨_, rfl⟩
  have hP : va_P (dC, dI) cl0 [(h0, .inl (cI, 12, .inl f_12))] H := by rw [e_f_12]; exact hP
  have hD : va_D A [(h0, .inl (cI, 12, .inl f_12))] := by rw [e_f_12]; exact hD
  refine lv_iinc (v := 12) (lv' := [(2, .int 12), (3, .int 12), (0, .ref h0), (1, .int 0)]) hx hb dJ7_fill_53178_14 hl (k := 0) rfl (by decide) (by decide) rfl (fun ls hl => ?_)
  refine lv_goto (tgt := 5) hx hb dJ7_fill_53178_17 (by decide) ?_
  refine lv_iload_n hx hb dJ7_fill_53178_5 rfl (lv_at hl 0 rfl) ?_
  refine lv_iload_n hx hb dJ7_fill_53178_6 rfl (lv_at hl 1 rfl) ?_
  refine lv_icmp_ge (tgt := 20) hx hb dJ7_fill_53178_7 (by decide) (fun _ => ?_) (fun c9 => absurd (by decide) c9)
  refine W.widen (k := 0) (n := 0) (Nat.le_of_ble_eq_true rfl) (Nat.le_of_ble_eq_true rfl) ?_
  exact W.vret hx hb hr (fun t9 ht9 hW9 => ⟨⟨(), rfl, trivial, trivial⟩, hS.F ht9⟩) hS.2.2 dJ7_fill_53178_20
set_option maxHeartbeats 400000 in
set_option maxRecDepth 100000 in
theorem m_X9_forgetApplied (l : Launch) (dC : Nat → ClassId) (dI : Nat → Nat → Nat) (sz : Nat) (h0 : Nat) (fq : List Value) (ha : Nat) (cI : ClassId) (L_fq : fq.length = 6) (g_fq_1 : fq[1]? = some (.ref ha)) : Met l yX9_forgetApplied (wt yX9_forgetApplied cX9_forgetApplied 1 none) ({ frames := 1, cells := 0, slots := 0, locals := 23 }) (va_Pc [.ref h0] (st_U dC dI sz [(h0, .inr (8, fq)), (ha, .inl (cI, 12, .inl (fun _ => 0)))] [(cI, .int)])) (va_Qv (fun _ : Unit => True) (fun (_ : Unit) (_ : State) => True) (va_A [(h0, .inr (8, fq)), (ha, .inl (cI, 12, .inl (fun _ => 0)))] sz)) 0 0 (va_A [(h0, .inr (8, fq)), (ha, .inl (cI, 12, .inl (fun _ => 0)))] sz) := by
  refine Met.ofW (cc := cX9_forgetApplied) (maxL := 1) (ret := none) (by decide) rfl ?_
  intro p e s m args below meth c s₁ B hml hv
  obtain ⟨rfl, hsz, hP, hK, hD0, hex⟩ := hv
  have hx := B.exec
  have hb := B.bytes
  have hr := B.returns
  have hts0 := atoms_spec (ws := wt yX9_forgetApplied cX9_forgetApplied 1 none) B.pre
  have hts : ∀ w ∈ tb, w.before _ s = true := fun w h => hts0 w (List.mem_cons_of_mem _ h)
  have hown : s.vm.findClass RX9 = some m.cls := findClass_of_methodNamed B.named
  have hlocks := B.notSynchronized
  subst hsz
  have hD := hD0.self (sz := s.heap.size)
  generalize hAe : va_A [(h0, .inr (8, fq)), (ha, .inl (cI, 12, .inl (fun _ => 0)))] s.heap.size = A at hD ⊢
  have hA : ∀ q : Nat, s.heap.size ≤ q → A q := fun q h => by rw [← hAe]; exact Or.inr h
  have hS : va_S A s.heap s.heap [] := va_S.rf
  have hl := lv_entry ([.ref h0]) (n := 1) (Nat.le_of_ble_eq_true rfl)
  rw [lg_entry_eq]
  generalize (lg_sl ([.ref h0]) ++ List.replicate (1 - (lg_sl ([.ref h0])).length) Slot.unset).toArray = ls at hl ⊢
  have hl : lv_has ls 1 [(0, .ref h0)] := hl
  refine lv_aload_n hx hb dX9_forgetApplied_0 rfl (lv_at hl 0 rfl) ?_
  refine va_get (D := (dC, dI)) (ci := 8) (v := .ref ha) (C := RX9) (T := TX9) (N := 6) hx hb hts inX9 hown hK hP 0 rfl rfl 1 (by decide) (hts _ kw_96) (fun _ h9 => h9) g_fq_1 dX9_forgetApplied_1 ?_
  refine lv_iconst (v := 0) hx hb dX9_forgetApplied_4 (by decide) ?_
  have hPc := hP.sub (ws' := [(ha, .inl (cI, 12, .inl (fun _ => 0)))]) [1] rfl
  have hDc := hD.sub (ws' := [(ha, .inl (cI, 12, .inl (fun _ => 0)))]) [1] (by decide) rfl
  have hKc := hK.sub (tys' := [(cI, .int)]) [0] rfl
  have hFc := va_free (wc := [(ha, .inl (cI, 12, .inl (fun _ => 0)))]) hD hS hA [1] rfl
  refine va_callv (va_runS (As := [.ref ha, .int 0]) (rest := []) ⟨hx, hb, hml, hown, hts⟩ (m_J7_fill_53178 l dC dI s.heap.size ha cI ) (va_cwS 2 hts (gd_S kw_212 kw_213 kw_214 kw_215) rfl rfl rfl (by decide +kernel) ⟨Nat.le_of_ble_eq_true rfl, Nat.le_of_ble_eq_true rfl⟩) ⟨st_blind, fun U hU hW9 => st_mk hU hW9 hPc hKc hDc hex⟩ rfl rfl hl.1 rfl (lv_room (Nat.le_of_ble_eq_true rfl)) dX9_forgetApplied_5 ⟨Nat.le_of_ble_eq_true rfl, Nat.le_of_ble_eq_true rfl⟩) hS (fun q _ h => hFc q h) hFc (fun  u9 t9 H1 locs ht9 hvm9 hw9 hB9 hz9 hk9 hS => ?_)
  have hP1 : va_P (dC, dI) cl0 [] H1 := fun k q h => by simp at h
  have hD1 : va_D (va_A [(ha, .inl (cI, 12, .inl (fun _ => 0)))] s.heap.size) [] := ⟨fun i j p q h => by simp at h, fun k q h => by simp at h⟩
  obtain ⟨hP, hD⟩ := va_join (wr := [(h0, .inr (8, fq))]) (w1 := []) hP hD [1] [0] rfl rfl (by decide) (by decide) hk9 hFc hP1 hD1
  generalize H1 = H at hP hS ⊢
  have hP : va_P (dC, dI) cl0 [(h0, .inr (8, fq))] H := hP
  have hD : va_D A [(h0, .inr (8, fq))] := hD
  refine W.widen (k := 0) (n := 0) (Nat.le_of_ble_eq_true rfl) (Nat.le_of_ble_eq_true rfl) ?_
  exact W.vret hx hb hr (fun t9 ht9 hW9 => ⟨⟨(), rfl, trivial, trivial⟩, hS.F ht9⟩) hS.2.2 dX9_forgetApplied_8
set_option maxHeartbeats 400000 in
set_option maxRecDepth 100000 in
theorem m_X9_appliedAt (l : Launch) (dC : Nat → ClassId) (dI : Nat → Nat → Nat) (sz : Nat) (h0 : Nat) (fq : List Value) (ha : Nat) (cI : ClassId) (r0 : Int32) (L_fq : fq.length = 6) (g_fq_1 : fq[1]? = some (.ref ha)) : Met l yX9_appliedAt (wt yX9_appliedAt cX9_appliedAt 2 (some .int)) ({ frames := 0, cells := 0, slots := 0, locals := 0 }) (va_Pc [.ref h0, .int r0] (st_U dC dI sz [(h0, .inr (8, fq)), (ha, .inl (cI, 12, .inl (fun _ => 0)))] [(cI, .int)])) (va_Qi (fun (r : Int32) (_ : Unit) => r = 0) (fun (_ : Unit) (_ : State) => True) (va_A [(h0, .inr (8, fq)), (ha, .inl (cI, 12, .inl (fun _ => 0)))] sz)) 0 0 (va_A [(h0, .inr (8, fq)), (ha, .inl (cI, 12, .inl (fun _ => 0)))] sz) := by
  refine Met.ofW (cc := cX9_appliedAt) (maxL := 2) (ret := (some .int)) (by decide) rfl ?_
  intro p e s m args below meth c s₁ B hml hv
  obtain ⟨rfl, hsz, hP, hK, hD0, hex⟩ := hv
  have hx := B.exec
  have hb := B.bytes
  have hr := B.returns
  have hts0 := atoms_spec (ws := wt yX9_appliedAt cX9_appliedAt 2 (some .int)) B.pre
  have hts : ∀ w ∈ tb, w.before _ s = true := fun w h => hts0 w (List.mem_cons_of_mem _ h)
  have hown : s.vm.findClass RX9 = some m.cls := findClass_of_methodNamed B.named
  have hlocks := B.notSynchronized
  subst hsz
  have hD := hD0.self (sz := s.heap.size)
  generalize hAe : va_A [(h0, .inr (8, fq)), (ha, .inl (cI, 12, .inl (fun _ => 0)))] s.heap.size = A at hD ⊢
  have hA : ∀ q : Nat, s.heap.size ≤ q → A q := fun q h => by rw [← hAe]; exact Or.inr h
  have hS : va_S A s.heap s.heap [] := va_S.rf
  have hl := lv_entry ([.ref h0, .int r0]) (n := 2) (Nat.le_of_ble_eq_true rfl)
  rw [lg_entry_eq]
  generalize (lg_sl ([.ref h0, .int r0]) ++ List.replicate (2 - (lg_sl ([.ref h0, .int r0])).length) Slot.unset).toArray = ls at hl ⊢
  have hl : lv_has ls 2 [(0, .ref h0), (1, .int r0)] := hl
  refine lv_iload_n hx hb dX9_appliedAt_0 rfl (lv_at hl 1 rfl) ?_
  refine lv_if_lt (tgt := 13) hx hb dX9_appliedAt_1 (by decide) (fun c_1 => ?_) (fun c_1 => ?_)
  · refine lv_iconst (v := 0) hx hb dX9_appliedAt_13 (by decide) ?_
    refine lv_goto (tgt := 23) hx hb dX9_appliedAt_14 (by decide) ?_
    refine W.widen (k := 0) (n := 0) (Nat.le_of_ble_eq_true rfl) (Nat.le_of_ble_eq_true rfl) ?_
    exact W.iret (v := 0) hx hb hr (fun t9 ht9 hW9 => ⟨⟨_, (), rfl, rfl, trivial⟩, hS.F ht9⟩) hS.2.2 dX9_appliedAt_23
  · refine lv_iload_n hx hb dX9_appliedAt_4 rfl (lv_at hl 1 rfl) ?_
    refine lv_aload_n hx hb dX9_appliedAt_5 rfl (lv_at hl 0 rfl) ?_
    refine va_get (D := (dC, dI)) (ci := 8) (v := .ref ha) (C := RX9) (T := TX9) (N := 6) hx hb hts inX9 hown hK hP 0 rfl rfl 1 (by decide) (hts _ kw_96) (fun _ h9 => h9) g_fq_1 dX9_appliedAt_6 ?_
    refine va_alen (v := 12) hx hb hK hP 1 0 rfl rfl rfl dX9_appliedAt_9 ?_
    refine lv_icmp_lt (tgt := 17) hx hb dX9_appliedAt_10 (by decide) (fun c_10 => ?_) (fun c_10 => ?_)
    · refine lv_aload_n hx hb dX9_appliedAt_17 rfl (lv_at hl 0 rfl) ?_
      refine va_get (D := (dC, dI)) (ci := 8) (v := .ref ha) (C := RX9) (T := TX9) (N := 6) hx hb hts inX9 hown hK hP 0 rfl rfl 1 (by decide) (hts _ kw_96) (fun _ h9 => h9) g_fq_1 dX9_appliedAt_18 ?_
      refine lv_iload_n hx hb dX9_appliedAt_21 rfl (lv_at hl 1 rfl) ?_
      refine va_iald hx hb hK hP 1 0 rfl rfl (k_in12 c_1 c_10) dX9_appliedAt_22 ?_
      refine lv_topi (fun z9 ez9 => ?_)
      obtain rfl : z9 = 0 := ez9
      refine W.widen (k := 0) (n := 0) (Nat.le_of_ble_eq_true rfl) (Nat.le_of_ble_eq_true rfl) ?_
      exact W.iret (v := 0) hx hb hr (fun t9 ht9 hW9 => ⟨⟨_, (), rfl, rfl, trivial⟩, hS.F ht9⟩) hS.2.2 dX9_appliedAt_23
    · refine lv_iconst (v := 0) hx hb dX9_appliedAt_13 (by decide) ?_
      refine lv_goto (tgt := 23) hx hb dX9_appliedAt_14 (by decide) ?_
      refine W.widen (k := 0) (n := 0) (Nat.le_of_ble_eq_true rfl) (Nat.le_of_ble_eq_true rfl) ?_
      exact W.iret (v := 0) hx hb hr (fun t9 ht9 hW9 => ⟨⟨_, (), rfl, rfl, trivial⟩, hS.F ht9⟩) hS.2.2 dX9_appliedAt_23
set_option maxHeartbeats 400000 in
set_option maxRecDepth 100000 in
theorem m_X12_improve (l : Launch) (dC : Nat → ClassId) (dI : Nat → Nat → Nat) (sz : Nat) (h0 : Nat) (fx : List Value) (hs : Nat) (fq : List Value) (hsa : Nat) (cI : ClassId) (f0 : Int32) (u0 : Int32) (L_fx : fx.length = 18) (g_fx_9 : fx[9]? = some (.ref hs)) (g_fx_11 : fx[11]? = some (.int 0)) (L_fq : fq.length = 6) (g_fq_1 : fq[1]? = some (.ref hsa)) : Met l yX12_improve (wt yX12_improve cX12_improve 5 (some .int)) ({ frames := 2, cells := 0, slots := 0, locals := 43 }) (va_Pc [.ref h0, .int f0, .int u0] (st_U dC dI sz [(h0, .inr (10, fx)), (hs, .inr (8, fq)), (hsa, .inl (cI, 12, .inl (fun _ => 0)))] [(cI, .int)])) (va_Qi (fun (r : Int32) (_ : Unit) => r = (-1)) (fun (_ : Unit) (_ : State) => True) (va_A [(h0, .inr (10, fx)), (hs, .inr (8, fq)), (hsa, .inl (cI, 12, .inl (fun _ => 0)))] sz)) 0 0 (va_A [(h0, .inr (10, fx)), (hs, .inr (8, fq)), (hsa, .inl (cI, 12, .inl (fun _ => 0)))] sz) := by
  refine Met.ofW (cc := cX12_improve) (maxL := 5) (ret := (some .int)) (by decide) rfl ?_
  intro p e s m args below meth c s₁ B hml hv
  obtain ⟨rfl, hsz, hP, hK, hD0, hex⟩ := hv
  have hx := B.exec
  have hb := B.bytes
  have hr := B.returns
  have hts0 := atoms_spec (ws := wt yX12_improve cX12_improve 5 (some .int)) B.pre
  have hts : ∀ w ∈ tb, w.before _ s = true := fun w h => hts0 w (List.mem_cons_of_mem _ h)
  have hown : s.vm.findClass RX12 = some m.cls := findClass_of_methodNamed B.named
  have hlocks := B.notSynchronized
  subst hsz
  have hD := hD0.self (sz := s.heap.size)
  generalize hAe : va_A [(h0, .inr (10, fx)), (hs, .inr (8, fq)), (hsa, .inl (cI, 12, .inl (fun _ => 0)))] s.heap.size = A at hD ⊢
  have hA : ∀ q : Nat, s.heap.size ≤ q → A q := fun q h => by rw [← hAe]; exact Or.inr h
  have hS : va_S A s.heap s.heap [] := va_S.rf
  have hl := lv_entry ([.ref h0, .int f0, .int u0]) (n := 5) (Nat.le_of_ble_eq_true rfl)
  rw [lg_entry_eq]
  generalize (lg_sl ([.ref h0, .int f0, .int u0]) ++ List.replicate (5 - (lg_sl ([.ref h0, .int f0, .int u0])).length) Slot.unset).toArray = ls at hl ⊢
  have hl : lv_has ls 5 [(0, .ref h0), (1, .int f0), (2, .int u0)] := hl
  refine lv_aload_n hx hb dX12_improve_0 rfl (lv_at hl 0 rfl) ?_
  refine va_get (D := (dC, dI)) (ci := 10) (v := .ref hs) (C := RX12) (T := TX12) (N := 18) hx hb hts inX12 hown hK hP 0 rfl rfl 9 (by decide) (hts _ kw_143) (fun _ h9 => h9) g_fx_9 dX12_improve_1 ?_
  have hPc := hP.sub (ws' := [(hs, .inr (8, fq)), (hsa, .inl (cI, 12, .inl (fun _ => 0)))]) [1, 2] rfl
  have hDc := hD.sub (ws' := [(hs, .inr (8, fq)), (hsa, .inl (cI, 12, .inl (fun _ => 0)))]) [1, 2] (by decide) rfl
  have hKc := hK.sub (tys' := [(cI, .int)]) [0] rfl
  have hFc := va_free (wc := [(hs, .inr (8, fq)), (hsa, .inl (cI, 12, .inl (fun _ => 0)))]) hD hS hA [1, 2] rfl
  refine va_callv (va_runV (As := []) (rest := []) ⟨hx, hb, hml, hown, hts⟩ (m_X9_forgetApplied l dC dI s.heap.size hs fq hsa cI L_fq g_fq_1) (cwV 0 hts (gd_V kw_216 kw_217 kw_218 kw_140 kw_219) rfl rfl rfl (by decide +kernel) ⟨Nat.le_of_ble_eq_true rfl, Nat.le_of_ble_eq_true rfl⟩) ⟨st_blind, va_recv hKc hPc (ci := 8) (q0 := 0) rfl rfl, fun U hU hW9 => st_mk hU hW9 hPc hKc hDc hex⟩ rfl rfl hl.1 rfl (lv_room (Nat.le_of_ble_eq_true rfl)) dX12_improve_4 ⟨Nat.le_of_ble_eq_true rfl, Nat.le_of_ble_eq_true rfl⟩) hS (fun q _ h => hFc q h) hFc (fun  u9 t9 H1 locs ht9 hvm9 hw9 hB9 hz9 hk9 hS => ?_)
  have hP1 : va_P (dC, dI) cl0 [] H1 := fun k q h => by simp at h
  have hD1 : va_D (va_A [(hs, .inr (8, fq)), (hsa, .inl (cI, 12, .inl (fun _ => 0)))] s.heap.size) [] := ⟨fun i j p q h => by simp at h, fun k q h => by simp at h⟩
  obtain ⟨hP, hD⟩ := va_join (wr := [(h0, .inr (10, fx))]) (w1 := []) hP hD [1, 2] [0] rfl rfl (by decide) (by decide) hk9 hFc hP1 hD1
  generalize H1 = H at hP hS ⊢
  have hP : va_P (dC, dI) cl0 [(h0, .inr (10, fx))] H := hP
  have hD : va_D A [(h0, .inr (10, fx))] := hD
  refine lv_aload_n hx hb dX12_improve_7 rfl (lv_at hl 0 rfl) ?_
  refine lv_iload_n hx hb dX12_improve_8 rfl (lv_at hl 1 rfl) ?_
  have hPc := hP.sub (ws' := [(h0, .inr (10, fx))]) [0] rfl
  have hDc := hD.sub (ws' := [(h0, .inr (10, fx))]) [0] (by decide) rfl
  have hKc := hK.sub (tys' := []) [] rfl
  have hFc := va_free (wc := [(h0, .inr (10, fx))]) hD hS hA [0] rfl
  refine va_callq (va_runV (As := [.int f0]) (rest := []) ⟨hx, hb, hml, hown, hts⟩ (m_X12_soundUnitAt l dC dI H.size h0 fx f0 L_fx g_fx_11) (cwV 1 hts (gd_V kw_175 kw_176 kw_177 kw_169 kw_178) rfl rfl rfl (by decide +kernel) ⟨Nat.le_of_ble_eq_true rfl, Nat.le_of_ble_eq_true rfl⟩) ⟨st_blind, va_recv hKc hPc (ci := 10) (q0 := 0) rfl rfl, fun U hU hW9 => st_mk hU hW9 hPc hKc hDc hex⟩ rfl rfl hl.1 rfl (lv_room (Nat.le_of_ble_eq_true rfl)) dX12_improve_9 ⟨Nat.le_of_ble_eq_true rfl, Nat.le_of_ble_eq_true rfl⟩) hS (fun q _ h => hFc q h) hFc (fun r_1 u9 t9 H1 locs ht9 hvm9 hw9 hB9 hz9 hk9 hS => ?_)
  have hP1 : va_P (dC, dI) cl0 [] H1 := fun k q h => by simp at h
  have hD1 : va_D (va_A [(h0, .inr (10, fx))] H.size) [] := ⟨fun i j p q h => by simp at h, fun k q h => by simp at h⟩
  obtain ⟨hP, hD⟩ := va_join (wr := []) (w1 := []) hP hD [0] [] rfl rfl (by decide) (by decide) hk9 hFc hP1 hD1
  generalize H1 = H at hP hS ⊢
  have hP : va_P (dC, dI) cl0 [] H := hP
  have hD : va_D A [] := hD
  have hw9 : r_1 = none := hw9
  subst hw9
  refine lv_astore_nN (lv' := [(3, .null), (0, .ref h0), (1, .int f0), (2, .int u0)]) hx hb dX12_improve_12 rfl hl (by decide) rfl (fun ls hl => ?_)
  refine lv_aload_nN hx hb dX12_improve_13 rfl (lv_at hl 0 rfl) ?_
  refine lv_ifnullN (tgt := 28) hx hb dX12_improve_14 (by decide) ?_
  refine lv_iconst (v := (-1)) hx hb dX12_improve_28 (by decide) ?_
  refine W.widen (k := 0) (n := 0) (Nat.le_of_ble_eq_true rfl) (Nat.le_of_ble_eq_true rfl) ?_
  exact W.iret (v := (-1)) hx hb hr (fun t9 ht9 hW9 => ⟨⟨_, (), rfl, rfl, trivial⟩, hS.F ht9⟩) hS.2.2 dX12_improve_29
set_option maxHeartbeats 400000 in
set_option maxRecDepth 100000 in
theorem m_X12_applied (l : Launch) (dC : Nat → ClassId) (dI : Nat → Nat → Nat) (sz : Nat) (h0 : Nat) (fx : List Value) (hs : Nat) (fq : List Value) (hsa : Nat) (cI : ClassId) (r0 : Int32) (L_fx : fx.length = 18) (g_fx_9 : fx[9]? = some (.ref hs)) (L_fq : fq.length = 6) (g_fq_1 : fq[1]? = some (.ref hsa)) : Met l yX12_applied (wt yX12_applied cX12_applied 2 (some .int)) ({ frames := 1, cells := 0, slots := 0, locals := 21 }) (va_Pc [.ref h0, .int r0] (st_U dC dI sz [(h0, .inr (10, fx)), (hs, .inr (8, fq)), (hsa, .inl (cI, 12, .inl (fun _ => 0)))] [(cI, .int)])) (va_Qi (fun (r : Int32) (_ : Unit) => r = 0) (fun (_ : Unit) (_ : State) => True) (va_A [(h0, .inr (10, fx)), (hs, .inr (8, fq)), (hsa, .inl (cI, 12, .inl (fun _ => 0)))] sz)) 0 0 (va_A [(h0, .inr (10, fx)), (hs, .inr (8, fq)), (hsa, .inl (cI, 12, .inl (fun _ => 0)))] sz) := by
  refine Met.ofW (cc := cX12_applied) (maxL := 2) (ret := (some .int)) (by decide) rfl ?_
  intro p e s m args below meth c s₁ B hml hv
  obtain ⟨rfl, hsz, hP, hK, hD0, hex⟩ := hv
  have hx := B.exec
  have hb := B.bytes
  have hr := B.returns
  have hts0 := atoms_spec (ws := wt yX12_applied cX12_applied 2 (some .int)) B.pre
  have hts : ∀ w ∈ tb, w.before _ s = true := fun w h => hts0 w (List.mem_cons_of_mem _ h)
  have hown : s.vm.findClass RX12 = some m.cls := findClass_of_methodNamed B.named
  have hlocks := B.notSynchronized
  subst hsz
  have hD := hD0.self (sz := s.heap.size)
  generalize hAe : va_A [(h0, .inr (10, fx)), (hs, .inr (8, fq)), (hsa, .inl (cI, 12, .inl (fun _ => 0)))] s.heap.size = A at hD ⊢
  have hA : ∀ q : Nat, s.heap.size ≤ q → A q := fun q h => by rw [← hAe]; exact Or.inr h
  have hS : va_S A s.heap s.heap [] := va_S.rf
  have hl := lv_entry ([.ref h0, .int r0]) (n := 2) (Nat.le_of_ble_eq_true rfl)
  rw [lg_entry_eq]
  generalize (lg_sl ([.ref h0, .int r0]) ++ List.replicate (2 - (lg_sl ([.ref h0, .int r0])).length) Slot.unset).toArray = ls at hl ⊢
  have hl : lv_has ls 2 [(0, .ref h0), (1, .int r0)] := hl
  refine lv_aload_n hx hb dX12_applied_0 rfl (lv_at hl 0 rfl) ?_
  refine va_get (D := (dC, dI)) (ci := 10) (v := .ref hs) (C := RX12) (T := TX12) (N := 18) hx hb hts inX12 hown hK hP 0 rfl rfl 9 (by decide) (hts _ kw_143) (fun _ h9 => h9) g_fx_9 dX12_applied_1 ?_
  refine lv_iload_n hx hb dX12_applied_4 rfl (lv_at hl 1 rfl) ?_
  have hPc := hP.sub (ws' := [(hs, .inr (8, fq)), (hsa, .inl (cI, 12, .inl (fun _ => 0)))]) [1, 2] rfl
  have hDc := hD.sub (ws' := [(hs, .inr (8, fq)), (hsa, .inl (cI, 12, .inl (fun _ => 0)))]) [1, 2] (by decide) rfl
  have hKc := hK.sub (tys' := [(cI, .int)]) [0] rfl
  have hFc := va_free (wc := [(hs, .inr (8, fq)), (hsa, .inl (cI, 12, .inl (fun _ => 0)))]) hD hS hA [1, 2] rfl
  refine va_calli (va_runV (As := [.int r0]) (rest := []) ⟨hx, hb, hml, hown, hts⟩ (m_X9_appliedAt l dC dI s.heap.size hs fq hsa cI r0 L_fq g_fq_1) (cwV 1 hts (gd_V kw_220 kw_221 kw_222 kw_140 kw_223) rfl rfl rfl (by decide +kernel) ⟨Nat.le_of_ble_eq_true rfl, Nat.le_of_ble_eq_true rfl⟩) ⟨st_blind, va_recv hKc hPc (ci := 8) (q0 := 0) rfl rfl, fun U hU hW9 => st_mk hU hW9 hPc hKc hDc hex⟩ rfl rfl hl.1 rfl (lv_room (Nat.le_of_ble_eq_true rfl)) dX12_applied_5 ⟨Nat.le_of_ble_eq_true rfl, Nat.le_of_ble_eq_true rfl⟩) hS (fun q _ h => hFc q h) hFc (fun r_1 u9 t9 H1 locs ht9 hvm9 hw9 hB9 hz9 hk9 hS => ?_)
  have hP1 : va_P (dC, dI) cl0 [] H1 := fun k q h => by simp at h
  have hD1 : va_D (va_A [(hs, .inr (8, fq)), (hsa, .inl (cI, 12, .inl (fun _ => 0)))] s.heap.size) [] := ⟨fun i j p q h => by simp at h, fun k q h => by simp at h⟩
  obtain ⟨hP, hD⟩ := va_join (wr := [(h0, .inr (10, fx))]) (w1 := []) hP hD [1, 2] [0] rfl rfl (by decide) (by decide) hk9 hFc hP1 hD1
  generalize H1 = H at hP hS ⊢
  have hP : va_P (dC, dI) cl0 [(h0, .inr (10, fx))] H := hP
  have hD : va_D A [(h0, .inr (10, fx))] := hD
  have hw9 : r_1 = 0 := hw9
  subst hw9
  refine W.widen (k := 0) (n := 0) (Nat.le_of_ble_eq_true rfl) (Nat.le_of_ble_eq_true rfl) ?_
  exact W.iret (v := 0) hx hb hr (fun t9 ht9 hW9 => ⟨⟨_, (), rfl, rfl, trivial⟩, hS.F ht9⟩) hS.2.2 dX12_applied_8
end
