section
def RJ7 : String := "java/util/Arrays"
def RJxb5711 : String := "java/lang/IllegalStateException"
def TJxb5711 : u_T := fun k => match k with
  | _ => ("", "", "", false)
def RL : String := "CodeFoundryLaw"
def RX0 : String := "CodeFoundry$Bytes"
def TX0 : u_T := fun k => match k with
  | 0 => ("CodeFoundry$Bytes", "data", "[B", false)
  | _ => ("CodeFoundry$Bytes", "count", "I", false)
def tyX0 : Nat → FieldType := fun k => match k with
  | 0 => .array .byte
  | _ => .int
theorem nmX0 : ∀ a, a < 2 → ∀ b, b < 2 → a ≠ b → (TX0 a).2.1 ≠ (TX0 b).2.1 := by decide +kernel
theorem tyX0_ok : ∀ k, k < 2 → parseFieldDescriptor (TX0 k).2.2.1 = some (tyX0 k) := by decide +kernel
def RX1 : String := "CodeFoundry$Checker"
def TX1 : u_T := fun k => match k with
  | 0 => ("CodeFoundry$Checker", "heights", "LCodeFoundry$Heights;", true)
  | 1 => ("CodeFoundry$Checker", "before", "[B", false)
  | 2 => ("CodeFoundry$Checker", "come", "[Z", false)
  | 3 => ("CodeFoundry$Checker", "waiting", "[Z", false)
  | 4 => ("CodeFoundry$Checker", "now", "[B", true)
  | 5 => ("CodeFoundry$Checker", "top", "I", false)
  | 6 => ("CodeFoundry$Checker", "bad", "Z", false)
  | 7 => ("CodeFoundry$Checker", "changed", "Z", false)
  | 8 => ("CodeFoundry$Checker", "unit", "LCodeFoundry$Unit;", false)
  | _ => ("CodeFoundry$Checker", "row", "LCodeFoundry$Row;", false)
def tyX1 : Nat → FieldType := fun k => match k with
  | 0 => .object "CodeFoundry$Heights"
  | 1 => .array .byte
  | 2 => .array .boolean
  | 3 => .array .boolean
  | 4 => .array .byte
  | 5 => .int
  | 6 => .boolean
  | 7 => .boolean
  | 8 => .object "CodeFoundry$Unit"
  | _ => .object "CodeFoundry$Row"
theorem nmX1 : ∀ a, a < 10 → ∀ b, b < 10 → a ≠ b → (TX1 a).2.1 ≠ (TX1 b).2.1 := by decide +kernel
theorem tyX1_ok : ∀ k, k < 10 → parseFieldDescriptor (TX1 k).2.2.1 = some (tyX1 k) := by decide +kernel
def RX11 : String := "CodeFoundry$Writer"
def TX11 : u_T := fun k => match k with
  | 0 => ("CodeFoundry$Writer", "pool", "LCodeFoundry$Bytes;", true)
  | 1 => ("CodeFoundry$Writer", "rest", "LCodeFoundry$Bytes;", true)
  | 2 => ("CodeFoundry$Writer", "wanted", "LCodeFoundry$Bytes;", true)
  | 3 => ("CodeFoundry$Writer", "entryAt", "[I", true)
  | 4 => ("CodeFoundry$Writer", "entryEnd", "[I", true)
  | 5 => ("CodeFoundry$Writer", "poolCount", "I", false)
  | 6 => ("CodeFoundry$Writer", "tooMany", "Z", false)
  | 7 => ("CodeFoundry$Writer", "unit", "LCodeFoundry$Unit;", false)
  | 8 => ("CodeFoundry$Writer", "codeName", "I", false)
  | 9 => ("CodeFoundry$Writer", "ownClass", "I", false)
  | 10 => ("CodeFoundry$Writer", "fieldName", "[I", true)
  | 11 => ("CodeFoundry$Writer", "fieldType", "[I", true)
  | 12 => ("CodeFoundry$Writer", "fieldEntry", "[I", true)
  | 13 => ("CodeFoundry$Writer", "methodEntry", "[I", true)
  | 14 => ("CodeFoundry$Writer", "heights", "LCodeFoundry$Heights;", true)
  | 15 => ("CodeFoundry$Writer", "row", "LCodeFoundry$Row;", false)
  | 16 => ("CodeFoundry$Writer", "needs", "[I", false)
  | _ => ("CodeFoundry$Writer", "offsets", "[I", false)
def tyX11 : Nat → FieldType := fun k => match k with
  | 0 => .object "CodeFoundry$Bytes"
  | 1 => .object "CodeFoundry$Bytes"
  | 2 => .object "CodeFoundry$Bytes"
  | 3 => .array .int
  | 4 => .array .int
  | 5 => .int
  | 6 => .boolean
  | 7 => .object "CodeFoundry$Unit"
  | 8 => .int
  | 9 => .int
  | 10 => .array .int
  | 11 => .array .int
  | 12 => .array .int
  | 13 => .array .int
  | 14 => .object "CodeFoundry$Heights"
  | 15 => .object "CodeFoundry$Row"
  | 16 => .array .int
  | _ => .array .int
theorem nmX11 : ∀ a, a < 18 → ∀ b, b < 18 → a ≠ b → (TX11 a).2.1 ≠ (TX11 b).2.1 := by decide +kernel
theorem tyX11_ok : ∀ k, k < 18 → parseFieldDescriptor (TX11 k).2.2.1 = some (tyX11 k) := by decide +kernel
def RX12 : String := "CodeFoundry"
def TX12 : u_T := fun k => match k with
  | 0 => ("CodeFoundry", "tray", "LCodeFoundry$Bytes;", true)
  | 1 => ("CodeFoundry", "written", "LCodeFoundry$Bytes;", true)
  | 2 => ("CodeFoundry", "draft", "LCodeFoundry$Bytes;", true)
  | 3 => ("CodeFoundry", "units", "[LCodeFoundry$Unit;", true)
  | 4 => ("CodeFoundry", "reader", "LCodeFoundry$CodeReader;", true)
  | 5 => ("CodeFoundry", "checker", "LCodeFoundry$Checker;", true)
  | 6 => ("CodeFoundry", "writer", "LCodeFoundry$Writer;", true)
  | 7 => ("CodeFoundry", "machine", "LCodeFoundry$Machine;", true)
  | 8 => ("CodeFoundry", "graph", "LCodeFoundry$Graph;", true)
  | 9 => ("CodeFoundry", "smith", "LCodeFoundry$Smith;", true)
  | 10 => ("CodeFoundry", "fed", "I", false)
  | 11 => ("CodeFoundry", "unitCount", "I", false)
  | 12 => ("CodeFoundry", "begun", "I", false)
  | 13 => ("CodeFoundry", "brokenRule", "I", false)
  | 14 => ("CodeFoundry", "brokenPlace", "I", false)
  | 15 => ("CodeFoundry", "faultMethod", "I", false)
  | 16 => ("CodeFoundry", "faultAt", "I", false)
  | _ => ("CodeFoundry", "writtenFile", "I", false)
def tyX12 : Nat → FieldType := fun k => match k with
  | 0 => .object "CodeFoundry$Bytes"
  | 1 => .object "CodeFoundry$Bytes"
  | 2 => .object "CodeFoundry$Bytes"
  | 3 => .array (.object "CodeFoundry$Unit")
  | 4 => .object "CodeFoundry$CodeReader"
  | 5 => .object "CodeFoundry$Checker"
  | 6 => .object "CodeFoundry$Writer"
  | 7 => .object "CodeFoundry$Machine"
  | 8 => .object "CodeFoundry$Graph"
  | 9 => .object "CodeFoundry$Smith"
  | 10 => .int
  | 11 => .int
  | 12 => .int
  | 13 => .int
  | 14 => .int
  | 15 => .int
  | 16 => .int
  | _ => .int
theorem nmX12 : ∀ a, a < 18 → ∀ b, b < 18 → a ≠ b → (TX12 a).2.1 ≠ (TX12 b).2.1 := by decide +kernel
theorem tyX12_ok : ∀ k, k < 18 → parseFieldDescriptor (TX12 k).2.2.1 = some (tyX12 k) := by decide +kernel
def RX13 : String := "CodeFoundryModel$File"
def TX13 : u_T := fun k => match k with
  | 0 => ("CodeFoundryModel$File", "own", "Ljava/lang/String;", false)
  | 1 => ("CodeFoundryModel$File", "above", "Ljava/lang/String;", false)
  | 2 => ("CodeFoundryModel$File", "pool", "I", false)
  | 3 => ("CodeFoundryModel$File", "fields", "I", false)
  | 4 => ("CodeFoundryModel$File", "methods", "I", false)
  | 5 => ("CodeFoundryModel$File", "fieldNames", "[Ljava/lang/String;", true)
  | 6 => ("CodeFoundryModel$File", "fieldTypes", "[Ljava/lang/String;", true)
  | 7 => ("CodeFoundryModel$File", "fieldLetters", "[Ljava/lang/String;", true)
  | 8 => ("CodeFoundryModel$File", "methodNames", "[Ljava/lang/String;", true)
  | 9 => ("CodeFoundryModel$File", "methodTypes", "[Ljava/lang/String;", true)
  | 10 => ("CodeFoundryModel$File", "takes", "[Ljava/lang/String;", true)
  | 11 => ("CodeFoundryModel$File", "gives", "[Ljava/lang/String;", true)
  | 12 => ("CodeFoundryModel$File", "mostStack", "[I", true)
  | 13 => ("CodeFoundryModel$File", "mostLocals", "[I", true)
  | 14 => ("CodeFoundryModel$File", "firsts", "[I", true)
  | 15 => ("CodeFoundryModel$File", "lengths", "[I", true)
  | 16 => ("CodeFoundryModel$File", "catchFirsts", "[I", true)
  | 17 => ("CodeFoundryModel$File", "catchCounts", "[I", true)
  | 18 => ("CodeFoundryModel$File", "rows", "[I", false)
  | 19 => ("CodeFoundryModel$File", "tables", "[I", false)
  | 20 => ("CodeFoundryModel$File", "catches", "[I", false)
  | 21 => ("CodeFoundryModel$File", "checked", "I", false)
  | _ => ("CodeFoundryModel$File", "states", "[I", false)
def tyX13 : Nat → FieldType := fun k => match k with
  | 0 => .object "java/lang/String"
  | 1 => .object "java/lang/String"
  | 2 => .int
  | 3 => .int
  | 4 => .int
  | 5 => .array (.object "java/lang/String")
  | 6 => .array (.object "java/lang/String")
  | 7 => .array (.object "java/lang/String")
  | 8 => .array (.object "java/lang/String")
  | 9 => .array (.object "java/lang/String")
  | 10 => .array (.object "java/lang/String")
  | 11 => .array (.object "java/lang/String")
  | 12 => .array .int
  | 13 => .array .int
  | 14 => .array .int
  | 15 => .array .int
  | 16 => .array .int
  | 17 => .array .int
  | 18 => .array .int
  | 19 => .array .int
  | 20 => .array .int
  | 21 => .int
  | _ => .array .int
theorem nmX13 : ∀ a, a < 23 → ∀ b, b < 23 → a ≠ b → (TX13 a).2.1 ≠ (TX13 b).2.1 := by decide +kernel
theorem tyX13_ok : ∀ k, k < 23 → parseFieldDescriptor (TX13 k).2.2.1 = some (tyX13 k) := by decide +kernel
def RX14 : String := "CodeFoundryModel"
def TX14 : u_T := fun k => match k with
  | 0 => ("CodeFoundryModel", "files", "[LCodeFoundryModel$File;", true)
  | 1 => ("CodeFoundryModel", "fileCount", "I", false)
  | 2 => ("CodeFoundryModel", "made", "I", false)
  | 3 => ("CodeFoundryModel", "tray", "[B", true)
  | 4 => ("CodeFoundryModel", "trayed", "I", false)
  | 5 => ("CodeFoundryModel", "fed", "I", false)
  | 6 => ("CodeFoundryModel", "stop", "Ljava/lang/IllegalStateException;", true)
  | 7 => ("CodeFoundryModel", "brokenRule", "I", false)
  | 8 => ("CodeFoundryModel", "brokenPlace", "I", false)
  | 9 => ("CodeFoundryModel", "toldRule", "I", false)
  | 10 => ("CodeFoundryModel", "toldPlace", "I", false)
  | 11 => ("CodeFoundryModel", "src", "[B", false)
  | 12 => ("CodeFoundryModel", "srcSize", "I", false)
  | 13 => ("CodeFoundryModel", "next", "I", false)
  | 14 => ("CodeFoundryModel", "poolCount", "I", false)
  | 15 => ("CodeFoundryModel", "tags", "[I", true)
  | 16 => ("CodeFoundryModel", "tagPlaces", "[I", true)
  | 17 => ("CodeFoundryModel", "firstOf", "[I", true)
  | 18 => ("CodeFoundryModel", "secondOf", "[I", true)
  | 19 => ("CodeFoundryModel", "worthOf", "[J", true)
  | 20 => ("CodeFoundryModel", "classAt", "I", false)
  | 21 => ("CodeFoundryModel", "memberCount", "I", false)
  | 22 => ("CodeFoundryModel", "fieldCount", "I", false)
  | 23 => ("CodeFoundryModel", "methodsAt", "I", false)
  | 24 => ("CodeFoundryModel", "memberAt", "[I", true)
  | 25 => ("CodeFoundryModel", "attributes", "I", false)
  | 26 => ("CodeFoundryModel", "attributeAt", "[I", true)
  | 27 => ("CodeFoundryModel", "attributeOwner", "[I", true)
  | 28 => ("CodeFoundryModel", "behind", "I", false)
  | 29 => ("CodeFoundryModel", "stackOf", "[I", true)
  | 30 => ("CodeFoundryModel", "localsOf", "[I", true)
  | 31 => ("CodeFoundryModel", "codeAts", "[I", true)
  | 32 => ("CodeFoundryModel", "codeSizes", "[I", true)
  | 33 => ("CodeFoundryModel", "catchAts", "[I", true)
  | 34 => ("CodeFoundryModel", "catchesOf", "[I", true)
  | 35 => ("CodeFoundryModel", "codeEnd", "I", false)
  | 36 => ("CodeFoundryModel", "codeAt", "I", false)
  | 37 => ("CodeFoundryModel", "codeSize", "I", false)
  | 38 => ("CodeFoundryModel", "numberAt", "[I", true)
  | 39 => ("CodeFoundryModel", "instructions", "I", false)
  | 40 => ("CodeFoundryModel", "newRows", "[I", true)
  | 41 => ("CodeFoundryModel", "newCount", "I", false)
  | 42 => ("CodeFoundryModel", "newTables", "[I", true)
  | 43 => ("CodeFoundryModel", "newTableSize", "I", false)
  | 44 => ("CodeFoundryModel", "newCatches", "[I", true)
  | 45 => ("CodeFoundryModel", "newCatchCount", "I", false)
  | 46 => ("CodeFoundryModel", "mostLocals", "I", false)
  | 47 => ("CodeFoundryModel", "own", "LCodeFoundryModel$File;", false)
  | 48 => ("CodeFoundryModel", "rows", "[I", false)
  | 49 => ("CodeFoundryModel", "tables", "[I", false)
  | 50 => ("CodeFoundryModel", "catches", "[I", false)
  | 51 => ("CodeFoundryModel", "rowFirst", "I", false)
  | 52 => ("CodeFoundryModel", "count", "I", false)
  | 53 => ("CodeFoundryModel", "catchFirst", "I", false)
  | 54 => ("CodeFoundryModel", "catchCount", "I", false)
  | 55 => ("CodeFoundryModel", "heights", "[I", true)
  | 56 => ("CodeFoundryModel", "heightMost", "I", false)
  | 57 => ("CodeFoundryModel", "isMoving", "Z", false)
  | 58 => ("CodeFoundryModel", "types", "[B", true)
  | 59 => ("CodeFoundryModel", "isCome", "[Z", true)
  | 60 => ("CodeFoundryModel", "locals", "[B", true)
  | 61 => ("CodeFoundryModel", "pile", "[B", true)
  | 62 => ("CodeFoundryModel", "top", "I", false)
  | 63 => ("CodeFoundryModel", "fits", "Z", false)
  | 64 => ("CodeFoundryModel", "faultMethod", "I", false)
  | 65 => ("CodeFoundryModel", "faultAt", "I", false)
  | 66 => ("CodeFoundryModel", "newStates", "[I", true)
  | 67 => ("CodeFoundryModel", "tagOf", "[I", true)
  | 68 => ("CodeFoundryModel", "numberOf", "[I", true)
  | 69 => ("CodeFoundryModel", "oneOf", "[I", true)
  | 70 => ("CodeFoundryModel", "otherOf", "[I", true)
  | 71 => ("CodeFoundryModel", "valueOf", "[J", true)
  | 72 => ("CodeFoundryModel", "textOf", "[Ljava/lang/String;", true)
  | 73 => ("CodeFoundryModel", "needed", "I", false)
  | 74 => ("CodeFoundryModel", "nextNumber", "I", false)
  | 75 => ("CodeFoundryModel", "writing", "[B", false)
  | 76 => ("CodeFoundryModel", "told", "[B", false)
  | 77 => ("CodeFoundryModel", "outSize", "I", false)
  | 78 => ("CodeFoundryModel", "toldSize", "I", false)
  | 79 => ("CodeFoundryModel", "offsets", "[I", true)
  | 80 => ("CodeFoundryModel", "stage", "LCodeFoundryModel$File;", false)
  | 81 => ("CodeFoundryModel", "fieldValues", "[J", true)
  | 82 => ("CodeFoundryModel", "elements", "[I", true)
  | 83 => ("CodeFoundryModel", "arrayFirsts", "[I", true)
  | 84 => ("CodeFoundryModel", "arrayLengths", "[I", true)
  | 85 => ("CodeFoundryModel", "arrays", "I", false)
  | 86 => ("CodeFoundryModel", "elementsMade", "I", false)
  | 87 => ("CodeFoundryModel", "arguments", "[J", true)
  | 88 => ("CodeFoundryModel", "argumentCount", "I", false)
  | 89 => ("CodeFoundryModel", "running", "[I", true)
  | 90 => ("CodeFoundryModel", "places", "[I", true)
  | 91 => ("CodeFoundryModel", "tops", "[I", true)
  | 92 => ("CodeFoundryModel", "slots", "[J", true)
  | 93 => ("CodeFoundryModel", "piles", "[J", true)
  | 94 => ("CodeFoundryModel", "slotTags", "[B", true)
  | 95 => ("CodeFoundryModel", "pileTags", "[B", true)
  | 96 => ("CodeFoundryModel", "strayCount", "I", false)
  | 97 => ("CodeFoundryModel", "frames", "I", false)
  | 98 => ("CodeFoundryModel", "outcome", "I", false)
  | 99 => ("CodeFoundryModel", "errorThrown", "I", false)
  | 100 => ("CodeFoundryModel", "stepsDone", "I", false)
  | 101 => ("CodeFoundryModel", "given", "J", false)
  | 102 => ("CodeFoundryModel", "lastError", "I", false)
  | 103 => ("CodeFoundryModel", "blockStart", "[I", true)
  | 104 => ("CodeFoundryModel", "blockOf", "[I", true)
  | 105 => ("CodeFoundryModel", "blockCount", "I", false)
  | 106 => ("CodeFoundryModel", "graphFile", "I", false)
  | 107 => ("CodeFoundryModel", "graphMethod", "I", false)
  | 108 => ("CodeFoundryModel", "edgeFirst", "[I", true)
  | 109 => ("CodeFoundryModel", "edgeTo", "[I", true)
  | 110 => ("CodeFoundryModel", "edgeCount", "I", false)
  | 111 => ("CodeFoundryModel", "isReached", "[Z", true)
  | 112 => ("CodeFoundryModel", "above", "[I", true)
  | 113 => ("CodeFoundryModel", "nearest", "[I", true)
  | 114 => ("CodeFoundryModel", "isHead", "[Z", true)
  | 115 => ("CodeFoundryModel", "depths", "[I", true)
  | 116 => ("CodeFoundryModel", "isMarked", "[Z", true)
  | 117 => ("CodeFoundryModel", "ranks", "[I", true)
  | 118 => ("CodeFoundryModel", "draft", "LCodeFoundryModel$File;", true)
  | 119 => ("CodeFoundryModel", "draftRows", "[I", true)
  | 120 => ("CodeFoundryModel", "draftTables", "[I", true)
  | 121 => ("CodeFoundryModel", "draftCatches", "[I", true)
  | 122 => ("CodeFoundryModel", "draftCount", "I", false)
  | 123 => ("CodeFoundryModel", "draftCatchCount", "I", false)
  | 124 => ("CodeFoundryModel", "didRule", "[I", true)
  | 125 => ("CodeFoundryModel", "ops", "[I", true)
  | 126 => ("CodeFoundryModel", "ones", "[I", true)
  | 127 => ("CodeFoundryModel", "others", "[I", true)
  | 128 => ("CodeFoundryModel", "gone", "[Z", true)
  | 129 => ("CodeFoundryModel", "size", "I", false)
  | 130 => ("CodeFoundryModel", "froms", "[I", true)
  | 131 => ("CodeFoundryModel", "tos", "[I", true)
  | 132 => ("CodeFoundryModel", "bys", "[I", true)
  | 133 => ("CodeFoundryModel", "errors", "[I", true)
  | 134 => ("CodeFoundryModel", "isOut", "[Z", true)
  | 135 => ("CodeFoundryModel", "caughtCount", "I", false)
  | 136 => ("CodeFoundryModel", "aimed", "[Z", true)
  | 137 => ("CodeFoundryModel", "isMet", "[Z", true)
  | 138 => ("CodeFoundryModel", "seenBy", "[I", true)
  | 139 => ("CodeFoundryModel", "seen", "I", false)
  | 140 => ("CodeFoundryModel", "liveBefore", "[I", true)
  | 141 => ("CodeFoundryModel", "newPlaces", "[I", true)
  | _ => ("CodeFoundryModel", "rowOf", "[I", true)
def tyX14 : Nat → FieldType := fun k => match k with
  | 0 => .array (.object "CodeFoundryModel$File")
  | 1 => .int
  | 2 => .int
  | 3 => .array .byte
  | 4 => .int
  | 5 => .int
  | 6 => .object "java/lang/IllegalStateException"
  | 7 => .int
  | 8 => .int
  | 9 => .int
  | 10 => .int
  | 11 => .array .byte
  | 12 => .int
  | 13 => .int
  | 14 => .int
  | 15 => .array .int
  | 16 => .array .int
  | 17 => .array .int
  | 18 => .array .int
  | 19 => .array .long
  | 20 => .int
  | 21 => .int
  | 22 => .int
  | 23 => .int
  | 24 => .array .int
  | 25 => .int
  | 26 => .array .int
  | 27 => .array .int
  | 28 => .int
  | 29 => .array .int
  | 30 => .array .int
  | 31 => .array .int
  | 32 => .array .int
  | 33 => .array .int
  | 34 => .array .int
  | 35 => .int
  | 36 => .int
  | 37 => .int
  | 38 => .array .int
  | 39 => .int
  | 40 => .array .int
  | 41 => .int
  | 42 => .array .int
  | 43 => .int
  | 44 => .array .int
  | 45 => .int
  | 46 => .int
  | 47 => .object "CodeFoundryModel$File"
  | 48 => .array .int
  | 49 => .array .int
  | 50 => .array .int
  | 51 => .int
  | 52 => .int
  | 53 => .int
  | 54 => .int
  | 55 => .array .int
  | 56 => .int
  | 57 => .boolean
  | 58 => .array .byte
  | 59 => .array .boolean
  | 60 => .array .byte
  | 61 => .array .byte
  | 62 => .int
  | 63 => .boolean
  | 64 => .int
  | 65 => .int
  | 66 => .array .int
  | 67 => .array .int
  | 68 => .array .int
  | 69 => .array .int
  | 70 => .array .int
  | 71 => .array .long
  | 72 => .array (.object "java/lang/String")
  | 73 => .int
  | 74 => .int
  | 75 => .array .byte
  | 76 => .array .byte
  | 77 => .int
  | 78 => .int
  | 79 => .array .int
  | 80 => .object "CodeFoundryModel$File"
  | 81 => .array .long
  | 82 => .array .int
  | 83 => .array .int
  | 84 => .array .int
  | 85 => .int
  | 86 => .int
  | 87 => .array .long
  | 88 => .int
  | 89 => .array .int
  | 90 => .array .int
  | 91 => .array .int
  | 92 => .array .long
  | 93 => .array .long
  | 94 => .array .byte
  | 95 => .array .byte
  | 96 => .int
  | 97 => .int
  | 98 => .int
  | 99 => .int
  | 100 => .int
  | 101 => .long
  | 102 => .int
  | 103 => .array .int
  | 104 => .array .int
  | 105 => .int
  | 106 => .int
  | 107 => .int
  | 108 => .array .int
  | 109 => .array .int
  | 110 => .int
  | 111 => .array .boolean
  | 112 => .array .int
  | 113 => .array .int
  | 114 => .array .boolean
  | 115 => .array .int
  | 116 => .array .boolean
  | 117 => .array .int
  | 118 => .object "CodeFoundryModel$File"
  | 119 => .array .int
  | 120 => .array .int
  | 121 => .array .int
  | 122 => .int
  | 123 => .int
  | 124 => .array .int
  | 125 => .array .int
  | 126 => .array .int
  | 127 => .array .int
  | 128 => .array .boolean
  | 129 => .int
  | 130 => .array .int
  | 131 => .array .int
  | 132 => .array .int
  | 133 => .array .int
  | 134 => .array .boolean
  | 135 => .int
  | 136 => .array .boolean
  | 137 => .array .boolean
  | 138 => .array .int
  | 139 => .int
  | 140 => .array .int
  | 141 => .array .int
  | _ => .array .int
theorem nmX14 : ∀ a, a < 143 → ∀ b, b < 143 → a ≠ b → (TX14 a).2.1 ≠ (TX14 b).2.1 := by decide +kernel
theorem tyX14_ok : ∀ k, k < 143 → parseFieldDescriptor (TX14 k).2.2.1 = some (tyX14 k) := by decide +kernel
def RX2 : String := "CodeFoundry$CodeReader"
def TX2 : u_T := fun k => match k with
  | 0 => ("CodeFoundry$CodeReader", "file", "LCodeFoundry$Reader;", true)
  | 1 => ("CodeFoundry$CodeReader", "code", "I", false)
  | 2 => ("CodeFoundry$CodeReader", "size", "I", false)
  | 3 => ("CodeFoundry$CodeReader", "maxStack", "I", false)
  | 4 => ("CodeFoundry$CodeReader", "maxLocals", "I", false)
  | 5 => ("CodeFoundry$CodeReader", "catchesAt", "I", false)
  | 6 => ("CodeFoundry$CodeReader", "catchCount", "I", false)
  | 7 => ("CodeFoundry$CodeReader", "numberAt", "[I", true)
  | 8 => ("CodeFoundry$CodeReader", "instructions", "I", false)
  | 9 => ("CodeFoundry$CodeReader", "op", "I", false)
  | 10 => ("CodeFoundry$CodeReader", "arg", "J", false)
  | _ => ("CodeFoundry$CodeReader", "offset", "I", false)
def tyX2 : Nat → FieldType := fun k => match k with
  | 0 => .object "CodeFoundry$Reader"
  | 1 => .int
  | 2 => .int
  | 3 => .int
  | 4 => .int
  | 5 => .int
  | 6 => .int
  | 7 => .array .int
  | 8 => .int
  | 9 => .int
  | 10 => .long
  | _ => .int
theorem nmX2 : ∀ a, a < 12 → ∀ b, b < 12 → a ≠ b → (TX2 a).2.1 ≠ (TX2 b).2.1 := by decide +kernel
theorem tyX2_ok : ∀ k, k < 12 → parseFieldDescriptor (TX2 k).2.2.1 = some (tyX2 k) := by decide +kernel
def RX3 : String := "CodeFoundry$Graph"
def TX3 : u_T := fun k => match k with
  | 0 => ("CodeFoundry$Graph", "row", "LCodeFoundry$Row;", false)
  | 1 => ("CodeFoundry$Graph", "count", "I", false)
  | 2 => ("CodeFoundry$Graph", "start", "[I", false)
  | 3 => ("CodeFoundry$Graph", "blockOf", "[I", false)
  | 4 => ("CodeFoundry$Graph", "edgeAt", "[I", false)
  | 5 => ("CodeFoundry$Graph", "edges", "[I", false)
  | 6 => ("CodeFoundry$Graph", "backAt", "[I", false)
  | 7 => ("CodeFoundry$Graph", "backs", "[I", false)
  | 8 => ("CodeFoundry$Graph", "reached", "[Z", false)
  | 9 => ("CodeFoundry$Graph", "dominators", "[J", false)
  | 10 => ("CodeFoundry$Graph", "words", "I", false)
  | 11 => ("CodeFoundry$Graph", "dominator", "[I", false)
  | 12 => ("CodeFoundry$Graph", "latches", "[I", false)
  | 13 => ("CodeFoundry$Graph", "depth", "[I", false)
  | 14 => ("CodeFoundry$Graph", "seen", "[I", false)
  | _ => ("CodeFoundry$Graph", "waiting", "[I", false)
def tyX3 : Nat → FieldType := fun k => match k with
  | 0 => .object "CodeFoundry$Row"
  | 1 => .int
  | 2 => .array .int
  | 3 => .array .int
  | 4 => .array .int
  | 5 => .array .int
  | 6 => .array .int
  | 7 => .array .int
  | 8 => .array .boolean
  | 9 => .array .long
  | 10 => .int
  | 11 => .array .int
  | 12 => .array .int
  | 13 => .array .int
  | 14 => .array .int
  | _ => .array .int
theorem nmX3 : ∀ a, a < 16 → ∀ b, b < 16 → a ≠ b → (TX3 a).2.1 ≠ (TX3 b).2.1 := by decide +kernel
theorem tyX3_ok : ∀ k, k < 16 → parseFieldDescriptor (TX3 k).2.2.1 = some (tyX3 k) := by decide +kernel
def RX4 : String := "CodeFoundry$Heights"
def TX4 : u_T := fun k => match k with
  | 0 => ("CodeFoundry$Heights", "come", "[I", false)
  | 1 => ("CodeFoundry$Heights", "waiting", "[I", false)
  | 2 => ("CodeFoundry$Heights", "wrong", "[Z", false)
  | 3 => ("CodeFoundry$Heights", "unit", "LCodeFoundry$Unit;", false)
  | 4 => ("CodeFoundry$Heights", "row", "LCodeFoundry$Row;", false)
  | 5 => ("CodeFoundry$Heights", "limit", "I", false)
  | 6 => ("CodeFoundry$Heights", "changed", "Z", false)
  | _ => ("CodeFoundry$Heights", "most", "I", false)
def tyX4 : Nat → FieldType := fun k => match k with
  | 0 => .array .int
  | 1 => .array .int
  | 2 => .array .boolean
  | 3 => .object "CodeFoundry$Unit"
  | 4 => .object "CodeFoundry$Row"
  | 5 => .int
  | 6 => .boolean
  | _ => .int
theorem nmX4 : ∀ a, a < 8 → ∀ b, b < 8 → a ≠ b → (TX4 a).2.1 ≠ (TX4 b).2.1 := by decide +kernel
theorem tyX4_ok : ∀ k, k < 8 → parseFieldDescriptor (TX4 k).2.2.1 = some (tyX4 k) := by decide +kernel
def RX5 : String := "CodeFoundry$Machine"
def TX5 : u_T := fun k => match k with
  | 0 => ("CodeFoundry$Machine", "unit", "LCodeFoundry$Unit;", false)
  | 1 => ("CodeFoundry$Machine", "fields", "[J", true)
  | 2 => ("CodeFoundry$Machine", "heap", "[I", false)
  | 3 => ("CodeFoundry$Machine", "heapUsed", "I", false)
  | 4 => ("CodeFoundry$Machine", "arrayAt", "[I", false)
  | 5 => ("CodeFoundry$Machine", "arrays", "I", false)
  | 6 => ("CodeFoundry$Machine", "arguments", "[J", true)
  | 7 => ("CodeFoundry$Machine", "argumentCount", "I", false)
  | 8 => ("CodeFoundry$Machine", "locals", "[J", false)
  | 9 => ("CodeFoundry$Machine", "stack", "[J", false)
  | 10 => ("CodeFoundry$Machine", "frames", "[I", true)
  | 11 => ("CodeFoundry$Machine", "depth", "I", false)
  | 12 => ("CodeFoundry$Machine", "row", "LCodeFoundry$Row;", false)
  | 13 => ("CodeFoundry$Machine", "pc", "I", false)
  | 14 => ("CodeFoundry$Machine", "top", "I", false)
  | 15 => ("CodeFoundry$Machine", "outcome", "I", false)
  | 16 => ("CodeFoundry$Machine", "lastResult", "J", false)
  | 17 => ("CodeFoundry$Machine", "lastError", "I", false)
  | 18 => ("CodeFoundry$Machine", "lastSteps", "I", false)
  | _ => ("CodeFoundry$Machine", "strays", "I", false)
def tyX5 : Nat → FieldType := fun k => match k with
  | 0 => .object "CodeFoundry$Unit"
  | 1 => .array .long
  | 2 => .array .int
  | 3 => .int
  | 4 => .array .int
  | 5 => .int
  | 6 => .array .long
  | 7 => .int
  | 8 => .array .long
  | 9 => .array .long
  | 10 => .array .int
  | 11 => .int
  | 12 => .object "CodeFoundry$Row"
  | 13 => .int
  | 14 => .int
  | 15 => .int
  | 16 => .long
  | 17 => .int
  | 18 => .int
  | _ => .int
theorem nmX5 : ∀ a, a < 20 → ∀ b, b < 20 → a ≠ b → (TX5 a).2.1 ≠ (TX5 b).2.1 := by decide +kernel
theorem tyX5_ok : ∀ k, k < 20 → parseFieldDescriptor (TX5 k).2.2.1 = some (tyX5 k) := by decide +kernel
def RX7 : String := "CodeFoundry$Reader"
def TX7 : u_T := fun k => match k with
  | 0 => ("CodeFoundry$Reader", "data", "[B", false)
  | 1 => ("CodeFoundry$Reader", "end", "I", false)
  | 2 => ("CodeFoundry$Reader", "brokenRule", "I", false)
  | 3 => ("CodeFoundry$Reader", "brokenPlace", "I", false)
  | 4 => ("CodeFoundry$Reader", "entry", "[I", true)
  | 5 => ("CodeFoundry$Reader", "poolCount", "I", false)
  | 6 => ("CodeFoundry$Reader", "headAt", "I", false)
  | 7 => ("CodeFoundry$Reader", "fieldCount", "I", false)
  | 8 => ("CodeFoundry$Reader", "methodCount", "I", false)
  | 9 => ("CodeFoundry$Reader", "memberAt", "[I", true)
  | 10 => ("CodeFoundry$Reader", "codeAt", "[I", true)
  | 11 => ("CodeFoundry$Reader", "codeEnd", "[I", true)
  | 12 => ("CodeFoundry$Reader", "takes", "I", false)
  | 13 => ("CodeFoundry$Reader", "places", "I", false)
  | 14 => ("CodeFoundry$Reader", "gives", "I", false)
  | 15 => ("CodeFoundry$Reader", "p", "I", false)
  | _ => ("CodeFoundry$Reader", "attributesAt", "I", false)
def tyX7 : Nat → FieldType := fun k => match k with
  | 0 => .array .byte
  | 1 => .int
  | 2 => .int
  | 3 => .int
  | 4 => .array .int
  | 5 => .int
  | 6 => .int
  | 7 => .int
  | 8 => .int
  | 9 => .array .int
  | 10 => .array .int
  | 11 => .array .int
  | 12 => .int
  | 13 => .int
  | 14 => .int
  | 15 => .int
  | _ => .int
theorem nmX7 : ∀ a, a < 17 → ∀ b, b < 17 → a ≠ b → (TX7 a).2.1 ≠ (TX7 b).2.1 := by decide +kernel
theorem tyX7_ok : ∀ k, k < 17 → parseFieldDescriptor (TX7 k).2.2.1 = some (tyX7 k) := by decide +kernel
def RX8 : String := "CodeFoundry$Row"
def TX8 : u_T := fun k => match k with
  | 0 => ("CodeFoundry$Row", "op", "[I", false)
  | 1 => ("CodeFoundry$Row", "arg", "[J", false)
  | 2 => ("CodeFoundry$Row", "count", "I", false)
  | 3 => ("CodeFoundry$Row", "table", "[I", false)
  | 4 => ("CodeFoundry$Row", "tableCount", "I", false)
  | 5 => ("CodeFoundry$Row", "catchFrom", "[I", false)
  | 6 => ("CodeFoundry$Row", "catchTo", "[I", false)
  | 7 => ("CodeFoundry$Row", "catchAt", "[I", false)
  | 8 => ("CodeFoundry$Row", "catchKind", "[I", false)
  | 9 => ("CodeFoundry$Row", "catchCount", "I", false)
  | 10 => ("CodeFoundry$Row", "maxStack", "I", false)
  | 11 => ("CodeFoundry$Row", "number", "I", false)
  | 12 => ("CodeFoundry$Row", "heights", "[B", false)
  | 13 => ("CodeFoundry$Row", "lowLocals", "[J", false)
  | _ => ("CodeFoundry$Row", "highLocals", "[J", false)
def tyX8 : Nat → FieldType := fun k => match k with
  | 0 => .array .int
  | 1 => .array .long
  | 2 => .int
  | 3 => .array .int
  | 4 => .int
  | 5 => .array .int
  | 6 => .array .int
  | 7 => .array .int
  | 8 => .array .int
  | 9 => .int
  | 10 => .int
  | 11 => .int
  | 12 => .array .byte
  | 13 => .array .long
  | _ => .array .long
theorem nmX8 : ∀ a, a < 15 → ∀ b, b < 15 → a ≠ b → (TX8 a).2.1 ≠ (TX8 b).2.1 := by decide +kernel
theorem tyX8_ok : ∀ k, k < 15 → parseFieldDescriptor (TX8 k).2.2.1 = some (tyX8 k) := by decide +kernel
def RX9 : String := "CodeFoundry$Smith"
def TX9 : u_T := fun k => match k with
  | 0 => ("CodeFoundry$Smith", "row", "LCodeFoundry$Row;", false)
  | 1 => ("CodeFoundry$Smith", "applied", "[I", true)
  | 2 => ("CodeFoundry$Smith", "marked", "[Z", false)
  | 3 => ("CodeFoundry$Smith", "reached", "[Z", false)
  | 4 => ("CodeFoundry$Smith", "live", "[I", false)
  | _ => ("CodeFoundry$Smith", "newPlace", "[I", false)
def tyX9 : Nat → FieldType := fun k => match k with
  | 0 => .object "CodeFoundry$Row"
  | 1 => .array .int
  | 2 => .array .boolean
  | 3 => .array .boolean
  | 4 => .array .int
  | _ => .array .int
theorem nmX9 : ∀ a, a < 6 → ∀ b, b < 6 → a ≠ b → (TX9 a).2.1 ≠ (TX9 b).2.1 := by decide +kernel
theorem tyX9_ok : ∀ k, k < 6 → parseFieldDescriptor (TX9 k).2.2.1 = some (tyX9 k) := by decide +kernel
def yJ7_fill_53178 : MethodName := ⟨RJ7, "fill", "([II)V"⟩
abbrev cJ7_fill_53178 : ByteArray := prog_31_method_103_code
def yX0_init : MethodName := ⟨RX0, "<init>", "()V"⟩
abbrev cX0_init : ByteArray := prog_2_method_1_code
def yX0_put : MethodName := ⟨RX0, "put", "(I)V"⟩
abbrev cX0_put : ByteArray := prog_2_method_2_code
def yX0_put2 : MethodName := ⟨RX0, "put2", "(I)V"⟩
abbrev cX0_put2 : ByteArray := prog_2_method_3_code
def yX0_put4 : MethodName := ⟨RX0, "put4", "(I)V"⟩
abbrev cX0_put4 : ByteArray := prog_2_method_4_code
def yX11_init : MethodName := ⟨RX11, "<init>", "()V"⟩
abbrev cX11_init : ByteArray := prog_13_method_1_code
def yX12_applied : MethodName := ⟨RX12, "applied", "(I)I"⟩
abbrev cX12_applied : ByteArray := prog_1_method_29_code
def yX12_argument : MethodName := ⟨RX12, "argument", "(J)I"⟩
abbrev cX12_argument : ByteArray := prog_1_method_17_code
def yX12_arrayLength : MethodName := ⟨RX12, "arrayLength", "(I)I"⟩
abbrev cX12_arrayLength : ByteArray := prog_1_method_24_code
def yX12_at : MethodName := ⟨RX12, "at", "()I"⟩
abbrev cX12_at : ByteArray := prog_1_method_11_code
def yX12_block : MethodName := ⟨RX12, "block", "(IIII)I"⟩
abbrev cX12_block : ByteArray := prog_1_method_26_code
def yX12_blocks : MethodName := ⟨RX12, "blocks", "(II)I"⟩
abbrev cX12_blocks : ByteArray := prog_1_method_25_code
def yX12_byteAt : MethodName := ⟨RX12, "byteAt", "(I)I"⟩
abbrev cX12_byteAt : ByteArray := prog_1_method_15_code
def yX12_count : MethodName := ⟨RX12, "count", "(I)I"⟩
abbrev cX12_count : ByteArray := prog_1_method_30_code
def yX12_edge : MethodName := ⟨RX12, "edge", "(IIII)Z"⟩
abbrev cX12_edge : ByteArray := prog_1_method_27_code
def yX12_element : MethodName := ⟨RX12, "element", "(II)I"⟩
abbrev cX12_element : ByteArray := prog_1_method_23_code
def yX12_end : MethodName := ⟨RX12, "end", "(I)Z"⟩
abbrev cX12_end : ByteArray := prog_1_method_3_code
def yX12_error : MethodName := ⟨RX12, "error", "()I"⟩
abbrev cX12_error : ByteArray := prog_1_method_20_code
def yX12_feed : MethodName := ⟨RX12, "feed", "(IIIII)I"⟩
abbrev cX12_feed : ByteArray := prog_1_method_2_code
def yX12_field : MethodName := ⟨RX12, "field", "(I)J"⟩
abbrev cX12_field : ByteArray := prog_1_method_22_code
def yX12_height : MethodName := ⟨RX12, "height", "(III)I"⟩
abbrev cX12_height : ByteArray := prog_1_method_12_code
def yX12_improve : MethodName := ⟨RX12, "improve", "(II)I"⟩
abbrev cX12_improve : ByteArray := prog_1_method_28_code
def yX12_init : MethodName := ⟨RX12, "<init>", "()V"⟩
abbrev cX12_init : ByteArray := prog_1_method_1_code
def yX12_length : MethodName := ⟨RX12, "length", "(II)I"⟩
abbrev cX12_length : ByteArray := prog_1_method_8_code
def yX12_local : MethodName := ⟨RX12, "local", "(IIII)I"⟩
abbrev cX12_local : ByteArray := prog_1_method_13_code
def yX12_method : MethodName := ⟨RX12, "method", "()I"⟩
abbrev cX12_method : ByteArray := prog_1_method_10_code
def yX12_place : MethodName := ⟨RX12, "place", "()I"⟩
abbrev cX12_place : ByteArray := prog_1_method_6_code
def yX12_result : MethodName := ⟨RX12, "result", "()J"⟩
abbrev cX12_result : ByteArray := prog_1_method_19_code
def yX12_rowAt : MethodName := ⟨RX12, "rowAt", "(II)LCodeFoundry$Row;"⟩
abbrev cX12_rowAt : ByteArray := prog_1_method_34_code
def yX12_rule : MethodName := ⟨RX12, "rule", "()I"⟩
abbrev cX12_rule : ByteArray := prog_1_method_5_code
def yX12_run : MethodName := ⟨RX12, "run", "(II)I"⟩
abbrev cX12_run : ByteArray := prog_1_method_18_code
def yX12_size : MethodName := ⟨RX12, "size", "(II)I"⟩
abbrev cX12_size : ByteArray := prog_1_method_7_code
def yX12_soundUnitAt : MethodName := ⟨RX12, "soundUnitAt", "(I)LCodeFoundry$Unit;"⟩
abbrev cX12_soundUnitAt : ByteArray := prog_1_method_33_code
def yX12_stage : MethodName := ⟨RX12, "stage", "(I)Z"⟩
abbrev cX12_stage : ByteArray := prog_1_method_16_code
def yX12_steps : MethodName := ⟨RX12, "steps", "()I"⟩
abbrev cX12_steps : ByteArray := prog_1_method_21_code
def yX12_strays : MethodName := ⟨RX12, "strays", "()I"⟩
abbrev cX12_strays : ByteArray := prog_1_method_31_code
def yX12_unitAt : MethodName := ⟨RX12, "unitAt", "(I)LCodeFoundry$Unit;"⟩
abbrev cX12_unitAt : ByteArray := prog_1_method_32_code
def yX12_verify : MethodName := ⟨RX12, "verify", "(I)I"⟩
abbrev cX12_verify : ByteArray := prog_1_method_9_code
def yX12_write : MethodName := ⟨RX12, "write", "(I)I"⟩
abbrev cX12_write : ByteArray := prog_1_method_14_code
def yX13_init : MethodName := ⟨RX13, "<init>", "()V"⟩
abbrev cX13_init : ByteArray := prog_16_method_1_code
def yX1_init : MethodName := ⟨RX1, "<init>", "()V"⟩
abbrev cX1_init : ByteArray := prog_3_method_1_code
def yX2_init : MethodName := ⟨RX2, "<init>", "()V"⟩
abbrev cX2_init : ByteArray := prog_4_method_1_code
def yX3_init : MethodName := ⟨RX3, "<init>", "()V"⟩
abbrev cX3_init : ByteArray := prog_5_method_1_code
def yX4_init : MethodName := ⟨RX4, "<init>", "()V"⟩
abbrev cX4_init : ByteArray := prog_6_method_1_code
def yX5_addArgument : MethodName := ⟨RX5, "addArgument", "(J)I"⟩
abbrev cX5_addArgument : ByteArray := prog_7_method_3_code
def yX5_elementAt : MethodName := ⟨RX5, "elementAt", "(II)I"⟩
abbrev cX5_elementAt : ByteArray := prog_7_method_6_code
def yX5_fieldAt : MethodName := ⟨RX5, "fieldAt", "(I)J"⟩
abbrev cX5_fieldAt : ByteArray := prog_7_method_4_code
def yX5_init : MethodName := ⟨RX5, "<init>", "()V"⟩
abbrev cX5_init : ByteArray := prog_7_method_1_code
def yX5_isArray : MethodName := ⟨RX5, "isArray", "(J)Z"⟩
abbrev cX5_isArray : ByteArray := prog_7_method_7_code
def yX5_lengthOf : MethodName := ⟨RX5, "lengthOf", "(I)I"⟩
abbrev cX5_lengthOf : ByteArray := prog_7_method_5_code
def yX5_refusal : MethodName := ⟨RX5, "refusal", "(II)I"⟩
abbrev cX5_refusal : ByteArray := prog_7_method_10_code
def yX7_init : MethodName := ⟨RX7, "<init>", "()V"⟩
abbrev cX7_init : ByteArray := prog_9_method_1_code
def yX8_init : MethodName := ⟨RX8, "<init>", "(III)V"⟩
abbrev cX8_init : ByteArray := prog_10_method_1_code
def yX9_appliedAt : MethodName := ⟨RX9, "appliedAt", "(I)I"⟩
abbrev cX9_appliedAt : ByteArray := prog_11_method_3_code
def yX9_forgetApplied : MethodName := ⟨RX9, "forgetApplied", "()V"⟩
abbrev cX9_forgetApplied : ByteArray := prog_11_method_2_code
def yX9_init : MethodName := ⟨RX9, "<init>", "()V"⟩
abbrev cX9_init : ByteArray := prog_11_method_1_code
def cl0 : List vw_C := [(RX0, TX0, 2), (RX1, TX1, 10), (RX2, TX2, 12), (RX3, TX3, 16), (RX4, TX4, 8), (RX5, TX5, 20), (RX7, TX7, 17), (RX8, TX8, 15), (RX9, TX9, 6), (RX11, TX11, 18), (RX12, TX12, 18), (RX13, TX13, 23), (RX14, TX14, 143), (RJxb5711, TJxb5711, 0)]
end
section
theorem dJ7_fill_53178_0 : decode cJ7_fill_53178 0 = .ok (.iconst 0, 1) := by decide +kernel
theorem dJ7_fill_53178_1 : decode cJ7_fill_53178 1 = .ok (.istore_n 2, 1) := by decide +kernel
theorem dJ7_fill_53178_2 : decode cJ7_fill_53178 2 = .ok (.aload_n 0, 1) := by decide +kernel
theorem dJ7_fill_53178_3 : decode cJ7_fill_53178 3 = .ok (.arraylength, 1) := by decide +kernel
theorem dJ7_fill_53178_4 : decode cJ7_fill_53178 4 = .ok (.istore_n 3, 1) := by decide +kernel
theorem dJ7_fill_53178_5 : decode cJ7_fill_53178 5 = .ok (.iload_n 2, 1) := by decide +kernel
theorem dJ7_fill_53178_6 : decode cJ7_fill_53178 6 = .ok (.iload_n 3, 1) := by decide +kernel
theorem dJ7_fill_53178_7 : decode cJ7_fill_53178 7 = .ok (.if_icmp .ge 13, 3) := by decide +kernel
theorem dJ7_fill_53178_10 : decode cJ7_fill_53178 10 = .ok (.aload_n 0, 1) := by decide +kernel
theorem dJ7_fill_53178_11 : decode cJ7_fill_53178 11 = .ok (.iload_n 2, 1) := by decide +kernel
theorem dJ7_fill_53178_12 : decode cJ7_fill_53178 12 = .ok (.iload_n 1, 1) := by decide +kernel
theorem dJ7_fill_53178_13 : decode cJ7_fill_53178 13 = .ok (.iastore, 1) := by decide +kernel
theorem dJ7_fill_53178_14 : decode cJ7_fill_53178 14 = .ok (.iinc 2 1, 3) := by decide +kernel
theorem dJ7_fill_53178_17 : decode cJ7_fill_53178 17 = .ok (.goto (-12), 3) := by decide +kernel
theorem dJ7_fill_53178_20 : decode cJ7_fill_53178 20 = .ok (.return_, 1) := by decide +kernel
theorem dX0_init_0 : decode cX0_init 0 = .ok (.aload_n 0, 1) := by decide +kernel
theorem dX0_init_1 : decode cX0_init 1 = .ok (.invokespecial 1, 3) := by decide +kernel
theorem dX0_init_4 : decode cX0_init 4 = .ok (.aload_n 0, 1) := by decide +kernel
theorem dX0_init_5 : decode cX0_init 5 = .ok (.bipush 64, 2) := by decide +kernel
theorem dX0_init_7 : decode cX0_init 7 = .ok (.newarray .byte, 2) := by decide +kernel
theorem dX0_init_9 : decode cX0_init 9 = .ok (.putfield 7, 3) := by decide +kernel
theorem dX0_init_12 : decode cX0_init 12 = .ok (.return_, 1) := by decide +kernel
theorem dX0_put_0 : decode cX0_put 0 = .ok (.aload_n 0, 1) := by decide +kernel
theorem dX0_put_1 : decode cX0_put 1 = .ok (.getfield 13, 3) := by decide +kernel
theorem dX0_put_4 : decode cX0_put 4 = .ok (.aload_n 0, 1) := by decide +kernel
theorem dX0_put_5 : decode cX0_put 5 = .ok (.getfield 7, 3) := by decide +kernel
theorem dX0_put_8 : decode cX0_put 8 = .ok (.arraylength, 1) := by decide +kernel
theorem dX0_put_9 : decode cX0_put 9 = .ok (.if_icmp .lt 21, 3) := by decide +kernel
theorem dX0_put_30 : decode cX0_put 30 = .ok (.aload_n 0, 1) := by decide +kernel
theorem dX0_put_31 : decode cX0_put 31 = .ok (.getfield 7, 3) := by decide +kernel
theorem dX0_put_34 : decode cX0_put 34 = .ok (.aload_n 0, 1) := by decide +kernel
theorem dX0_put_35 : decode cX0_put 35 = .ok (.getfield 13, 3) := by decide +kernel
theorem dX0_put_38 : decode cX0_put 38 = .ok (.iload_n 1, 1) := by decide +kernel
theorem dX0_put_39 : decode cX0_put 39 = .ok (.i2b, 1) := by decide +kernel
theorem dX0_put_40 : decode cX0_put 40 = .ok (.bastore, 1) := by decide +kernel
theorem dX0_put_41 : decode cX0_put 41 = .ok (.aload_n 0, 1) := by decide +kernel
theorem dX0_put_42 : decode cX0_put 42 = .ok (.dup, 1) := by decide +kernel
theorem dX0_put_43 : decode cX0_put 43 = .ok (.getfield 13, 3) := by decide +kernel
theorem dX0_put_46 : decode cX0_put 46 = .ok (.iconst 1, 1) := by decide +kernel
theorem dX0_put_47 : decode cX0_put 47 = .ok (.iadd, 1) := by decide +kernel
theorem dX0_put_48 : decode cX0_put 48 = .ok (.putfield 13, 3) := by decide +kernel
theorem dX0_put_51 : decode cX0_put 51 = .ok (.return_, 1) := by decide +kernel
theorem dX0_put2_0 : decode cX0_put2 0 = .ok (.aload_n 0, 1) := by decide +kernel
theorem dX0_put2_1 : decode cX0_put2 1 = .ok (.iload_n 1, 1) := by decide +kernel
theorem dX0_put2_2 : decode cX0_put2 2 = .ok (.bipush 8, 2) := by decide +kernel
theorem dX0_put2_4 : decode cX0_put2 4 = .ok (.ishr, 1) := by decide +kernel
theorem dX0_put2_5 : decode cX0_put2 5 = .ok (.invokevirtual 23, 3) := by decide +kernel
theorem dX0_put2_8 : decode cX0_put2 8 = .ok (.aload_n 0, 1) := by decide +kernel
theorem dX0_put2_9 : decode cX0_put2 9 = .ok (.iload_n 1, 1) := by decide +kernel
theorem dX0_put2_10 : decode cX0_put2 10 = .ok (.invokevirtual 23, 3) := by decide +kernel
theorem dX0_put2_13 : decode cX0_put2 13 = .ok (.return_, 1) := by decide +kernel
theorem dX0_put4_0 : decode cX0_put4 0 = .ok (.aload_n 0, 1) := by decide +kernel
theorem dX0_put4_1 : decode cX0_put4 1 = .ok (.iload_n 1, 1) := by decide +kernel
theorem dX0_put4_2 : decode cX0_put4 2 = .ok (.bipush 16, 2) := by decide +kernel
theorem dX0_put4_4 : decode cX0_put4 4 = .ok (.ishr, 1) := by decide +kernel
theorem dX0_put4_5 : decode cX0_put4 5 = .ok (.invokevirtual 27, 3) := by decide +kernel
theorem dX0_put4_8 : decode cX0_put4 8 = .ok (.aload_n 0, 1) := by decide +kernel
theorem dX0_put4_9 : decode cX0_put4 9 = .ok (.iload_n 1, 1) := by decide +kernel
theorem dX0_put4_10 : decode cX0_put4 10 = .ok (.invokevirtual 27, 3) := by decide +kernel
theorem dX0_put4_13 : decode cX0_put4 13 = .ok (.return_, 1) := by decide +kernel
theorem dX11_init_0 : decode cX11_init 0 = .ok (.aload_n 0, 1) := by decide +kernel
theorem dX11_init_1 : decode cX11_init 1 = .ok (.invokespecial 3, 3) := by decide +kernel
theorem dX11_init_4 : decode cX11_init 4 = .ok (.aload_n 0, 1) := by decide +kernel
theorem dX11_init_5 : decode cX11_init 5 = .ok (.new 9, 3) := by decide +kernel
theorem dX11_init_8 : decode cX11_init 8 = .ok (.dup, 1) := by decide +kernel
theorem dX11_init_9 : decode cX11_init 9 = .ok (.invokespecial 11, 3) := by decide +kernel
theorem dX11_init_12 : decode cX11_init 12 = .ok (.putfield 12, 3) := by decide +kernel
theorem dX11_init_15 : decode cX11_init 15 = .ok (.aload_n 0, 1) := by decide +kernel
theorem dX11_init_16 : decode cX11_init 16 = .ok (.new 9, 3) := by decide +kernel
theorem dX11_init_19 : decode cX11_init 19 = .ok (.dup, 1) := by decide +kernel
theorem dX11_init_20 : decode cX11_init 20 = .ok (.invokespecial 11, 3) := by decide +kernel
theorem dX11_init_23 : decode cX11_init 23 = .ok (.putfield 18, 3) := by decide +kernel
theorem dX11_init_26 : decode cX11_init 26 = .ok (.aload_n 0, 1) := by decide +kernel
theorem dX11_init_27 : decode cX11_init 27 = .ok (.new 9, 3) := by decide +kernel
theorem dX11_init_30 : decode cX11_init 30 = .ok (.dup, 1) := by decide +kernel
theorem dX11_init_31 : decode cX11_init 31 = .ok (.invokespecial 11, 3) := by decide +kernel
theorem dX11_init_34 : decode cX11_init 34 = .ok (.putfield 21, 3) := by decide +kernel
theorem dX11_init_37 : decode cX11_init 37 = .ok (.aload_n 0, 1) := by decide +kernel
theorem dX11_init_38 : decode cX11_init 38 = .ok (.sipush 500, 3) := by decide +kernel
theorem dX11_init_41 : decode cX11_init 41 = .ok (.newarray .int, 2) := by decide +kernel
theorem dX11_init_43 : decode cX11_init 43 = .ok (.putfield 24, 3) := by decide +kernel
theorem dX11_init_46 : decode cX11_init 46 = .ok (.aload_n 0, 1) := by decide +kernel
theorem dX11_init_47 : decode cX11_init 47 = .ok (.sipush 500, 3) := by decide +kernel
theorem dX11_init_50 : decode cX11_init 50 = .ok (.newarray .int, 2) := by decide +kernel
theorem dX11_init_52 : decode cX11_init 52 = .ok (.putfield 28, 3) := by decide +kernel
theorem dX11_init_55 : decode cX11_init 55 = .ok (.aload_n 0, 1) := by decide +kernel
theorem dX11_init_56 : decode cX11_init 56 = .ok (.bipush 24, 2) := by decide +kernel
theorem dX11_init_58 : decode cX11_init 58 = .ok (.newarray .int, 2) := by decide +kernel
theorem dX11_init_60 : decode cX11_init 60 = .ok (.putfield 31, 3) := by decide +kernel
theorem dX11_init_63 : decode cX11_init 63 = .ok (.aload_n 0, 1) := by decide +kernel
theorem dX11_init_64 : decode cX11_init 64 = .ok (.bipush 24, 2) := by decide +kernel
theorem dX11_init_66 : decode cX11_init 66 = .ok (.newarray .int, 2) := by decide +kernel
theorem dX11_init_68 : decode cX11_init 68 = .ok (.putfield 34, 3) := by decide +kernel
theorem dX11_init_71 : decode cX11_init 71 = .ok (.aload_n 0, 1) := by decide +kernel
theorem dX11_init_72 : decode cX11_init 72 = .ok (.bipush 24, 2) := by decide +kernel
theorem dX11_init_74 : decode cX11_init 74 = .ok (.newarray .int, 2) := by decide +kernel
theorem dX11_init_76 : decode cX11_init 76 = .ok (.putfield 37, 3) := by decide +kernel
theorem dX11_init_79 : decode cX11_init 79 = .ok (.aload_n 0, 1) := by decide +kernel
theorem dX11_init_80 : decode cX11_init 80 = .ok (.bipush 24, 2) := by decide +kernel
theorem dX11_init_82 : decode cX11_init 82 = .ok (.newarray .int, 2) := by decide +kernel
theorem dX11_init_84 : decode cX11_init 84 = .ok (.putfield 40, 3) := by decide +kernel
theorem dX11_init_87 : decode cX11_init 87 = .ok (.aload_n 0, 1) := by decide +kernel
theorem dX11_init_88 : decode cX11_init 88 = .ok (.new 43, 3) := by decide +kernel
theorem dX11_init_91 : decode cX11_init 91 = .ok (.dup, 1) := by decide +kernel
theorem dX11_init_92 : decode cX11_init 92 = .ok (.invokespecial 45, 3) := by decide +kernel
theorem dX11_init_95 : decode cX11_init 95 = .ok (.putfield 46, 3) := by decide +kernel
theorem dX11_init_98 : decode cX11_init 98 = .ok (.aload_n 0, 1) := by decide +kernel
theorem dX11_init_99 : decode cX11_init 99 = .ok (.iconst 0, 1) := by decide +kernel
theorem dX11_init_100 : decode cX11_init 100 = .ok (.newarray .int, 2) := by decide +kernel
theorem dX11_init_102 : decode cX11_init 102 = .ok (.putfield 50, 3) := by decide +kernel
theorem dX11_init_105 : decode cX11_init 105 = .ok (.aload_n 0, 1) := by decide +kernel
theorem dX11_init_106 : decode cX11_init 106 = .ok (.iconst 0, 1) := by decide +kernel
theorem dX11_init_107 : decode cX11_init 107 = .ok (.newarray .int, 2) := by decide +kernel
theorem dX11_init_109 : decode cX11_init 109 = .ok (.putfield 53, 3) := by decide +kernel
theorem dX11_init_112 : decode cX11_init 112 = .ok (.return_, 1) := by decide +kernel
theorem dX12_applied_0 : decode cX12_applied 0 = .ok (.aload_n 0, 1) := by decide +kernel
theorem dX12_applied_1 : decode cX12_applied 1 = .ok (.getfield 66, 3) := by decide +kernel
theorem dX12_applied_4 : decode cX12_applied 4 = .ok (.iload_n 1, 1) := by decide +kernel
theorem dX12_applied_5 : decode cX12_applied 5 = .ok (.invokevirtual 244, 3) := by decide +kernel
theorem dX12_applied_8 : decode cX12_applied 8 = .ok (.ireturn, 1) := by decide +kernel
theorem dX12_argument_0 : decode cX12_argument 0 = .ok (.aload_n 0, 1) := by decide +kernel
theorem dX12_argument_1 : decode cX12_argument 1 = .ok (.getfield 52, 3) := by decide +kernel
theorem dX12_argument_4 : decode cX12_argument 4 = .ok (.lload_n 1, 1) := by decide +kernel
theorem dX12_argument_5 : decode cX12_argument 5 = .ok (.invokevirtual 182, 3) := by decide +kernel
theorem dX12_argument_8 : decode cX12_argument 8 = .ok (.ireturn, 1) := by decide +kernel
theorem dX12_arrayLength_0 : decode cX12_arrayLength 0 = .ok (.aload_n 0, 1) := by decide +kernel
theorem dX12_arrayLength_1 : decode cX12_arrayLength 1 = .ok (.getfield 52, 3) := by decide +kernel
theorem dX12_arrayLength_4 : decode cX12_arrayLength 4 = .ok (.iload_n 1, 1) := by decide +kernel
theorem dX12_arrayLength_5 : decode cX12_arrayLength 5 = .ok (.invokevirtual 212, 3) := by decide +kernel
theorem dX12_arrayLength_8 : decode cX12_arrayLength 8 = .ok (.ireturn, 1) := by decide +kernel
theorem dX12_at_0 : decode cX12_at 0 = .ok (.aload_n 0, 1) := by decide +kernel
theorem dX12_at_1 : decode cX12_at 1 = .ok (.getfield 77, 3) := by decide +kernel
theorem dX12_at_4 : decode cX12_at 4 = .ok (.ireturn, 1) := by decide +kernel
theorem dX12_block_0 : decode cX12_block 0 = .ok (.aload_n 0, 1) := by decide +kernel
theorem dX12_block_1 : decode cX12_block 1 = .ok (.iload_n 1, 1) := by decide +kernel
theorem dX12_block_2 : decode cX12_block 2 = .ok (.iload_n 2, 1) := by decide +kernel
theorem dX12_block_3 : decode cX12_block 3 = .ok (.invokevirtual 132, 3) := by decide +kernel
theorem dX12_block_6 : decode cX12_block 6 = .ok (.astore 5, 2) := by decide +kernel
theorem dX12_block_8 : decode cX12_block 8 = .ok (.aload 5, 2) := by decide +kernel
theorem dX12_block_10 : decode cX12_block 10 = .ok (.ifnonnull 5, 3) := by decide +kernel
theorem dX12_block_13 : decode cX12_block 13 = .ok (.iconst (-1), 1) := by decide +kernel
theorem dX12_block_14 : decode cX12_block 14 = .ok (.ireturn, 1) := by decide +kernel
theorem dX12_blocks_0 : decode cX12_blocks 0 = .ok (.aload_n 0, 1) := by decide +kernel
theorem dX12_blocks_1 : decode cX12_blocks 1 = .ok (.iload_n 1, 1) := by decide +kernel
theorem dX12_blocks_2 : decode cX12_blocks 2 = .ok (.iload_n 2, 1) := by decide +kernel
theorem dX12_blocks_3 : decode cX12_blocks 3 = .ok (.invokevirtual 132, 3) := by decide +kernel
theorem dX12_blocks_6 : decode cX12_blocks 6 = .ok (.astore_n 3, 1) := by decide +kernel
theorem dX12_blocks_7 : decode cX12_blocks 7 = .ok (.aload_n 3, 1) := by decide +kernel
theorem dX12_blocks_8 : decode cX12_blocks 8 = .ok (.ifnonnull 5, 3) := by decide +kernel
theorem dX12_blocks_11 : decode cX12_blocks 11 = .ok (.iconst (-1), 1) := by decide +kernel
end
section
theorem dX12_blocks_12 : decode cX12_blocks 12 = .ok (.ireturn, 1) := by decide +kernel
theorem dX12_byteAt_0 : decode cX12_byteAt 0 = .ok (.iload_n 1, 1) := by decide +kernel
theorem dX12_byteAt_1 : decode cX12_byteAt 1 = .ok (.ifCond .lt 14, 3) := by decide +kernel
theorem dX12_byteAt_4 : decode cX12_byteAt 4 = .ok (.iload_n 1, 1) := by decide +kernel
theorem dX12_byteAt_5 : decode cX12_byteAt 5 = .ok (.aload_n 0, 1) := by decide +kernel
theorem dX12_byteAt_6 : decode cX12_byteAt 6 = .ok (.getfield 16, 3) := by decide +kernel
theorem dX12_byteAt_9 : decode cX12_byteAt 9 = .ok (.getfield 83, 3) := by decide +kernel
theorem dX12_byteAt_12 : decode cX12_byteAt 12 = .ok (.if_icmp .lt 7, 3) := by decide +kernel
theorem dX12_byteAt_15 : decode cX12_byteAt 15 = .ok (.iconst (-1), 1) := by decide +kernel
theorem dX12_byteAt_16 : decode cX12_byteAt 16 = .ok (.goto 11, 3) := by decide +kernel
theorem dX12_byteAt_27 : decode cX12_byteAt 27 = .ok (.ireturn, 1) := by decide +kernel
theorem dX12_count_0 : decode cX12_count 0 = .ok (.aload_n 0, 1) := by decide +kernel
theorem dX12_count_1 : decode cX12_count 1 = .ok (.iload_n 1, 1) := by decide +kernel
theorem dX12_count_2 : decode cX12_count 2 = .ok (.invokevirtual 152, 3) := by decide +kernel
theorem dX12_count_5 : decode cX12_count 5 = .ok (.astore_n 2, 1) := by decide +kernel
theorem dX12_count_6 : decode cX12_count 6 = .ok (.aload_n 2, 1) := by decide +kernel
theorem dX12_count_7 : decode cX12_count 7 = .ok (.ifnonnull 5, 3) := by decide +kernel
theorem dX12_count_10 : decode cX12_count 10 = .ok (.iconst (-1), 1) := by decide +kernel
theorem dX12_count_11 : decode cX12_count 11 = .ok (.ireturn, 1) := by decide +kernel
theorem dX12_edge_0 : decode cX12_edge 0 = .ok (.aload_n 0, 1) := by decide +kernel
theorem dX12_edge_1 : decode cX12_edge 1 = .ok (.iload_n 1, 1) := by decide +kernel
theorem dX12_edge_2 : decode cX12_edge 2 = .ok (.iload_n 2, 1) := by decide +kernel
theorem dX12_edge_3 : decode cX12_edge 3 = .ok (.invokevirtual 132, 3) := by decide +kernel
theorem dX12_edge_6 : decode cX12_edge 6 = .ok (.astore 5, 2) := by decide +kernel
theorem dX12_edge_8 : decode cX12_edge 8 = .ok (.aload 5, 2) := by decide +kernel
theorem dX12_edge_10 : decode cX12_edge 10 = .ok (.ifnonnull 5, 3) := by decide +kernel
theorem dX12_edge_13 : decode cX12_edge 13 = .ok (.iconst 0, 1) := by decide +kernel
theorem dX12_edge_14 : decode cX12_edge 14 = .ok (.ireturn, 1) := by decide +kernel
theorem dX12_element_0 : decode cX12_element 0 = .ok (.aload_n 0, 1) := by decide +kernel
theorem dX12_element_1 : decode cX12_element 1 = .ok (.getfield 52, 3) := by decide +kernel
theorem dX12_element_4 : decode cX12_element 4 = .ok (.iload_n 1, 1) := by decide +kernel
theorem dX12_element_5 : decode cX12_element 5 = .ok (.iload_n 2, 1) := by decide +kernel
theorem dX12_element_6 : decode cX12_element 6 = .ok (.invokevirtual 209, 3) := by decide +kernel
theorem dX12_element_9 : decode cX12_element 9 = .ok (.ireturn, 1) := by decide +kernel
theorem dX12_end_0 : decode cX12_end 0 = .ok (.iload_n 1, 1) := by decide +kernel
theorem dX12_end_1 : decode cX12_end 1 = .ok (.ifCond .lt 14, 3) := by decide +kernel
theorem dX12_end_4 : decode cX12_end 4 = .ok (.iload_n 1, 1) := by decide +kernel
theorem dX12_end_5 : decode cX12_end 5 = .ok (.aload_n 0, 1) := by decide +kernel
theorem dX12_end_6 : decode cX12_end 6 = .ok (.getfield 10, 3) := by decide +kernel
theorem dX12_end_9 : decode cX12_end 9 = .ok (.getfield 83, 3) := by decide +kernel
theorem dX12_end_12 : decode cX12_end 12 = .ok (.if_icmp .le 5, 3) := by decide +kernel
theorem dX12_end_15 : decode cX12_end 15 = .ok (.iconst 0, 1) := by decide +kernel
theorem dX12_end_16 : decode cX12_end 16 = .ok (.ireturn, 1) := by decide +kernel
theorem dX12_end_17 : decode cX12_end 17 = .ok (.aload_n 0, 1) := by decide +kernel
theorem dX12_end_18 : decode cX12_end 18 = .ok (.getfield 10, 3) := by decide +kernel
theorem dX12_end_21 : decode cX12_end 21 = .ok (.iload_n 1, 1) := by decide +kernel
theorem dX12_end_22 : decode cX12_end 22 = .ok (.putfield 83, 3) := by decide +kernel
theorem dX12_end_25 : decode cX12_end 25 = .ok (.iconst 1, 1) := by decide +kernel
theorem dX12_end_26 : decode cX12_end 26 = .ok (.ireturn, 1) := by decide +kernel
theorem dX12_error_0 : decode cX12_error 0 = .ok (.aload_n 0, 1) := by decide +kernel
theorem dX12_error_1 : decode cX12_error 1 = .ok (.getfield 52, 3) := by decide +kernel
theorem dX12_error_4 : decode cX12_error 4 = .ok (.getfield 199, 3) := by decide +kernel
theorem dX12_error_7 : decode cX12_error 7 = .ok (.ireturn, 1) := by decide +kernel
theorem dX12_feed_0 : decode cX12_feed 0 = .ok (.aload_n 0, 1) := by decide +kernel
theorem dX12_feed_1 : decode cX12_feed 1 = .ok (.getfield 10, 3) := by decide +kernel
theorem dX12_feed_4 : decode cX12_feed 4 = .ok (.getfield 83, 3) := by decide +kernel
theorem dX12_feed_7 : decode cX12_feed 7 = .ok (.bipush 20, 2) := by decide +kernel
theorem dX12_feed_9 : decode cX12_feed 9 = .ok (.iadd, 1) := by decide +kernel
theorem dX12_feed_10 : decode cX12_feed 10 = .ok (.sipush 16000, 3) := by decide +kernel
theorem dX12_feed_13 : decode cX12_feed 13 = .ok (.if_icmp .gt 15, 3) := by decide +kernel
theorem dX12_feed_16 : decode cX12_feed 16 = .ok (.aload_n 0, 1) := by decide +kernel
theorem dX12_feed_17 : decode cX12_feed 17 = .ok (.getfield 86, 3) := by decide +kernel
theorem dX12_feed_20 : decode cX12_feed 20 = .ok (.bipush 20, 2) := by decide +kernel
theorem dX12_feed_22 : decode cX12_feed 22 = .ok (.iadd, 1) := by decide +kernel
theorem dX12_feed_23 : decode cX12_feed 23 = .ok (.ldc 89, 2) := by decide +kernel
theorem dX12_feed_25 : decode cX12_feed 25 = .ok (.if_icmp .le 5, 3) := by decide +kernel
theorem dX12_feed_30 : decode cX12_feed 30 = .ok (.aload_n 0, 1) := by decide +kernel
theorem dX12_feed_31 : decode cX12_feed 31 = .ok (.getfield 10, 3) := by decide +kernel
theorem dX12_feed_34 : decode cX12_feed 34 = .ok (.iload_n 1, 1) := by decide +kernel
theorem dX12_feed_35 : decode cX12_feed 35 = .ok (.invokevirtual 90, 3) := by decide +kernel
theorem dX12_feed_38 : decode cX12_feed 38 = .ok (.aload_n 0, 1) := by decide +kernel
theorem dX12_feed_39 : decode cX12_feed 39 = .ok (.getfield 10, 3) := by decide +kernel
theorem dX12_feed_42 : decode cX12_feed 42 = .ok (.iload_n 2, 1) := by decide +kernel
theorem dX12_feed_43 : decode cX12_feed 43 = .ok (.invokevirtual 90, 3) := by decide +kernel
theorem dX12_feed_46 : decode cX12_feed 46 = .ok (.aload_n 0, 1) := by decide +kernel
theorem dX12_feed_47 : decode cX12_feed 47 = .ok (.getfield 10, 3) := by decide +kernel
theorem dX12_feed_50 : decode cX12_feed 50 = .ok (.iload_n 3, 1) := by decide +kernel
theorem dX12_feed_51 : decode cX12_feed 51 = .ok (.invokevirtual 90, 3) := by decide +kernel
theorem dX12_feed_54 : decode cX12_feed 54 = .ok (.aload_n 0, 1) := by decide +kernel
theorem dX12_feed_55 : decode cX12_feed 55 = .ok (.getfield 10, 3) := by decide +kernel
theorem dX12_feed_58 : decode cX12_feed 58 = .ok (.iload 4, 2) := by decide +kernel
theorem dX12_feed_60 : decode cX12_feed 60 = .ok (.invokevirtual 90, 3) := by decide +kernel
theorem dX12_feed_63 : decode cX12_feed 63 = .ok (.aload_n 0, 1) := by decide +kernel
theorem dX12_feed_64 : decode cX12_feed 64 = .ok (.getfield 10, 3) := by decide +kernel
theorem dX12_feed_67 : decode cX12_feed 67 = .ok (.iload 5, 2) := by decide +kernel
theorem dX12_feed_69 : decode cX12_feed 69 = .ok (.invokevirtual 90, 3) := by decide +kernel
theorem dX12_feed_72 : decode cX12_feed 72 = .ok (.aload_n 0, 1) := by decide +kernel
theorem dX12_feed_73 : decode cX12_feed 73 = .ok (.dup, 1) := by decide +kernel
theorem dX12_feed_74 : decode cX12_feed 74 = .ok (.getfield 86, 3) := by decide +kernel
theorem dX12_feed_77 : decode cX12_feed 77 = .ok (.bipush 20, 2) := by decide +kernel
theorem dX12_feed_79 : decode cX12_feed 79 = .ok (.iadd, 1) := by decide +kernel
theorem dX12_feed_80 : decode cX12_feed 80 = .ok (.putfield 86, 3) := by decide +kernel
theorem dX12_feed_83 : decode cX12_feed 83 = .ok (.aload_n 0, 1) := by decide +kernel
theorem dX12_feed_84 : decode cX12_feed 84 = .ok (.getfield 10, 3) := by decide +kernel
theorem dX12_feed_87 : decode cX12_feed 87 = .ok (.getfield 83, 3) := by decide +kernel
theorem dX12_feed_90 : decode cX12_feed 90 = .ok (.ireturn, 1) := by decide +kernel
theorem dX12_field_0 : decode cX12_field 0 = .ok (.aload_n 0, 1) := by decide +kernel
theorem dX12_field_1 : decode cX12_field 1 = .ok (.getfield 52, 3) := by decide +kernel
theorem dX12_field_4 : decode cX12_field 4 = .ok (.iload_n 1, 1) := by decide +kernel
theorem dX12_field_5 : decode cX12_field 5 = .ok (.invokevirtual 205, 3) := by decide +kernel
theorem dX12_field_8 : decode cX12_field 8 = .ok (.lreturn, 1) := by decide +kernel
theorem dX12_height_0 : decode cX12_height 0 = .ok (.aload_n 0, 1) := by decide +kernel
theorem dX12_height_1 : decode cX12_height 1 = .ok (.iload_n 1, 1) := by decide +kernel
theorem dX12_height_2 : decode cX12_height 2 = .ok (.invokevirtual 152, 3) := by decide +kernel
theorem dX12_height_5 : decode cX12_height 5 = .ok (.ifnonnull 7, 3) := by decide +kernel
theorem dX12_height_8 : decode cX12_height 8 = .ok (.aconst_null, 1) := by decide +kernel
theorem dX12_height_9 : decode cX12_height 9 = .ok (.goto 9, 3) := by decide +kernel
theorem dX12_height_18 : decode cX12_height 18 = .ok (.astore 4, 2) := by decide +kernel
theorem dX12_height_20 : decode cX12_height 20 = .ok (.aload 4, 2) := by decide +kernel
theorem dX12_height_22 : decode cX12_height 22 = .ok (.ifnonnull 7, 3) := by decide +kernel
theorem dX12_height_25 : decode cX12_height 25 = .ok (.iconst (-1), 1) := by decide +kernel
theorem dX12_height_26 : decode cX12_height 26 = .ok (.goto 9, 3) := by decide +kernel
theorem dX12_height_35 : decode cX12_height 35 = .ok (.ireturn, 1) := by decide +kernel
theorem dX12_improve_0 : decode cX12_improve 0 = .ok (.aload_n 0, 1) := by decide +kernel
theorem dX12_improve_1 : decode cX12_improve 1 = .ok (.getfield 66, 3) := by decide +kernel
theorem dX12_improve_4 : decode cX12_improve 4 = .ok (.invokevirtual 226, 3) := by decide +kernel
theorem dX12_improve_7 : decode cX12_improve 7 = .ok (.aload_n 0, 1) := by decide +kernel
theorem dX12_improve_8 : decode cX12_improve 8 = .ok (.iload_n 1, 1) := by decide +kernel
theorem dX12_improve_9 : decode cX12_improve 9 = .ok (.invokevirtual 152, 3) := by decide +kernel
theorem dX12_improve_12 : decode cX12_improve 12 = .ok (.astore_n 3, 1) := by decide +kernel
theorem dX12_improve_13 : decode cX12_improve 13 = .ok (.aload_n 3, 1) := by decide +kernel
theorem dX12_improve_14 : decode cX12_improve 14 = .ok (.ifnull 14, 3) := by decide +kernel
theorem dX12_improve_28 : decode cX12_improve 28 = .ok (.iconst (-1), 1) := by decide +kernel
theorem dX12_improve_29 : decode cX12_improve 29 = .ok (.ireturn, 1) := by decide +kernel
theorem dX12_init_0 : decode cX12_init 0 = .ok (.aload_n 0, 1) := by decide +kernel
theorem dX12_init_1 : decode cX12_init 1 = .ok (.invokespecial 1, 3) := by decide +kernel
theorem dX12_init_4 : decode cX12_init 4 = .ok (.aload_n 0, 1) := by decide +kernel
theorem dX12_init_5 : decode cX12_init 5 = .ok (.new 7, 3) := by decide +kernel
theorem dX12_init_8 : decode cX12_init 8 = .ok (.dup, 1) := by decide +kernel
theorem dX12_init_9 : decode cX12_init 9 = .ok (.invokespecial 9, 3) := by decide +kernel
theorem dX12_init_12 : decode cX12_init 12 = .ok (.putfield 10, 3) := by decide +kernel
theorem dX12_init_15 : decode cX12_init 15 = .ok (.aload_n 0, 1) := by decide +kernel
theorem dX12_init_16 : decode cX12_init 16 = .ok (.new 7, 3) := by decide +kernel
theorem dX12_init_19 : decode cX12_init 19 = .ok (.dup, 1) := by decide +kernel
theorem dX12_init_20 : decode cX12_init 20 = .ok (.invokespecial 9, 3) := by decide +kernel
theorem dX12_init_23 : decode cX12_init 23 = .ok (.putfield 16, 3) := by decide +kernel
theorem dX12_init_26 : decode cX12_init 26 = .ok (.aload_n 0, 1) := by decide +kernel
theorem dX12_init_27 : decode cX12_init 27 = .ok (.new 7, 3) := by decide +kernel
theorem dX12_init_30 : decode cX12_init 30 = .ok (.dup, 1) := by decide +kernel
theorem dX12_init_31 : decode cX12_init 31 = .ok (.invokespecial 9, 3) := by decide +kernel
theorem dX12_init_34 : decode cX12_init 34 = .ok (.putfield 19, 3) := by decide +kernel
theorem dX12_init_37 : decode cX12_init 37 = .ok (.aload_n 0, 1) := by decide +kernel
theorem dX12_init_38 : decode cX12_init 38 = .ok (.bipush 12, 2) := by decide +kernel
theorem dX12_init_40 : decode cX12_init 40 = .ok (.anewarray 22, 3) := by decide +kernel
theorem dX12_init_43 : decode cX12_init 43 = .ok (.putfield 24, 3) := by decide +kernel
theorem dX12_init_46 : decode cX12_init 46 = .ok (.aload_n 0, 1) := by decide +kernel
theorem dX12_init_47 : decode cX12_init 47 = .ok (.new 28, 3) := by decide +kernel
theorem dX12_init_50 : decode cX12_init 50 = .ok (.dup, 1) := by decide +kernel
theorem dX12_init_51 : decode cX12_init 51 = .ok (.invokespecial 30, 3) := by decide +kernel
theorem dX12_init_54 : decode cX12_init 54 = .ok (.putfield 31, 3) := by decide +kernel
end
section
theorem dX12_init_57 : decode cX12_init 57 = .ok (.aload_n 0, 1) := by decide +kernel
theorem dX12_init_58 : decode cX12_init 58 = .ok (.new 35, 3) := by decide +kernel
theorem dX12_init_61 : decode cX12_init 61 = .ok (.dup, 1) := by decide +kernel
theorem dX12_init_62 : decode cX12_init 62 = .ok (.invokespecial 37, 3) := by decide +kernel
theorem dX12_init_65 : decode cX12_init 65 = .ok (.putfield 38, 3) := by decide +kernel
theorem dX12_init_68 : decode cX12_init 68 = .ok (.aload_n 0, 1) := by decide +kernel
theorem dX12_init_69 : decode cX12_init 69 = .ok (.new 42, 3) := by decide +kernel
theorem dX12_init_72 : decode cX12_init 72 = .ok (.dup, 1) := by decide +kernel
theorem dX12_init_73 : decode cX12_init 73 = .ok (.invokespecial 44, 3) := by decide +kernel
theorem dX12_init_76 : decode cX12_init 76 = .ok (.putfield 45, 3) := by decide +kernel
theorem dX12_init_79 : decode cX12_init 79 = .ok (.aload_n 0, 1) := by decide +kernel
theorem dX12_init_80 : decode cX12_init 80 = .ok (.new 49, 3) := by decide +kernel
theorem dX12_init_83 : decode cX12_init 83 = .ok (.dup, 1) := by decide +kernel
theorem dX12_init_84 : decode cX12_init 84 = .ok (.invokespecial 51, 3) := by decide +kernel
theorem dX12_init_87 : decode cX12_init 87 = .ok (.putfield 52, 3) := by decide +kernel
theorem dX12_init_90 : decode cX12_init 90 = .ok (.aload_n 0, 1) := by decide +kernel
theorem dX12_init_91 : decode cX12_init 91 = .ok (.new 56, 3) := by decide +kernel
theorem dX12_init_94 : decode cX12_init 94 = .ok (.dup, 1) := by decide +kernel
theorem dX12_init_95 : decode cX12_init 95 = .ok (.invokespecial 58, 3) := by decide +kernel
theorem dX12_init_98 : decode cX12_init 98 = .ok (.putfield 59, 3) := by decide +kernel
theorem dX12_init_101 : decode cX12_init 101 = .ok (.aload_n 0, 1) := by decide +kernel
theorem dX12_init_102 : decode cX12_init 102 = .ok (.new 63, 3) := by decide +kernel
theorem dX12_init_105 : decode cX12_init 105 = .ok (.dup, 1) := by decide +kernel
theorem dX12_init_106 : decode cX12_init 106 = .ok (.invokespecial 65, 3) := by decide +kernel
theorem dX12_init_109 : decode cX12_init 109 = .ok (.putfield 66, 3) := by decide +kernel
theorem dX12_init_112 : decode cX12_init 112 = .ok (.aload_n 0, 1) := by decide +kernel
theorem dX12_init_113 : decode cX12_init 113 = .ok (.iconst (-1), 1) := by decide +kernel
theorem dX12_init_114 : decode cX12_init 114 = .ok (.putfield 70, 3) := by decide +kernel
theorem dX12_init_117 : decode cX12_init 117 = .ok (.aload_n 0, 1) := by decide +kernel
theorem dX12_init_118 : decode cX12_init 118 = .ok (.iconst (-1), 1) := by decide +kernel
theorem dX12_init_119 : decode cX12_init 119 = .ok (.putfield 74, 3) := by decide +kernel
theorem dX12_init_122 : decode cX12_init 122 = .ok (.aload_n 0, 1) := by decide +kernel
theorem dX12_init_123 : decode cX12_init 123 = .ok (.iconst (-1), 1) := by decide +kernel
theorem dX12_init_124 : decode cX12_init 124 = .ok (.putfield 77, 3) := by decide +kernel
theorem dX12_init_127 : decode cX12_init 127 = .ok (.aload_n 0, 1) := by decide +kernel
theorem dX12_init_128 : decode cX12_init 128 = .ok (.iconst (-1), 1) := by decide +kernel
theorem dX12_init_129 : decode cX12_init 129 = .ok (.putfield 80, 3) := by decide +kernel
theorem dX12_init_132 : decode cX12_init 132 = .ok (.return_, 1) := by decide +kernel
theorem dX12_length_0 : decode cX12_length 0 = .ok (.aload_n 0, 1) := by decide +kernel
theorem dX12_length_1 : decode cX12_length 1 = .ok (.iload_n 1, 1) := by decide +kernel
theorem dX12_length_2 : decode cX12_length 2 = .ok (.iload_n 2, 1) := by decide +kernel
theorem dX12_length_3 : decode cX12_length 3 = .ok (.invokevirtual 132, 3) := by decide +kernel
theorem dX12_length_6 : decode cX12_length 6 = .ok (.astore_n 3, 1) := by decide +kernel
theorem dX12_length_7 : decode cX12_length 7 = .ok (.aload_n 3, 1) := by decide +kernel
theorem dX12_length_8 : decode cX12_length 8 = .ok (.ifnonnull 7, 3) := by decide +kernel
theorem dX12_length_11 : decode cX12_length 11 = .ok (.iconst (-1), 1) := by decide +kernel
theorem dX12_length_12 : decode cX12_length 12 = .ok (.goto 7, 3) := by decide +kernel
theorem dX12_length_19 : decode cX12_length 19 = .ok (.ireturn, 1) := by decide +kernel
theorem dX12_local_0 : decode cX12_local 0 = .ok (.aload_n 0, 1) := by decide +kernel
theorem dX12_local_1 : decode cX12_local 1 = .ok (.iload_n 1, 1) := by decide +kernel
theorem dX12_local_2 : decode cX12_local 2 = .ok (.invokevirtual 152, 3) := by decide +kernel
theorem dX12_local_5 : decode cX12_local 5 = .ok (.ifnonnull 7, 3) := by decide +kernel
theorem dX12_local_8 : decode cX12_local 8 = .ok (.aconst_null, 1) := by decide +kernel
theorem dX12_local_9 : decode cX12_local 9 = .ok (.goto 9, 3) := by decide +kernel
theorem dX12_local_18 : decode cX12_local 18 = .ok (.astore 5, 2) := by decide +kernel
theorem dX12_local_20 : decode cX12_local 20 = .ok (.aload 5, 2) := by decide +kernel
theorem dX12_local_22 : decode cX12_local 22 = .ok (.ifnull 24, 3) := by decide +kernel
theorem dX12_local_46 : decode cX12_local 46 = .ok (.iconst (-1), 1) := by decide +kernel
theorem dX12_local_47 : decode cX12_local 47 = .ok (.ireturn, 1) := by decide +kernel
theorem dX12_method_0 : decode cX12_method 0 = .ok (.aload_n 0, 1) := by decide +kernel
theorem dX12_method_1 : decode cX12_method 1 = .ok (.getfield 74, 3) := by decide +kernel
theorem dX12_method_4 : decode cX12_method 4 = .ok (.ireturn, 1) := by decide +kernel
theorem dX12_place_0 : decode cX12_place 0 = .ok (.aload_n 0, 1) := by decide +kernel
theorem dX12_place_1 : decode cX12_place 1 = .ok (.getfield 70, 3) := by decide +kernel
theorem dX12_place_4 : decode cX12_place 4 = .ok (.ireturn, 1) := by decide +kernel
theorem dX12_result_0 : decode cX12_result 0 = .ok (.aload_n 0, 1) := by decide +kernel
theorem dX12_result_1 : decode cX12_result 1 = .ok (.getfield 52, 3) := by decide +kernel
theorem dX12_result_4 : decode cX12_result 4 = .ok (.getfield 195, 3) := by decide +kernel
theorem dX12_result_7 : decode cX12_result 7 = .ok (.lreturn, 1) := by decide +kernel
theorem dX12_rowAt_0 : decode cX12_rowAt 0 = .ok (.aload_n 0, 1) := by decide +kernel
theorem dX12_rowAt_1 : decode cX12_rowAt 1 = .ok (.iload_n 1, 1) := by decide +kernel
theorem dX12_rowAt_2 : decode cX12_rowAt 2 = .ok (.invokevirtual 116, 3) := by decide +kernel
theorem dX12_rowAt_5 : decode cX12_rowAt 5 = .ok (.astore_n 3, 1) := by decide +kernel
theorem dX12_rowAt_6 : decode cX12_rowAt 6 = .ok (.aload_n 3, 1) := by decide +kernel
theorem dX12_rowAt_7 : decode cX12_rowAt 7 = .ok (.ifnonnull 7, 3) := by decide +kernel
theorem dX12_rowAt_10 : decode cX12_rowAt 10 = .ok (.aconst_null, 1) := by decide +kernel
theorem dX12_rowAt_11 : decode cX12_rowAt 11 = .ok (.goto 8, 3) := by decide +kernel
theorem dX12_rowAt_19 : decode cX12_rowAt 19 = .ok (.areturn, 1) := by decide +kernel
theorem dX12_rule_0 : decode cX12_rule 0 = .ok (.aload_n 0, 1) := by decide +kernel
theorem dX12_rule_1 : decode cX12_rule 1 = .ok (.getfield 110, 3) := by decide +kernel
theorem dX12_rule_4 : decode cX12_rule 4 = .ok (.ireturn, 1) := by decide +kernel
theorem dX12_run_0 : decode cX12_run 0 = .ok (.aload_n 0, 1) := by decide +kernel
theorem dX12_run_1 : decode cX12_run 1 = .ok (.getfield 52, 3) := by decide +kernel
theorem dX12_run_4 : decode cX12_run 4 = .ok (.iload_n 1, 1) := by decide +kernel
theorem dX12_run_5 : decode cX12_run 5 = .ok (.iload_n 2, 1) := by decide +kernel
theorem dX12_run_6 : decode cX12_run 6 = .ok (.invokevirtual 186, 3) := by decide +kernel
theorem dX12_run_9 : decode cX12_run 9 = .ok (.istore_n 3, 1) := by decide +kernel
theorem dX12_run_10 : decode cX12_run 10 = .ok (.iload_n 3, 1) := by decide +kernel
theorem dX12_run_11 : decode cX12_run 11 = .ok (.ifCond .ne 13, 3) := by decide +kernel
theorem dX12_run_24 : decode cX12_run 24 = .ok (.aload_n 0, 1) := by decide +kernel
theorem dX12_run_25 : decode cX12_run 25 = .ok (.getfield 52, 3) := by decide +kernel
theorem dX12_run_28 : decode cX12_run 28 = .ok (.iconst 0, 1) := by decide +kernel
theorem dX12_run_29 : decode cX12_run 29 = .ok (.putfield 192, 3) := by decide +kernel
theorem dX12_run_32 : decode cX12_run 32 = .ok (.iload_n 3, 1) := by decide +kernel
theorem dX12_run_33 : decode cX12_run 33 = .ok (.ireturn, 1) := by decide +kernel
theorem dX12_size_0 : decode cX12_size 0 = .ok (.aload_n 0, 1) := by decide +kernel
theorem dX12_size_1 : decode cX12_size 1 = .ok (.iload_n 1, 1) := by decide +kernel
theorem dX12_size_2 : decode cX12_size 2 = .ok (.invokevirtual 116, 3) := by decide +kernel
theorem dX12_size_5 : decode cX12_size 5 = .ok (.astore_n 3, 1) := by decide +kernel
theorem dX12_size_6 : decode cX12_size 6 = .ok (.aload_n 3, 1) := by decide +kernel
theorem dX12_size_7 : decode cX12_size 7 = .ok (.ifnonnull 5, 3) := by decide +kernel
theorem dX12_size_10 : decode cX12_size 10 = .ok (.iconst (-1), 1) := by decide +kernel
theorem dX12_size_11 : decode cX12_size 11 = .ok (.ireturn, 1) := by decide +kernel
theorem dX12_soundUnitAt_0 : decode cX12_soundUnitAt 0 = .ok (.aload_n 0, 1) := by decide +kernel
theorem dX12_soundUnitAt_1 : decode cX12_soundUnitAt 1 = .ok (.iload_n 1, 1) := by decide +kernel
theorem dX12_soundUnitAt_2 : decode cX12_soundUnitAt 2 = .ok (.invokevirtual 116, 3) := by decide +kernel
theorem dX12_soundUnitAt_5 : decode cX12_soundUnitAt 5 = .ok (.astore_n 2, 1) := by decide +kernel
theorem dX12_soundUnitAt_6 : decode cX12_soundUnitAt 6 = .ok (.aload_n 2, 1) := by decide +kernel
theorem dX12_soundUnitAt_7 : decode cX12_soundUnitAt 7 = .ok (.ifnull 17, 3) := by decide +kernel
theorem dX12_soundUnitAt_24 : decode cX12_soundUnitAt 24 = .ok (.aconst_null, 1) := by decide +kernel
theorem dX12_soundUnitAt_25 : decode cX12_soundUnitAt 25 = .ok (.goto 4, 3) := by decide +kernel
theorem dX12_soundUnitAt_29 : decode cX12_soundUnitAt 29 = .ok (.areturn, 1) := by decide +kernel
theorem dX12_stage_0 : decode cX12_stage 0 = .ok (.aload_n 0, 1) := by decide +kernel
theorem dX12_stage_1 : decode cX12_stage 1 = .ok (.iload_n 1, 1) := by decide +kernel
theorem dX12_stage_2 : decode cX12_stage 2 = .ok (.invokevirtual 152, 3) := by decide +kernel
theorem dX12_stage_5 : decode cX12_stage 5 = .ok (.astore_n 2, 1) := by decide +kernel
theorem dX12_stage_6 : decode cX12_stage 6 = .ok (.aload_n 2, 1) := by decide +kernel
theorem dX12_stage_7 : decode cX12_stage 7 = .ok (.ifnonnull 5, 3) := by decide +kernel
theorem dX12_stage_10 : decode cX12_stage 10 = .ok (.iconst 0, 1) := by decide +kernel
theorem dX12_stage_11 : decode cX12_stage 11 = .ok (.ireturn, 1) := by decide +kernel
theorem dX12_steps_0 : decode cX12_steps 0 = .ok (.aload_n 0, 1) := by decide +kernel
theorem dX12_steps_1 : decode cX12_steps 1 = .ok (.getfield 52, 3) := by decide +kernel
theorem dX12_steps_4 : decode cX12_steps 4 = .ok (.getfield 202, 3) := by decide +kernel
theorem dX12_steps_7 : decode cX12_steps 7 = .ok (.ireturn, 1) := by decide +kernel
theorem dX12_strays_0 : decode cX12_strays 0 = .ok (.aload_n 0, 1) := by decide +kernel
theorem dX12_strays_1 : decode cX12_strays 1 = .ok (.getfield 52, 3) := by decide +kernel
theorem dX12_strays_4 : decode cX12_strays 4 = .ok (.getfield 259, 3) := by decide +kernel
theorem dX12_strays_7 : decode cX12_strays 7 = .ok (.ireturn, 1) := by decide +kernel
theorem dX12_unitAt_0 : decode cX12_unitAt 0 = .ok (.iload_n 1, 1) := by decide +kernel
theorem dX12_unitAt_1 : decode cX12_unitAt 1 = .ok (.ifCond .lt 11, 3) := by decide +kernel
theorem dX12_unitAt_4 : decode cX12_unitAt 4 = .ok (.iload_n 1, 1) := by decide +kernel
theorem dX12_unitAt_5 : decode cX12_unitAt 5 = .ok (.aload_n 0, 1) := by decide +kernel
theorem dX12_unitAt_6 : decode cX12_unitAt 6 = .ok (.getfield 94, 3) := by decide +kernel
theorem dX12_unitAt_9 : decode cX12_unitAt 9 = .ok (.if_icmp .lt 7, 3) := by decide +kernel
theorem dX12_unitAt_12 : decode cX12_unitAt 12 = .ok (.aconst_null, 1) := by decide +kernel
theorem dX12_unitAt_13 : decode cX12_unitAt 13 = .ok (.goto 9, 3) := by decide +kernel
theorem dX12_unitAt_22 : decode cX12_unitAt 22 = .ok (.areturn, 1) := by decide +kernel
theorem dX12_verify_0 : decode cX12_verify 0 = .ok (.aload_n 0, 1) := by decide +kernel
theorem dX12_verify_1 : decode cX12_verify 1 = .ok (.iconst (-1), 1) := by decide +kernel
theorem dX12_verify_2 : decode cX12_verify 2 = .ok (.putfield 74, 3) := by decide +kernel
theorem dX12_verify_5 : decode cX12_verify 5 = .ok (.aload_n 0, 1) := by decide +kernel
theorem dX12_verify_6 : decode cX12_verify 6 = .ok (.iconst (-1), 1) := by decide +kernel
theorem dX12_verify_7 : decode cX12_verify 7 = .ok (.putfield 77, 3) := by decide +kernel
theorem dX12_verify_10 : decode cX12_verify 10 = .ok (.aload_n 0, 1) := by decide +kernel
theorem dX12_verify_11 : decode cX12_verify 11 = .ok (.iload_n 1, 1) := by decide +kernel
theorem dX12_verify_12 : decode cX12_verify 12 = .ok (.invokevirtual 116, 3) := by decide +kernel
theorem dX12_verify_15 : decode cX12_verify 15 = .ok (.astore_n 2, 1) := by decide +kernel
theorem dX12_verify_16 : decode cX12_verify 16 = .ok (.aload_n 2, 1) := by decide +kernel
theorem dX12_verify_17 : decode cX12_verify 17 = .ok (.ifnonnull 5, 3) := by decide +kernel
theorem dX12_verify_20 : decode cX12_verify 20 = .ok (.iconst (-1), 1) := by decide +kernel
end
section
theorem dX12_verify_21 : decode cX12_verify 21 = .ok (.ireturn, 1) := by decide +kernel
theorem dX12_write_0 : decode cX12_write 0 = .ok (.aload_n 0, 1) := by decide +kernel
theorem dX12_write_1 : decode cX12_write 1 = .ok (.iload_n 1, 1) := by decide +kernel
theorem dX12_write_2 : decode cX12_write 2 = .ok (.invokevirtual 152, 3) := by decide +kernel
theorem dX12_write_5 : decode cX12_write 5 = .ok (.astore_n 2, 1) := by decide +kernel
theorem dX12_write_6 : decode cX12_write 6 = .ok (.aload_n 2, 1) := by decide +kernel
theorem dX12_write_7 : decode cX12_write 7 = .ok (.ifnonnull 5, 3) := by decide +kernel
theorem dX12_write_10 : decode cX12_write 10 = .ok (.iconst (-1), 1) := by decide +kernel
theorem dX12_write_11 : decode cX12_write 11 = .ok (.ireturn, 1) := by decide +kernel
theorem dX1_init_0 : decode cX1_init 0 = .ok (.aload_n 0, 1) := by decide +kernel
theorem dX1_init_1 : decode cX1_init 1 = .ok (.invokespecial 3, 3) := by decide +kernel
theorem dX1_init_4 : decode cX1_init 4 = .ok (.aload_n 0, 1) := by decide +kernel
theorem dX1_init_5 : decode cX1_init 5 = .ok (.new 9, 3) := by decide +kernel
theorem dX1_init_8 : decode cX1_init 8 = .ok (.dup, 1) := by decide +kernel
theorem dX1_init_9 : decode cX1_init 9 = .ok (.invokespecial 11, 3) := by decide +kernel
theorem dX1_init_12 : decode cX1_init 12 = .ok (.putfield 12, 3) := by decide +kernel
theorem dX1_init_15 : decode cX1_init 15 = .ok (.aload_n 0, 1) := by decide +kernel
theorem dX1_init_16 : decode cX1_init 16 = .ok (.iconst 0, 1) := by decide +kernel
theorem dX1_init_17 : decode cX1_init 17 = .ok (.newarray .byte, 2) := by decide +kernel
theorem dX1_init_19 : decode cX1_init 19 = .ok (.putfield 18, 3) := by decide +kernel
theorem dX1_init_22 : decode cX1_init 22 = .ok (.aload_n 0, 1) := by decide +kernel
theorem dX1_init_23 : decode cX1_init 23 = .ok (.iconst 0, 1) := by decide +kernel
theorem dX1_init_24 : decode cX1_init 24 = .ok (.newarray .boolean, 2) := by decide +kernel
theorem dX1_init_26 : decode cX1_init 26 = .ok (.putfield 22, 3) := by decide +kernel
theorem dX1_init_29 : decode cX1_init 29 = .ok (.aload_n 0, 1) := by decide +kernel
theorem dX1_init_30 : decode cX1_init 30 = .ok (.iconst 0, 1) := by decide +kernel
theorem dX1_init_31 : decode cX1_init 31 = .ok (.newarray .boolean, 2) := by decide +kernel
theorem dX1_init_33 : decode cX1_init 33 = .ok (.putfield 26, 3) := by decide +kernel
theorem dX1_init_36 : decode cX1_init 36 = .ok (.aload_n 0, 1) := by decide +kernel
theorem dX1_init_37 : decode cX1_init 37 = .ok (.bipush 48, 2) := by decide +kernel
theorem dX1_init_39 : decode cX1_init 39 = .ok (.newarray .byte, 2) := by decide +kernel
theorem dX1_init_41 : decode cX1_init 41 = .ok (.putfield 29, 3) := by decide +kernel
theorem dX1_init_44 : decode cX1_init 44 = .ok (.return_, 1) := by decide +kernel
theorem dX2_init_0 : decode cX2_init 0 = .ok (.aload_n 0, 1) := by decide +kernel
theorem dX2_init_1 : decode cX2_init 1 = .ok (.invokespecial 3, 3) := by decide +kernel
theorem dX2_init_4 : decode cX2_init 4 = .ok (.aload_n 0, 1) := by decide +kernel
theorem dX2_init_5 : decode cX2_init 5 = .ok (.new 9, 3) := by decide +kernel
theorem dX2_init_8 : decode cX2_init 8 = .ok (.dup, 1) := by decide +kernel
theorem dX2_init_9 : decode cX2_init 9 = .ok (.invokespecial 11, 3) := by decide +kernel
theorem dX2_init_12 : decode cX2_init 12 = .ok (.putfield 12, 3) := by decide +kernel
theorem dX2_init_15 : decode cX2_init 15 = .ok (.aload_n 0, 1) := by decide +kernel
theorem dX2_init_16 : decode cX2_init 16 = .ok (.sipush 1201, 3) := by decide +kernel
theorem dX2_init_19 : decode cX2_init 19 = .ok (.newarray .int, 2) := by decide +kernel
theorem dX2_init_21 : decode cX2_init 21 = .ok (.putfield 18, 3) := by decide +kernel
theorem dX2_init_24 : decode cX2_init 24 = .ok (.return_, 1) := by decide +kernel
theorem dX3_init_0 : decode cX3_init 0 = .ok (.aload_n 0, 1) := by decide +kernel
theorem dX3_init_1 : decode cX3_init 1 = .ok (.invokespecial 3, 3) := by decide +kernel
theorem dX3_init_4 : decode cX3_init 4 = .ok (.aload_n 0, 1) := by decide +kernel
theorem dX3_init_5 : decode cX3_init 5 = .ok (.iconst 0, 1) := by decide +kernel
theorem dX3_init_6 : decode cX3_init 6 = .ok (.newarray .int, 2) := by decide +kernel
theorem dX3_init_8 : decode cX3_init 8 = .ok (.putfield 9, 3) := by decide +kernel
theorem dX3_init_11 : decode cX3_init 11 = .ok (.aload_n 0, 1) := by decide +kernel
theorem dX3_init_12 : decode cX3_init 12 = .ok (.iconst 0, 1) := by decide +kernel
theorem dX3_init_13 : decode cX3_init 13 = .ok (.newarray .int, 2) := by decide +kernel
theorem dX3_init_15 : decode cX3_init 15 = .ok (.putfield 15, 3) := by decide +kernel
theorem dX3_init_18 : decode cX3_init 18 = .ok (.aload_n 0, 1) := by decide +kernel
theorem dX3_init_19 : decode cX3_init 19 = .ok (.iconst 0, 1) := by decide +kernel
theorem dX3_init_20 : decode cX3_init 20 = .ok (.newarray .int, 2) := by decide +kernel
theorem dX3_init_22 : decode cX3_init 22 = .ok (.putfield 18, 3) := by decide +kernel
theorem dX3_init_25 : decode cX3_init 25 = .ok (.aload_n 0, 1) := by decide +kernel
theorem dX3_init_26 : decode cX3_init 26 = .ok (.bipush 16, 2) := by decide +kernel
theorem dX3_init_28 : decode cX3_init 28 = .ok (.newarray .int, 2) := by decide +kernel
theorem dX3_init_30 : decode cX3_init 30 = .ok (.putfield 21, 3) := by decide +kernel
theorem dX3_init_33 : decode cX3_init 33 = .ok (.aload_n 0, 1) := by decide +kernel
theorem dX3_init_34 : decode cX3_init 34 = .ok (.iconst 0, 1) := by decide +kernel
theorem dX3_init_35 : decode cX3_init 35 = .ok (.newarray .int, 2) := by decide +kernel
theorem dX3_init_37 : decode cX3_init 37 = .ok (.putfield 24, 3) := by decide +kernel
theorem dX3_init_40 : decode cX3_init 40 = .ok (.aload_n 0, 1) := by decide +kernel
theorem dX3_init_41 : decode cX3_init 41 = .ok (.iconst 0, 1) := by decide +kernel
theorem dX3_init_42 : decode cX3_init 42 = .ok (.newarray .int, 2) := by decide +kernel
theorem dX3_init_44 : decode cX3_init 44 = .ok (.putfield 27, 3) := by decide +kernel
theorem dX3_init_47 : decode cX3_init 47 = .ok (.aload_n 0, 1) := by decide +kernel
theorem dX3_init_48 : decode cX3_init 48 = .ok (.iconst 0, 1) := by decide +kernel
theorem dX3_init_49 : decode cX3_init 49 = .ok (.newarray .boolean, 2) := by decide +kernel
theorem dX3_init_51 : decode cX3_init 51 = .ok (.putfield 30, 3) := by decide +kernel
theorem dX3_init_54 : decode cX3_init 54 = .ok (.aload_n 0, 1) := by decide +kernel
theorem dX3_init_55 : decode cX3_init 55 = .ok (.iconst 0, 1) := by decide +kernel
theorem dX3_init_56 : decode cX3_init 56 = .ok (.newarray .long, 2) := by decide +kernel
theorem dX3_init_58 : decode cX3_init 58 = .ok (.putfield 34, 3) := by decide +kernel
theorem dX3_init_61 : decode cX3_init 61 = .ok (.aload_n 0, 1) := by decide +kernel
theorem dX3_init_62 : decode cX3_init 62 = .ok (.iconst 0, 1) := by decide +kernel
theorem dX3_init_63 : decode cX3_init 63 = .ok (.newarray .int, 2) := by decide +kernel
theorem dX3_init_65 : decode cX3_init 65 = .ok (.putfield 38, 3) := by decide +kernel
theorem dX3_init_68 : decode cX3_init 68 = .ok (.aload_n 0, 1) := by decide +kernel
theorem dX3_init_69 : decode cX3_init 69 = .ok (.iconst 0, 1) := by decide +kernel
theorem dX3_init_70 : decode cX3_init 70 = .ok (.newarray .int, 2) := by decide +kernel
theorem dX3_init_72 : decode cX3_init 72 = .ok (.putfield 41, 3) := by decide +kernel
theorem dX3_init_75 : decode cX3_init 75 = .ok (.aload_n 0, 1) := by decide +kernel
theorem dX3_init_76 : decode cX3_init 76 = .ok (.iconst 0, 1) := by decide +kernel
theorem dX3_init_77 : decode cX3_init 77 = .ok (.newarray .int, 2) := by decide +kernel
theorem dX3_init_79 : decode cX3_init 79 = .ok (.putfield 44, 3) := by decide +kernel
theorem dX3_init_82 : decode cX3_init 82 = .ok (.aload_n 0, 1) := by decide +kernel
theorem dX3_init_83 : decode cX3_init 83 = .ok (.iconst 0, 1) := by decide +kernel
theorem dX3_init_84 : decode cX3_init 84 = .ok (.newarray .int, 2) := by decide +kernel
theorem dX3_init_86 : decode cX3_init 86 = .ok (.putfield 47, 3) := by decide +kernel
theorem dX3_init_89 : decode cX3_init 89 = .ok (.aload_n 0, 1) := by decide +kernel
theorem dX3_init_90 : decode cX3_init 90 = .ok (.iconst 0, 1) := by decide +kernel
theorem dX3_init_91 : decode cX3_init 91 = .ok (.newarray .int, 2) := by decide +kernel
theorem dX3_init_93 : decode cX3_init 93 = .ok (.putfield 50, 3) := by decide +kernel
theorem dX3_init_96 : decode cX3_init 96 = .ok (.return_, 1) := by decide +kernel
theorem dX4_init_0 : decode cX4_init 0 = .ok (.aload_n 0, 1) := by decide +kernel
theorem dX4_init_1 : decode cX4_init 1 = .ok (.invokespecial 3, 3) := by decide +kernel
theorem dX4_init_4 : decode cX4_init 4 = .ok (.aload_n 0, 1) := by decide +kernel
theorem dX4_init_5 : decode cX4_init 5 = .ok (.iconst 0, 1) := by decide +kernel
theorem dX4_init_6 : decode cX4_init 6 = .ok (.newarray .int, 2) := by decide +kernel
theorem dX4_init_8 : decode cX4_init 8 = .ok (.putfield 9, 3) := by decide +kernel
theorem dX4_init_11 : decode cX4_init 11 = .ok (.aload_n 0, 1) := by decide +kernel
theorem dX4_init_12 : decode cX4_init 12 = .ok (.iconst 0, 1) := by decide +kernel
theorem dX4_init_13 : decode cX4_init 13 = .ok (.newarray .int, 2) := by decide +kernel
theorem dX4_init_15 : decode cX4_init 15 = .ok (.putfield 15, 3) := by decide +kernel
theorem dX4_init_18 : decode cX4_init 18 = .ok (.aload_n 0, 1) := by decide +kernel
theorem dX4_init_19 : decode cX4_init 19 = .ok (.iconst 0, 1) := by decide +kernel
theorem dX4_init_20 : decode cX4_init 20 = .ok (.newarray .boolean, 2) := by decide +kernel
theorem dX4_init_22 : decode cX4_init 22 = .ok (.putfield 18, 3) := by decide +kernel
theorem dX4_init_25 : decode cX4_init 25 = .ok (.return_, 1) := by decide +kernel
theorem dX5_addArgument_0 : decode cX5_addArgument 0 = .ok (.aload_n 0, 1) := by decide +kernel
theorem dX5_addArgument_1 : decode cX5_addArgument 1 = .ok (.getfield 54, 3) := by decide +kernel
theorem dX5_addArgument_4 : decode cX5_addArgument 4 = .ok (.bipush 8, 2) := by decide +kernel
theorem dX5_addArgument_6 : decode cX5_addArgument 6 = .ok (.if_icmp .lt 5, 3) := by decide +kernel
theorem dX5_addArgument_11 : decode cX5_addArgument 11 = .ok (.aload_n 0, 1) := by decide +kernel
theorem dX5_addArgument_12 : decode cX5_addArgument 12 = .ok (.getfield 22, 3) := by decide +kernel
theorem dX5_addArgument_15 : decode cX5_addArgument 15 = .ok (.aload_n 0, 1) := by decide +kernel
theorem dX5_addArgument_16 : decode cX5_addArgument 16 = .ok (.getfield 54, 3) := by decide +kernel
theorem dX5_addArgument_19 : decode cX5_addArgument 19 = .ok (.lload_n 1, 1) := by decide +kernel
theorem dX5_addArgument_20 : decode cX5_addArgument 20 = .ok (.lastore, 1) := by decide +kernel
theorem dX5_addArgument_21 : decode cX5_addArgument 21 = .ok (.aload_n 0, 1) := by decide +kernel
theorem dX5_addArgument_22 : decode cX5_addArgument 22 = .ok (.dup, 1) := by decide +kernel
theorem dX5_addArgument_23 : decode cX5_addArgument 23 = .ok (.getfield 54, 3) := by decide +kernel
theorem dX5_addArgument_26 : decode cX5_addArgument 26 = .ok (.iconst 1, 1) := by decide +kernel
theorem dX5_addArgument_27 : decode cX5_addArgument 27 = .ok (.iadd, 1) := by decide +kernel
theorem dX5_addArgument_28 : decode cX5_addArgument 28 = .ok (.putfield 54, 3) := by decide +kernel
theorem dX5_addArgument_31 : decode cX5_addArgument 31 = .ok (.aload_n 0, 1) := by decide +kernel
theorem dX5_addArgument_32 : decode cX5_addArgument 32 = .ok (.getfield 54, 3) := by decide +kernel
theorem dX5_addArgument_35 : decode cX5_addArgument 35 = .ok (.ireturn, 1) := by decide +kernel
theorem dX5_elementAt_0 : decode cX5_elementAt 0 = .ok (.iload_n 2, 1) := by decide +kernel
theorem dX5_elementAt_1 : decode cX5_elementAt 1 = .ok (.ifCond .lt 12, 3) := by decide +kernel
theorem dX5_elementAt_4 : decode cX5_elementAt 4 = .ok (.iload_n 2, 1) := by decide +kernel
theorem dX5_elementAt_5 : decode cX5_elementAt 5 = .ok (.aload_n 0, 1) := by decide +kernel
theorem dX5_elementAt_6 : decode cX5_elementAt 6 = .ok (.iload_n 1, 1) := by decide +kernel
theorem dX5_elementAt_7 : decode cX5_elementAt 7 = .ok (.invokevirtual 70, 3) := by decide +kernel
theorem dX5_elementAt_10 : decode cX5_elementAt 10 = .ok (.if_icmp .lt 7, 3) := by decide +kernel
theorem dX5_elementAt_13 : decode cX5_elementAt 13 = .ok (.iconst 0, 1) := by decide +kernel
theorem dX5_elementAt_14 : decode cX5_elementAt 14 = .ok (.goto 14, 3) := by decide +kernel
theorem dX5_elementAt_28 : decode cX5_elementAt 28 = .ok (.ireturn, 1) := by decide +kernel
theorem dX5_fieldAt_0 : decode cX5_fieldAt 0 = .ok (.aload_n 0, 1) := by decide +kernel
theorem dX5_fieldAt_1 : decode cX5_fieldAt 1 = .ok (.getfield 38, 3) := by decide +kernel
theorem dX5_fieldAt_4 : decode cX5_fieldAt 4 = .ok (.ifnull 24, 3) := by decide +kernel
theorem dX5_fieldAt_28 : decode cX5_fieldAt 28 = .ok (.lconst 0, 1) := by decide +kernel
theorem dX5_fieldAt_29 : decode cX5_fieldAt 29 = .ok (.goto 9, 3) := by decide +kernel
theorem dX5_fieldAt_38 : decode cX5_fieldAt 38 = .ok (.lreturn, 1) := by decide +kernel
end
section
theorem dX5_init_0 : decode cX5_init 0 = .ok (.aload_n 0, 1) := by decide +kernel
theorem dX5_init_1 : decode cX5_init 1 = .ok (.invokespecial 3, 3) := by decide +kernel
theorem dX5_init_4 : decode cX5_init 4 = .ok (.aload_n 0, 1) := by decide +kernel
theorem dX5_init_5 : decode cX5_init 5 = .ok (.bipush 24, 2) := by decide +kernel
theorem dX5_init_7 : decode cX5_init 7 = .ok (.newarray .long, 2) := by decide +kernel
theorem dX5_init_9 : decode cX5_init 9 = .ok (.putfield 9, 3) := by decide +kernel
theorem dX5_init_12 : decode cX5_init 12 = .ok (.aload_n 0, 1) := by decide +kernel
theorem dX5_init_13 : decode cX5_init 13 = .ok (.iconst 0, 1) := by decide +kernel
theorem dX5_init_14 : decode cX5_init 14 = .ok (.newarray .int, 2) := by decide +kernel
theorem dX5_init_16 : decode cX5_init 16 = .ok (.putfield 15, 3) := by decide +kernel
theorem dX5_init_19 : decode cX5_init 19 = .ok (.aload_n 0, 1) := by decide +kernel
theorem dX5_init_20 : decode cX5_init 20 = .ok (.bipush 8, 2) := by decide +kernel
theorem dX5_init_22 : decode cX5_init 22 = .ok (.newarray .int, 2) := by decide +kernel
theorem dX5_init_24 : decode cX5_init 24 = .ok (.putfield 19, 3) := by decide +kernel
theorem dX5_init_27 : decode cX5_init 27 = .ok (.aload_n 0, 1) := by decide +kernel
theorem dX5_init_28 : decode cX5_init 28 = .ok (.bipush 8, 2) := by decide +kernel
theorem dX5_init_30 : decode cX5_init 30 = .ok (.newarray .long, 2) := by decide +kernel
theorem dX5_init_32 : decode cX5_init 32 = .ok (.putfield 22, 3) := by decide +kernel
theorem dX5_init_35 : decode cX5_init 35 = .ok (.aload_n 0, 1) := by decide +kernel
theorem dX5_init_36 : decode cX5_init 36 = .ok (.iconst 0, 1) := by decide +kernel
theorem dX5_init_37 : decode cX5_init 37 = .ok (.newarray .long, 2) := by decide +kernel
theorem dX5_init_39 : decode cX5_init 39 = .ok (.putfield 25, 3) := by decide +kernel
theorem dX5_init_42 : decode cX5_init 42 = .ok (.aload_n 0, 1) := by decide +kernel
theorem dX5_init_43 : decode cX5_init 43 = .ok (.iconst 0, 1) := by decide +kernel
theorem dX5_init_44 : decode cX5_init 44 = .ok (.newarray .long, 2) := by decide +kernel
theorem dX5_init_46 : decode cX5_init 46 = .ok (.putfield 28, 3) := by decide +kernel
theorem dX5_init_49 : decode cX5_init 49 = .ok (.aload_n 0, 1) := by decide +kernel
theorem dX5_init_50 : decode cX5_init 50 = .ok (.sipush 180, 3) := by decide +kernel
theorem dX5_init_53 : decode cX5_init 53 = .ok (.newarray .int, 2) := by decide +kernel
theorem dX5_init_55 : decode cX5_init 55 = .ok (.putfield 31, 3) := by decide +kernel
theorem dX5_init_58 : decode cX5_init 58 = .ok (.aload_n 0, 1) := by decide +kernel
theorem dX5_init_59 : decode cX5_init 59 = .ok (.iconst (-1), 1) := by decide +kernel
theorem dX5_init_60 : decode cX5_init 60 = .ok (.putfield 34, 3) := by decide +kernel
theorem dX5_init_63 : decode cX5_init 63 = .ok (.return_, 1) := by decide +kernel
theorem dX5_isArray_0 : decode cX5_isArray 0 = .ok (.lload_n 1, 1) := by decide +kernel
theorem dX5_isArray_1 : decode cX5_isArray 1 = .ok (.lconst 1, 1) := by decide +kernel
theorem dX5_isArray_2 : decode cX5_isArray 2 = .ok (.lcmp, 1) := by decide +kernel
theorem dX5_isArray_3 : decode cX5_isArray 3 = .ok (.ifCond .lt 17, 3) := by decide +kernel
theorem dX5_isArray_6 : decode cX5_isArray 6 = .ok (.lload_n 1, 1) := by decide +kernel
theorem dX5_isArray_7 : decode cX5_isArray 7 = .ok (.aload_n 0, 1) := by decide +kernel
theorem dX5_isArray_8 : decode cX5_isArray 8 = .ok (.getfield 51, 3) := by decide +kernel
theorem dX5_isArray_11 : decode cX5_isArray 11 = .ok (.i2l, 1) := by decide +kernel
theorem dX5_isArray_12 : decode cX5_isArray 12 = .ok (.lcmp, 1) := by decide +kernel
theorem dX5_isArray_13 : decode cX5_isArray 13 = .ok (.ifCond .gt 7, 3) := by decide +kernel
theorem dX5_isArray_20 : decode cX5_isArray 20 = .ok (.iconst 0, 1) := by decide +kernel
theorem dX5_isArray_21 : decode cX5_isArray 21 = .ok (.ireturn, 1) := by decide +kernel
theorem dX5_lengthOf_0 : decode cX5_lengthOf 0 = .ok (.aload_n 0, 1) := by decide +kernel
theorem dX5_lengthOf_1 : decode cX5_lengthOf 1 = .ok (.iload_n 1, 1) := by decide +kernel
theorem dX5_lengthOf_2 : decode cX5_lengthOf 2 = .ok (.i2l, 1) := by decide +kernel
theorem dX5_lengthOf_3 : decode cX5_lengthOf 3 = .ok (.invokevirtual 62, 3) := by decide +kernel
theorem dX5_lengthOf_6 : decode cX5_lengthOf 6 = .ok (.ifCond .eq 19, 3) := by decide +kernel
theorem dX5_lengthOf_25 : decode cX5_lengthOf 25 = .ok (.iconst (-1), 1) := by decide +kernel
theorem dX5_lengthOf_26 : decode cX5_lengthOf 26 = .ok (.ireturn, 1) := by decide +kernel
theorem dX5_refusal_0 : decode cX5_refusal 0 = .ok (.aload_n 0, 1) := by decide +kernel
theorem dX5_refusal_1 : decode cX5_refusal 1 = .ok (.getfield 38, 3) := by decide +kernel
theorem dX5_refusal_4 : decode cX5_refusal 4 = .ok (.ifnull 14, 3) := by decide +kernel
theorem dX5_refusal_18 : decode cX5_refusal 18 = .ok (.iconst (-1), 1) := by decide +kernel
theorem dX5_refusal_19 : decode cX5_refusal 19 = .ok (.ireturn, 1) := by decide +kernel
theorem dX7_init_0 : decode cX7_init 0 = .ok (.aload_n 0, 1) := by decide +kernel
theorem dX7_init_1 : decode cX7_init 1 = .ok (.invokespecial 3, 3) := by decide +kernel
theorem dX7_init_4 : decode cX7_init 4 = .ok (.aload_n 0, 1) := by decide +kernel
theorem dX7_init_5 : decode cX7_init 5 = .ok (.iconst 0, 1) := by decide +kernel
theorem dX7_init_6 : decode cX7_init 6 = .ok (.newarray .byte, 2) := by decide +kernel
theorem dX7_init_8 : decode cX7_init 8 = .ok (.putfield 9, 3) := by decide +kernel
theorem dX7_init_11 : decode cX7_init 11 = .ok (.aload_n 0, 1) := by decide +kernel
theorem dX7_init_12 : decode cX7_init 12 = .ok (.iconst (-1), 1) := by decide +kernel
theorem dX7_init_13 : decode cX7_init 13 = .ok (.putfield 15, 3) := by decide +kernel
theorem dX7_init_16 : decode cX7_init 16 = .ok (.aload_n 0, 1) := by decide +kernel
theorem dX7_init_17 : decode cX7_init 17 = .ok (.sipush 500, 3) := by decide +kernel
theorem dX7_init_20 : decode cX7_init 20 = .ok (.newarray .int, 2) := by decide +kernel
theorem dX7_init_22 : decode cX7_init 22 = .ok (.putfield 19, 3) := by decide +kernel
theorem dX7_init_25 : decode cX7_init 25 = .ok (.aload_n 0, 1) := by decide +kernel
theorem dX7_init_26 : decode cX7_init 26 = .ok (.bipush 48, 2) := by decide +kernel
theorem dX7_init_28 : decode cX7_init 28 = .ok (.newarray .int, 2) := by decide +kernel
theorem dX7_init_30 : decode cX7_init 30 = .ok (.putfield 23, 3) := by decide +kernel
theorem dX7_init_33 : decode cX7_init 33 = .ok (.aload_n 0, 1) := by decide +kernel
theorem dX7_init_34 : decode cX7_init 34 = .ok (.bipush 24, 2) := by decide +kernel
theorem dX7_init_36 : decode cX7_init 36 = .ok (.newarray .int, 2) := by decide +kernel
theorem dX7_init_38 : decode cX7_init 38 = .ok (.putfield 26, 3) := by decide +kernel
theorem dX7_init_41 : decode cX7_init 41 = .ok (.aload_n 0, 1) := by decide +kernel
theorem dX7_init_42 : decode cX7_init 42 = .ok (.bipush 24, 2) := by decide +kernel
theorem dX7_init_44 : decode cX7_init 44 = .ok (.newarray .int, 2) := by decide +kernel
theorem dX7_init_46 : decode cX7_init 46 = .ok (.putfield 29, 3) := by decide +kernel
theorem dX7_init_49 : decode cX7_init 49 = .ok (.return_, 1) := by decide +kernel
theorem dX8_init_0 : decode cX8_init 0 = .ok (.aload_n 0, 1) := by decide +kernel
theorem dX8_init_1 : decode cX8_init 1 = .ok (.invokespecial 3, 3) := by decide +kernel
theorem dX8_init_4 : decode cX8_init 4 = .ok (.aload_n 0, 1) := by decide +kernel
theorem dX8_init_5 : decode cX8_init 5 = .ok (.iload_n 1, 1) := by decide +kernel
theorem dX8_init_6 : decode cX8_init 6 = .ok (.newarray .int, 2) := by decide +kernel
theorem dX8_init_8 : decode cX8_init 8 = .ok (.putfield 9, 3) := by decide +kernel
theorem dX8_init_11 : decode cX8_init 11 = .ok (.aload_n 0, 1) := by decide +kernel
theorem dX8_init_12 : decode cX8_init 12 = .ok (.iload_n 1, 1) := by decide +kernel
theorem dX8_init_13 : decode cX8_init 13 = .ok (.newarray .long, 2) := by decide +kernel
theorem dX8_init_15 : decode cX8_init 15 = .ok (.putfield 15, 3) := by decide +kernel
theorem dX8_init_18 : decode cX8_init 18 = .ok (.aload_n 0, 1) := by decide +kernel
theorem dX8_init_19 : decode cX8_init 19 = .ok (.iload_n 2, 1) := by decide +kernel
theorem dX8_init_20 : decode cX8_init 20 = .ok (.newarray .int, 2) := by decide +kernel
theorem dX8_init_22 : decode cX8_init 22 = .ok (.putfield 19, 3) := by decide +kernel
theorem dX8_init_25 : decode cX8_init 25 = .ok (.aload_n 0, 1) := by decide +kernel
theorem dX8_init_26 : decode cX8_init 26 = .ok (.iload_n 3, 1) := by decide +kernel
theorem dX8_init_27 : decode cX8_init 27 = .ok (.newarray .int, 2) := by decide +kernel
theorem dX8_init_29 : decode cX8_init 29 = .ok (.putfield 22, 3) := by decide +kernel
theorem dX8_init_32 : decode cX8_init 32 = .ok (.aload_n 0, 1) := by decide +kernel
theorem dX8_init_33 : decode cX8_init 33 = .ok (.iload_n 3, 1) := by decide +kernel
theorem dX8_init_34 : decode cX8_init 34 = .ok (.newarray .int, 2) := by decide +kernel
theorem dX8_init_36 : decode cX8_init 36 = .ok (.putfield 25, 3) := by decide +kernel
theorem dX8_init_39 : decode cX8_init 39 = .ok (.aload_n 0, 1) := by decide +kernel
theorem dX8_init_40 : decode cX8_init 40 = .ok (.iload_n 3, 1) := by decide +kernel
theorem dX8_init_41 : decode cX8_init 41 = .ok (.newarray .int, 2) := by decide +kernel
theorem dX8_init_43 : decode cX8_init 43 = .ok (.putfield 28, 3) := by decide +kernel
theorem dX8_init_46 : decode cX8_init 46 = .ok (.aload_n 0, 1) := by decide +kernel
theorem dX8_init_47 : decode cX8_init 47 = .ok (.iload_n 3, 1) := by decide +kernel
theorem dX8_init_48 : decode cX8_init 48 = .ok (.newarray .int, 2) := by decide +kernel
theorem dX8_init_50 : decode cX8_init 50 = .ok (.putfield 31, 3) := by decide +kernel
theorem dX8_init_53 : decode cX8_init 53 = .ok (.return_, 1) := by decide +kernel
theorem dX9_appliedAt_0 : decode cX9_appliedAt 0 = .ok (.iload_n 1, 1) := by decide +kernel
theorem dX9_appliedAt_1 : decode cX9_appliedAt 1 = .ok (.ifCond .lt 12, 3) := by decide +kernel
theorem dX9_appliedAt_4 : decode cX9_appliedAt 4 = .ok (.iload_n 1, 1) := by decide +kernel
theorem dX9_appliedAt_5 : decode cX9_appliedAt 5 = .ok (.aload_n 0, 1) := by decide +kernel
theorem dX9_appliedAt_6 : decode cX9_appliedAt 6 = .ok (.getfield 20, 3) := by decide +kernel
theorem dX9_appliedAt_9 : decode cX9_appliedAt 9 = .ok (.arraylength, 1) := by decide +kernel
theorem dX9_appliedAt_10 : decode cX9_appliedAt 10 = .ok (.if_icmp .lt 7, 3) := by decide +kernel
theorem dX9_appliedAt_13 : decode cX9_appliedAt 13 = .ok (.iconst 0, 1) := by decide +kernel
theorem dX9_appliedAt_14 : decode cX9_appliedAt 14 = .ok (.goto 9, 3) := by decide +kernel
theorem dX9_appliedAt_17 : decode cX9_appliedAt 17 = .ok (.aload_n 0, 1) := by decide +kernel
theorem dX9_appliedAt_18 : decode cX9_appliedAt 18 = .ok (.getfield 20, 3) := by decide +kernel
theorem dX9_appliedAt_21 : decode cX9_appliedAt 21 = .ok (.iload_n 1, 1) := by decide +kernel
theorem dX9_appliedAt_22 : decode cX9_appliedAt 22 = .ok (.iaload, 1) := by decide +kernel
theorem dX9_appliedAt_23 : decode cX9_appliedAt 23 = .ok (.ireturn, 1) := by decide +kernel
theorem dX9_forgetApplied_0 : decode cX9_forgetApplied 0 = .ok (.aload_n 0, 1) := by decide +kernel
theorem dX9_forgetApplied_1 : decode cX9_forgetApplied 1 = .ok (.getfield 20, 3) := by decide +kernel
theorem dX9_forgetApplied_4 : decode cX9_forgetApplied 4 = .ok (.iconst 0, 1) := by decide +kernel
theorem dX9_forgetApplied_5 : decode cX9_forgetApplied 5 = .ok (.invokestatic 37, 3) := by decide +kernel
theorem dX9_forgetApplied_8 : decode cX9_forgetApplied 8 = .ok (.return_, 1) := by decide +kernel
theorem dX9_init_0 : decode cX9_init 0 = .ok (.aload_n 0, 1) := by decide +kernel
theorem dX9_init_1 : decode cX9_init 1 = .ok (.invokespecial 3, 3) := by decide +kernel
theorem dX9_init_4 : decode cX9_init 4 = .ok (.aload_n 0, 1) := by decide +kernel
theorem dX9_init_5 : decode cX9_init 5 = .ok (.new 9, 3) := by decide +kernel
theorem dX9_init_8 : decode cX9_init 8 = .ok (.dup, 1) := by decide +kernel
theorem dX9_init_9 : decode cX9_init 9 = .ok (.iconst 0, 1) := by decide +kernel
theorem dX9_init_10 : decode cX9_init 10 = .ok (.iconst 0, 1) := by decide +kernel
theorem dX9_init_11 : decode cX9_init 11 = .ok (.iconst 0, 1) := by decide +kernel
theorem dX9_init_12 : decode cX9_init 12 = .ok (.invokespecial 11, 3) := by decide +kernel
theorem dX9_init_15 : decode cX9_init 15 = .ok (.putfield 14, 3) := by decide +kernel
theorem dX9_init_18 : decode cX9_init 18 = .ok (.aload_n 0, 1) := by decide +kernel
theorem dX9_init_19 : decode cX9_init 19 = .ok (.bipush 12, 2) := by decide +kernel
theorem dX9_init_21 : decode cX9_init 21 = .ok (.newarray .int, 2) := by decide +kernel
theorem dX9_init_23 : decode cX9_init 23 = .ok (.putfield 20, 3) := by decide +kernel
theorem dX9_init_26 : decode cX9_init 26 = .ok (.aload_n 0, 1) := by decide +kernel
theorem dX9_init_27 : decode cX9_init 27 = .ok (.iconst 0, 1) := by decide +kernel
end
section
theorem dX9_init_28 : decode cX9_init 28 = .ok (.newarray .boolean, 2) := by decide +kernel
theorem dX9_init_30 : decode cX9_init 30 = .ok (.putfield 24, 3) := by decide +kernel
theorem dX9_init_33 : decode cX9_init 33 = .ok (.aload_n 0, 1) := by decide +kernel
theorem dX9_init_34 : decode cX9_init 34 = .ok (.iconst 0, 1) := by decide +kernel
theorem dX9_init_35 : decode cX9_init 35 = .ok (.newarray .boolean, 2) := by decide +kernel
theorem dX9_init_37 : decode cX9_init 37 = .ok (.putfield 28, 3) := by decide +kernel
theorem dX9_init_40 : decode cX9_init 40 = .ok (.aload_n 0, 1) := by decide +kernel
theorem dX9_init_41 : decode cX9_init 41 = .ok (.iconst 0, 1) := by decide +kernel
theorem dX9_init_42 : decode cX9_init 42 = .ok (.newarray .int, 2) := by decide +kernel
theorem dX9_init_44 : decode cX9_init 44 = .ok (.putfield 31, 3) := by decide +kernel
theorem dX9_init_47 : decode cX9_init 47 = .ok (.aload_n 0, 1) := by decide +kernel
theorem dX9_init_48 : decode cX9_init 48 = .ok (.iconst 0, 1) := by decide +kernel
theorem dX9_init_49 : decode cX9_init 49 = .ok (.newarray .int, 2) := by decide +kernel
theorem dX9_init_51 : decode cX9_init 51 = .ok (.putfield 34, 3) := by decide +kernel
theorem dX9_init_54 : decode cX9_init 54 = .ok (.return_, 1) := by decide +kernel
end
section
theorem pl_in {ws : List Cond} (ps : List Nat) (h : ws = ps.filterMap (fun i => tables_1[i]?)) : ∀ w ∈ ws, w ∈ tables_1 := by
  intro w hw
  rw [h] at hw
  obtain ⟨i, -, hi⟩ := List.mem_filterMap.mp hw
  exact List.mem_of_getElem? hi
def lw_okq (q : MethodName × Nat) : Prop := (q.1.cls ≠ "java/lang/invoke/MethodHandle" ∧ q.1.cls ≠ "java/lang/invoke/VarHandle") ∧ Cond.instantiable q.1.cls q.2 ∈ tables_1 ∧ Cond.privateMethod q.1 ∈ tables_1 ∧ Cond.instanceMethod q.1 ∈ tables_1
theorem lw_p0 : lw_okq (yX12_unitAt, 18) := ⟨⟨by decide +kernel, by decide +kernel⟩, List.mem_of_getElem? (i := 33) (by decide +kernel), List.mem_of_getElem? (i := 1190) (by decide +kernel), List.mem_of_getElem? (i := 1191) (by decide +kernel)⟩
theorem lw_p1 : lw_okq (yX12_rowAt, 18) := ⟨⟨by decide +kernel, by decide +kernel⟩, List.mem_of_getElem? (i := 33) (by decide +kernel), List.mem_of_getElem? (i := 1198) (by decide +kernel), List.mem_of_getElem? (i := 1199) (by decide +kernel)⟩
theorem lw_p2 : lw_okq (yX12_soundUnitAt, 18) := ⟨⟨by decide +kernel, by decide +kernel⟩, List.mem_of_getElem? (i := 33) (by decide +kernel), List.mem_of_getElem? (i := 1456) (by decide +kernel), List.mem_of_getElem? (i := 1457) (by decide +kernel)⟩
theorem lw_p3 : lw_okq (yX5_isArray, 20) := ⟨⟨by decide +kernel, by decide +kernel⟩, List.mem_of_getElem? (i := 313) (by decide +kernel), List.mem_of_getElem? (i := 1676) (by decide +kernel), List.mem_of_getElem? (i := 1677) (by decide +kernel)⟩
def lw_privs : List (MethodName × Nat) := [(yX12_unitAt, 18), (yX12_rowAt, 18), (yX12_soundUnitAt, 18), (yX5_isArray, 20)]
theorem lw_privs_ok : ∀ q ∈ lw_privs, lw_okq q := List.forall_mem_cons.mpr ⟨lw_p0, List.forall_mem_cons.mpr ⟨lw_p1, List.forall_mem_cons.mpr ⟨lw_p2, List.forall_mem_cons.mpr ⟨lw_p3, fun _ h => absurd h List.not_mem_nil⟩⟩⟩⟩
def lw_tbl : List Cond := k2_sels lw_privs ++ tables_1
def tbr_0 : List Cond := [Cond.methodLink RX0 1 objectInit, Cond.instanceMethod objectInit, Cond.code objectInit ⟨#[0xb1]⟩ 1 none, Cond.arrayClass .byte, Cond.fieldLink RX0 7 "CodeFoundry$Bytes" "data" "[B", Cond.methodLink RX4 3 objectInit, Cond.arrayClass .int, Cond.fieldLink RX4 9 "CodeFoundry$Heights" "come" "[I", Cond.fieldLink RX4 15 "CodeFoundry$Heights" "waiting" "[I", Cond.arrayClass .boolean, Cond.fieldLink RX4 18 "CodeFoundry$Heights" "wrong" "[Z", Cond.methodLink RX8 3 objectInit, Cond.fieldLink RX8 9 "CodeFoundry$Row" "op" "[I", Cond.arrayClass .long, Cond.fieldLink RX8 15 "CodeFoundry$Row" "arg" "[J", Cond.fieldLink RX8 19 "CodeFoundry$Row" "table" "[I", Cond.fieldLink RX8 22 "CodeFoundry$Row" "catchFrom" "[I", Cond.fieldLink RX8 25 "CodeFoundry$Row" "catchTo" "[I", Cond.fieldLink RX8 28 "CodeFoundry$Row" "catchAt" "[I", Cond.fieldLink RX8 31 "CodeFoundry$Row" "catchKind" "[I", Cond.methodLink RX1 3 objectInit, Cond.classLink RX1 9 RX4, Cond.instantiable RX4 8, Cond.initialized RX4, Cond.code yX4_init cX4_init 1 none, Cond.instanceMethod yX4_init, Cond.fieldLink RX1 12 "CodeFoundry$Checker" "heights" "LCodeFoundry$Heights;", Cond.fieldLink RX1 18 "CodeFoundry$Checker" "before" "[B", Cond.fieldLink RX1 22 "CodeFoundry$Checker" "come" "[Z", Cond.fieldLink RX1 26 "CodeFoundry$Checker" "waiting" "[Z", Cond.fieldLink RX1 29 "CodeFoundry$Checker" "now" "[B", Cond.methodLink RX7 3 objectInit, Cond.fieldLink RX7 9 "CodeFoundry$Reader" "data" "[B", Cond.fieldLink RX7 15 "CodeFoundry$Reader" "brokenPlace" "I", Cond.fieldLink RX7 19 "CodeFoundry$Reader" "entry" "[I", Cond.fieldLink RX7 23 "CodeFoundry$Reader" "memberAt" "[I", Cond.fieldLink RX7 26 "CodeFoundry$Reader" "codeAt" "[I", Cond.fieldLink RX7 29 "CodeFoundry$Reader" "codeEnd" "[I", Cond.methodLink RX2 3 objectInit, Cond.classLink RX2 9 RX7]
def tbr_1 : List Cond := [Cond.instantiable RX7 17, Cond.initialized RX7, Cond.code yX7_init cX7_init 1 none, Cond.instanceMethod yX7_init, Cond.fieldLink RX2 12 "CodeFoundry$CodeReader" "file" "LCodeFoundry$Reader;", Cond.fieldLink RX2 18 "CodeFoundry$CodeReader" "numberAt" "[I", Cond.methodLink RX11 3 objectInit, Cond.classLink RX11 9 RX0, Cond.instantiable RX0 2, Cond.initialized RX0, Cond.code yX0_init cX0_init 1 none, Cond.instanceMethod yX0_init, Cond.fieldLink RX11 12 "CodeFoundry$Writer" "pool" "LCodeFoundry$Bytes;", Cond.fieldLink RX11 18 "CodeFoundry$Writer" "rest" "LCodeFoundry$Bytes;", Cond.fieldLink RX11 21 "CodeFoundry$Writer" "wanted" "LCodeFoundry$Bytes;", Cond.fieldLink RX11 24 "CodeFoundry$Writer" "entryAt" "[I", Cond.fieldLink RX11 28 "CodeFoundry$Writer" "entryEnd" "[I", Cond.fieldLink RX11 31 "CodeFoundry$Writer" "fieldName" "[I", Cond.fieldLink RX11 34 "CodeFoundry$Writer" "fieldType" "[I", Cond.fieldLink RX11 37 "CodeFoundry$Writer" "fieldEntry" "[I", Cond.fieldLink RX11 40 "CodeFoundry$Writer" "methodEntry" "[I", Cond.classLink RX11 43 RX4, Cond.fieldLink RX11 46 "CodeFoundry$Writer" "heights" "LCodeFoundry$Heights;", Cond.fieldLink RX11 50 "CodeFoundry$Writer" "needs" "[I", Cond.fieldLink RX11 53 "CodeFoundry$Writer" "offsets" "[I", Cond.methodLink RX5 3 objectInit, Cond.fieldLink RX5 9 "CodeFoundry$Machine" "fields" "[J", Cond.fieldLink RX5 15 "CodeFoundry$Machine" "heap" "[I", Cond.fieldLink RX5 19 "CodeFoundry$Machine" "arrayAt" "[I", Cond.fieldLink RX5 22 "CodeFoundry$Machine" "arguments" "[J", Cond.fieldLink RX5 25 "CodeFoundry$Machine" "locals" "[J", Cond.fieldLink RX5 28 "CodeFoundry$Machine" "stack" "[J", Cond.fieldLink RX5 31 "CodeFoundry$Machine" "frames" "[I", Cond.fieldLink RX5 34 "CodeFoundry$Machine" "lastError" "I", Cond.methodLink RX3 3 objectInit, Cond.fieldLink RX3 9 "CodeFoundry$Graph" "start" "[I", Cond.fieldLink RX3 15 "CodeFoundry$Graph" "blockOf" "[I", Cond.fieldLink RX3 18 "CodeFoundry$Graph" "edgeAt" "[I", Cond.fieldLink RX3 21 "CodeFoundry$Graph" "edges" "[I", Cond.fieldLink RX3 24 "CodeFoundry$Graph" "backAt" "[I"]
def tbr_2 : List Cond := [Cond.fieldLink RX3 27 "CodeFoundry$Graph" "backs" "[I", Cond.fieldLink RX3 30 "CodeFoundry$Graph" "reached" "[Z", Cond.fieldLink RX3 34 "CodeFoundry$Graph" "dominators" "[J", Cond.fieldLink RX3 38 "CodeFoundry$Graph" "dominator" "[I", Cond.fieldLink RX3 41 "CodeFoundry$Graph" "latches" "[I", Cond.fieldLink RX3 44 "CodeFoundry$Graph" "depth" "[I", Cond.fieldLink RX3 47 "CodeFoundry$Graph" "seen" "[I", Cond.fieldLink RX3 50 "CodeFoundry$Graph" "waiting" "[I", Cond.methodLink RX9 3 objectInit, Cond.classLink RX9 9 RX8, Cond.instantiable RX8 15, Cond.initialized RX8, Cond.methodLink RX9 11 yX8_init, Cond.code yX8_init cX8_init 4 none, Cond.instanceMethod yX8_init, Cond.fieldLink RX9 14 "CodeFoundry$Smith" "row" "LCodeFoundry$Row;", Cond.fieldLink RX9 20 "CodeFoundry$Smith" "applied" "[I", Cond.fieldLink RX9 24 "CodeFoundry$Smith" "marked" "[Z", Cond.fieldLink RX9 28 "CodeFoundry$Smith" "reached" "[Z", Cond.fieldLink RX9 31 "CodeFoundry$Smith" "live" "[I", Cond.fieldLink RX9 34 "CodeFoundry$Smith" "newPlace" "[I", Cond.methodLink RX12 1 objectInit, Cond.classLink RX12 7 RX0, Cond.fieldLink RX12 10 "CodeFoundry" "tray" "LCodeFoundry$Bytes;", Cond.fieldLink RX12 16 "CodeFoundry" "written" "LCodeFoundry$Bytes;", Cond.fieldLink RX12 19 "CodeFoundry" "draft" "LCodeFoundry$Bytes;", Cond.classLink RX12 22 "CodeFoundry$Unit", Cond.fieldLink RX12 24 "CodeFoundry" "units" "[LCodeFoundry$Unit;", Cond.classLink RX12 28 RX2, Cond.instantiable RX2 12, Cond.initialized RX2, Cond.code yX2_init cX2_init 1 none, Cond.instanceMethod yX2_init, Cond.fieldLink RX12 31 "CodeFoundry" "reader" "LCodeFoundry$CodeReader;", Cond.classLink RX12 35 RX1, Cond.instantiable RX1 10, Cond.initialized RX1, Cond.code yX1_init cX1_init 1 none, Cond.instanceMethod yX1_init, Cond.fieldLink RX12 38 "CodeFoundry" "checker" "LCodeFoundry$Checker;"]
def tbr_3 : List Cond := [Cond.classLink RX12 42 RX11, Cond.instantiable RX11 18, Cond.initialized RX11, Cond.code yX11_init cX11_init 1 none, Cond.instanceMethod yX11_init, Cond.fieldLink RX12 45 "CodeFoundry" "writer" "LCodeFoundry$Writer;", Cond.classLink RX12 49 RX5, Cond.instantiable RX5 20, Cond.initialized RX5, Cond.code yX5_init cX5_init 1 none, Cond.instanceMethod yX5_init, Cond.fieldLink RX12 52 "CodeFoundry" "machine" "LCodeFoundry$Machine;", Cond.classLink RX12 56 RX3, Cond.instantiable RX3 16, Cond.initialized RX3, Cond.code yX3_init cX3_init 1 none, Cond.instanceMethod yX3_init, Cond.fieldLink RX12 59 "CodeFoundry" "graph" "LCodeFoundry$Graph;", Cond.classLink RX12 63 RX9, Cond.instantiable RX9 6, Cond.initialized RX9, Cond.code yX9_init cX9_init 1 none, Cond.instanceMethod yX9_init, Cond.fieldLink RX12 66 "CodeFoundry" "smith" "LCodeFoundry$Smith;", Cond.fieldLink RX12 70 "CodeFoundry" "brokenPlace" "I", Cond.fieldLink RX12 74 "CodeFoundry" "faultMethod" "I", Cond.fieldLink RX12 77 "CodeFoundry" "faultAt" "I", Cond.fieldLink RX12 80 "CodeFoundry" "writtenFile" "I", Cond.fieldLink RX0 13 "CodeFoundry$Bytes" "count" "I", Cond.methodLink RX0 23 yX0_put, Cond.instanceMethod yX0_put, Cond.selects RX0 yX0_put yX0_put, Cond.code yX0_put cX0_put 2 none, Cond.methodLink RX0 27 yX0_put2, Cond.instanceMethod yX0_put2, Cond.selects RX0 yX0_put2 yX0_put2, Cond.code yX0_put2 cX0_put2 2 none, Cond.fieldLink RX12 83 "CodeFoundry$Bytes" "count" "I", Cond.fieldLink RX12 86 "CodeFoundry" "fed" "I", Cond.constant RX12 89 (65536)]
def tbr_4 : List Cond := [Cond.methodLink RX12 90 yX0_put4, Cond.instanceMethod yX0_put4, Cond.selects RX0 yX0_put4 yX0_put4, Cond.code yX0_put4 cX0_put4 2 none, Cond.fieldLink RX12 110 "CodeFoundry" "brokenRule" "I", Cond.fieldLink RX12 94 "CodeFoundry" "unitCount" "I", Cond.methodLink RX12 116 yX12_unitAt, Cond.instanceMethod yX12_unitAt, Cond.selects RX12 yX12_unitAt yX12_unitAt, Cond.initialized RX12, Cond.code yX12_unitAt cX12_unitAt 2 (some (.object "CodeFoundry$Unit")), Cond.methodLink RX12 132 yX12_rowAt, Cond.instanceMethod yX12_rowAt, Cond.selects RX12 yX12_rowAt yX12_rowAt, Cond.code yX12_rowAt cX12_rowAt 4 (some (.object "CodeFoundry$Row")), Cond.methodLink RX12 152 yX12_soundUnitAt, Cond.instanceMethod yX12_soundUnitAt, Cond.selects RX12 yX12_soundUnitAt yX12_soundUnitAt, Cond.code yX12_soundUnitAt cX12_soundUnitAt 3 (some (.object "CodeFoundry$Unit")), Cond.fieldLink RX5 54 "CodeFoundry$Machine" "argumentCount" "I", Cond.fieldLink RX5 38 "CodeFoundry$Machine" "unit" "LCodeFoundry$Unit;", Cond.fieldLink RX5 51 "CodeFoundry$Machine" "arrays" "I", Cond.methodLink RX5 62 yX5_isArray, Cond.instanceMethod yX5_isArray, Cond.selects RX5 yX5_isArray yX5_isArray, Cond.code yX5_isArray cX5_isArray 3 (some .boolean), Cond.methodLink RX5 70 yX5_lengthOf, Cond.instanceMethod yX5_lengthOf, Cond.selects RX5 yX5_lengthOf yX5_lengthOf, Cond.code yX5_lengthOf cX5_lengthOf 2 (some .int), Cond.methodLink RX12 182 yX5_addArgument, Cond.instanceMethod yX5_addArgument, Cond.selects RX5 yX5_addArgument yX5_addArgument, Cond.code yX5_addArgument cX5_addArgument 3 (some .int), Cond.methodLink RX12 186 yX5_refusal, Cond.instanceMethod yX5_refusal, Cond.selects RX5 yX5_refusal yX5_refusal, Cond.code yX5_refusal cX5_refusal 5 (some .int), Cond.fieldLink RX12 192 "CodeFoundry$Machine" "argumentCount" "I", Cond.fieldLink RX12 195 "CodeFoundry$Machine" "lastResult" "J"]
def tbr_5 : List Cond := [Cond.fieldLink RX12 199 "CodeFoundry$Machine" "lastError" "I", Cond.fieldLink RX12 202 "CodeFoundry$Machine" "lastSteps" "I", Cond.fieldLink RX12 259 "CodeFoundry$Machine" "strays" "I", Cond.methodLink RX12 205 yX5_fieldAt, Cond.instanceMethod yX5_fieldAt, Cond.selects RX5 yX5_fieldAt yX5_fieldAt, Cond.code yX5_fieldAt cX5_fieldAt 2 (some .long), Cond.methodLink RX12 209 yX5_elementAt, Cond.instanceMethod yX5_elementAt, Cond.selects RX5 yX5_elementAt yX5_elementAt, Cond.code yX5_elementAt cX5_elementAt 3 (some .int), Cond.methodLink RX12 212 yX5_lengthOf, Cond.methodLink RX9 37 yJ7_fill_53178, Cond.static yJ7_fill_53178, Cond.initialized RJ7, Cond.code yJ7_fill_53178 cJ7_fill_53178 4 none, Cond.methodLink RX12 226 yX9_forgetApplied, Cond.instanceMethod yX9_forgetApplied, Cond.selects RX9 yX9_forgetApplied yX9_forgetApplied, Cond.code yX9_forgetApplied cX9_forgetApplied 1 none, Cond.methodLink RX12 244 yX9_appliedAt, Cond.instanceMethod yX9_appliedAt, Cond.selects RX9 yX9_appliedAt yX9_appliedAt, Cond.code yX9_appliedAt cX9_appliedAt 2 (some .int)]
def tb : List Cond := (u_ws RX0 TX0 2 ++ (u_ws RX1 TX1 10 ++ (u_ws RX2 TX2 12 ++ (u_ws RX3 TX3 16 ++ (u_ws RX4 TX4 8 ++ (u_ws RX5 TX5 20 ++ (u_ws RX7 TX7 17 ++ (u_ws RX8 TX8 15 ++ (u_ws RX9 TX9 6 ++ (u_ws RX11 TX11 18 ++ (u_ws RX12 TX12 18 ++ (u_ws RX13 TX13 23 ++ (u_ws RX14 TX14 143 ++ (tbr_0 ++ (tbr_1 ++ (tbr_2 ++ (tbr_3 ++ (tbr_4 ++ tbr_5))))))))))))))))))
abbrev wt (y : MethodName) (c : ByteArray) (n : Nat) (r : Option FieldType) : List Cond := Cond.code y c n r :: tb
theorem inX0 : ∀ w ∈ u_ws RX0 TX0 2, w ∈ tb := fun _ h => List.mem_append_left _ h
theorem inX1 : ∀ w ∈ u_ws RX1 TX1 10, w ∈ tb := fun _ h => List.mem_append_right _ (List.mem_append_left _ h)
theorem inX2 : ∀ w ∈ u_ws RX2 TX2 12, w ∈ tb := fun _ h => List.mem_append_right _ (List.mem_append_right _ (List.mem_append_left _ h))
theorem inX3 : ∀ w ∈ u_ws RX3 TX3 16, w ∈ tb := fun _ h => List.mem_append_right _ (List.mem_append_right _ (List.mem_append_right _ (List.mem_append_left _ h)))
theorem inX4 : ∀ w ∈ u_ws RX4 TX4 8, w ∈ tb := fun _ h => List.mem_append_right _ (List.mem_append_right _ (List.mem_append_right _ (List.mem_append_right _ (List.mem_append_left _ h))))
theorem inX5 : ∀ w ∈ u_ws RX5 TX5 20, w ∈ tb := fun _ h => List.mem_append_right _ (List.mem_append_right _ (List.mem_append_right _ (List.mem_append_right _ (List.mem_append_right _ (List.mem_append_left _ h)))))
theorem inX7 : ∀ w ∈ u_ws RX7 TX7 17, w ∈ tb := fun _ h => List.mem_append_right _ (List.mem_append_right _ (List.mem_append_right _ (List.mem_append_right _ (List.mem_append_right _ (List.mem_append_right _ (List.mem_append_left _ h))))))
theorem inX8 : ∀ w ∈ u_ws RX8 TX8 15, w ∈ tb := fun _ h => List.mem_append_right _ (List.mem_append_right _ (List.mem_append_right _ (List.mem_append_right _ (List.mem_append_right _ (List.mem_append_right _ (List.mem_append_right _ (List.mem_append_left _ h)))))))
theorem inX9 : ∀ w ∈ u_ws RX9 TX9 6, w ∈ tb := fun _ h => List.mem_append_right _ (List.mem_append_right _ (List.mem_append_right _ (List.mem_append_right _ (List.mem_append_right _ (List.mem_append_right _ (List.mem_append_right _ (List.mem_append_right _ (List.mem_append_left _ h))))))))
theorem inX11 : ∀ w ∈ u_ws RX11 TX11 18, w ∈ tb := fun _ h => List.mem_append_right _ (List.mem_append_right _ (List.mem_append_right _ (List.mem_append_right _ (List.mem_append_right _ (List.mem_append_right _ (List.mem_append_right _ (List.mem_append_right _ (List.mem_append_right _ (List.mem_append_left _ h)))))))))
theorem inX12 : ∀ w ∈ u_ws RX12 TX12 18, w ∈ tb := fun _ h => List.mem_append_right _ (List.mem_append_right _ (List.mem_append_right _ (List.mem_append_right _ (List.mem_append_right _ (List.mem_append_right _ (List.mem_append_right _ (List.mem_append_right _ (List.mem_append_right _ (List.mem_append_right _ (List.mem_append_left _ h))))))))))
theorem inX13 : ∀ w ∈ u_ws RX13 TX13 23, w ∈ tb := fun _ h => List.mem_append_right _ (List.mem_append_right _ (List.mem_append_right _ (List.mem_append_right _ (List.mem_append_right _ (List.mem_append_right _ (List.mem_append_right _ (List.mem_append_right _ (List.mem_append_right _ (List.mem_append_right _ (List.mem_append_right _ (List.mem_append_left _ h)))))))))))
theorem inX14 : ∀ w ∈ u_ws RX14 TX14 143, w ∈ tb := fun _ h => List.mem_append_right _ (List.mem_append_right _ (List.mem_append_right _ (List.mem_append_right _ (List.mem_append_right _ (List.mem_append_right _ (List.mem_append_right _ (List.mem_append_right _ (List.mem_append_right _ (List.mem_append_right _ (List.mem_append_right _ (List.mem_append_right _ (List.mem_append_left _ h))))))))))))
theorem tbi_0 : ∀ w ∈ tbr_0, w ∈ tb := fun _ h => List.mem_append_right _ (List.mem_append_right _ (List.mem_append_right _ (List.mem_append_right _ (List.mem_append_right _ (List.mem_append_right _ (List.mem_append_right _ (List.mem_append_right _ (List.mem_append_right _ (List.mem_append_right _ (List.mem_append_right _ (List.mem_append_right _ (List.mem_append_right _ (List.mem_append_left _ h)))))))))))))
theorem tbi_1 : ∀ w ∈ tbr_1, w ∈ tb := fun _ h => List.mem_append_right _ (List.mem_append_right _ (List.mem_append_right _ (List.mem_append_right _ (List.mem_append_right _ (List.mem_append_right _ (List.mem_append_right _ (List.mem_append_right _ (List.mem_append_right _ (List.mem_append_right _ (List.mem_append_right _ (List.mem_append_right _ (List.mem_append_right _ (List.mem_append_right _ (List.mem_append_left _ h))))))))))))))
theorem tbi_2 : ∀ w ∈ tbr_2, w ∈ tb := fun _ h => List.mem_append_right _ (List.mem_append_right _ (List.mem_append_right _ (List.mem_append_right _ (List.mem_append_right _ (List.mem_append_right _ (List.mem_append_right _ (List.mem_append_right _ (List.mem_append_right _ (List.mem_append_right _ (List.mem_append_right _ (List.mem_append_right _ (List.mem_append_right _ (List.mem_append_right _ (List.mem_append_right _ (List.mem_append_left _ h)))))))))))))))
theorem tbi_3 : ∀ w ∈ tbr_3, w ∈ tb := fun _ h => List.mem_append_right _ (List.mem_append_right _ (List.mem_append_right _ (List.mem_append_right _ (List.mem_append_right _ (List.mem_append_right _ (List.mem_append_right _ (List.mem_append_right _ (List.mem_append_right _ (List.mem_append_right _ (List.mem_append_right _ (List.mem_append_right _ (List.mem_append_right _ (List.mem_append_right _ (List.mem_append_right _ (List.mem_append_right _ (List.mem_append_left _ h))))))))))))))))
theorem tbi_4 : ∀ w ∈ tbr_4, w ∈ tb := fun _ h => List.mem_append_right _ (List.mem_append_right _ (List.mem_append_right _ (List.mem_append_right _ (List.mem_append_right _ (List.mem_append_right _ (List.mem_append_right _ (List.mem_append_right _ (List.mem_append_right _ (List.mem_append_right _ (List.mem_append_right _ (List.mem_append_right _ (List.mem_append_right _ (List.mem_append_right _ (List.mem_append_right _ (List.mem_append_right _ (List.mem_append_right _ (List.mem_append_left _ h)))))))))))))))))
theorem tbi_5 : ∀ w ∈ tbr_5, w ∈ tb := fun _ h => List.mem_append_right _ (List.mem_append_right _ (List.mem_append_right _ (List.mem_append_right _ (List.mem_append_right _ (List.mem_append_right _ (List.mem_append_right _ (List.mem_append_right _ (List.mem_append_right _ (List.mem_append_right _ (List.mem_append_right _ (List.mem_append_right _ (List.mem_append_right _ (List.mem_append_right _ (List.mem_append_right _ (List.mem_append_right _ (List.mem_append_right _ (List.mem_append_right _ (h))))))))))))))))))
theorem kw_0 : Cond.methodLink RX0 1 objectInit ∈ tb := tbi_0 _ (List.mem_of_getElem? (i := 0) rfl)
theorem kw_1 : Cond.instanceMethod objectInit ∈ tb := tbi_0 _ (List.mem_of_getElem? (i := 1) rfl)
theorem kw_2 : Cond.code objectInit ⟨#[0xb1]⟩ 1 none ∈ tb := tbi_0 _ (List.mem_of_getElem? (i := 2) rfl)
theorem kw_3 : Cond.arrayClass .byte ∈ tb := tbi_0 _ (List.mem_of_getElem? (i := 3) rfl)
theorem kw_4 : Cond.fieldLink RX0 7 "CodeFoundry$Bytes" "data" "[B" ∈ tb := tbi_0 _ (List.mem_of_getElem? (i := 4) rfl)
theorem kw_5 : Cond.methodLink RX4 3 objectInit ∈ tb := tbi_0 _ (List.mem_of_getElem? (i := 5) rfl)
theorem kw_6 : Cond.arrayClass .int ∈ tb := tbi_0 _ (List.mem_of_getElem? (i := 6) rfl)
theorem kw_7 : Cond.fieldLink RX4 9 "CodeFoundry$Heights" "come" "[I" ∈ tb := tbi_0 _ (List.mem_of_getElem? (i := 7) rfl)
theorem kw_8 : Cond.fieldLink RX4 15 "CodeFoundry$Heights" "waiting" "[I" ∈ tb := tbi_0 _ (List.mem_of_getElem? (i := 8) rfl)
theorem kw_9 : Cond.arrayClass .boolean ∈ tb := tbi_0 _ (List.mem_of_getElem? (i := 9) rfl)
theorem kw_10 : Cond.fieldLink RX4 18 "CodeFoundry$Heights" "wrong" "[Z" ∈ tb := tbi_0 _ (List.mem_of_getElem? (i := 10) rfl)
theorem kw_11 : Cond.methodLink RX8 3 objectInit ∈ tb := tbi_0 _ (List.mem_of_getElem? (i := 11) rfl)
theorem kw_12 : Cond.fieldLink RX8 9 "CodeFoundry$Row" "op" "[I" ∈ tb := tbi_0 _ (List.mem_of_getElem? (i := 12) rfl)
theorem kw_13 : Cond.arrayClass .long ∈ tb := tbi_0 _ (List.mem_of_getElem? (i := 13) rfl)
theorem kw_14 : Cond.fieldLink RX8 15 "CodeFoundry$Row" "arg" "[J" ∈ tb := tbi_0 _ (List.mem_of_getElem? (i := 14) rfl)
theorem kw_15 : Cond.fieldLink RX8 19 "CodeFoundry$Row" "table" "[I" ∈ tb := tbi_0 _ (List.mem_of_getElem? (i := 15) rfl)
theorem kw_16 : Cond.fieldLink RX8 22 "CodeFoundry$Row" "catchFrom" "[I" ∈ tb := tbi_0 _ (List.mem_of_getElem? (i := 16) rfl)
theorem kw_17 : Cond.fieldLink RX8 25 "CodeFoundry$Row" "catchTo" "[I" ∈ tb := tbi_0 _ (List.mem_of_getElem? (i := 17) rfl)
theorem kw_18 : Cond.fieldLink RX8 28 "CodeFoundry$Row" "catchAt" "[I" ∈ tb := tbi_0 _ (List.mem_of_getElem? (i := 18) rfl)
theorem kw_19 : Cond.fieldLink RX8 31 "CodeFoundry$Row" "catchKind" "[I" ∈ tb := tbi_0 _ (List.mem_of_getElem? (i := 19) rfl)
theorem kw_20 : Cond.methodLink RX1 3 objectInit ∈ tb := tbi_0 _ (List.mem_of_getElem? (i := 20) rfl)
theorem kw_21 : Cond.classLink RX1 9 RX4 ∈ tb := tbi_0 _ (List.mem_of_getElem? (i := 21) rfl)
theorem kw_22 : Cond.instantiable RX4 8 ∈ tb := tbi_0 _ (List.mem_of_getElem? (i := 22) rfl)
theorem kw_23 : Cond.initialized RX4 ∈ tb := tbi_0 _ (List.mem_of_getElem? (i := 23) rfl)
theorem kw_24 : Cond.code yX4_init cX4_init 1 none ∈ tb := tbi_0 _ (List.mem_of_getElem? (i := 24) rfl)
theorem kw_25 : Cond.instanceMethod yX4_init ∈ tb := tbi_0 _ (List.mem_of_getElem? (i := 25) rfl)
theorem kw_26 : Cond.fieldLink RX1 12 "CodeFoundry$Checker" "heights" "LCodeFoundry$Heights;" ∈ tb := tbi_0 _ (List.mem_of_getElem? (i := 26) rfl)
theorem kw_27 : Cond.fieldLink RX1 18 "CodeFoundry$Checker" "before" "[B" ∈ tb := tbi_0 _ (List.mem_of_getElem? (i := 27) rfl)
theorem kw_28 : Cond.fieldLink RX1 22 "CodeFoundry$Checker" "come" "[Z" ∈ tb := tbi_0 _ (List.mem_of_getElem? (i := 28) rfl)
theorem kw_29 : Cond.fieldLink RX1 26 "CodeFoundry$Checker" "waiting" "[Z" ∈ tb := tbi_0 _ (List.mem_of_getElem? (i := 29) rfl)
theorem kw_30 : Cond.fieldLink RX1 29 "CodeFoundry$Checker" "now" "[B" ∈ tb := tbi_0 _ (List.mem_of_getElem? (i := 30) rfl)
theorem kw_31 : Cond.methodLink RX7 3 objectInit ∈ tb := tbi_0 _ (List.mem_of_getElem? (i := 31) rfl)
theorem kw_32 : Cond.fieldLink RX7 9 "CodeFoundry$Reader" "data" "[B" ∈ tb := tbi_0 _ (List.mem_of_getElem? (i := 32) rfl)
theorem kw_33 : Cond.fieldLink RX7 15 "CodeFoundry$Reader" "brokenPlace" "I" ∈ tb := tbi_0 _ (List.mem_of_getElem? (i := 33) rfl)
theorem kw_34 : Cond.fieldLink RX7 19 "CodeFoundry$Reader" "entry" "[I" ∈ tb := tbi_0 _ (List.mem_of_getElem? (i := 34) rfl)
theorem kw_35 : Cond.fieldLink RX7 23 "CodeFoundry$Reader" "memberAt" "[I" ∈ tb := tbi_0 _ (List.mem_of_getElem? (i := 35) rfl)
theorem kw_36 : Cond.fieldLink RX7 26 "CodeFoundry$Reader" "codeAt" "[I" ∈ tb := tbi_0 _ (List.mem_of_getElem? (i := 36) rfl)
theorem kw_37 : Cond.fieldLink RX7 29 "CodeFoundry$Reader" "codeEnd" "[I" ∈ tb := tbi_0 _ (List.mem_of_getElem? (i := 37) rfl)
theorem kw_38 : Cond.methodLink RX2 3 objectInit ∈ tb := tbi_0 _ (List.mem_of_getElem? (i := 38) rfl)
theorem kw_39 : Cond.classLink RX2 9 RX7 ∈ tb := tbi_0 _ (List.mem_of_getElem? (i := 39) rfl)
theorem kw_40 : Cond.instantiable RX7 17 ∈ tb := tbi_1 _ (List.mem_of_getElem? (i := 0) rfl)
theorem kw_41 : Cond.initialized RX7 ∈ tb := tbi_1 _ (List.mem_of_getElem? (i := 1) rfl)
theorem kw_42 : Cond.code yX7_init cX7_init 1 none ∈ tb := tbi_1 _ (List.mem_of_getElem? (i := 2) rfl)
theorem kw_43 : Cond.instanceMethod yX7_init ∈ tb := tbi_1 _ (List.mem_of_getElem? (i := 3) rfl)
theorem kw_44 : Cond.fieldLink RX2 12 "CodeFoundry$CodeReader" "file" "LCodeFoundry$Reader;" ∈ tb := tbi_1 _ (List.mem_of_getElem? (i := 4) rfl)
theorem kw_45 : Cond.fieldLink RX2 18 "CodeFoundry$CodeReader" "numberAt" "[I" ∈ tb := tbi_1 _ (List.mem_of_getElem? (i := 5) rfl)
theorem kw_46 : Cond.methodLink RX11 3 objectInit ∈ tb := tbi_1 _ (List.mem_of_getElem? (i := 6) rfl)
theorem kw_47 : Cond.classLink RX11 9 RX0 ∈ tb := tbi_1 _ (List.mem_of_getElem? (i := 7) rfl)
theorem kw_48 : Cond.instantiable RX0 2 ∈ tb := tbi_1 _ (List.mem_of_getElem? (i := 8) rfl)
theorem kw_49 : Cond.initialized RX0 ∈ tb := tbi_1 _ (List.mem_of_getElem? (i := 9) rfl)
theorem kw_50 : Cond.code yX0_init cX0_init 1 none ∈ tb := tbi_1 _ (List.mem_of_getElem? (i := 10) rfl)
theorem kw_51 : Cond.instanceMethod yX0_init ∈ tb := tbi_1 _ (List.mem_of_getElem? (i := 11) rfl)
theorem kw_52 : Cond.fieldLink RX11 12 "CodeFoundry$Writer" "pool" "LCodeFoundry$Bytes;" ∈ tb := tbi_1 _ (List.mem_of_getElem? (i := 12) rfl)
theorem kw_53 : Cond.fieldLink RX11 18 "CodeFoundry$Writer" "rest" "LCodeFoundry$Bytes;" ∈ tb := tbi_1 _ (List.mem_of_getElem? (i := 13) rfl)
theorem kw_54 : Cond.fieldLink RX11 21 "CodeFoundry$Writer" "wanted" "LCodeFoundry$Bytes;" ∈ tb := tbi_1 _ (List.mem_of_getElem? (i := 14) rfl)
theorem kw_55 : Cond.fieldLink RX11 24 "CodeFoundry$Writer" "entryAt" "[I" ∈ tb := tbi_1 _ (List.mem_of_getElem? (i := 15) rfl)
theorem kw_56 : Cond.fieldLink RX11 28 "CodeFoundry$Writer" "entryEnd" "[I" ∈ tb := tbi_1 _ (List.mem_of_getElem? (i := 16) rfl)
theorem kw_57 : Cond.fieldLink RX11 31 "CodeFoundry$Writer" "fieldName" "[I" ∈ tb := tbi_1 _ (List.mem_of_getElem? (i := 17) rfl)
theorem kw_58 : Cond.fieldLink RX11 34 "CodeFoundry$Writer" "fieldType" "[I" ∈ tb := tbi_1 _ (List.mem_of_getElem? (i := 18) rfl)
theorem kw_59 : Cond.fieldLink RX11 37 "CodeFoundry$Writer" "fieldEntry" "[I" ∈ tb := tbi_1 _ (List.mem_of_getElem? (i := 19) rfl)
theorem kw_60 : Cond.fieldLink RX11 40 "CodeFoundry$Writer" "methodEntry" "[I" ∈ tb := tbi_1 _ (List.mem_of_getElem? (i := 20) rfl)
theorem kw_61 : Cond.classLink RX11 43 RX4 ∈ tb := tbi_1 _ (List.mem_of_getElem? (i := 21) rfl)
theorem kw_62 : Cond.fieldLink RX11 46 "CodeFoundry$Writer" "heights" "LCodeFoundry$Heights;" ∈ tb := tbi_1 _ (List.mem_of_getElem? (i := 22) rfl)
theorem kw_63 : Cond.fieldLink RX11 50 "CodeFoundry$Writer" "needs" "[I" ∈ tb := tbi_1 _ (List.mem_of_getElem? (i := 23) rfl)
theorem kw_64 : Cond.fieldLink RX11 53 "CodeFoundry$Writer" "offsets" "[I" ∈ tb := tbi_1 _ (List.mem_of_getElem? (i := 24) rfl)
theorem kw_65 : Cond.methodLink RX5 3 objectInit ∈ tb := tbi_1 _ (List.mem_of_getElem? (i := 25) rfl)
theorem kw_66 : Cond.fieldLink RX5 9 "CodeFoundry$Machine" "fields" "[J" ∈ tb := tbi_1 _ (List.mem_of_getElem? (i := 26) rfl)
theorem kw_67 : Cond.fieldLink RX5 15 "CodeFoundry$Machine" "heap" "[I" ∈ tb := tbi_1 _ (List.mem_of_getElem? (i := 27) rfl)
theorem kw_68 : Cond.fieldLink RX5 19 "CodeFoundry$Machine" "arrayAt" "[I" ∈ tb := tbi_1 _ (List.mem_of_getElem? (i := 28) rfl)
theorem kw_69 : Cond.fieldLink RX5 22 "CodeFoundry$Machine" "arguments" "[J" ∈ tb := tbi_1 _ (List.mem_of_getElem? (i := 29) rfl)
theorem kw_70 : Cond.fieldLink RX5 25 "CodeFoundry$Machine" "locals" "[J" ∈ tb := tbi_1 _ (List.mem_of_getElem? (i := 30) rfl)
theorem kw_71 : Cond.fieldLink RX5 28 "CodeFoundry$Machine" "stack" "[J" ∈ tb := tbi_1 _ (List.mem_of_getElem? (i := 31) rfl)
theorem kw_72 : Cond.fieldLink RX5 31 "CodeFoundry$Machine" "frames" "[I" ∈ tb := tbi_1 _ (List.mem_of_getElem? (i := 32) rfl)
theorem kw_73 : Cond.fieldLink RX5 34 "CodeFoundry$Machine" "lastError" "I" ∈ tb := tbi_1 _ (List.mem_of_getElem? (i := 33) rfl)
theorem kw_74 : Cond.methodLink RX3 3 objectInit ∈ tb := tbi_1 _ (List.mem_of_getElem? (i := 34) rfl)
theorem kw_75 : Cond.fieldLink RX3 9 "CodeFoundry$Graph" "start" "[I" ∈ tb := tbi_1 _ (List.mem_of_getElem? (i := 35) rfl)
theorem kw_76 : Cond.fieldLink RX3 15 "CodeFoundry$Graph" "blockOf" "[I" ∈ tb := tbi_1 _ (List.mem_of_getElem? (i := 36) rfl)
theorem kw_77 : Cond.fieldLink RX3 18 "CodeFoundry$Graph" "edgeAt" "[I" ∈ tb := tbi_1 _ (List.mem_of_getElem? (i := 37) rfl)
theorem kw_78 : Cond.fieldLink RX3 21 "CodeFoundry$Graph" "edges" "[I" ∈ tb := tbi_1 _ (List.mem_of_getElem? (i := 38) rfl)
theorem kw_79 : Cond.fieldLink RX3 24 "CodeFoundry$Graph" "backAt" "[I" ∈ tb := tbi_1 _ (List.mem_of_getElem? (i := 39) rfl)
theorem kw_80 : Cond.fieldLink RX3 27 "CodeFoundry$Graph" "backs" "[I" ∈ tb := tbi_2 _ (List.mem_of_getElem? (i := 0) rfl)
theorem kw_81 : Cond.fieldLink RX3 30 "CodeFoundry$Graph" "reached" "[Z" ∈ tb := tbi_2 _ (List.mem_of_getElem? (i := 1) rfl)
theorem kw_82 : Cond.fieldLink RX3 34 "CodeFoundry$Graph" "dominators" "[J" ∈ tb := tbi_2 _ (List.mem_of_getElem? (i := 2) rfl)
theorem kw_83 : Cond.fieldLink RX3 38 "CodeFoundry$Graph" "dominator" "[I" ∈ tb := tbi_2 _ (List.mem_of_getElem? (i := 3) rfl)
theorem kw_84 : Cond.fieldLink RX3 41 "CodeFoundry$Graph" "latches" "[I" ∈ tb := tbi_2 _ (List.mem_of_getElem? (i := 4) rfl)
theorem kw_85 : Cond.fieldLink RX3 44 "CodeFoundry$Graph" "depth" "[I" ∈ tb := tbi_2 _ (List.mem_of_getElem? (i := 5) rfl)
theorem kw_86 : Cond.fieldLink RX3 47 "CodeFoundry$Graph" "seen" "[I" ∈ tb := tbi_2 _ (List.mem_of_getElem? (i := 6) rfl)
theorem kw_87 : Cond.fieldLink RX3 50 "CodeFoundry$Graph" "waiting" "[I" ∈ tb := tbi_2 _ (List.mem_of_getElem? (i := 7) rfl)
theorem kw_88 : Cond.methodLink RX9 3 objectInit ∈ tb := tbi_2 _ (List.mem_of_getElem? (i := 8) rfl)
theorem kw_89 : Cond.classLink RX9 9 RX8 ∈ tb := tbi_2 _ (List.mem_of_getElem? (i := 9) rfl)
theorem kw_90 : Cond.instantiable RX8 15 ∈ tb := tbi_2 _ (List.mem_of_getElem? (i := 10) rfl)
theorem kw_91 : Cond.initialized RX8 ∈ tb := tbi_2 _ (List.mem_of_getElem? (i := 11) rfl)
theorem kw_92 : Cond.methodLink RX9 11 yX8_init ∈ tb := tbi_2 _ (List.mem_of_getElem? (i := 12) rfl)
theorem kw_93 : Cond.code yX8_init cX8_init 4 none ∈ tb := tbi_2 _ (List.mem_of_getElem? (i := 13) rfl)
theorem kw_94 : Cond.instanceMethod yX8_init ∈ tb := tbi_2 _ (List.mem_of_getElem? (i := 14) rfl)
theorem kw_95 : Cond.fieldLink RX9 14 "CodeFoundry$Smith" "row" "LCodeFoundry$Row;" ∈ tb := tbi_2 _ (List.mem_of_getElem? (i := 15) rfl)
theorem kw_96 : Cond.fieldLink RX9 20 "CodeFoundry$Smith" "applied" "[I" ∈ tb := tbi_2 _ (List.mem_of_getElem? (i := 16) rfl)
theorem kw_97 : Cond.fieldLink RX9 24 "CodeFoundry$Smith" "marked" "[Z" ∈ tb := tbi_2 _ (List.mem_of_getElem? (i := 17) rfl)
theorem kw_98 : Cond.fieldLink RX9 28 "CodeFoundry$Smith" "reached" "[Z" ∈ tb := tbi_2 _ (List.mem_of_getElem? (i := 18) rfl)
theorem kw_99 : Cond.fieldLink RX9 31 "CodeFoundry$Smith" "live" "[I" ∈ tb := tbi_2 _ (List.mem_of_getElem? (i := 19) rfl)
theorem kw_100 : Cond.fieldLink RX9 34 "CodeFoundry$Smith" "newPlace" "[I" ∈ tb := tbi_2 _ (List.mem_of_getElem? (i := 20) rfl)
theorem kw_101 : Cond.methodLink RX12 1 objectInit ∈ tb := tbi_2 _ (List.mem_of_getElem? (i := 21) rfl)
theorem kw_102 : Cond.classLink RX12 7 RX0 ∈ tb := tbi_2 _ (List.mem_of_getElem? (i := 22) rfl)
theorem kw_103 : Cond.fieldLink RX12 10 "CodeFoundry" "tray" "LCodeFoundry$Bytes;" ∈ tb := tbi_2 _ (List.mem_of_getElem? (i := 23) rfl)
theorem kw_104 : Cond.fieldLink RX12 16 "CodeFoundry" "written" "LCodeFoundry$Bytes;" ∈ tb := tbi_2 _ (List.mem_of_getElem? (i := 24) rfl)
theorem kw_105 : Cond.fieldLink RX12 19 "CodeFoundry" "draft" "LCodeFoundry$Bytes;" ∈ tb := tbi_2 _ (List.mem_of_getElem? (i := 25) rfl)
theorem kw_106 : Cond.classLink RX12 22 "CodeFoundry$Unit" ∈ tb := tbi_2 _ (List.mem_of_getElem? (i := 26) rfl)
theorem kw_107 : Cond.fieldLink RX12 24 "CodeFoundry" "units" "[LCodeFoundry$Unit;" ∈ tb := tbi_2 _ (List.mem_of_getElem? (i := 27) rfl)
theorem kw_108 : Cond.classLink RX12 28 RX2 ∈ tb := tbi_2 _ (List.mem_of_getElem? (i := 28) rfl)
theorem kw_109 : Cond.instantiable RX2 12 ∈ tb := tbi_2 _ (List.mem_of_getElem? (i := 29) rfl)
theorem kw_110 : Cond.initialized RX2 ∈ tb := tbi_2 _ (List.mem_of_getElem? (i := 30) rfl)
theorem kw_111 : Cond.code yX2_init cX2_init 1 none ∈ tb := tbi_2 _ (List.mem_of_getElem? (i := 31) rfl)
theorem kw_112 : Cond.instanceMethod yX2_init ∈ tb := tbi_2 _ (List.mem_of_getElem? (i := 32) rfl)
theorem kw_113 : Cond.fieldLink RX12 31 "CodeFoundry" "reader" "LCodeFoundry$CodeReader;" ∈ tb := tbi_2 _ (List.mem_of_getElem? (i := 33) rfl)
theorem kw_114 : Cond.classLink RX12 35 RX1 ∈ tb := tbi_2 _ (List.mem_of_getElem? (i := 34) rfl)
theorem kw_115 : Cond.instantiable RX1 10 ∈ tb := tbi_2 _ (List.mem_of_getElem? (i := 35) rfl)
theorem kw_116 : Cond.initialized RX1 ∈ tb := tbi_2 _ (List.mem_of_getElem? (i := 36) rfl)
theorem kw_117 : Cond.code yX1_init cX1_init 1 none ∈ tb := tbi_2 _ (List.mem_of_getElem? (i := 37) rfl)
theorem kw_118 : Cond.instanceMethod yX1_init ∈ tb := tbi_2 _ (List.mem_of_getElem? (i := 38) rfl)
theorem kw_119 : Cond.fieldLink RX12 38 "CodeFoundry" "checker" "LCodeFoundry$Checker;" ∈ tb := tbi_2 _ (List.mem_of_getElem? (i := 39) rfl)
theorem kw_120 : Cond.classLink RX12 42 RX11 ∈ tb := tbi_3 _ (List.mem_of_getElem? (i := 0) rfl)
theorem kw_121 : Cond.instantiable RX11 18 ∈ tb := tbi_3 _ (List.mem_of_getElem? (i := 1) rfl)
theorem kw_122 : Cond.initialized RX11 ∈ tb := tbi_3 _ (List.mem_of_getElem? (i := 2) rfl)
theorem kw_123 : Cond.code yX11_init cX11_init 1 none ∈ tb := tbi_3 _ (List.mem_of_getElem? (i := 3) rfl)
theorem kw_124 : Cond.instanceMethod yX11_init ∈ tb := tbi_3 _ (List.mem_of_getElem? (i := 4) rfl)
theorem kw_125 : Cond.fieldLink RX12 45 "CodeFoundry" "writer" "LCodeFoundry$Writer;" ∈ tb := tbi_3 _ (List.mem_of_getElem? (i := 5) rfl)
theorem kw_126 : Cond.classLink RX12 49 RX5 ∈ tb := tbi_3 _ (List.mem_of_getElem? (i := 6) rfl)
theorem kw_127 : Cond.instantiable RX5 20 ∈ tb := tbi_3 _ (List.mem_of_getElem? (i := 7) rfl)
theorem kw_128 : Cond.initialized RX5 ∈ tb := tbi_3 _ (List.mem_of_getElem? (i := 8) rfl)
theorem kw_129 : Cond.code yX5_init cX5_init 1 none ∈ tb := tbi_3 _ (List.mem_of_getElem? (i := 9) rfl)
theorem kw_130 : Cond.instanceMethod yX5_init ∈ tb := tbi_3 _ (List.mem_of_getElem? (i := 10) rfl)
theorem kw_131 : Cond.fieldLink RX12 52 "CodeFoundry" "machine" "LCodeFoundry$Machine;" ∈ tb := tbi_3 _ (List.mem_of_getElem? (i := 11) rfl)
theorem kw_132 : Cond.classLink RX12 56 RX3 ∈ tb := tbi_3 _ (List.mem_of_getElem? (i := 12) rfl)
theorem kw_133 : Cond.instantiable RX3 16 ∈ tb := tbi_3 _ (List.mem_of_getElem? (i := 13) rfl)
theorem kw_134 : Cond.initialized RX3 ∈ tb := tbi_3 _ (List.mem_of_getElem? (i := 14) rfl)
theorem kw_135 : Cond.code yX3_init cX3_init 1 none ∈ tb := tbi_3 _ (List.mem_of_getElem? (i := 15) rfl)
theorem kw_136 : Cond.instanceMethod yX3_init ∈ tb := tbi_3 _ (List.mem_of_getElem? (i := 16) rfl)
theorem kw_137 : Cond.fieldLink RX12 59 "CodeFoundry" "graph" "LCodeFoundry$Graph;" ∈ tb := tbi_3 _ (List.mem_of_getElem? (i := 17) rfl)
theorem kw_138 : Cond.classLink RX12 63 RX9 ∈ tb := tbi_3 _ (List.mem_of_getElem? (i := 18) rfl)
theorem kw_139 : Cond.instantiable RX9 6 ∈ tb := tbi_3 _ (List.mem_of_getElem? (i := 19) rfl)
theorem kw_140 : Cond.initialized RX9 ∈ tb := tbi_3 _ (List.mem_of_getElem? (i := 20) rfl)
theorem kw_141 : Cond.code yX9_init cX9_init 1 none ∈ tb := tbi_3 _ (List.mem_of_getElem? (i := 21) rfl)
theorem kw_142 : Cond.instanceMethod yX9_init ∈ tb := tbi_3 _ (List.mem_of_getElem? (i := 22) rfl)
theorem kw_143 : Cond.fieldLink RX12 66 "CodeFoundry" "smith" "LCodeFoundry$Smith;" ∈ tb := tbi_3 _ (List.mem_of_getElem? (i := 23) rfl)
theorem kw_144 : Cond.fieldLink RX12 70 "CodeFoundry" "brokenPlace" "I" ∈ tb := tbi_3 _ (List.mem_of_getElem? (i := 24) rfl)
theorem kw_145 : Cond.fieldLink RX12 74 "CodeFoundry" "faultMethod" "I" ∈ tb := tbi_3 _ (List.mem_of_getElem? (i := 25) rfl)
theorem kw_146 : Cond.fieldLink RX12 77 "CodeFoundry" "faultAt" "I" ∈ tb := tbi_3 _ (List.mem_of_getElem? (i := 26) rfl)
theorem kw_147 : Cond.fieldLink RX12 80 "CodeFoundry" "writtenFile" "I" ∈ tb := tbi_3 _ (List.mem_of_getElem? (i := 27) rfl)
theorem kw_148 : Cond.fieldLink RX0 13 "CodeFoundry$Bytes" "count" "I" ∈ tb := tbi_3 _ (List.mem_of_getElem? (i := 28) rfl)
theorem kw_149 : Cond.methodLink RX0 23 yX0_put ∈ tb := tbi_3 _ (List.mem_of_getElem? (i := 29) rfl)
theorem kw_150 : Cond.instanceMethod yX0_put ∈ tb := tbi_3 _ (List.mem_of_getElem? (i := 30) rfl)
theorem kw_151 : Cond.selects RX0 yX0_put yX0_put ∈ tb := tbi_3 _ (List.mem_of_getElem? (i := 31) rfl)
theorem kw_152 : Cond.code yX0_put cX0_put 2 none ∈ tb := tbi_3 _ (List.mem_of_getElem? (i := 32) rfl)
theorem kw_153 : Cond.methodLink RX0 27 yX0_put2 ∈ tb := tbi_3 _ (List.mem_of_getElem? (i := 33) rfl)
theorem kw_154 : Cond.instanceMethod yX0_put2 ∈ tb := tbi_3 _ (List.mem_of_getElem? (i := 34) rfl)
theorem kw_155 : Cond.selects RX0 yX0_put2 yX0_put2 ∈ tb := tbi_3 _ (List.mem_of_getElem? (i := 35) rfl)
theorem kw_156 : Cond.code yX0_put2 cX0_put2 2 none ∈ tb := tbi_3 _ (List.mem_of_getElem? (i := 36) rfl)
theorem kw_157 : Cond.fieldLink RX12 83 "CodeFoundry$Bytes" "count" "I" ∈ tb := tbi_3 _ (List.mem_of_getElem? (i := 37) rfl)
theorem kw_158 : Cond.fieldLink RX12 86 "CodeFoundry" "fed" "I" ∈ tb := tbi_3 _ (List.mem_of_getElem? (i := 38) rfl)
theorem kw_159 : Cond.constant RX12 89 (65536) ∈ tb := tbi_3 _ (List.mem_of_getElem? (i := 39) rfl)
theorem kw_160 : Cond.methodLink RX12 90 yX0_put4 ∈ tb := tbi_4 _ (List.mem_of_getElem? (i := 0) rfl)
theorem kw_161 : Cond.instanceMethod yX0_put4 ∈ tb := tbi_4 _ (List.mem_of_getElem? (i := 1) rfl)
theorem kw_162 : Cond.selects RX0 yX0_put4 yX0_put4 ∈ tb := tbi_4 _ (List.mem_of_getElem? (i := 2) rfl)
theorem kw_163 : Cond.code yX0_put4 cX0_put4 2 none ∈ tb := tbi_4 _ (List.mem_of_getElem? (i := 3) rfl)
theorem kw_164 : Cond.fieldLink RX12 110 "CodeFoundry" "brokenRule" "I" ∈ tb := tbi_4 _ (List.mem_of_getElem? (i := 4) rfl)
theorem kw_165 : Cond.fieldLink RX12 94 "CodeFoundry" "unitCount" "I" ∈ tb := tbi_4 _ (List.mem_of_getElem? (i := 5) rfl)
theorem kw_166 : Cond.methodLink RX12 116 yX12_unitAt ∈ tb := tbi_4 _ (List.mem_of_getElem? (i := 6) rfl)
theorem kw_167 : Cond.instanceMethod yX12_unitAt ∈ tb := tbi_4 _ (List.mem_of_getElem? (i := 7) rfl)
theorem kw_168 : Cond.selects RX12 yX12_unitAt yX12_unitAt ∈ tb := tbi_4 _ (List.mem_of_getElem? (i := 8) rfl)
theorem kw_169 : Cond.initialized RX12 ∈ tb := tbi_4 _ (List.mem_of_getElem? (i := 9) rfl)
theorem kw_170 : Cond.code yX12_unitAt cX12_unitAt 2 (some (.object "CodeFoundry$Unit")) ∈ tb := tbi_4 _ (List.mem_of_getElem? (i := 10) rfl)
theorem kw_171 : Cond.methodLink RX12 132 yX12_rowAt ∈ tb := tbi_4 _ (List.mem_of_getElem? (i := 11) rfl)
theorem kw_172 : Cond.instanceMethod yX12_rowAt ∈ tb := tbi_4 _ (List.mem_of_getElem? (i := 12) rfl)
theorem kw_173 : Cond.selects RX12 yX12_rowAt yX12_rowAt ∈ tb := tbi_4 _ (List.mem_of_getElem? (i := 13) rfl)
theorem kw_174 : Cond.code yX12_rowAt cX12_rowAt 4 (some (.object "CodeFoundry$Row")) ∈ tb := tbi_4 _ (List.mem_of_getElem? (i := 14) rfl)
theorem kw_175 : Cond.methodLink RX12 152 yX12_soundUnitAt ∈ tb := tbi_4 _ (List.mem_of_getElem? (i := 15) rfl)
theorem kw_176 : Cond.instanceMethod yX12_soundUnitAt ∈ tb := tbi_4 _ (List.mem_of_getElem? (i := 16) rfl)
theorem kw_177 : Cond.selects RX12 yX12_soundUnitAt yX12_soundUnitAt ∈ tb := tbi_4 _ (List.mem_of_getElem? (i := 17) rfl)
theorem kw_178 : Cond.code yX12_soundUnitAt cX12_soundUnitAt 3 (some (.object "CodeFoundry$Unit")) ∈ tb := tbi_4 _ (List.mem_of_getElem? (i := 18) rfl)
theorem kw_179 : Cond.fieldLink RX5 54 "CodeFoundry$Machine" "argumentCount" "I" ∈ tb := tbi_4 _ (List.mem_of_getElem? (i := 19) rfl)
theorem kw_180 : Cond.fieldLink RX5 38 "CodeFoundry$Machine" "unit" "LCodeFoundry$Unit;" ∈ tb := tbi_4 _ (List.mem_of_getElem? (i := 20) rfl)
theorem kw_181 : Cond.fieldLink RX5 51 "CodeFoundry$Machine" "arrays" "I" ∈ tb := tbi_4 _ (List.mem_of_getElem? (i := 21) rfl)
theorem kw_182 : Cond.methodLink RX5 62 yX5_isArray ∈ tb := tbi_4 _ (List.mem_of_getElem? (i := 22) rfl)
theorem kw_183 : Cond.instanceMethod yX5_isArray ∈ tb := tbi_4 _ (List.mem_of_getElem? (i := 23) rfl)
theorem kw_184 : Cond.selects RX5 yX5_isArray yX5_isArray ∈ tb := tbi_4 _ (List.mem_of_getElem? (i := 24) rfl)
theorem kw_185 : Cond.code yX5_isArray cX5_isArray 3 (some .boolean) ∈ tb := tbi_4 _ (List.mem_of_getElem? (i := 25) rfl)
theorem kw_186 : Cond.methodLink RX5 70 yX5_lengthOf ∈ tb := tbi_4 _ (List.mem_of_getElem? (i := 26) rfl)
theorem kw_187 : Cond.instanceMethod yX5_lengthOf ∈ tb := tbi_4 _ (List.mem_of_getElem? (i := 27) rfl)
theorem kw_188 : Cond.selects RX5 yX5_lengthOf yX5_lengthOf ∈ tb := tbi_4 _ (List.mem_of_getElem? (i := 28) rfl)
theorem kw_189 : Cond.code yX5_lengthOf cX5_lengthOf 2 (some .int) ∈ tb := tbi_4 _ (List.mem_of_getElem? (i := 29) rfl)
theorem kw_190 : Cond.methodLink RX12 182 yX5_addArgument ∈ tb := tbi_4 _ (List.mem_of_getElem? (i := 30) rfl)
theorem kw_191 : Cond.instanceMethod yX5_addArgument ∈ tb := tbi_4 _ (List.mem_of_getElem? (i := 31) rfl)
theorem kw_192 : Cond.selects RX5 yX5_addArgument yX5_addArgument ∈ tb := tbi_4 _ (List.mem_of_getElem? (i := 32) rfl)
theorem kw_193 : Cond.code yX5_addArgument cX5_addArgument 3 (some .int) ∈ tb := tbi_4 _ (List.mem_of_getElem? (i := 33) rfl)
theorem kw_194 : Cond.methodLink RX12 186 yX5_refusal ∈ tb := tbi_4 _ (List.mem_of_getElem? (i := 34) rfl)
theorem kw_195 : Cond.instanceMethod yX5_refusal ∈ tb := tbi_4 _ (List.mem_of_getElem? (i := 35) rfl)
theorem kw_196 : Cond.selects RX5 yX5_refusal yX5_refusal ∈ tb := tbi_4 _ (List.mem_of_getElem? (i := 36) rfl)
theorem kw_197 : Cond.code yX5_refusal cX5_refusal 5 (some .int) ∈ tb := tbi_4 _ (List.mem_of_getElem? (i := 37) rfl)
theorem kw_198 : Cond.fieldLink RX12 192 "CodeFoundry$Machine" "argumentCount" "I" ∈ tb := tbi_4 _ (List.mem_of_getElem? (i := 38) rfl)
theorem kw_199 : Cond.fieldLink RX12 195 "CodeFoundry$Machine" "lastResult" "J" ∈ tb := tbi_4 _ (List.mem_of_getElem? (i := 39) rfl)
theorem kw_200 : Cond.fieldLink RX12 199 "CodeFoundry$Machine" "lastError" "I" ∈ tb := tbi_5 _ (List.mem_of_getElem? (i := 0) rfl)
theorem kw_201 : Cond.fieldLink RX12 202 "CodeFoundry$Machine" "lastSteps" "I" ∈ tb := tbi_5 _ (List.mem_of_getElem? (i := 1) rfl)
theorem kw_202 : Cond.fieldLink RX12 259 "CodeFoundry$Machine" "strays" "I" ∈ tb := tbi_5 _ (List.mem_of_getElem? (i := 2) rfl)
theorem kw_203 : Cond.methodLink RX12 205 yX5_fieldAt ∈ tb := tbi_5 _ (List.mem_of_getElem? (i := 3) rfl)
theorem kw_204 : Cond.instanceMethod yX5_fieldAt ∈ tb := tbi_5 _ (List.mem_of_getElem? (i := 4) rfl)
theorem kw_205 : Cond.selects RX5 yX5_fieldAt yX5_fieldAt ∈ tb := tbi_5 _ (List.mem_of_getElem? (i := 5) rfl)
theorem kw_206 : Cond.code yX5_fieldAt cX5_fieldAt 2 (some .long) ∈ tb := tbi_5 _ (List.mem_of_getElem? (i := 6) rfl)
theorem kw_207 : Cond.methodLink RX12 209 yX5_elementAt ∈ tb := tbi_5 _ (List.mem_of_getElem? (i := 7) rfl)
theorem kw_208 : Cond.instanceMethod yX5_elementAt ∈ tb := tbi_5 _ (List.mem_of_getElem? (i := 8) rfl)
theorem kw_209 : Cond.selects RX5 yX5_elementAt yX5_elementAt ∈ tb := tbi_5 _ (List.mem_of_getElem? (i := 9) rfl)
theorem kw_210 : Cond.code yX5_elementAt cX5_elementAt 3 (some .int) ∈ tb := tbi_5 _ (List.mem_of_getElem? (i := 10) rfl)
theorem kw_211 : Cond.methodLink RX12 212 yX5_lengthOf ∈ tb := tbi_5 _ (List.mem_of_getElem? (i := 11) rfl)
theorem kw_212 : Cond.methodLink RX9 37 yJ7_fill_53178 ∈ tb := tbi_5 _ (List.mem_of_getElem? (i := 12) rfl)
theorem kw_213 : Cond.static yJ7_fill_53178 ∈ tb := tbi_5 _ (List.mem_of_getElem? (i := 13) rfl)
theorem kw_214 : Cond.initialized RJ7 ∈ tb := tbi_5 _ (List.mem_of_getElem? (i := 14) rfl)
theorem kw_215 : Cond.code yJ7_fill_53178 cJ7_fill_53178 4 none ∈ tb := tbi_5 _ (List.mem_of_getElem? (i := 15) rfl)
theorem kw_216 : Cond.methodLink RX12 226 yX9_forgetApplied ∈ tb := tbi_5 _ (List.mem_of_getElem? (i := 16) rfl)
theorem kw_217 : Cond.instanceMethod yX9_forgetApplied ∈ tb := tbi_5 _ (List.mem_of_getElem? (i := 17) rfl)
theorem kw_218 : Cond.selects RX9 yX9_forgetApplied yX9_forgetApplied ∈ tb := tbi_5 _ (List.mem_of_getElem? (i := 18) rfl)
theorem kw_219 : Cond.code yX9_forgetApplied cX9_forgetApplied 1 none ∈ tb := tbi_5 _ (List.mem_of_getElem? (i := 19) rfl)
theorem kw_220 : Cond.methodLink RX12 244 yX9_appliedAt ∈ tb := tbi_5 _ (List.mem_of_getElem? (i := 20) rfl)
theorem kw_221 : Cond.instanceMethod yX9_appliedAt ∈ tb := tbi_5 _ (List.mem_of_getElem? (i := 21) rfl)
theorem kw_222 : Cond.selects RX9 yX9_appliedAt yX9_appliedAt ∈ tb := tbi_5 _ (List.mem_of_getElem? (i := 22) rfl)
theorem kw_223 : Cond.code yX9_appliedAt cX9_appliedAt 2 (some .int) ∈ tb := tbi_5 _ (List.mem_of_getElem? (i := 23) rfl)
theorem tbg_0 : (u_ws RX0 TX0 2).all goodWord = true := by decide +kernel
theorem tbg_1 : (u_ws RX1 TX1 10).all goodWord = true := by decide +kernel
theorem tbg_2 : (u_ws RX2 TX2 12).all goodWord = true := by decide +kernel
theorem tbg_3 : (u_ws RX3 TX3 16).all goodWord = true := by decide +kernel
theorem tbg_4 : (u_ws RX4 TX4 8).all goodWord = true := by decide +kernel
theorem tbg_5 : (u_ws RX5 TX5 20).all goodWord = true := by decide +kernel
theorem tbg_6 : (u_ws RX7 TX7 17).all goodWord = true := by decide +kernel
theorem tbg_7 : (u_ws RX8 TX8 15).all goodWord = true := by decide +kernel
theorem tbg_8 : (u_ws RX9 TX9 6).all goodWord = true := by decide +kernel
theorem tbg_9 : (u_ws RX11 TX11 18).all goodWord = true := by decide +kernel
theorem tbg_10 : (u_ws RX12 TX12 18).all goodWord = true := by decide +kernel
theorem tbg_11 : (u_ws RX13 TX13 23).all goodWord = true := by decide +kernel
theorem tbg_12 : (u_ws RX14 TX14 143).all goodWord = true := by decide +kernel
theorem tbg_13 : (tbr_0).all goodWord = true := by decide +kernel
theorem tbg_14 : (tbr_1).all goodWord = true := by decide +kernel
theorem tbg_15 : (tbr_2).all goodWord = true := by decide +kernel
theorem tbg_16 : (tbr_3).all goodWord = true := by decide +kernel
theorem tbg_17 : (tbr_4).all goodWord = true := by decide +kernel
theorem tbg_18 : (tbr_5).all goodWord = true := by decide +kernel
theorem tb_good : ∀ w ∈ tb, goodWord w = true := by
  intro w h
  unfold tb at h
  simp only [List.mem_append] at h
  rcases h with h | h | h | h | h | h | h | h | h | h | h | h | h | h | h | h | h | h | h
  · exact List.all_eq_true.mp tbg_0 w h
  · exact List.all_eq_true.mp tbg_1 w h
  · exact List.all_eq_true.mp tbg_2 w h
  · exact List.all_eq_true.mp tbg_3 w h
  · exact List.all_eq_true.mp tbg_4 w h
  · exact List.all_eq_true.mp tbg_5 w h
  · exact List.all_eq_true.mp tbg_6 w h
  · exact List.all_eq_true.mp tbg_7 w h
  · exact List.all_eq_true.mp tbg_8 w h
  · exact List.all_eq_true.mp tbg_9 w h
  · exact List.all_eq_true.mp tbg_10 w h
  · exact List.all_eq_true.mp tbg_11 w h
  · exact List.all_eq_true.mp tbg_12 w h
  · exact List.all_eq_true.mp tbg_13 w h
  · exact List.all_eq_true.mp tbg_14 w h
  · exact List.all_eq_true.mp tbg_15 w h
  · exact List.all_eq_true.mp tbg_16 w h
  · exact List.all_eq_true.mp tbg_17 w h
  · exact List.all_eq_true.mp tbg_18 w h
theorem lwi_X0 : ∀ w ∈ u_ws RX0 TX0 2, w ∈ tables_1 := pl_in [53, 55] (by decide +kernel)
theorem lwi_X1 : ∀ w ∈ u_ws RX1 TX1 10, w ∈ tables_1 := pl_in [226, 228, 230, 232, 234, 236, 238, 240, 242, 244] (by decide +kernel)
theorem lwi_X2 : ∀ w ∈ u_ws RX2 TX2 12, w ∈ tables_1 := pl_in [152, 154, 156, 158, 160, 162, 164, 166, 168, 170, 172, 174] (by decide +kernel)
theorem lwi_X3 : ∀ w ∈ u_ws RX3 TX3 16, w ∈ tables_1 := pl_in [408, 410, 412, 414, 416, 418, 420, 422, 424, 426, 428, 430, 432, 434, 436, 438] (by decide +kernel)
theorem lwi_X4 : ∀ w ∈ u_ws RX4 TX4 8, w ∈ tables_1 := pl_in [198, 200, 202, 204, 206, 208, 210, 212] (by decide +kernel)
theorem lwi_X5 : ∀ w ∈ u_ws RX5 TX5 20, w ∈ tables_1 := pl_in [343, 345, 347, 349, 351, 353, 355, 357, 359, 361, 363, 365, 367, 369, 371, 373, 375, 377, 379, 381] (by decide +kernel)
theorem lwi_X7 : ∀ w ∈ u_ws RX7 TX7 17, w ∈ tables_1 := pl_in [103, 105, 107, 109, 111, 113, 115, 117, 119, 121, 123, 125, 127, 129, 131, 133, 135] (by decide +kernel)
theorem lwi_X8 : ∀ w ∈ u_ws RX8 TX8 15, w ∈ tables_1 := pl_in [508, 510, 512, 514, 516, 518, 520, 522, 524, 526, 528, 530, 532, 534, 536] (by decide +kernel)
theorem lwi_X9 : ∀ w ∈ u_ws RX9 TX9 6, w ∈ tables_1 := pl_in [546, 548, 550, 552, 554, 556] (by decide +kernel)
theorem lwi_X11 : ∀ w ∈ u_ws RX11 TX11 18, w ∈ tables_1 := pl_in [275, 277, 279, 281, 283, 285, 287, 289, 291, 293, 295, 297, 299, 301, 303, 305, 307, 309] (by decide +kernel)
theorem lwi_X12 : ∀ w ∈ u_ws RX12 TX12 18, w ∈ tables_1 := pl_in [577, 579, 581, 583, 585, 587, 589, 591, 593, 595, 597, 599, 601, 603, 605, 607, 609, 611] (by decide +kernel)
theorem lwi_X13 : ∀ w ∈ u_ws RX13 TX13 23, w ∈ tables_1 := pl_in [2333, 2335, 2337, 2339, 2341, 2343, 2345, 2347, 2349, 2351, 2353, 2355, 2357, 2359, 2361, 2363, 2365, 2367, 2369, 2371, 2373, 2375, 2377] (by decide +kernel)
theorem lwi_X14 : ∀ w ∈ u_ws RX14 TX14 143, w ∈ tables_1 := pl_in [2522, 2524, 2526, 2528, 2530, 2532, 2534, 2536, 2538, 2540, 2542, 2544, 2546, 2548, 2550, 2552, 2554, 2556, 2558, 2560, 2562, 2564, 2566, 2568, 2570, 2572, 2574, 2576, 2578, 2580, 2582, 2584, 2586, 2588, 2590, 2592, 2594, 2596, 2598, 2600, 2602, 2604, 2606, 2608, 2610, 2612, 2614, 2616, 2618, 2620, 2622, 2624, 2626, 2628, 2630, 2632, 2634, 2636, 2638, 2640, 2642, 2644, 2646, 2648, 2650, 2652, 2654, 2656, 2658, 2660, 2662, 2664, 2666, 2668, 2670, 2672, 2674, 2676, 2678, 2680, 2682, 2684, 2686, 2688, 2690, 2692, 2694, 2696, 2698, 2700, 2702, 2704, 2706, 2708, 2710, 2712, 2714, 2716, 2718, 2720, 2722, 2724, 2726, 2728, 2730, 2732, 2734, 2736, 2738, 2740, 2742, 2744, 2746, 2748, 2750, 2752, 2754, 2756, 2758, 2760, 2762, 2764, 2766, 2768, 2770, 2772, 2774, 2776, 2778, 2780, 2782, 2784, 2786, 2788, 2790, 2792, 2794, 2796, 2798, 2800, 2802, 2804, 2806] (by decide +kernel)
theorem lwt_0 : ∀ w ∈ tbr_0, w ∈ lw_tbl := by
  unfold tbr_0
  exact List.forall_mem_cons.mpr ⟨(List.mem_append_right _ (List.mem_of_getElem? (i := 45) (by decide +kernel))), List.forall_mem_cons.mpr ⟨(List.mem_append_right _ (List.mem_of_getElem? (i := 38) (by decide +kernel))), List.forall_mem_cons.mpr ⟨(List.mem_append_right _ (List.mem_of_getElem? (i := 39) (by decide +kernel))), List.forall_mem_cons.mpr ⟨(List.mem_append_right _ (List.mem_of_getElem? (i := 58) (by decide +kernel))), List.forall_mem_cons.mpr ⟨(List.mem_append_right _ (List.mem_of_getElem? (i := 46) (by decide +kernel))), List.forall_mem_cons.mpr ⟨(List.mem_append_right _ (List.mem_of_getElem? (i := 188) (by decide +kernel))), List.forall_mem_cons.mpr ⟨(List.mem_append_right _ (List.mem_of_getElem? (i := 138) (by decide +kernel))), List.forall_mem_cons.mpr ⟨(List.mem_append_right _ (List.mem_of_getElem? (i := 189) (by decide +kernel))), List.forall_mem_cons.mpr ⟨(List.mem_append_right _ (List.mem_of_getElem? (i := 190) (by decide +kernel))), List.forall_mem_cons.mpr ⟨(List.mem_append_right _ (List.mem_of_getElem? (i := 215) (by decide +kernel))), List.forall_mem_cons.mpr ⟨(List.mem_append_right _ (List.mem_of_getElem? (i := 191) (by decide +kernel))), List.forall_mem_cons.mpr ⟨(List.mem_append_right _ (List.mem_of_getElem? (i := 452) (by decide +kernel))), List.forall_mem_cons.mpr ⟨(List.mem_append_right _ (List.mem_of_getElem? (i := 453) (by decide +kernel))), List.forall_mem_cons.mpr ⟨(List.mem_append_right _ (List.mem_of_getElem? (i := 384) (by decide +kernel))), List.forall_mem_cons.mpr ⟨(List.mem_append_right _ (List.mem_of_getElem? (i := 455) (by decide +kernel))), List.forall_mem_cons.mpr ⟨(List.mem_append_right _ (List.mem_of_getElem? (i := 464) (by decide +kernel))), List.forall_mem_cons.mpr ⟨(List.mem_append_right _ (List.mem_of_getElem? (i := 469) (by decide +kernel))), List.forall_mem_cons.mpr ⟨(List.mem_append_right _ (List.mem_of_getElem? (i := 473) (by decide +kernel))), List.forall_mem_cons.mpr ⟨(List.mem_append_right _ (List.mem_of_getElem? (i := 477) (by decide +kernel))), List.forall_mem_cons.mpr ⟨(List.mem_append_right _ (List.mem_of_getElem? (i := 484) (by decide +kernel))), List.forall_mem_cons.mpr ⟨(List.mem_append_right _ (List.mem_of_getElem? (i := 182) (by decide +kernel))), List.forall_mem_cons.mpr ⟨(List.mem_append_right _ (List.mem_of_getElem? (i := 183) (by decide +kernel))), List.forall_mem_cons.mpr ⟨(List.mem_append_right _ (List.mem_of_getElem? (i := 184) (by decide +kernel))), List.forall_mem_cons.mpr ⟨(List.mem_append_right _ (List.mem_of_getElem? (i := 6) (by decide +kernel))), List.forall_mem_cons.mpr ⟨(List.mem_append_right _ (List.mem_of_getElem? (i := 187) (by decide +kernel))), List.forall_mem_cons.mpr ⟨(List.mem_append_right _ (List.mem_of_getElem? (i := 186) (by decide +kernel))), List.forall_mem_cons.mpr ⟨(List.mem_append_right _ (List.mem_of_getElem? (i := 216) (by decide +kernel))), List.forall_mem_cons.mpr ⟨(List.mem_append_right _ (List.mem_of_getElem? (i := 217) (by decide +kernel))), List.forall_mem_cons.mpr ⟨(List.mem_append_right _ (List.mem_of_getElem? (i := 218) (by decide +kernel))), List.forall_mem_cons.mpr ⟨(List.mem_append_right _ (List.mem_of_getElem? (i := 219) (by decide +kernel))), List.forall_mem_cons.mpr ⟨(List.mem_append_right _ (List.mem_of_getElem? (i := 220) (by decide +kernel))), List.forall_mem_cons.mpr ⟨(List.mem_append_right _ (List.mem_of_getElem? (i := 72) (by decide +kernel))), List.forall_mem_cons.mpr ⟨(List.mem_append_right _ (List.mem_of_getElem? (i := 73) (by decide +kernel))), List.forall_mem_cons.mpr ⟨(List.mem_append_right _ (List.mem_of_getElem? (i := 79) (by decide +kernel))), List.forall_mem_cons.mpr ⟨(List.mem_append_right _ (List.mem_of_getElem? (i := 81) (by decide +kernel))), List.forall_mem_cons.mpr ⟨(List.mem_append_right _ (List.mem_of_getElem? (i := 90) (by decide +kernel))), List.forall_mem_cons.mpr ⟨(List.mem_append_right _ (List.mem_of_getElem? (i := 91) (by decide +kernel))), List.forall_mem_cons.mpr ⟨(List.mem_append_right _ (List.mem_of_getElem? (i := 93) (by decide +kernel))), List.forall_mem_cons.mpr ⟨(List.mem_append_right _ (List.mem_of_getElem? (i := 66) (by decide +kernel))), List.forall_mem_cons.mpr ⟨(List.mem_append_right _ (List.mem_of_getElem? (i := 67) (by decide +kernel))), fun _ h => absurd h List.not_mem_nil⟩⟩⟩⟩⟩⟩⟩⟩⟩⟩⟩⟩⟩⟩⟩⟩⟩⟩⟩⟩⟩⟩⟩⟩⟩⟩⟩⟩⟩⟩⟩⟩⟩⟩⟩⟩⟩⟩⟩⟩
theorem lwt_1 : ∀ w ∈ tbr_1, w ∈ lw_tbl := by
  unfold tbr_1
  exact List.forall_mem_cons.mpr ⟨(List.mem_append_right _ (List.mem_of_getElem? (i := 68) (by decide +kernel))), List.forall_mem_cons.mpr ⟨(List.mem_append_right _ (List.mem_of_getElem? (i := 4) (by decide +kernel))), List.forall_mem_cons.mpr ⟨(List.mem_append_right _ (List.mem_of_getElem? (i := 71) (by decide +kernel))), List.forall_mem_cons.mpr ⟨(List.mem_append_right _ (List.mem_of_getElem? (i := 70) (by decide +kernel))), List.forall_mem_cons.mpr ⟨(List.mem_append_right _ (List.mem_of_getElem? (i := 139) (by decide +kernel))), List.forall_mem_cons.mpr ⟨(List.mem_append_right _ (List.mem_of_getElem? (i := 147) (by decide +kernel))), List.forall_mem_cons.mpr ⟨(List.mem_append_right _ (List.mem_of_getElem? (i := 252) (by decide +kernel))), List.forall_mem_cons.mpr ⟨(List.mem_append_right _ (List.mem_of_getElem? (i := 253) (by decide +kernel))), List.forall_mem_cons.mpr ⟨(List.mem_append_right _ (List.mem_of_getElem? (i := 41) (by decide +kernel))), List.forall_mem_cons.mpr ⟨(List.mem_append_right _ (List.mem_of_getElem? (i := 2) (by decide +kernel))), List.forall_mem_cons.mpr ⟨(List.mem_append_right _ (List.mem_of_getElem? (i := 44) (by decide +kernel))), List.forall_mem_cons.mpr ⟨(List.mem_append_right _ (List.mem_of_getElem? (i := 43) (by decide +kernel))), List.forall_mem_cons.mpr ⟨(List.mem_append_right _ (List.mem_of_getElem? (i := 257) (by decide +kernel))), List.forall_mem_cons.mpr ⟨(List.mem_append_right _ (List.mem_of_getElem? (i := 258) (by decide +kernel))), List.forall_mem_cons.mpr ⟨(List.mem_append_right _ (List.mem_of_getElem? (i := 259) (by decide +kernel))), List.forall_mem_cons.mpr ⟨(List.mem_append_right _ (List.mem_of_getElem? (i := 260) (by decide +kernel))), List.forall_mem_cons.mpr ⟨(List.mem_append_right _ (List.mem_of_getElem? (i := 261) (by decide +kernel))), List.forall_mem_cons.mpr ⟨(List.mem_append_right _ (List.mem_of_getElem? (i := 267) (by decide +kernel))), List.forall_mem_cons.mpr ⟨(List.mem_append_right _ (List.mem_of_getElem? (i := 268) (by decide +kernel))), List.forall_mem_cons.mpr ⟨(List.mem_append_right _ (List.mem_of_getElem? (i := 269) (by decide +kernel))), List.forall_mem_cons.mpr ⟨(List.mem_append_right _ (List.mem_of_getElem? (i := 270) (by decide +kernel))), List.forall_mem_cons.mpr ⟨(List.mem_append_right _ (List.mem_of_getElem? (i := 255) (by decide +kernel))), List.forall_mem_cons.mpr ⟨(List.mem_append_right _ (List.mem_of_getElem? (i := 271) (by decide +kernel))), List.forall_mem_cons.mpr ⟨(List.mem_append_right _ (List.mem_of_getElem? (i := 273) (by decide +kernel))), List.forall_mem_cons.mpr ⟨(List.mem_append_right _ (List.mem_of_getElem? (i := 274) (by decide +kernel))), List.forall_mem_cons.mpr ⟨(List.mem_append_right _ (List.mem_of_getElem? (i := 317) (by decide +kernel))), List.forall_mem_cons.mpr ⟨(List.mem_append_right _ (List.mem_of_getElem? (i := 319) (by decide +kernel))), List.forall_mem_cons.mpr ⟨(List.mem_append_right _ (List.mem_of_getElem? (i := 320) (by decide +kernel))), List.forall_mem_cons.mpr ⟨(List.mem_append_right _ (List.mem_of_getElem? (i := 322) (by decide +kernel))), List.forall_mem_cons.mpr ⟨(List.mem_append_right _ (List.mem_of_getElem? (i := 324) (by decide +kernel))), List.forall_mem_cons.mpr ⟨(List.mem_append_right _ (List.mem_of_getElem? (i := 327) (by decide +kernel))), List.forall_mem_cons.mpr ⟨(List.mem_append_right _ (List.mem_of_getElem? (i := 328) (by decide +kernel))), List.forall_mem_cons.mpr ⟨(List.mem_append_right _ (List.mem_of_getElem? (i := 329) (by decide +kernel))), List.forall_mem_cons.mpr ⟨(List.mem_append_right _ (List.mem_of_getElem? (i := 337) (by decide +kernel))), List.forall_mem_cons.mpr ⟨(List.mem_append_right _ (List.mem_of_getElem? (i := 390) (by decide +kernel))), List.forall_mem_cons.mpr ⟨(List.mem_append_right _ (List.mem_of_getElem? (i := 394) (by decide +kernel))), List.forall_mem_cons.mpr ⟨(List.mem_append_right _ (List.mem_of_getElem? (i := 395) (by decide +kernel))), List.forall_mem_cons.mpr ⟨(List.mem_append_right _ (List.mem_of_getElem? (i := 396) (by decide +kernel))), List.forall_mem_cons.mpr ⟨(List.mem_append_right _ (List.mem_of_getElem? (i := 397) (by decide +kernel))), List.forall_mem_cons.mpr ⟨(List.mem_append_right _ (List.mem_of_getElem? (i := 398) (by decide +kernel))), fun _ h => absurd h List.not_mem_nil⟩⟩⟩⟩⟩⟩⟩⟩⟩⟩⟩⟩⟩⟩⟩⟩⟩⟩⟩⟩⟩⟩⟩⟩⟩⟩⟩⟩⟩⟩⟩⟩⟩⟩⟩⟩⟩⟩⟩⟩
theorem lwt_2 : ∀ w ∈ tbr_2, w ∈ lw_tbl := by
  unfold tbr_2
  exact List.forall_mem_cons.mpr ⟨(List.mem_append_right _ (List.mem_of_getElem? (i := 399) (by decide +kernel))), List.forall_mem_cons.mpr ⟨(List.mem_append_right _ (List.mem_of_getElem? (i := 400) (by decide +kernel))), List.forall_mem_cons.mpr ⟨(List.mem_append_right _ (List.mem_of_getElem? (i := 401) (by decide +kernel))), List.forall_mem_cons.mpr ⟨(List.mem_append_right _ (List.mem_of_getElem? (i := 403) (by decide +kernel))), List.forall_mem_cons.mpr ⟨(List.mem_append_right _ (List.mem_of_getElem? (i := 404) (by decide +kernel))), List.forall_mem_cons.mpr ⟨(List.mem_append_right _ (List.mem_of_getElem? (i := 405) (by decide +kernel))), List.forall_mem_cons.mpr ⟨(List.mem_append_right _ (List.mem_of_getElem? (i := 406) (by decide +kernel))), List.forall_mem_cons.mpr ⟨(List.mem_append_right _ (List.mem_of_getElem? (i := 407) (by decide +kernel))), List.forall_mem_cons.mpr ⟨(List.mem_append_right _ (List.mem_of_getElem? (i := 446) (by decide +kernel))), List.forall_mem_cons.mpr ⟨(List.mem_append_right _ (List.mem_of_getElem? (i := 447) (by decide +kernel))), List.forall_mem_cons.mpr ⟨(List.mem_append_right _ (List.mem_of_getElem? (i := 448) (by decide +kernel))), List.forall_mem_cons.mpr ⟨(List.mem_append_right _ (List.mem_of_getElem? (i := 11) (by decide +kernel))), List.forall_mem_cons.mpr ⟨(List.mem_append_right _ (List.mem_of_getElem? (i := 449) (by decide +kernel))), List.forall_mem_cons.mpr ⟨(List.mem_append_right _ (List.mem_of_getElem? (i := 451) (by decide +kernel))), List.forall_mem_cons.mpr ⟨(List.mem_append_right _ (List.mem_of_getElem? (i := 450) (by decide +kernel))), List.forall_mem_cons.mpr ⟨(List.mem_append_right _ (List.mem_of_getElem? (i := 539) (by decide +kernel))), List.forall_mem_cons.mpr ⟨(List.mem_append_right _ (List.mem_of_getElem? (i := 541) (by decide +kernel))), List.forall_mem_cons.mpr ⟨(List.mem_append_right _ (List.mem_of_getElem? (i := 542) (by decide +kernel))), List.forall_mem_cons.mpr ⟨(List.mem_append_right _ (List.mem_of_getElem? (i := 543) (by decide +kernel))), List.forall_mem_cons.mpr ⟨(List.mem_append_right _ (List.mem_of_getElem? (i := 544) (by decide +kernel))), List.forall_mem_cons.mpr ⟨(List.mem_append_right _ (List.mem_of_getElem? (i := 545) (by decide +kernel))), List.forall_mem_cons.mpr ⟨(List.mem_append_right _ (List.mem_of_getElem? (i := 37) (by decide +kernel))), List.forall_mem_cons.mpr ⟨(List.mem_append_right _ (List.mem_of_getElem? (i := 40) (by decide +kernel))), List.forall_mem_cons.mpr ⟨(List.mem_append_right _ (List.mem_of_getElem? (i := 559) (by decide +kernel))), List.forall_mem_cons.mpr ⟨(List.mem_append_right _ (List.mem_of_getElem? (i := 560) (by decide +kernel))), List.forall_mem_cons.mpr ⟨(List.mem_append_right _ (List.mem_of_getElem? (i := 561) (by decide +kernel))), List.forall_mem_cons.mpr ⟨(List.mem_append_right _ (List.mem_of_getElem? (i := 59) (by decide +kernel))), List.forall_mem_cons.mpr ⟨(List.mem_append_right _ (List.mem_of_getElem? (i := 562) (by decide +kernel))), List.forall_mem_cons.mpr ⟨(List.mem_append_right _ (List.mem_of_getElem? (i := 61) (by decide +kernel))), List.forall_mem_cons.mpr ⟨(List.mem_append_right _ (List.mem_of_getElem? (i := 62) (by decide +kernel))), List.forall_mem_cons.mpr ⟨(List.mem_append_right _ (List.mem_of_getElem? (i := 3) (by decide +kernel))), List.forall_mem_cons.mpr ⟨(List.mem_append_right _ (List.mem_of_getElem? (i := 65) (by decide +kernel))), List.forall_mem_cons.mpr ⟨(List.mem_append_right _ (List.mem_of_getElem? (i := 64) (by decide +kernel))), List.forall_mem_cons.mpr ⟨(List.mem_append_right _ (List.mem_of_getElem? (i := 563) (by decide +kernel))), List.forall_mem_cons.mpr ⟨(List.mem_append_right _ (List.mem_of_getElem? (i := 177) (by decide +kernel))), List.forall_mem_cons.mpr ⟨(List.mem_append_right _ (List.mem_of_getElem? (i := 178) (by decide +kernel))), List.forall_mem_cons.mpr ⟨(List.mem_append_right _ (List.mem_of_getElem? (i := 5) (by decide +kernel))), List.forall_mem_cons.mpr ⟨(List.mem_append_right _ (List.mem_of_getElem? (i := 181) (by decide +kernel))), List.forall_mem_cons.mpr ⟨(List.mem_append_right _ (List.mem_of_getElem? (i := 180) (by decide +kernel))), List.forall_mem_cons.mpr ⟨(List.mem_append_right _ (List.mem_of_getElem? (i := 564) (by decide +kernel))), fun _ h => absurd h List.not_mem_nil⟩⟩⟩⟩⟩⟩⟩⟩⟩⟩⟩⟩⟩⟩⟩⟩⟩⟩⟩⟩⟩⟩⟩⟩⟩⟩⟩⟩⟩⟩⟩⟩⟩⟩⟩⟩⟩⟩⟩⟩
theorem lwt_3 : ∀ w ∈ tbr_3, w ∈ lw_tbl := by
  unfold tbr_3
  exact List.forall_mem_cons.mpr ⟨(List.mem_append_right _ (List.mem_of_getElem? (i := 247) (by decide +kernel))), List.forall_mem_cons.mpr ⟨(List.mem_append_right _ (List.mem_of_getElem? (i := 248) (by decide +kernel))), List.forall_mem_cons.mpr ⟨(List.mem_append_right _ (List.mem_of_getElem? (i := 7) (by decide +kernel))), List.forall_mem_cons.mpr ⟨(List.mem_append_right _ (List.mem_of_getElem? (i := 251) (by decide +kernel))), List.forall_mem_cons.mpr ⟨(List.mem_append_right _ (List.mem_of_getElem? (i := 250) (by decide +kernel))), List.forall_mem_cons.mpr ⟨(List.mem_append_right _ (List.mem_of_getElem? (i := 565) (by decide +kernel))), List.forall_mem_cons.mpr ⟨(List.mem_append_right _ (List.mem_of_getElem? (i := 312) (by decide +kernel))), List.forall_mem_cons.mpr ⟨(List.mem_append_right _ (List.mem_of_getElem? (i := 313) (by decide +kernel))), List.forall_mem_cons.mpr ⟨(List.mem_append_right _ (List.mem_of_getElem? (i := 8) (by decide +kernel))), List.forall_mem_cons.mpr ⟨(List.mem_append_right _ (List.mem_of_getElem? (i := 316) (by decide +kernel))), List.forall_mem_cons.mpr ⟨(List.mem_append_right _ (List.mem_of_getElem? (i := 315) (by decide +kernel))), List.forall_mem_cons.mpr ⟨(List.mem_append_right _ (List.mem_of_getElem? (i := 566) (by decide +kernel))), List.forall_mem_cons.mpr ⟨(List.mem_append_right _ (List.mem_of_getElem? (i := 385) (by decide +kernel))), List.forall_mem_cons.mpr ⟨(List.mem_append_right _ (List.mem_of_getElem? (i := 386) (by decide +kernel))), List.forall_mem_cons.mpr ⟨(List.mem_append_right _ (List.mem_of_getElem? (i := 9) (by decide +kernel))), List.forall_mem_cons.mpr ⟨(List.mem_append_right _ (List.mem_of_getElem? (i := 389) (by decide +kernel))), List.forall_mem_cons.mpr ⟨(List.mem_append_right _ (List.mem_of_getElem? (i := 388) (by decide +kernel))), List.forall_mem_cons.mpr ⟨(List.mem_append_right _ (List.mem_of_getElem? (i := 567) (by decide +kernel))), List.forall_mem_cons.mpr ⟨(List.mem_append_right _ (List.mem_of_getElem? (i := 441) (by decide +kernel))), List.forall_mem_cons.mpr ⟨(List.mem_append_right _ (List.mem_of_getElem? (i := 442) (by decide +kernel))), List.forall_mem_cons.mpr ⟨(List.mem_append_right _ (List.mem_of_getElem? (i := 10) (by decide +kernel))), List.forall_mem_cons.mpr ⟨(List.mem_append_right _ (List.mem_of_getElem? (i := 445) (by decide +kernel))), List.forall_mem_cons.mpr ⟨(List.mem_append_right _ (List.mem_of_getElem? (i := 444) (by decide +kernel))), List.forall_mem_cons.mpr ⟨(List.mem_append_right _ (List.mem_of_getElem? (i := 568) (by decide +kernel))), List.forall_mem_cons.mpr ⟨(List.mem_append_right _ (List.mem_of_getElem? (i := 573) (by decide +kernel))), List.forall_mem_cons.mpr ⟨(List.mem_append_right _ (List.mem_of_getElem? (i := 574) (by decide +kernel))), List.forall_mem_cons.mpr ⟨(List.mem_append_right _ (List.mem_of_getElem? (i := 575) (by decide +kernel))), List.forall_mem_cons.mpr ⟨(List.mem_append_right _ (List.mem_of_getElem? (i := 576) (by decide +kernel))), List.forall_mem_cons.mpr ⟨(List.mem_append_right _ (List.mem_of_getElem? (i := 49) (by decide +kernel))), List.forall_mem_cons.mpr ⟨(List.mem_append_right _ (List.mem_of_getElem? (i := 627) (by decide +kernel))), List.forall_mem_cons.mpr ⟨(List.mem_append_right _ (List.mem_of_getElem? (i := 628) (by decide +kernel))), List.forall_mem_cons.mpr ⟨(List.mem_append_right _ (List.mem_of_getElem? (i := 629) (by decide +kernel))), List.forall_mem_cons.mpr ⟨(List.mem_append_right _ (List.mem_of_getElem? (i := 630) (by decide +kernel))), List.forall_mem_cons.mpr ⟨(List.mem_append_right _ (List.mem_of_getElem? (i := 623) (by decide +kernel))), List.forall_mem_cons.mpr ⟨(List.mem_append_right _ (List.mem_of_getElem? (i := 624) (by decide +kernel))), List.forall_mem_cons.mpr ⟨(List.mem_append_right _ (List.mem_of_getElem? (i := 625) (by decide +kernel))), List.forall_mem_cons.mpr ⟨(List.mem_append_right _ (List.mem_of_getElem? (i := 626) (by decide +kernel))), List.forall_mem_cons.mpr ⟨(List.mem_append_right _ (List.mem_of_getElem? (i := 50) (by decide +kernel))), List.forall_mem_cons.mpr ⟨(List.mem_append_right _ (List.mem_of_getElem? (i := 569) (by decide +kernel))), List.forall_mem_cons.mpr ⟨(List.mem_append_right _ (List.mem_of_getElem? (i := 618) (by decide +kernel))), fun _ h => absurd h List.not_mem_nil⟩⟩⟩⟩⟩⟩⟩⟩⟩⟩⟩⟩⟩⟩⟩⟩⟩⟩⟩⟩⟩⟩⟩⟩⟩⟩⟩⟩⟩⟩⟩⟩⟩⟩⟩⟩⟩⟩⟩⟩
theorem lwt_4 : ∀ w ∈ tbr_4, w ∈ lw_tbl := by
  unfold tbr_4
  exact List.forall_mem_cons.mpr ⟨(List.mem_append_right _ (List.mem_of_getElem? (i := 619) (by decide +kernel))), List.forall_mem_cons.mpr ⟨(List.mem_append_right _ (List.mem_of_getElem? (i := 620) (by decide +kernel))), List.forall_mem_cons.mpr ⟨(List.mem_append_right _ (List.mem_of_getElem? (i := 621) (by decide +kernel))), List.forall_mem_cons.mpr ⟨(List.mem_append_right _ (List.mem_of_getElem? (i := 622) (by decide +kernel))), List.forall_mem_cons.mpr ⟨(List.mem_append_right _ (List.mem_of_getElem? (i := 572) (by decide +kernel))), List.forall_mem_cons.mpr ⟨(List.mem_append_right _ (List.mem_of_getElem? (i := 570) (by decide +kernel))), List.forall_mem_cons.mpr ⟨(List.mem_append_right _ (List.mem_of_getElem? (i := 1189) (by decide +kernel))), List.forall_mem_cons.mpr ⟨(List.mem_append_right _ (List.mem_of_getElem? (i := 1191) (by decide +kernel))), List.forall_mem_cons.mpr ⟨(List.mem_append_left _ (List.mem_of_getElem? (i := 0) rfl)), List.forall_mem_cons.mpr ⟨(List.mem_append_right _ (List.mem_of_getElem? (i := 1) (by decide +kernel))), List.forall_mem_cons.mpr ⟨(List.mem_append_right _ (List.mem_of_getElem? (i := 1192) (by decide +kernel))), List.forall_mem_cons.mpr ⟨(List.mem_append_right _ (List.mem_of_getElem? (i := 1197) (by decide +kernel))), List.forall_mem_cons.mpr ⟨(List.mem_append_right _ (List.mem_of_getElem? (i := 1199) (by decide +kernel))), List.forall_mem_cons.mpr ⟨(List.mem_append_left _ (List.mem_of_getElem? (i := 1) rfl)), List.forall_mem_cons.mpr ⟨(List.mem_append_right _ (List.mem_of_getElem? (i := 1200) (by decide +kernel))), List.forall_mem_cons.mpr ⟨(List.mem_append_right _ (List.mem_of_getElem? (i := 1455) (by decide +kernel))), List.forall_mem_cons.mpr ⟨(List.mem_append_right _ (List.mem_of_getElem? (i := 1457) (by decide +kernel))), List.forall_mem_cons.mpr ⟨(List.mem_append_left _ (List.mem_of_getElem? (i := 2) rfl)), List.forall_mem_cons.mpr ⟨(List.mem_append_right _ (List.mem_of_getElem? (i := 1458) (by decide +kernel))), List.forall_mem_cons.mpr ⟨(List.mem_append_right _ (List.mem_of_getElem? (i := 325) (by decide +kernel))), List.forall_mem_cons.mpr ⟨(List.mem_append_right _ (List.mem_of_getElem? (i := 318) (by decide +kernel))), List.forall_mem_cons.mpr ⟨(List.mem_append_right _ (List.mem_of_getElem? (i := 323) (by decide +kernel))), List.forall_mem_cons.mpr ⟨(List.mem_append_right _ (List.mem_of_getElem? (i := 1675) (by decide +kernel))), List.forall_mem_cons.mpr ⟨(List.mem_append_right _ (List.mem_of_getElem? (i := 1677) (by decide +kernel))), List.forall_mem_cons.mpr ⟨(List.mem_append_left _ (List.mem_of_getElem? (i := 3) rfl)), List.forall_mem_cons.mpr ⟨(List.mem_append_right _ (List.mem_of_getElem? (i := 1678) (by decide +kernel))), List.forall_mem_cons.mpr ⟨(List.mem_append_right _ (List.mem_of_getElem? (i := 1839) (by decide +kernel))), List.forall_mem_cons.mpr ⟨(List.mem_append_right _ (List.mem_of_getElem? (i := 1840) (by decide +kernel))), List.forall_mem_cons.mpr ⟨(List.mem_append_right _ (List.mem_of_getElem? (i := 1841) (by decide +kernel))), List.forall_mem_cons.mpr ⟨(List.mem_append_right _ (List.mem_of_getElem? (i := 1842) (by decide +kernel))), List.forall_mem_cons.mpr ⟨(List.mem_append_right _ (List.mem_of_getElem? (i := 1659) (by decide +kernel))), List.forall_mem_cons.mpr ⟨(List.mem_append_right _ (List.mem_of_getElem? (i := 1660) (by decide +kernel))), List.forall_mem_cons.mpr ⟨(List.mem_append_right _ (List.mem_of_getElem? (i := 1661) (by decide +kernel))), List.forall_mem_cons.mpr ⟨(List.mem_append_right _ (List.mem_of_getElem? (i := 1662) (by decide +kernel))), List.forall_mem_cons.mpr ⟨(List.mem_append_right _ (List.mem_of_getElem? (i := 1667) (by decide +kernel))), List.forall_mem_cons.mpr ⟨(List.mem_append_right _ (List.mem_of_getElem? (i := 1668) (by decide +kernel))), List.forall_mem_cons.mpr ⟨(List.mem_append_right _ (List.mem_of_getElem? (i := 1669) (by decide +kernel))), List.forall_mem_cons.mpr ⟨(List.mem_append_right _ (List.mem_of_getElem? (i := 1670) (by decide +kernel))), List.forall_mem_cons.mpr ⟨(List.mem_append_right _ (List.mem_of_getElem? (i := 326) (by decide +kernel))), List.forall_mem_cons.mpr ⟨(List.mem_append_right _ (List.mem_of_getElem? (i := 336) (by decide +kernel))), fun _ h => absurd h List.not_mem_nil⟩⟩⟩⟩⟩⟩⟩⟩⟩⟩⟩⟩⟩⟩⟩⟩⟩⟩⟩⟩⟩⟩⟩⟩⟩⟩⟩⟩⟩⟩⟩⟩⟩⟩⟩⟩⟩⟩⟩⟩
theorem lwt_5 : ∀ w ∈ tbr_5, w ∈ lw_tbl := by
  unfold tbr_5
  exact List.forall_mem_cons.mpr ⟨(List.mem_append_right _ (List.mem_of_getElem? (i := 338) (by decide +kernel))), List.forall_mem_cons.mpr ⟨(List.mem_append_right _ (List.mem_of_getElem? (i := 340) (by decide +kernel))), List.forall_mem_cons.mpr ⟨(List.mem_append_right _ (List.mem_of_getElem? (i := 342) (by decide +kernel))), List.forall_mem_cons.mpr ⟨(List.mem_append_right _ (List.mem_of_getElem? (i := 1883) (by decide +kernel))), List.forall_mem_cons.mpr ⟨(List.mem_append_right _ (List.mem_of_getElem? (i := 1803) (by decide +kernel))), List.forall_mem_cons.mpr ⟨(List.mem_append_right _ (List.mem_of_getElem? (i := 1804) (by decide +kernel))), List.forall_mem_cons.mpr ⟨(List.mem_append_right _ (List.mem_of_getElem? (i := 1805) (by decide +kernel))), List.forall_mem_cons.mpr ⟨(List.mem_append_right _ (List.mem_of_getElem? (i := 1888) (by decide +kernel))), List.forall_mem_cons.mpr ⟨(List.mem_append_right _ (List.mem_of_getElem? (i := 1889) (by decide +kernel))), List.forall_mem_cons.mpr ⟨(List.mem_append_right _ (List.mem_of_getElem? (i := 1890) (by decide +kernel))), List.forall_mem_cons.mpr ⟨(List.mem_append_right _ (List.mem_of_getElem? (i := 1891) (by decide +kernel))), List.forall_mem_cons.mpr ⟨(List.mem_append_right _ (List.mem_of_getElem? (i := 1896) (by decide +kernel))), List.forall_mem_cons.mpr ⟨(List.mem_append_right _ (List.mem_of_getElem? (i := 2010) (by decide +kernel))), List.forall_mem_cons.mpr ⟨(List.mem_append_right _ (List.mem_of_getElem? (i := 690) (by decide +kernel))), List.forall_mem_cons.mpr ⟨(List.mem_append_right _ (List.mem_of_getElem? (i := 18) (by decide +kernel))), List.forall_mem_cons.mpr ⟨(List.mem_append_right _ (List.mem_of_getElem? (i := 691) (by decide +kernel))), List.forall_mem_cons.mpr ⟨(List.mem_append_right _ (List.mem_of_getElem? (i := 2006) (by decide +kernel))), List.forall_mem_cons.mpr ⟨(List.mem_append_right _ (List.mem_of_getElem? (i := 2007) (by decide +kernel))), List.forall_mem_cons.mpr ⟨(List.mem_append_right _ (List.mem_of_getElem? (i := 2008) (by decide +kernel))), List.forall_mem_cons.mpr ⟨(List.mem_append_right _ (List.mem_of_getElem? (i := 2009) (by decide +kernel))), List.forall_mem_cons.mpr ⟨(List.mem_append_right _ (List.mem_of_getElem? (i := 2174) (by decide +kernel))), List.forall_mem_cons.mpr ⟨(List.mem_append_right _ (List.mem_of_getElem? (i := 2175) (by decide +kernel))), List.forall_mem_cons.mpr ⟨(List.mem_append_right _ (List.mem_of_getElem? (i := 2176) (by decide +kernel))), List.forall_mem_cons.mpr ⟨(List.mem_append_right _ (List.mem_of_getElem? (i := 2177) (by decide +kernel))), fun _ h => absurd h List.not_mem_nil⟩⟩⟩⟩⟩⟩⟩⟩⟩⟩⟩⟩⟩⟩⟩⟩⟩⟩⟩⟩⟩⟩⟩⟩
theorem tb_lw : ∀ w ∈ tb, w ∈ lw_tbl := by
  intro w h
  unfold tb at h
  simp only [List.mem_append] at h
  rcases h with h | h | h | h | h | h | h | h | h | h | h | h | h | h | h | h | h | h | h
  · exact List.mem_append_right _ (lwi_X0 w h)
  · exact List.mem_append_right _ (lwi_X1 w h)
  · exact List.mem_append_right _ (lwi_X2 w h)
  · exact List.mem_append_right _ (lwi_X3 w h)
  · exact List.mem_append_right _ (lwi_X4 w h)
  · exact List.mem_append_right _ (lwi_X5 w h)
  · exact List.mem_append_right _ (lwi_X7 w h)
  · exact List.mem_append_right _ (lwi_X8 w h)
  · exact List.mem_append_right _ (lwi_X9 w h)
  · exact List.mem_append_right _ (lwi_X11 w h)
  · exact List.mem_append_right _ (lwi_X12 w h)
  · exact List.mem_append_right _ (lwi_X13 w h)
  · exact List.mem_append_right _ (lwi_X14 w h)
  · exact lwt_0 w h
  · exact lwt_1 w h
  · exact lwt_2 w h
  · exact lwt_3 w h
  · exact lwt_4 w h
  · exact lwt_5 w h
end
section
def dfX0 : List Value := [.null, .int 0]
theorem dfX0_ok : ∀ j, j < 2 → defaultValue (tyX0 j) = vp_V dfX0 j := by decide +kernel
theorem L_dfX0 : dfX0.length = 2 := by decide +kernel
def dfX1 : List Value := [.null, .null, .null, .null, .null, .int 0, .int 0, .int 0, .null, .null]
theorem dfX1_ok : ∀ j, j < 10 → defaultValue (tyX1 j) = vp_V dfX1 j := by decide +kernel
theorem L_dfX1 : dfX1.length = 10 := by decide +kernel
def dfX2 : List Value := [.null, .int 0, .int 0, .int 0, .int 0, .int 0, .int 0, .null, .int 0, .int 0, .long 0, .int 0]
theorem dfX2_ok : ∀ j, j < 12 → defaultValue (tyX2 j) = vp_V dfX2 j := by decide +kernel
theorem L_dfX2 : dfX2.length = 12 := by decide +kernel
def dfX3 : List Value := [.null, .int 0, .null, .null, .null, .null, .null, .null, .null, .null, .int 0, .null, .null, .null, .null, .null]
theorem dfX3_ok : ∀ j, j < 16 → defaultValue (tyX3 j) = vp_V dfX3 j := by decide +kernel
theorem L_dfX3 : dfX3.length = 16 := by decide +kernel
def dfX4 : List Value := [.null, .null, .null, .null, .null, .int 0, .int 0, .int 0]
theorem dfX4_ok : ∀ j, j < 8 → defaultValue (tyX4 j) = vp_V dfX4 j := by decide +kernel
theorem L_dfX4 : dfX4.length = 8 := by decide +kernel
def dfX5 : List Value := [.null, .null, .null, .int 0, .null, .int 0, .null, .int 0, .null, .null, .null, .int 0, .null, .int 0, .int 0, .int 0, .long 0, .int 0, .int 0, .int 0]
theorem dfX5_ok : ∀ j, j < 20 → defaultValue (tyX5 j) = vp_V dfX5 j := by decide +kernel
theorem L_dfX5 : dfX5.length = 20 := by decide +kernel
def dfX7 : List Value := [.null, .int 0, .int 0, .int 0, .null, .int 0, .int 0, .int 0, .int 0, .null, .null, .null, .int 0, .int 0, .int 0, .int 0, .int 0]
theorem dfX7_ok : ∀ j, j < 17 → defaultValue (tyX7 j) = vp_V dfX7 j := by decide +kernel
theorem L_dfX7 : dfX7.length = 17 := by decide +kernel
def dfX8 : List Value := [.null, .null, .int 0, .null, .int 0, .null, .null, .null, .null, .int 0, .int 0, .int 0, .null, .null, .null]
theorem dfX8_ok : ∀ j, j < 15 → defaultValue (tyX8 j) = vp_V dfX8 j := by decide +kernel
theorem L_dfX8 : dfX8.length = 15 := by decide +kernel
def dfX9 : List Value := [.null, .null, .null, .null, .null, .null]
theorem dfX9_ok : ∀ j, j < 6 → defaultValue (tyX9 j) = vp_V dfX9 j := by decide +kernel
theorem L_dfX9 : dfX9.length = 6 := by decide +kernel
def dfX11 : List Value := [.null, .null, .null, .null, .null, .int 0, .int 0, .null, .int 0, .int 0, .null, .null, .null, .null, .null, .null, .null, .null]
theorem dfX11_ok : ∀ j, j < 18 → defaultValue (tyX11 j) = vp_V dfX11 j := by decide +kernel
theorem L_dfX11 : dfX11.length = 18 := by decide +kernel
def dfX12 : List Value := [.null, .null, .null, .null, .null, .null, .null, .null, .null, .null, .int 0, .int 0, .int 0, .int 0, .int 0, .int 0, .int 0, .int 0]
theorem dfX12_ok : ∀ j, j < 18 → defaultValue (tyX12 j) = vp_V dfX12 j := by decide +kernel
theorem L_dfX12 : dfX12.length = 18 := by decide +kernel
def dfX13 : List Value := [.null, .null, .int 0, .int 0, .int 0, .null, .null, .null, .null, .null, .null, .null, .null, .null, .null, .null, .null, .null, .null, .null, .null, .int 0, .null]
theorem dfX13_ok : ∀ j, j < 23 → defaultValue (tyX13 j) = vp_V dfX13 j := by decide +kernel
theorem L_dfX13 : dfX13.length = 23 := by decide +kernel
def dfX14 : List Value := [.null, .int 0, .int 0, .null, .int 0, .int 0, .null, .int 0, .int 0, .int 0, .int 0, .null, .int 0, .int 0, .int 0, .null, .null, .null, .null, .null, .int 0, .int 0, .int 0, .int 0, .null, .int 0, .null, .null, .int 0, .null, .null, .null, .null, .null, .null, .int 0, .int 0, .int 0, .null, .int 0, .null, .int 0, .null, .int 0, .null, .int 0, .int 0, .null, .null, .null, .null, .int 0, .int 0, .int 0, .int 0, .null, .int 0, .int 0, .null, .null, .null, .null, .int 0, .int 0, .int 0, .int 0, .null, .null, .null, .null, .null, .null, .null, .int 0, .int 0, .null, .null, .int 0, .int 0, .null, .null, .null, .null, .null, .null, .int 0, .int 0, .null, .int 0, .null, .null, .null, .null, .null, .null, .null, .int 0, .int 0, .int 0, .int 0, .int 0, .long 0, .int 0, .null, .null, .int 0, .int 0, .int 0, .null, .null, .int 0, .null, .null, .null, .null, .null, .null, .null, .null, .null, .null, .null, .int 0, .int 0, .null, .null, .null, .null, .null, .int 0, .null, .null, .null, .null, .null, .int 0, .null, .null, .null, .int 0, .null, .null, .null]
theorem dfX14_ok : ∀ j, j < 143 → defaultValue (tyX14 j) = vp_V dfX14 j := by decide +kernel
theorem L_dfX14 : dfX14.length = 143 := by decide +kernel
theorem g_dfX0_1 : dfX0[1]? = some (.int 0) := rfl
theorem g_dfX12_10 : dfX12[10]? = some (.int 0) := rfl
theorem g_dfX12_11 : dfX12[11]? = some (.int 0) := rfl
theorem g_dfX12_12 : dfX12[12]? = some (.int 0) := rfl
theorem g_dfX12_13 : dfX12[13]? = some (.int 0) := rfl
theorem g_dfX5_0 : dfX5[0]? = some (.null) := rfl
theorem g_dfX5_5 : dfX5[5]? = some (.int 0) := rfl
theorem g_dfX5_7 : dfX5[7]? = some (.int 0) := rfl
theorem g_dfX5_16 : dfX5[16]? = some (.long 0) := rfl
theorem g_dfX5_18 : dfX5[18]? = some (.int 0) := rfl
theorem g_dfX5_19 : dfX5[19]? = some (.int 0) := rfl
def nestL : List Cond := [Cond.methodLinkNest RX12 9 yX0_init RX12, Cond.methodLinkNest RX12 30 yX2_init RX12, Cond.methodLinkNest RX2 11 yX7_init RX12, Cond.methodLinkNest RX12 37 yX1_init RX12, Cond.methodLinkNest RX1 11 yX4_init RX12, Cond.methodLinkNest RX12 44 yX11_init RX12, Cond.methodLinkNest RX11 11 yX0_init RX12, Cond.methodLinkNest RX11 45 yX4_init RX12, Cond.methodLinkNest RX12 51 yX5_init RX12, Cond.methodLinkNest RX12 58 yX3_init RX12, Cond.methodLinkNest RX12 65 yX9_init RX12, Cond.methodLinkNest RX14 222 yX13_init RX14, Cond.fieldLinkNest RX7 97 "CodeFoundry" "MAGIC" "[I" RX12]
theorem nn_X12_9 : Cond.methodLinkNest RX12 9 yX0_init RX12 ∈ nestL := List.mem_of_getElem? (i := 0) rfl
theorem nt_0 : Cond.methodLinkNest RX12 9 yX0_init RX12 ∈ tables_1 := List.mem_of_getElem? (i := 42) (by decide +kernel)
theorem nn_X12_30 : Cond.methodLinkNest RX12 30 yX2_init RX12 ∈ nestL := List.mem_of_getElem? (i := 1) rfl
theorem nt_1 : Cond.methodLinkNest RX12 30 yX2_init RX12 ∈ tables_1 := List.mem_of_getElem? (i := 63) (by decide +kernel)
theorem nn_X2_11 : Cond.methodLinkNest RX2 11 yX7_init RX12 ∈ nestL := List.mem_of_getElem? (i := 2) rfl
theorem nt_2 : Cond.methodLinkNest RX2 11 yX7_init RX12 ∈ tables_1 := List.mem_of_getElem? (i := 69) (by decide +kernel)
theorem nn_X12_37 : Cond.methodLinkNest RX12 37 yX1_init RX12 ∈ nestL := List.mem_of_getElem? (i := 3) rfl
theorem nt_3 : Cond.methodLinkNest RX12 37 yX1_init RX12 ∈ tables_1 := List.mem_of_getElem? (i := 179) (by decide +kernel)
theorem nn_X1_11 : Cond.methodLinkNest RX1 11 yX4_init RX12 ∈ nestL := List.mem_of_getElem? (i := 4) rfl
theorem nt_4 : Cond.methodLinkNest RX1 11 yX4_init RX12 ∈ tables_1 := List.mem_of_getElem? (i := 185) (by decide +kernel)
theorem nn_X12_44 : Cond.methodLinkNest RX12 44 yX11_init RX12 ∈ nestL := List.mem_of_getElem? (i := 5) rfl
theorem nt_5 : Cond.methodLinkNest RX12 44 yX11_init RX12 ∈ tables_1 := List.mem_of_getElem? (i := 249) (by decide +kernel)
theorem nn_X11_11 : Cond.methodLinkNest RX11 11 yX0_init RX12 ∈ nestL := List.mem_of_getElem? (i := 6) rfl
theorem nt_6 : Cond.methodLinkNest RX11 11 yX0_init RX12 ∈ tables_1 := List.mem_of_getElem? (i := 254) (by decide +kernel)
theorem nn_X11_45 : Cond.methodLinkNest RX11 45 yX4_init RX12 ∈ nestL := List.mem_of_getElem? (i := 7) rfl
theorem nt_7 : Cond.methodLinkNest RX11 45 yX4_init RX12 ∈ tables_1 := List.mem_of_getElem? (i := 256) (by decide +kernel)
theorem nn_X12_51 : Cond.methodLinkNest RX12 51 yX5_init RX12 ∈ nestL := List.mem_of_getElem? (i := 8) rfl
theorem nt_8 : Cond.methodLinkNest RX12 51 yX5_init RX12 ∈ tables_1 := List.mem_of_getElem? (i := 314) (by decide +kernel)
theorem nn_X12_58 : Cond.methodLinkNest RX12 58 yX3_init RX12 ∈ nestL := List.mem_of_getElem? (i := 9) rfl
theorem nt_9 : Cond.methodLinkNest RX12 58 yX3_init RX12 ∈ tables_1 := List.mem_of_getElem? (i := 387) (by decide +kernel)
theorem nn_X12_65 : Cond.methodLinkNest RX12 65 yX9_init RX12 ∈ nestL := List.mem_of_getElem? (i := 10) rfl
theorem nt_10 : Cond.methodLinkNest RX12 65 yX9_init RX12 ∈ tables_1 := List.mem_of_getElem? (i := 443) (by decide +kernel)
theorem nn_X14_222 : Cond.methodLinkNest RX14 222 yX13_init RX14 ∈ nestL := List.mem_of_getElem? (i := 11) rfl
theorem nt_11 : Cond.methodLinkNest RX14 222 yX13_init RX14 ∈ tables_1 := List.mem_of_getElem? (i := 2292) (by decide +kernel)
theorem nn_X7_97 : Cond.fieldLinkNest RX7 97 "CodeFoundry" "MAGIC" "[I" RX12 ∈ nestL := List.mem_of_getElem? (i := 12) rfl
theorem nt_12 : Cond.fieldLinkNest RX7 97 "CodeFoundry" "MAGIC" "[I" RX12 ∈ tables_1 := List.mem_of_getElem? (i := 667) (by decide +kernel)
def aoL : List String := ["CodeFoundry$Unit", "CodeFoundryModel$File", "java/lang/String"]
theorem ao_CodeFoundry_Unit : "CodeFoundry$Unit" ∈ aoL := List.mem_of_getElem? (i := 0) rfl
theorem at_0 : Cond.arrayOver (.object "CodeFoundry$Unit") ∈ tables_1 := List.mem_of_getElem? (i := 60) (by decide +kernel)
theorem ao_CodeFoundryModel_File : "CodeFoundryModel$File" ∈ aoL := List.mem_of_getElem? (i := 1) rfl
theorem at_1 : Cond.arrayOver (.object "CodeFoundryModel$File") ∈ tables_1 := List.mem_of_getElem? (i := 2221) (by decide +kernel)
theorem ao_java_lang_String : "java/lang/String" ∈ aoL := List.mem_of_getElem? (i := 2) rfl
theorem at_2 : Cond.arrayOver (.object "java/lang/String") ∈ tables_1 := List.mem_of_getElem? (i := 2288) (by decide +kernel)
theorem nest_tb : ∀ w ∈ nestL, w ∈ tables_1 := List.forall_mem_cons.mpr ⟨nt_0, List.forall_mem_cons.mpr ⟨nt_1, List.forall_mem_cons.mpr ⟨nt_2, List.forall_mem_cons.mpr ⟨nt_3, List.forall_mem_cons.mpr ⟨nt_4, List.forall_mem_cons.mpr ⟨nt_5, List.forall_mem_cons.mpr ⟨nt_6, List.forall_mem_cons.mpr ⟨nt_7, List.forall_mem_cons.mpr ⟨nt_8, List.forall_mem_cons.mpr ⟨nt_9, List.forall_mem_cons.mpr ⟨nt_10, List.forall_mem_cons.mpr ⟨nt_11, List.forall_mem_cons.mpr ⟨nt_12, fun _ h => absurd h List.not_mem_nil⟩⟩⟩⟩⟩⟩⟩⟩⟩⟩⟩⟩⟩
/-- what the tables say beside the words: nest mates' links, arrays of references -/
def ex (U : State) : Prop := (∀ w ∈ nestL, va_Nw w U) ∧ ∀ C ∈ aoL, va_AO C U
theorem ex_same {u U : State} (h : u.vm = U.vm) (hx : ex u) : ex U := by
  refine ⟨fun w hw => ?_, fun C hC => ?_⟩
  · have h1 := hx.1 w hw
    simp only [nestL, List.mem_cons, List.not_mem_nil, or_false] at hw
    rcases hw with rfl | rfl | rfl | rfl | rfl | rfl | rfl | rfl | rfl | rfl | rfl | rfl | rfl <;> exact va_Nw.same rfl h h1
  · exact va_AO.moved (by rw [h]; exact Vm.Alike.refl _) (hx.2 C hC)
theorem ex_warm {s U : State} (hW : s.WarmedH U.vm) (hx : ex s) : ex U := by
  refine ⟨fun w hw => ?_, fun C hC => va_AO.moved hW.alike (hx.2 C hC)⟩
  have h1 := hx.1 w hw
  simp only [nestL, List.mem_cons, List.not_mem_nil, or_false] at hw
  rcases hw with rfl | rfl | rfl | rfl | rfl | rfl | rfl | rfl | rfl | rfl | rfl | rfl | rfl <;> first | exact va_Nw.warmM hW h1 | exact va_Nw.warmF hW h1
theorem nw_of {w : Cond} {U : State} (hw : w ∈ nestL) (hx : ex U) : va_Nw w U := hx.1 w hw
theorem ao_of {C : String} {U : State} (hC : C ∈ aoL) (hx : ex U) : va_AO C U := hx.2 C hC
def st_U (dC : Nat → ClassId) (dI : Nat → Nat → Nat) (sz : Nat) (ws : va_W) (tys : List (ClassId × FieldType)) (U : State) : Prop := U.heap.size = sz ∧ va_P (dC, dI) cl0 ws U.heap ∧ va_K (dC, dI) cl0 tys U ∧ va_D (fun _ => True) ws ∧ ex U
theorem st_blind {av : List Value} {dC : Nat → ClassId} {dI : Nat → Nat → Nat} {sz : Nat} {ws : va_W} {tys : List (ClassId × FieldType)} : FrameBlind (va_Pc av (st_U dC dI sz ws tys)) := fun a U g mk q => by
  obtain ⟨q0, q1, qP, qK, qD, qE⟩ := q
  exact ⟨q0, q1, qP, va_K.moved (u := U) (U := U.calling g mk a) (Vm.Alike.refl U.vm) qK, qD, ex_same (u := U) rfl qE⟩
theorem st_mk {av : List Value} {dC : Nat → ClassId} {dI : Nat → Nat → Nat} {ws : va_W} {tys : List (ClassId × FieldType)} {s U : State} {H : Heap} {A : Nat → Prop} (hU : U.heap = H) (hW : s.WarmedH U.vm) (hP : va_P (dC, dI) cl0 ws H) (hK : va_K (dC, dI) cl0 tys s) (hD : va_D A ws) (hex : ex s) : va_Pc av (st_U dC dI H.size ws tys) av.toArray U :=
  ⟨rfl, by rw [hU], by rw [hU]; exact hP, va_K.moved hW.alike hK, hD.weaken (fun _ _ _ _ => trivial), ex_warm hW hex⟩
theorem gd_I {y : MethodName} {c : ByteArray} {n : Nat} {r : Option FieldType} (h : Cond.code y c n r ∈ tb) : GoodIn tb (wt y c n r) := fun w hw => by
  rcases List.mem_cons.mp hw with rfl | hw
  · exact ⟨h, good_of_word (tb_good _ h)⟩
  · exact ⟨hw, good_of_word (tb_good _ hw)⟩
theorem gd_V {own C : String} {idx : Nat} {y : MethodName} {c : ByteArray} {n : Nat} {r : Option FieldType} (h1 : Cond.methodLink own idx y ∈ tb) (h2 : Cond.instanceMethod y ∈ tb) (h3 : Cond.selects C y y ∈ tb) (h4 : Cond.initialized C ∈ tb) (h : Cond.code y c n r ∈ tb) : GoodIn tb (wsV own idx C y (wt y c n r)) := fun w hw => by
  unfold wsV at hw
  rcases List.mem_append.mp hw with hw | hw
  · have : w ∈ tb := by
      simp only [List.mem_cons, List.not_mem_nil, or_false] at hw
      rcases hw with rfl | rfl | rfl | rfl <;> assumption
    exact ⟨this, good_of_word (tb_good _ this)⟩
  · exact gd_I h w hw
theorem gd_S {own : String} {idx : Nat} {y : MethodName} {c : ByteArray} {n : Nat} {r : Option FieldType} (h1 : Cond.methodLink own idx y ∈ tb) (h2 : Cond.static y ∈ tb) (h4 : Cond.initialized y.cls ∈ tb) (h : Cond.code y c n r ∈ tb) : GoodIn tb (va_wsS own idx y (wt y c n r)) := fun w hw => by
  unfold va_wsS at hw
  rcases List.mem_append.mp hw with hw | hw
  · have : w ∈ tb := by
      simp only [List.mem_cons, List.not_mem_nil, or_false] at hw
      rcases hw with rfl | rfl | rfl <;> assumption
    exact ⟨this, good_of_word (tb_good _ this)⟩
  · exact gd_I h w hw
theorem fx_len {fs fs' : List Value} {k n : Nat} {v : Value} (e : fs' = fs.set k v) (h : fs.length = n) : fs'.length = n := by rw [e, List.length_set]; exact h
theorem fx_ne {fs fs' : List Value} {k j : Nat} {v w : Value} (e : fs' = fs.set k v) (h : fs[j]? = some w) (hne : k ≠ j) : fs'[j]? = some w := by rw [e, List.getElem?_set_ne hne]; exact h
theorem fx_self {fs fs' : List Value} {k : Nat} {v : Value} (e : fs' = fs.set k v) (h : k < fs.length) : fs'[k]? = some v := by rw [e]; exact List.getElem?_set_self h
theorem vi {i : Int32} {n : Nat} (h : decide (¬ (i < 0 ∨ n ≤ i.toNatClampNeg)) = true) : vp_in i n := by unfold vp_in; exact of_decide_eq_true h
def bk (n : Int32) : Bool := decide (n < 64 ∧ ¬ (n < 0 ∨ 64 ≤ n.toNatClampNeg))
theorem bk1 {n : Int32} (h : bk n = true) : n < 64 := (of_decide_eq_true h).1
theorem bk2 {n : Int32} (h : bk n = true) : vp_in n 64 := (of_decide_eq_true h).2
def wk (n : Int32) : Bool := decide (¬ (n < 0 ∨ 16000 ≤ n.toNatClampNeg))
theorem wk2 {n : Int32} (h : wk n = true) : vp_in n 16000 := by unfold vp_in; exact of_decide_eq_true h
theorem k_ge {x : Int32} (h1 : ¬ x < 0) (h2 : ¬ 0 ≤ x) : False := h2 (Int32.not_lt.mp h1)
theorem k_gt1 {x : Int32} (h1 : ¬ x < 1) (h2 : ¬ 0 < x) : False := by
  rw [Int32.lt_iff_toInt_lt] at h1 h2
  have e1 : (1 : Int32).toInt = 1 := rfl
  have e0 : (0 : Int32).toInt = 0 := rfl
  omega
theorem k_m1 {x : Int32} (h1 : ¬ x < 0) (h2 : x < -1) : False := by
  rw [Int32.lt_iff_toInt_lt] at h1 h2
  have e1 : (-1 : Int32).toInt = -1 := rfl
  have e0 : (0 : Int32).toInt = 0 := rfl
  omega
theorem k_in {x y : Int32} {n : Nat} (hy : y.toInt = n) (h1 : ¬ x < 0) (h2 : x < y) : vp_in x n := by
  unfold vp_in
  rw [Int32.lt_iff_toInt_lt] at h1 h2
  have e0 : (0 : Int32).toInt = 0 := rfl
  rintro (h | h)
  · rw [Int32.lt_iff_toInt_lt] at h; omega
  · have : x.toNatClampNeg = x.toInt.toNat := rfl
    omega
theorem k_in12 {x : Int32} (h1 : ¬ x < 0) (h2 : x < 12) : vp_in x 12 := k_in rfl h1 h2
theorem k_in12m {x : Int32} (h1 : ¬ x < 1) (h2 : ¬ 11 < x) : vp_in x 12 := by
  unfold vp_in
  rw [Int32.lt_iff_toInt_lt] at h1 h2
  have e1 : (1 : Int32).toInt = 1 := rfl
  have e2 : (11 : Int32).toInt = 11 := rfl
  have e0 : (0 : Int32).toInt = 0 := rfl
  rintro (h | h)
  · rw [Int32.lt_iff_toInt_lt] at h; omega
  · have : x.toNatClampNeg = x.toInt.toNat := rfl
    omega
theorem k_cmp {v : Int64} (h1 : ¬ lg_cmp v 1 < 0) (h2 : ¬ 0 < lg_cmp v ((0 : Int32).toInt64)) : False := by
  have e : ((0 : Int32).toInt64) = (0 : Int64) := by decide
  rw [e] at h2
  have a : (1 : Int64) ≤ v := (lg_cmp_ge v 1).mp (Int32.not_lt.mp h1)
  have b : v > 0 := Int64.lt_of_lt_of_le (by decide : (0 : Int64) < 1) a
  apply h2
  unfold lg_cmp
  rw [if_pos b]
  decide
end
section
/-! ===== BEGIN exceptions that leave a method, and their catching by the caller (launches without stack traces) ===== -/
section VXA
/-! The laws vx_back, vx_callV, vx_callS, vx_callSW, vx_throw0, vx_throwS follow proofs of the library, with one case more: JvmDerived/Free/Laws.lean (Back.of_free), Shelf42/LK1.lean (callV, callS), Shelf/KitTraced.lean (throwNew0V, throwNewS). -/
/-- where a method has thrown q: the class by its name, the cell, what was written, the world -/
def vx_T (XC : String → State → State → Prop) (st : State) (q : Addr) (t : State) (mc ms : Nat) (free : Addr → Prop) : Prop :=
  ∃ (E : String) (ce : Cell) (L : List Loc), XC E st t ∧ t.heap[q]? = some ce ∧ ce.vm = .none ∧ st.vm.findClass E = some ce.cls ∧ st.WarmedH t.vm ∧ st.sameButNew ({ t with vm := st.vm } : State) L mc ms ∧ ∀ z ∈ L, free z.base
def vx_Q (Qc : Array Value → State → Outcome → State → Prop) (XC : String → State → State → Prop) (mc ms : Nat) (free : Addr → Prop) : Array Value → State → Outcome → State → Prop := fun a st o t =>
  (Qc a st o t ∧ ∃ L, FrameEnd st o t L mc ms ∧ ∀ q ∈ L, free q.base) ∨ ∃ q, o = .threw q ∧ vx_T XC st q t mc ms free
/-- a callee that returns or throws -/
def vx_Met (l : Launch) (y : MethodName) (ws : List Cond) (rm : Room) (Pc : Array Value → State → Prop) (Qc : Array Value → State → Outcome → State → Prop) (XC : String → State → State → Prop) (mc ms : Nat) (free : Addr → Prop) : Prop :=
  MetFree l y (headSpec ws rm) Pc (fun _ _ _ _ _ => True) (vx_Q Qc XC mc ms free)
def vx_Post (XC : String → State → State → Prop) (mc ms : Nat) (free : Addr → Prop) : Pt → Array Value → Addr → Pt → Prop := fun A a q B =>
  ∃ (g : JFrame) (mk : MethodId) (t : State) (L : List Loc) (E : String) (ce : Cell), B.U.heap = t.heap ∧ B.U.vm = t.vm ∧ XC E (A.U.calling g mk a) t ∧ t.heap[q]? = some ce ∧ ce.vm = .none ∧ A.U.vm.findClass E = some ce.cls ∧ B.locs = A.locs ++ L ∧ (∀ z ∈ L, free z.base) ∧ B.cells = A.cells + mc ∧ B.slots = A.slots + ms
def vx_Back (l : Launch) (R : Room) (p : Program) (e : Env) (below : List Frame) (s : State) (sargs : Array Value) (y : MethodName) (len W9 : Nat)
    (Pre : Pt → Array Value → Prop) (Post : Pt → Array Value → Option Value → Pt → Prop) (PostX : Pt → Array Value → Addr → Pt → Prop) : Prop :=
  ∀ (m : MethodId) (meth : Method) (c : Code) (A : Pt) (g : JFrame) (ig : Instr) (mk : MethodId) (a : Array Value),
    Stand p l e R s m sargs below meth c A.U A.locs A.cells A.slots → g.method = m → g.locals.size = c.maxLocals → decode c.code g.pc = .ok (ig, len) →
    2 * g.monitorRoom + (g.stack.map fun v => v.category).sum ≤ W9 → A.U.methodNamed? y = some mk → Pre A a →
    (∃ (v : Option Value) (B : Pt), Stand p l e R s m sargs below meth c B.U B.locs B.cells B.slots ∧ Post A a v B ∧
      Steps p.tables e below (doInvoke e (A.U.setTop g) [] mk a).1 (B.U.setTop { g with pc := g.pc + len, stack := v.toList ++ g.stack })) ∨
    (∃ (q : Addr) (B : Pt), Stand p l e R s m sargs below meth c B.U B.locs B.cells B.slots ∧ PostX A a q B ∧
      Steps p.tables e below (doInvoke e (A.U.setTop g) [] mk a).1 ((B.U.setTop g).pushFrame (.throwing q)))
section Payer
variable {l : Launch} {R : Room} {p : Program} {e : Env} {below : List Frame} {s : State} {sargs : Array Value} {y : MethodName} {len W9 : Nat}
theorem vx_back {ws : List Cond} {rm : Room} {Pc : Array Value → State → Prop} {Qc : Array Value → State → Outcome → State → Prop} {XC : String → State → State → Prop} {mc ms : Nat} {free : Addr → Prop} {bytes : ByteArray} {maxL : Nat} {ret : Option FieldType}
    (hM : vx_Met l y ws rm Pc Qc XC mc ms free) (hblind : FrameBlind Pc) (hrc : rm.cells = mc) (hrs : rm.slots = ms)
    (hframes : rm.frames + 1 ≤ R.frames) (hlocals : W9 + (maxL + 11) + rm.locals ≤ R.locals)
    (hws : ∀ w ∈ ws, ∀ a' U, s.WarmedH U.vm → w.before a' U = true) (hcode : Cond.code y bytes maxL ret ∈ ws) (hinit : ∀ a' U, s.WarmedH U.vm → (Cond.initialized y.cls).before a' U = true) :
    vx_Back l R p e below s sargs y len W9 (PreOf R mc ms Pc) (PostOf Qc mc ms free) (vx_Post XC mc ms free) := by
  intro m meth c A g ig mk a X hg hsize hdg hW hn hp
  have h1 : (headSpec ws rm).pre.before a A.U = true := atoms_intro fun w hw => hws w hw _ _ X.warmed
  have h2 : (Cond.code y bytes maxL ret).before a A.U = true := hws _ hcode _ _ X.warmed
  have h3 : (Cond.initialized y.cls).before a A.U = true := hinit _ _ X.warmed
  have h4 : A.cells + (headSpec ws rm).room.cells ≤ R.cells := by rw [show (headSpec ws rm).room.cells = mc from hrc]; exact hp.1
  have h5 : A.slots + (headSpec ws rm).room.slots ≤ R.slots := by rw [show (headSpec ws rm).room.slots = ms from hrs]; exact hp.2.1
  have hPc : Pc a (A.U.calling g mk a) := hblind _ _ _ _ hp.2.2
  obtain ⟨U, Ls, c0, s0⟩ := A
  dsimp only [Pt.U, Pt.locs, Pt.cells, Pt.slots] at h1 h2 h3 h4 h5 X hn hPc ⊢
  obtain ⟨methY, cY, hmY, hcY, -, hlY, -, -, -, -⟩ := Cond.code_spec hn h2
  obtain ⟨kY, hkY, -⟩ := className_of_methodNamed hn
  have hinitY : kY.init = .initialized := Cond.initialized_spec (findClass_of_methodNamed hn) hkY h3
  have h : At U g.method c below := by rw [hg]; exact X.here
  have hlocals9 : W9 + (maxL + 11) + (headSpec ws rm).room.locals ≤ R.locals := hlocals
  have happ : (headSpec ws rm).appliesLoose y e.platform (U.calling g mk a) = true :=
    Spec.appliesLoose_calling (g := g) h hdg hn hkY hinitY
      (X.room_calling (g := g) (R' := (headSpec ws rm).room) hsize hmY hcY hframes (by rw [hlY]; omega) h4 h5) h1
  obtain ⟨mid, hmid⟩ := h.above
  have hfr : (U.setTop g).frames = (.java g :: mid) ++ below := by rw [State.frames_setTop' g h.top, hmid]; rfl
  obtain ⟨o, s₂, hsteps, -, hend, hq⟩ := Steps.callFree hM p X.admits X.cas X.clock (acts := []) hfr happ hPc trivial
  have hq' : vx_Q Qc XC mc ms free a (U.calling g mk a) o s₂ := hq
  rw [State.frames_setTop' g h.top] at hend
  obtain ⟨g₀, hg0⟩ := Option.isSome_iff_exists.mp h.top
  obtain ⟨r, hr⟩ := State.topJava?_eq_some.mp hg0
  have hr' : (({ U with heap := s₂.heap, slotsUsed := s₂.slotsUsed } : State).setVm s₂.vm).frames = .java g₀ :: r := hr
  rcases hq' with ⟨hqc, L, hfe, hL⟩ | ⟨q, rfl, E, ce, L, hx, hce, hcv, hcl, hW₂, hsm, hL⟩
  · obtain ⟨⟨v, rfl⟩, hW₂, e2, q2, q3, q4, q5, q6⟩ := id hfe
    have e3 : s₂ = ({ (U.calling g mk a).setFrames s₂.frames with heap := s₂.heap, slotsUsed := s₂.slotsUsed } : State).setVm s₂.vm := by
      have : s₂ = ({ s₂ with vm := (U.calling g mk a).vm } : State).setVm s₂.vm := rfl
      rw [e2] at this
      exact this
    obtain ⟨c₂, i₂, len₂, hc₂, hd₂, hf₂⟩ := hend
    have hW' : U.WarmedH s₂.vm := hW₂
    have hcc : c₂ = c := by
      have h1 : s₂.code? g.method = U.code? g.method := by
        rw [State.code?_eq, State.code?_eq, hW'.alike.method?]
      exact Option.some.inj (hc₂.symm.trans (h1.trans h.code))
    subst hcc
    have hlen : len₂ = len := by rw [hdg] at hd₂; cases hd₂; rfl
    subst hlen
    have hs₂ : s₂ = (({ U with heap := s₂.heap, slotsUsed := s₂.slotsUsed } : State).setVm s₂.vm).setTop { g with pc := g.pc + len₂, stack := v.toList ++ g.stack } := by
      refine e3.trans ?_
      rw [hf₂, State.calling_eq h.top, State.setFrames_setFrames, State.setTop_of_frames _ hr', hr]
      rfl
    have hsame : U.sameButNew ({ U with heap := s₂.heap, slotsUsed := s₂.slotsUsed } : State) L mc ms := by
      refine ⟨?_, q2, q3, q4, q5, q6⟩
      obtain ⟨t, ht, -⟩ := State.frames_cons hr
      show ({ U with heap := s₂.heap, slotsUsed := s₂.slotsUsed } : State) = { U.setFrames U.frames with heap := s₂.heap, slotsUsed := s₂.slotsUsed }
      rw [State.setFrames_self ht]
    subst hg
    refine Or.inl ⟨v, ⟨(({ U with heap := s₂.heap, slotsUsed := s₂.slotsUsed } : State).setVm s₂.vm), Ls ++ L, c0 + mc, s0 + ms⟩,
      ⟨X.admits, X.cas, X.clock, X.frames, X.room, X.hears, X.method, X.code, (X.here.setHeapUsed s₂.heap s₂.slotsUsed).setVm hW'.alike, X.tail, State.WarmedH.trans X.warmed hW', X.limits, X.bytes, X.same.trans (hsame.setVm s.vm)⟩,
      ⟨g, mk, s₂, L, rfl, rfl, hqc, rfl, hL, rfl, rfl⟩, ?_⟩
    show Steps p.tables e below _ ((({ U with heap := s₂.heap, slotsUsed := s₂.slotsUsed } : State).setVm s₂.vm).setTop { g with pc := g.pc + len₂, stack := v.toList ++ g.stack })
    rw [← hs₂]
    exact hsteps
  · obtain ⟨e2, q2, q3, q4, q5, q6⟩ := id hsm
    have e3 : s₂ = ({ (U.calling g mk a).setFrames s₂.frames with heap := s₂.heap, slotsUsed := s₂.slotsUsed } : State).setVm s₂.vm := by
      have : s₂ = ({ s₂ with vm := (U.calling g mk a).vm } : State).setVm s₂.vm := rfl
      rw [e2] at this
      exact this
    have hf₂ : s₂.frames = .throwing q :: .java g :: U.frames.tail := hend
    have hW' : U.WarmedH s₂.vm := hW₂
    have hs₂ : s₂ = ((({ U with heap := s₂.heap, slotsUsed := s₂.slotsUsed } : State).setVm s₂.vm).setTop g).pushFrame (.throwing q) := by
      refine e3.trans ?_
      rw [hf₂, State.calling_eq h.top, State.setFrames_setFrames, State.pushFrame, State.frames_setTop _ hr', State.setTop_of_frames _ hr', State.setFrames_setFrames, hr]
      rfl
    have hsame : U.sameButNew ({ U with heap := s₂.heap, slotsUsed := s₂.slotsUsed } : State) L mc ms := by
      refine ⟨?_, q2, q3, q4, q5, q6⟩
      obtain ⟨t, ht, -⟩ := State.frames_cons hr
      show ({ U with heap := s₂.heap, slotsUsed := s₂.slotsUsed } : State) = { U.setFrames U.frames with heap := s₂.heap, slotsUsed := s₂.slotsUsed }
      rw [State.setFrames_self ht]
    subst hg
    refine Or.inr ⟨q, ⟨(({ U with heap := s₂.heap, slotsUsed := s₂.slotsUsed } : State).setVm s₂.vm), Ls ++ L, c0 + mc, s0 + ms⟩,
      ⟨X.admits, X.cas, X.clock, X.frames, X.room, X.hears, X.method, X.code, (X.here.setHeapUsed s₂.heap s₂.slotsUsed).setVm hW'.alike, X.tail, State.WarmedH.trans X.warmed hW', X.limits, X.bytes, X.same.trans (hsame.setVm s.vm)⟩,
      ⟨g, mk, s₂, L, E, ce, rfl, rfl, hx, hce, hcv, hcl, rfl, hL, rfl, rfl⟩, ?_⟩
    show Steps p.tables e below _ (((({ U with heap := s₂.heap, slotsUsed := s₂.slotsUsed } : State).setVm s₂.vm).setTop g).pushFrame (.throwing q))
    rw [← hs₂]
    exact hsteps
end Payer
section Calls
variable {p : Program} {l : Launch} {e : Env} {R : Room} {s : State} {m : MethodId} {args : Array Value} {below : List Frame} {meth : Method} {c : Code} {T : State} {locs : List Loc} {cells slots : Nat}
theorem vx_callV (X : Stand p l e R s m args below meth c T locs cells slots) (hexec : p.tables.exec = Jvm.exec) {own C : String} {index : Nat} {y : MethodName} {bytes : ByteArray} {maxL : Nat} {ret : Option FieldType}
    (hown : s.vm.findClass own = some m.cls) (hlink : (Cond.methodLink own index y).before args s = true) (hinst : (Cond.instanceMethod y).before args s = true) (hsel : (Cond.selects C y y).before args s = true)
    (hcode : (Cond.code y bytes maxL ret).before args s = true) (hy : y.cls ≠ "java/lang/invoke/MethodHandle" ∧ y.cls ≠ "java/lang/invoke/VarHandle")
    {W9 : Nat} {Pre : Pt → Array Value → Prop} {Post : Pt → Array Value → Option Value → Pt → Prop} {PostX : Pt → Array Value → Addr → Pt → Prop} (hK : vx_Back l R p e below s args y 3 W9 Pre Post PostX)
    {b : Addr} {cellB : Cell} (hcell : T.heap[b]? = some cellB) (hobj : cellB.vm.isStatics = false) (hcls : s.vm.findClass C = some cellB.cls)
    {g : JFrame} (hg : g.method = m) (hsize : g.locals.size = c.maxLocals) {argsL rest : List Value} (hlen : ∀ sig, parseMethodDescriptor y.desc = some sig → argsL.length = sig.parameters.length)
    (hstack : g.stack = argsL.reverse ++ .ref b :: rest) (hW : 2 * g.monitorRoom + (rest.map fun v => v.category).sum ≤ W9) (hdg : decode c.code g.pc = .ok (.invokevirtual index, 3))
    (hpre : ∀ vm₁, s.WarmedH vm₁ → Pre ⟨T.setVm vm₁, locs, cells, slots⟩ (Value.ref b :: argsL).toArray) :
    (∃ (v : Option Value) (vm₁ : Vm) (B : Pt), s.WarmedH vm₁ ∧ Stand p l e R s m args below meth c B.U B.locs B.cells B.slots ∧ Post ⟨T.setVm vm₁, locs, cells, slots⟩ (Value.ref b :: argsL).toArray v B ∧
      ∀ target, Steps p.tables e below (B.U.setTop { g with pc := g.pc + 3, stack := v.toList ++ rest }) target → Steps p.tables e below (T.setTop g) target) ∨
    (∃ (q : Addr) (vm₁ : Vm) (B : Pt), s.WarmedH vm₁ ∧ Stand p l e R s m args below meth c B.U B.locs B.cells B.slots ∧ PostX ⟨T.setVm vm₁, locs, cells, slots⟩ (Value.ref b :: argsL).toArray q B ∧
      Steps p.tables e below (T.setTop g) ((B.U.setTop { g with stack := rest }).pushFrame (.throwing q))) := by
  obtain ⟨mk, methM, hnamed, hmethM, hstM, habM⟩ := Cond.instanceMethod_spec hinst
  obtain ⟨methM', cM, hmethM', -, -, -, -, -, -, hsigM⟩ := Cond.code_spec hnamed hcode
  cases hmethM.symm.trans hmethM'
  obtain ⟨c2, r2, m2, q1, q2, q3, q4, kP, hkP, hkPi⟩ := Cond.selects_spec hsel
  cases hcls.symm.trans q1
  cases (State.methodFound?_of_named hnamed hy).symm.trans q2
  cases hnamed.symm.trans q3
  have hselP : selectMethod e.platform s.vm cellB.cls mk = .method mk := by rw [Launch.admits_selectMethod X.admits]; exact q4
  obtain ⟨vm₁, X₁, hstep₁⟩ := X.invokevirtual hexec hown hlink hnamed hmethM hstM hkP hkPi hy (a := b) (cell := cellB) hcell
    (fun z h => by rw [h] at hobj; cases hobj) hselP hmethM habM hkP hkPi (g := g) hg (argsL := argsL) (rest := rest) (hlen _ hsigM) hstack hdg
  rcases hK m meth c ⟨T.setVm vm₁, locs, cells, slots⟩ { g with stack := rest } (.invokevirtual index) mk (Value.ref b :: argsL).toArray X₁ hg hsize hdg hW (X₁.named hnamed) (hpre vm₁ X₁.warmed) with ⟨v, B, X', hpost, hsteps⟩ | ⟨q, B, X', hpost, hsteps⟩
  · exact Or.inl ⟨v, vm₁, B, X₁.warmed, X', hpost, fun target h => hstep₁ _ fun acts => by rw [doInvoke_state]; exact hsteps.trans h⟩
  · exact Or.inr ⟨q, vm₁, B, X₁.warmed, X', hpost, hstep₁ _ fun acts => by rw [doInvoke_state]; exact hsteps⟩
theorem vx_callS (X : Stand p l e R s m args below meth c T locs cells slots) (hexec : p.tables.exec = Jvm.exec) {own : String} {index : Nat} {y : MethodName} {bytes : ByteArray} {maxL : Nat} {ret : Option FieldType}
    (hown : s.vm.findClass own = some m.cls) (hlink : (Cond.methodLink own index y).before args s = true) (hstat : (Cond.static y).before args s = true) (hinit : (Cond.initialized y.cls).before args s = true)
    (hcode : (Cond.code y bytes maxL ret).before args s = true) (hy : y.cls ≠ "java/lang/invoke/MethodHandle" ∧ y.cls ≠ "java/lang/invoke/VarHandle")
    {W9 : Nat} {Pre : Pt → Array Value → Prop} {Post : Pt → Array Value → Option Value → Pt → Prop} {PostX : Pt → Array Value → Addr → Pt → Prop} (hK : vx_Back l R p e below s args y 3 W9 Pre Post PostX)
    {g : JFrame} (hg : g.method = m) (hsize : g.locals.size = c.maxLocals) {argsL rest : List Value} (hlen : ∀ sig, parseMethodDescriptor y.desc = some sig → argsL.length = sig.parameters.length)
    (hstack : g.stack = argsL.reverse ++ rest) (hW : 2 * g.monitorRoom + (rest.map fun v => v.category).sum ≤ W9) (hdg : decode c.code g.pc = .ok (.invokestatic index, 3))
    (hpre : ∀ vm₁, s.WarmedH vm₁ → Pre ⟨T.setVm vm₁, locs, cells, slots⟩ argsL.toArray) :
    (∃ (v : Option Value) (vm₁ : Vm) (B : Pt), s.WarmedH vm₁ ∧ Stand p l e R s m args below meth c B.U B.locs B.cells B.slots ∧ Post ⟨T.setVm vm₁, locs, cells, slots⟩ argsL.toArray v B ∧
      ∀ target, Steps p.tables e below (B.U.setTop { g with pc := g.pc + 3, stack := v.toList ++ rest }) target → Steps p.tables e below (T.setTop g) target) ∨
    (∃ (q : Addr) (vm₁ : Vm) (B : Pt), s.WarmedH vm₁ ∧ Stand p l e R s m args below meth c B.U B.locs B.cells B.slots ∧ PostX ⟨T.setVm vm₁, locs, cells, slots⟩ argsL.toArray q B ∧
      Steps p.tables e below (T.setTop g) ((B.U.setTop { g with stack := rest }).pushFrame (.throwing q))) := by
  obtain ⟨mk, hnamed⟩ := Cond.code_named hcode
  obtain ⟨methM, cM, hmethM, -, -, -, -, -, -, hsigM⟩ := Cond.code_spec hnamed hcode
  have hstatic : methM.isStatic = true := Cond.static_spec hnamed hmethM hstat
  obtain ⟨kP, hkP, -⟩ := className_of_methodNamed hnamed
  have hinitP : kP.init = .initialized := Cond.initialized_spec (findClass_of_methodNamed hnamed) hkP hinit
  obtain ⟨vm₁, X₁, hstep₁⟩ := X.invokestatic hexec hown hlink hnamed hmethM hstatic hkP hinitP hy (g := g) hg (argsL := argsL) (rest := rest) (hlen _ hsigM) hstack hdg
  rcases hK m meth c ⟨T.setVm vm₁, locs, cells, slots⟩ { g with stack := rest } (.invokestatic index) mk argsL.toArray X₁ hg hsize hdg hW (X₁.named hnamed) (hpre vm₁ X₁.warmed) with ⟨v, B, X', hpost, hsteps⟩ | ⟨q, B, X', hpost, hsteps⟩
  · exact Or.inl ⟨v, vm₁, B, X₁.warmed, X', hpost, fun target h => hstep₁ _ fun acts => by rw [doInvoke_state]; exact hsteps.trans h⟩
  · exact Or.inr ⟨q, vm₁, B, X₁.warmed, X', hpost, hstep₁ _ fun acts => by rw [doInvoke_state]; exact hsteps⟩
end Calls
theorem vx_cls {s : State} {T : State} {vm₁ : Vm} {E : String} {k : ClassId} (hW : s.WarmedH vm₁) (h : (T.setVm vm₁).vm.findClass E = some k) : s.vm.findClass E = some k := by
  have h1 : vm₁.findClass E = some k := h
  rw [hW.alike.findClass] at h1
  exact h1
/-- the method's frame g, with q thrown over it -/
def vx_W (p : Program) (l : Launch) (e : Env) (R : Room) (s : State) (m : MethodId) (args : Array Value) (below : List Frame) (meth : Method) (c : Code) (H : Heap) (locs : List Loc) (cells slots : Nat) (Q : State → Prop) (g : JFrame) (q : Addr) : Prop :=
  ∀ T : State, T.heap = H → Stand p l e R s m args below meth c T locs cells slots → ∃ t, Steps p.tables e below ((T.setTop g).pushFrame (.throwing q)) t ∧ Q t
def vx_Run (p : Program) (l : Launch) (e : Env) (R : Room) (s : State) (m : MethodId) (args : Array Value) (below : List Frame) (meth : Method) (c : Code) (H : Heap) (locs : List Loc) (cells slots mc ms : Nat) (g : JFrame) (rest : List Value) (Qa : State → Outcome → State → Prop) (XC : String → State → State → Prop) (free : Addr → Prop) : Prop :=
  ∀ T : State, T.heap = H → Stand p l e R s m args below meth c T locs cells slots →
    (∃ (v : Option Value) (st₀ t T' : State) (L : List Loc), st₀.heap = H ∧ Stand p l e R s m args below meth c T' (locs ++ L) (cells + mc) (slots + ms) ∧ (∀ q ∈ L, free q.base) ∧ T'.heap = t.heap ∧ T'.vm = t.vm ∧ Qa st₀ (.returned v) t ∧
      Goes p e below T g T' { g with pc := g.pc + 3, stack := v.toList ++ rest }) ∨
    (∃ (q : Addr) (st₀ t T' : State) (L : List Loc) (E : String) (ce : Cell), st₀.heap = H ∧ Stand p l e R s m args below meth c T' (locs ++ L) (cells + mc) (slots + ms) ∧ (∀ z ∈ L, free z.base) ∧ T'.heap = t.heap ∧ T'.vm = t.vm ∧ XC E st₀ t ∧ t.heap[q]? = some ce ∧ ce.vm = .none ∧ s.vm.findClass E = some ce.cls ∧
      Steps p.tables e below (T.setTop g) ((T'.setTop { g with stack := rest }).pushFrame (.throwing q)))
def vx_X {S : Type} (px : S → Prop) (B : String → S → State → Prop) (A : Nat → Prop) : String → State → State → Prop := fun E st t => ∃ u : S, px u ∧ B E u t ∧ va_F A st t
section Runs
variable {p : Program} {l : Launch} {e : Env} {R : Room} {s : State} {m : MethodId} {args : Array Value} {below : List Frame} {meth : Method} {c : Code} {H : Heap} {locs : List Loc} {cells slots : Nat}
variable {y : MethodName} {bytes cc : ByteArray} {maxL nL mc ms n index : Nat} {ret : Option FieldType} {ws : List Cond} {rm : Room} {Pc : Array Value → State → Prop} {Qc : Array Value → State → Outcome → State → Prop} {XC : String → State → State → Prop} {free : Addr → Prop} {Ts : List Cond} {own C : String} {b : Addr} {As rest : List Value} {g : JFrame}
theorem vx_callBack (cb : CallB R s args own index y bytes maxL ret ws rm mc ms n) (hM : vx_Met l y ws rm Pc Qc XC mc ms free) (hbl : FrameBlind Pc) : vx_Back l R p e below s args y 3 8 (PreOf R mc ms Pc) (PostOf Qc mc ms free) (vx_Post XC mc ms free) := by
  obtain ⟨hrc, hrs, hfr, hlo, hws, hcw, -, hini, -⟩ := cb
  exact vx_back (bytes := bytes) (maxL := maxL) (ret := ret) hM hbl hrc hrs hfr hlo hws hcw (fun a' U hW => word_at hW (Or.inl (by first | rfl | simp [Cond.onTables, Cond.keeps, Cond.steady])) hini)
theorem vx_runV (S : CallFix p m c cc nL s args Ts own) (hM : vx_Met l y ws rm Pc Qc XC mc ms free) (cw : CallW R s args own C index y bytes maxL ret ws rm mc ms n) (hp : PreV s H C b Pc As)
    (hg : g.method = m) (hn : As.length = n) (hsize : g.locals.size = nL) (hstack : g.stack = As.reverse ++ .ref b :: rest) (hW : 2 * g.monitorRoom + (rest.map fun v => v.category).sum ≤ 8) (hdg : decode cc g.pc = .ok (.invokevirtual index, 3)) (hf : cells + mc ≤ R.cells ∧ slots + ms ≤ R.slots) :
    vx_Run p l e R s m args below meth c H locs cells slots mc ms g rest (Qc (Value.ref b :: As).toArray) XC free := by
  have hK : vx_Back l R p e below s args y 3 8 (PreOf R mc ms Pc) (PostOf Qc mc ms free) (vx_Post XC mc ms free) := vx_callBack cw.1 hM hp.1
  obtain ⟨⟨-, -, -, -, -, -, hcode, -, hy, hlen, hl⟩, hin, hse⟩ := cw
  obtain ⟨hx, hb, hml, ho, -⟩ := S
  obtain ⟨-, ⟨cellB, hcB, hoB, hclB⟩, hPc⟩ := hp
  intro T hT X
  rcases vx_callV X hx (C := C) (bytes := bytes) (maxL := maxL) (ret := ret) ho hl hin hse hcode hy hK (by rw [hT]; exact hcB) hoB hclB hg (hsize.trans hml.symm) (argsL := As) (rest := rest) (fun sig h => hn.trans (hlen sig h)) hstack hW (by rw [hb]; exact hdg)
    (fun vm₁ hW₁ => ⟨hf.1, hf.2, hPc (T.setVm vm₁) hT hW₁⟩) with ⟨v, vm₁, ⟨U', l2, c2, s2⟩, hW₁, X', ⟨g', mk, t, L, e1, e2, hq, h1, hL, h2, h3⟩, st⟩ | ⟨q, vm₁, ⟨U', l2, c2, s2⟩, hW₁, X', ⟨g', mk, t, L, E, ce, e1, e2, hq, hce, hcv, hcl, h1, hL, h2, h3⟩, st⟩
  · dsimp only [Pt.U, Pt.locs, Pt.cells, Pt.slots] at X' e1 e2 h1 h2 h3 st
    subst h1; subst h2; subst h3
    exact Or.inl ⟨v, (T.setVm vm₁).calling g' mk (Value.ref b :: As).toArray, t, U', L, hT, X', hL, e1, e2, hq, st⟩
  · dsimp only [Pt.U, Pt.locs, Pt.cells, Pt.slots] at X' e1 e2 h1 h2 h3 st hcl
    subst h1; subst h2; subst h3
    exact Or.inr ⟨q, (T.setVm vm₁).calling g' mk (Value.ref b :: As).toArray, t, U', L, E, ce, hT, X', hL, e1, e2, hq, hce, hcv, vx_cls hW₁ hcl, st⟩
theorem vx_runS (S : CallFix p m c cc nL s args Ts own) (hM : vx_Met l y ws rm Pc Qc XC mc ms free) (cw : CallB R s args own index y bytes maxL ret ws rm mc ms n ∧ (Cond.static y).before args s = true) (hp : PreS s H Pc As)
    (hg : g.method = m) (hn : As.length = n) (hsize : g.locals.size = nL) (hstack : g.stack = As.reverse ++ rest) (hW : 2 * g.monitorRoom + (rest.map fun v => v.category).sum ≤ 8) (hdg : decode cc g.pc = .ok (.invokestatic index, 3)) (hf : cells + mc ≤ R.cells ∧ slots + ms ≤ R.slots) :
    vx_Run p l e R s m args below meth c H locs cells slots mc ms g rest (Qc As.toArray) XC free := by
  have hK : vx_Back l R p e below s args y 3 8 (PreOf R mc ms Pc) (PostOf Qc mc ms free) (vx_Post XC mc ms free) := vx_callBack cw.1 hM hp.1
  obtain ⟨⟨-, -, -, -, -, -, hcode, hini, hy, hlen, hl⟩, hstt⟩ := cw
  obtain ⟨hx, hb, hml, ho, -⟩ := S
  intro T hT X
  rcases vx_callS X hx (bytes := bytes) (maxL := maxL) (ret := ret) ho hl hstt hini hcode hy hK hg (hsize.trans hml.symm) (argsL := As) (rest := rest) (fun sig h => hn.trans (hlen sig h)) hstack hW (by rw [hb]; exact hdg)
    (fun vm₁ hW₁ => ⟨hf.1, hf.2, hp.2 (T.setVm vm₁) hT hW₁⟩) with ⟨v, vm₁, ⟨U', l2, c2, s2⟩, hW₁, X', ⟨g', mk, t, L, e1, e2, hq, h1, hL, h2, h3⟩, st⟩ | ⟨q, vm₁, ⟨U', l2, c2, s2⟩, hW₁, X', ⟨g', mk, t, L, E, ce, e1, e2, hq, hce, hcv, hcl, h1, hL, h2, h3⟩, st⟩
  · dsimp only [Pt.U, Pt.locs, Pt.cells, Pt.slots] at X' e1 e2 h1 h2 h3 st
    subst h1; subst h2; subst h3
    exact Or.inl ⟨v, (T.setVm vm₁).calling g' mk As.toArray, t, U', L, hT, X', hL, e1, e2, hq, st⟩
  · dsimp only [Pt.U, Pt.locs, Pt.cells, Pt.slots] at X' e1 e2 h1 h2 h3 st hcl
    subst h1; subst h2; subst h3
    exact Or.inr ⟨q, (T.setVm vm₁).calling g' mk As.toArray, t, U', L, E, ce, hT, X', hL, e1, e2, hq, hce, hcv, vx_cls hW₁ hcl, st⟩
end Runs
section Rows
variable {p : Program} {l : Launch} {e : Env} {R : Room} {s : State} {m : MethodId} {args : Array Value} {below : List Frame} {meth : Method} {c : Code} {H : Heap} {locs : List Loc} {cells slots : Nat} {Q : State → Prop}
variable {mc ms : Nat} {free : Addr → Prop} {A0 A1 : Nat → Prop} {H0 : Heap} {a : Array Value} {pc : Nat} {ls : Array Slot} {st0 rest : List Value}
theorem vx_keep {st₀ t T' : State} {L : List Loc} (h0 : st₀.heap = H) (e1 : T'.heap = t.heap) (hS : va_S A0 H0 H locs) (hA : ∀ q, q < H.size → A1 q → A0 q) (hf : ∀ q, free q → A0 q) (hL : ∀ q ∈ L, free q.base) (hF : va_F A1 st₀ t) :
    H.size ≤ T'.heap.size ∧ (∀ q : Nat, q < H.size → ¬ A1 q → T'.heap[q]? = H[q]?) ∧ va_S A0 H0 T'.heap (locs ++ L) := by
  obtain ⟨hz, hk⟩ := hF
  rw [h0] at hz hk
  exact ⟨by rw [e1]; exact hz, fun q h1 h2 => by rw [e1]; exact hk q h1 h2,
    ⟨Nat.le_trans hS.1 (by rw [e1]; exact hz), fun q h1 h2 => by rw [e1, hk q (Nat.lt_of_lt_of_le h1 hS.1) (fun z => h2 (hA q (Nat.lt_of_lt_of_le h1 hS.1) z))]; exact hS.2.1 q h1 h2, fun q hq => by
      rcases List.mem_append.mp hq with h | h
      · exact hS.2.2 q h
      · exact hf _ (hL q h)⟩⟩
theorem vx_calli {S SX : Type} {post : Int32 → S → Prop} {px : SX → Prop} {B : S → State → Prop} {BX : String → SX → State → Prop} {AX : Nat → Prop} (hr : vx_Run p l e R s m args below meth c H locs cells slots mc ms (F0 m pc ls st0) rest (va_Qi post B A1 a) (vx_X px BX AX) free) (hS : va_S A0 H0 H locs) (hA : ∀ q, q < H.size → A1 q → A0 q) (hf : ∀ q, free q → A0 q) (hAX : ∀ q, q < H.size → AX q → A0 q)
    (kx : ∀ (E : String) (ce : Cell) (q9 : Addr) (u : SX) (t : State) (H1 : Heap) (locs1 : List Loc), t.heap = H1 → s.vm.Alike t.vm → px u → BX E u t → H.size ≤ H1.size → (∀ q : Nat, q < H.size → ¬ AX q → H1[q]? = H[q]?) → va_S A0 H0 H1 locs1 → H1[q9]? = some ce → ce.vm = .none → s.vm.findClass E = some ce.cls → vx_W p l e R s m args below meth c H1 locs1 (cells + mc) (slots + ms) Q (F0 m pc ls rest) q9)
    (kk : ∀ (r : Int32) (u : S) (t : State) (H1 : Heap) (locs1 : List Loc), t.heap = H1 → s.vm.Alike t.vm → post r u → B u t → H.size ≤ H1.size → (∀ q : Nat, q < H.size → ¬ A1 q → H1[q]? = H[q]?) → va_S A0 H0 H1 locs1 → W p l e R s m args below meth c H1 locs1 (cells + mc) (slots + ms) Q (F0 m (pc + 3) ls (.int r :: rest))) : W p l e R s m args below meth c H locs cells slots Q (F0 m pc ls st0) := by
  intro T hT X
  rcases hr T hT X with ⟨v, st₀, t, T', L, h0, X', hL, e1, e2, ⟨⟨r, u, hv, hp, hb⟩, hF⟩, st⟩ | ⟨q, st₀, t, T', L, E, ce, h0, X', hL, e1, e2, ⟨u, hp, hb, hF⟩, hce, hcv, hcl, st⟩
  · cases hv
    obtain ⟨k1, k2, k3⟩ := vx_keep h0 e1 hS hA hf hL hF
    obtain ⟨t2, a1, b1⟩ := kk r u t T'.heap (locs ++ L) e1.symm (by rw [← e2]; exact X'.warmed.alike) hp hb k1 k2 k3 T' rfl X'
    exact ⟨t2, st t2 a1, b1⟩
  · obtain ⟨k1, k2, k3⟩ := vx_keep h0 e1 hS hAX hf hL hF
    obtain ⟨t2, a1, b1⟩ := kx E ce q u t T'.heap (locs ++ L) e1.symm (by rw [← e2]; exact X'.warmed.alike) hp hb k1 k2 k3 (by rw [e1]; exact hce) hcv hcl T' rfl X'
    exact ⟨t2, st.trans a1, b1⟩
theorem vx_calll {S SX : Type} {post : Int64 → S → Prop} {px : SX → Prop} {B : S → State → Prop} {BX : String → SX → State → Prop} {AX : Nat → Prop} (hr : vx_Run p l e R s m args below meth c H locs cells slots mc ms (F0 m pc ls st0) rest (va_Ql post B A1 a) (vx_X px BX AX) free) (hS : va_S A0 H0 H locs) (hA : ∀ q, q < H.size → A1 q → A0 q) (hf : ∀ q, free q → A0 q) (hAX : ∀ q, q < H.size → AX q → A0 q)
    (kx : ∀ (E : String) (ce : Cell) (q9 : Addr) (u : SX) (t : State) (H1 : Heap) (locs1 : List Loc), t.heap = H1 → s.vm.Alike t.vm → px u → BX E u t → H.size ≤ H1.size → (∀ q : Nat, q < H.size → ¬ AX q → H1[q]? = H[q]?) → va_S A0 H0 H1 locs1 → H1[q9]? = some ce → ce.vm = .none → s.vm.findClass E = some ce.cls → vx_W p l e R s m args below meth c H1 locs1 (cells + mc) (slots + ms) Q (F0 m pc ls rest) q9)
    (kk : ∀ (r : Int64) (u : S) (t : State) (H1 : Heap) (locs1 : List Loc), t.heap = H1 → s.vm.Alike t.vm → post r u → B u t → H.size ≤ H1.size → (∀ q : Nat, q < H.size → ¬ A1 q → H1[q]? = H[q]?) → va_S A0 H0 H1 locs1 → W p l e R s m args below meth c H1 locs1 (cells + mc) (slots + ms) Q (F0 m (pc + 3) ls (.long r :: rest))) : W p l e R s m args below meth c H locs cells slots Q (F0 m pc ls st0) := by
  intro T hT X
  rcases hr T hT X with ⟨v, st₀, t, T', L, h0, X', hL, e1, e2, ⟨⟨r, u, hv, hp, hb⟩, hF⟩, st⟩ | ⟨q, st₀, t, T', L, E, ce, h0, X', hL, e1, e2, ⟨u, hp, hb, hF⟩, hce, hcv, hcl, st⟩
  · cases hv
    obtain ⟨k1, k2, k3⟩ := vx_keep h0 e1 hS hA hf hL hF
    obtain ⟨t2, a1, b1⟩ := kk r u t T'.heap (locs ++ L) e1.symm (by rw [← e2]; exact X'.warmed.alike) hp hb k1 k2 k3 T' rfl X'
    exact ⟨t2, st t2 a1, b1⟩
  · obtain ⟨k1, k2, k3⟩ := vx_keep h0 e1 hS hAX hf hL hF
    obtain ⟨t2, a1, b1⟩ := kx E ce q u t T'.heap (locs ++ L) e1.symm (by rw [← e2]; exact X'.warmed.alike) hp hb k1 k2 k3 (by rw [e1]; exact hce) hcv hcl T' rfl X'
    exact ⟨t2, st.trans a1, b1⟩
theorem vx_callf {S SX : Type} {post : UInt32 → S → Prop} {px : SX → Prop} {B : S → State → Prop} {BX : String → SX → State → Prop} {AX : Nat → Prop} (hr : vx_Run p l e R s m args below meth c H locs cells slots mc ms (F0 m pc ls st0) rest (va_Qf post B A1 a) (vx_X px BX AX) free) (hS : va_S A0 H0 H locs) (hA : ∀ q, q < H.size → A1 q → A0 q) (hf : ∀ q, free q → A0 q) (hAX : ∀ q, q < H.size → AX q → A0 q)
    (kx : ∀ (E : String) (ce : Cell) (q9 : Addr) (u : SX) (t : State) (H1 : Heap) (locs1 : List Loc), t.heap = H1 → s.vm.Alike t.vm → px u → BX E u t → H.size ≤ H1.size → (∀ q : Nat, q < H.size → ¬ AX q → H1[q]? = H[q]?) → va_S A0 H0 H1 locs1 → H1[q9]? = some ce → ce.vm = .none → s.vm.findClass E = some ce.cls → vx_W p l e R s m args below meth c H1 locs1 (cells + mc) (slots + ms) Q (F0 m pc ls rest) q9)
    (kk : ∀ (r : UInt32) (u : S) (t : State) (H1 : Heap) (locs1 : List Loc), t.heap = H1 → s.vm.Alike t.vm → post r u → B u t → H.size ≤ H1.size → (∀ q : Nat, q < H.size → ¬ A1 q → H1[q]? = H[q]?) → va_S A0 H0 H1 locs1 → W p l e R s m args below meth c H1 locs1 (cells + mc) (slots + ms) Q (F0 m (pc + 3) ls (.float r :: rest))) : W p l e R s m args below meth c H locs cells slots Q (F0 m pc ls st0) := by
  intro T hT X
  rcases hr T hT X with ⟨v, st₀, t, T', L, h0, X', hL, e1, e2, ⟨⟨r, u, hv, hp, hb⟩, hF⟩, st⟩ | ⟨q, st₀, t, T', L, E, ce, h0, X', hL, e1, e2, ⟨u, hp, hb, hF⟩, hce, hcv, hcl, st⟩
  · cases hv
    obtain ⟨k1, k2, k3⟩ := vx_keep h0 e1 hS hA hf hL hF
    obtain ⟨t2, a1, b1⟩ := kk r u t T'.heap (locs ++ L) e1.symm (by rw [← e2]; exact X'.warmed.alike) hp hb k1 k2 k3 T' rfl X'
    exact ⟨t2, st t2 a1, b1⟩
  · obtain ⟨k1, k2, k3⟩ := vx_keep h0 e1 hS hAX hf hL hF
    obtain ⟨t2, a1, b1⟩ := kx E ce q u t T'.heap (locs ++ L) e1.symm (by rw [← e2]; exact X'.warmed.alike) hp hb k1 k2 k3 (by rw [e1]; exact hce) hcv hcl T' rfl X'
    exact ⟨t2, st.trans a1, b1⟩
theorem vx_calld {S SX : Type} {post : UInt64 → S → Prop} {px : SX → Prop} {B : S → State → Prop} {BX : String → SX → State → Prop} {AX : Nat → Prop} (hr : vx_Run p l e R s m args below meth c H locs cells slots mc ms (F0 m pc ls st0) rest (va_Qd post B A1 a) (vx_X px BX AX) free) (hS : va_S A0 H0 H locs) (hA : ∀ q, q < H.size → A1 q → A0 q) (hf : ∀ q, free q → A0 q) (hAX : ∀ q, q < H.size → AX q → A0 q)
    (kx : ∀ (E : String) (ce : Cell) (q9 : Addr) (u : SX) (t : State) (H1 : Heap) (locs1 : List Loc), t.heap = H1 → s.vm.Alike t.vm → px u → BX E u t → H.size ≤ H1.size → (∀ q : Nat, q < H.size → ¬ AX q → H1[q]? = H[q]?) → va_S A0 H0 H1 locs1 → H1[q9]? = some ce → ce.vm = .none → s.vm.findClass E = some ce.cls → vx_W p l e R s m args below meth c H1 locs1 (cells + mc) (slots + ms) Q (F0 m pc ls rest) q9)
    (kk : ∀ (r : UInt64) (u : S) (t : State) (H1 : Heap) (locs1 : List Loc), t.heap = H1 → s.vm.Alike t.vm → post r u → B u t → H.size ≤ H1.size → (∀ q : Nat, q < H.size → ¬ A1 q → H1[q]? = H[q]?) → va_S A0 H0 H1 locs1 → W p l e R s m args below meth c H1 locs1 (cells + mc) (slots + ms) Q (F0 m (pc + 3) ls (.double r :: rest))) : W p l e R s m args below meth c H locs cells slots Q (F0 m pc ls st0) := by
  intro T hT X
  rcases hr T hT X with ⟨v, st₀, t, T', L, h0, X', hL, e1, e2, ⟨⟨r, u, hv, hp, hb⟩, hF⟩, st⟩ | ⟨q, st₀, t, T', L, E, ce, h0, X', hL, e1, e2, ⟨u, hp, hb, hF⟩, hce, hcv, hcl, st⟩
  · cases hv
    obtain ⟨k1, k2, k3⟩ := vx_keep h0 e1 hS hA hf hL hF
    obtain ⟨t2, a1, b1⟩ := kk r u t T'.heap (locs ++ L) e1.symm (by rw [← e2]; exact X'.warmed.alike) hp hb k1 k2 k3 T' rfl X'
    exact ⟨t2, st t2 a1, b1⟩
  · obtain ⟨k1, k2, k3⟩ := vx_keep h0 e1 hS hAX hf hL hF
    obtain ⟨t2, a1, b1⟩ := kx E ce q u t T'.heap (locs ++ L) e1.symm (by rw [← e2]; exact X'.warmed.alike) hp hb k1 k2 k3 (by rw [e1]; exact hce) hcv hcl T' rfl X'
    exact ⟨t2, st.trans a1, b1⟩
theorem vx_callv {S SX : Type} {post : S → Prop} {px : SX → Prop} {B : S → State → Prop} {BX : String → SX → State → Prop} {AX : Nat → Prop} (hr : vx_Run p l e R s m args below meth c H locs cells slots mc ms (F0 m pc ls st0) rest (va_Qv post B A1 a) (vx_X px BX AX) free) (hS : va_S A0 H0 H locs) (hA : ∀ q, q < H.size → A1 q → A0 q) (hf : ∀ q, free q → A0 q) (hAX : ∀ q, q < H.size → AX q → A0 q)
    (kx : ∀ (E : String) (ce : Cell) (q9 : Addr) (u : SX) (t : State) (H1 : Heap) (locs1 : List Loc), t.heap = H1 → s.vm.Alike t.vm → px u → BX E u t → H.size ≤ H1.size → (∀ q : Nat, q < H.size → ¬ AX q → H1[q]? = H[q]?) → va_S A0 H0 H1 locs1 → H1[q9]? = some ce → ce.vm = .none → s.vm.findClass E = some ce.cls → vx_W p l e R s m args below meth c H1 locs1 (cells + mc) (slots + ms) Q (F0 m pc ls rest) q9)
    (kk : ∀ (u : S) (t : State) (H1 : Heap) (locs1 : List Loc), t.heap = H1 → s.vm.Alike t.vm → post u → B u t → H.size ≤ H1.size → (∀ q : Nat, q < H.size → ¬ A1 q → H1[q]? = H[q]?) → va_S A0 H0 H1 locs1 → W p l e R s m args below meth c H1 locs1 (cells + mc) (slots + ms) Q (F0 m (pc + 3) ls (rest))) : W p l e R s m args below meth c H locs cells slots Q (F0 m pc ls st0) := by
  intro T hT X
  rcases hr T hT X with ⟨v, st₀, t, T', L, h0, X', hL, e1, e2, ⟨⟨u, hv, hp, hb⟩, hF⟩, st⟩ | ⟨q, st₀, t, T', L, E, ce, h0, X', hL, e1, e2, ⟨u, hp, hb, hF⟩, hce, hcv, hcl, st⟩
  · cases hv
    obtain ⟨k1, k2, k3⟩ := vx_keep h0 e1 hS hA hf hL hF
    obtain ⟨t2, a1, b1⟩ := kk u t T'.heap (locs ++ L) e1.symm (by rw [← e2]; exact X'.warmed.alike) hp hb k1 k2 k3 T' rfl X'
    exact ⟨t2, st t2 a1, b1⟩
  · obtain ⟨k1, k2, k3⟩ := vx_keep h0 e1 hS hAX hf hL hF
    obtain ⟨t2, a1, b1⟩ := kx E ce q u t T'.heap (locs ++ L) e1.symm (by rw [← e2]; exact X'.warmed.alike) hp hb k1 k2 k3 (by rw [e1]; exact hce) hcv hcl T' rfl X'
    exact ⟨t2, st.trans a1, b1⟩
/-- caught by the row x of this method's table; the rows ahead don't take it -/
theorem vx_catch {own name : String} {E : String} {ce : Cell} {q : Addr} (hown : s.vm.findClass own = some m.cls) (pre : List ExceptionTableEntry) (x : ExceptionTableEntry) (suf : List ExceptionTableEntry) (hsplit : c.exceptionTable.toList = pre ++ x :: suf)
    (hpass : ∀ z ∈ pre, covers z pc = false ∨ (z.catchType ≠ 0 ∧ ∃ nm : String, (Cond.classLink own z.catchType nm).before args s = true ∧ va_Nc E nm s)) (hx : covers x pc = true) (h0 : x.catchType ≠ 0)
    (hlink : (Cond.classLink own x.catchType name).before args s = true) (hcast : (Cond.castable E name).before args s = true) (hcell : H[q]? = some ce) (hv : ce.vm = .none) (hcl : s.vm.findClass E = some ce.cls)
    (kk : W p l e R s m args below meth c H locs cells slots Q (F0 m x.handlerPc ls [.ref q])) : vx_W p l e R s m args below meth c H locs cells slots Q (F0 m pc ls rest) q := by
  intro T hT X
  have hpl : e.platform.magicAccessors = ({} : Platform).magicAccessors := by rw [X.admits.platform]
  obtain ⟨c3, c4, hc3, hc4, hasg⟩ := Cond.castable_spec hcast
  cases Option.some.inj (hc3.symm.trans hcl)
  obtain ⟨c5, hc5, hcl5⟩ := Cond.classLink_spec hown hlink e.platform hpl
  cases Option.some.inj (hc4.symm.trans hc5)
  obtain ⟨vm', X', st⟩ := Stand.thenCaughtThrough X q (g := F0 m pc ls rest) rfl (Steps.refl _) (by rw [hT]; exact hcell) (by rw [hv]; rfl) (by obtain ⟨k9, h9, -⟩ := Vm.findClass_spec hcl; exact ⟨k9, h9⟩) pre x suf hsplit
    (fun z hz => by
      rcases hpass z hz with h | ⟨hz0, nm, hl1, hn1⟩
      · exact Or.inl h
      · obtain ⟨c6, hc6, hcl6⟩ := Cond.classLink_spec hown hl1 e.platform hpl
        obtain ⟨a8, b8, h1, h2, h3⟩ := hn1
        cases Option.some.inj (h1.symm.trans hcl)
        cases Option.some.inj (h2.symm.trans hc6)
        exact Or.inr ⟨hz0, _, hcl6, h3⟩) hx (Or.inr ⟨h0, c4, hcl5, hasg⟩)
  obtain ⟨t, a1, b1⟩ := kk (T.setVm vm') hT X'
  exact ⟨t, st.trans a1, b1⟩
end Rows
section Ends
variable {p : Program} {l : Launch} {e : Env} {R : Room} {s : State} {m : MethodId} {args : Array Value} {below : List Frame} {meth : Method} {c : Code} {H : Heap} {locs : List Loc} {cells slots : Nat} {Q : State → Prop}
variable {mc ms : Nat} {free : Addr → Prop} {A0 A1 : Nat → Prop} {H0 : Heap} {a : Array Value} {ls : Array Slot} {st0 rest : List Value}
variable {Qc : Array Value → State → Outcome → State → Prop} {XC : String → State → State → Prop}
/-- what a body that may throw owes at its end -/
def vx_MQ (below : List Frame) (Qc : Array Value → State → Outcome → State → Prop) (XC : String → State → State → Prop) (a : Array Value) (s : State) (mc ms : Nat) (free : Addr → Prop) : State → Prop := fun t =>
  ∃ o, t.status = .running ∧ Ended t below o ∧ vx_Q Qc XC mc ms free a s o t
theorem vx_ret {g : JFrame} {mc ms : Nat} (k : W p l e R s m args below meth c H locs cells slots (MQ below Qc args s mc ms free) g) : W p l e R s m args below meth c H locs cells slots (vx_MQ below Qc XC args s mc ms free) g := by
  intro T hT X
  obtain ⟨t, a1, o, b1, b2, b3, b4⟩ := k T hT X
  exact ⟨t, a1, o, b1, b2, Or.inl ⟨b3, b4⟩⟩
/-- not caught here: it goes on to the caller -/
theorem vx_widen {g : JFrame} {q : Addr} {k n : Nat} (h1 : cells ≤ k) (h2 : slots ≤ n) (kk : vx_W p l e R s m args below meth c H locs k n Q g q) : vx_W p l e R s m args below meth c H locs cells slots Q g q := fun T hT X => kk T hT (stand_widen X h1 h2)
theorem vx_out {pc : Nat} {E : String} {ce : Cell} {q : Addr} {mc ms : Nat} (hout : ∀ x ∈ c.exceptionTable.toList, covers x pc = false) (hlocks : meth.locks = false) (hcell : H[q]? = some ce) (hv : ce.vm = .none) (hcl : s.vm.findClass E = some ce.cls)
    (hx : ∀ t : State, t.heap = H → s.vm.Alike t.vm → XC E s t) (hf : ∀ z ∈ locs, free z.base) (hc : cells ≤ mc) (hs : slots ≤ ms) :
    vx_W p l e R s m args below meth c H locs cells slots (vx_MQ below Qc XC args s mc ms free) (F0 m pc ls rest) q := by
  intro T hT X
  obtain ⟨st1, hrun, hend, hW, hsm⟩ := X.leaveThrown q (g := F0 m pc ls rest) rfl rfl rfl hout hlocks
  have hcell9 : (T.setFrames (.throwing q :: below)).heap[q]? = some ce := by
    show T.heap[q]? = some ce
    rw [hT]; exact hcell
  exact ⟨_, st1, .threw q, hrun, hend, Or.inr ⟨q, rfl, E, ce, locs, hx _ hT hW.alike, hcell9, hv, hcl, hW, hsm.mono hc hs, hf⟩⟩
theorem vx_frame {U : State} {k n : Nat} (h : s.sameButNew ({ U with vm := s.vm } : State) locs k n) : s.heap.size ≤ U.heap.size ∧ ∀ q : Nat, q < s.heap.size → (∀ z ∈ locs, z.base ≠ q) → U.heap[q]? = s.heap[q]? := by
  obtain ⟨-, h2, -, -, -, h6⟩ := h
  refine ⟨h2, fun q hq hz => ?_⟩
  obtain ⟨c9, e1, e2, e3, e4⟩ := h6 q _ (Array.getElem?_eq_getElem hq)
  have hs : c9.slots = (s.heap[q]).slots := Array.ext_getElem? fun i => e4 i fun hm => hz _ hm rfl
  have h9 : c9 = s.heap[q] := by
    rw [hs] at e2
    exact e2
  have e5 : U.heap[q]? = some c9 := e1
  rw [e5, h9, Array.getElem?_eq_getElem hq]
/-- the words of a throw but the four that speak of the heap -/
def vx_no (w : Cond) : Bool := decide (w ≠ .isRef (.static Bundle.tN "UNASSIGNED_STACK" Bundle.steD)) && decide (w ≠ .isRef (.static Bundle.tN "SUPPRESSED_SENTINEL" Bundle.listD)) && decide (w ≠ .laysStatic Bundle.tN "UNASSIGNED_STACK" Bundle.steD) && decide (w ≠ .laysStatic Bundle.tN "SUPPRESSED_SENTINEL" Bundle.listD)
def vx_at0 (own : String) (ic : Nat) (X : String) (names : List String) : List Cond := (Bundle.ownAtoms0 own ic X names).filter vx_no
def vx_atS (own : String) (ic : Nat) (X : String) (names : List String) : List Cond := (Bundle.ownAtoms own ic X names).filter vx_no
/-- a word that the tables alone decide, or a good one -/
def vx_ot (w : Cond) : Bool := w.onTables || goodWord w
theorem vx_ot_at {args a' : Array Value} {s U : State} {w : Cond} (hW : s.WarmedH U.vm) (hvm : s.vm = U.vm) (hg : vx_ot w = true) (h : w.before args s = true) : w.before a' U = true := by
  simp only [vx_ot, Bool.or_eq_true] at hg
  rcases hg with hg | hg
  · exact va_tabs hg hvm h
  · exact word_at hW (good_of_word hg) h
/-- a list's words: the good ones out of the method's own list, the others by premises of their own -/
theorem vx_hat {args : Array Value} {s : State} {L B : List Cond} (h1 : ∀ w ∈ L.filter goodWord, w.before args s = true) (h2 : ∀ w ∈ L.filter (fun w => !goodWord w), w ∈ B) (h3 : ∀ w ∈ B, w.before args s = true) : ∀ w ∈ L, w.before args s = true := by
  intro w hw
  by_cases g : goodWord w = true
  · exact h1 w (List.mem_filter.mpr ⟨hw, g⟩)
  · refine h3 w (h2 w (List.mem_filter.mpr ⟨hw, ?_⟩))
    show (!goodWord w) = true
    cases hgw : goodWord w
    · rfl
    · exact absurd hgw g
theorem vx_c {args : Array Value} {s : State} {w : Cond} {B : List Cond} (h : w.before args s = true) (t : ∀ w ∈ B, w.before args s = true) : ∀ w' ∈ w :: B, w'.before args s = true := fun w' h' => (List.mem_cons.mp h').elim (fun e => by rw [e]; exact h) (t w')
theorem vx_n {args : Array Value} {s : State} : ∀ w ∈ ([] : List Cond), w.before args s = true := fun _ h => nomatch h
theorem vx_own {args : Array Value} {s : State} {L : List Cond} (h1 : ∀ w ∈ L.filter vx_no, w.before args s = true)
    (hU : (Cond.isRef (.static Bundle.tN "UNASSIGNED_STACK" Bundle.steD)).before args s = true) (hN : (Cond.isRef (.static Bundle.tN "SUPPRESSED_SENTINEL" Bundle.listD)).before args s = true)
    (lU : (Cond.laysStatic Bundle.tN "UNASSIGNED_STACK" Bundle.steD).before args s = true) (lN : (Cond.laysStatic Bundle.tN "SUPPRESSED_SENTINEL" Bundle.listD).before args s = true) : ∀ w ∈ L, w.before args s = true := by
  intro w hw
  by_cases e1 : w = .isRef (.static Bundle.tN "UNASSIGNED_STACK" Bundle.steD)
  · rw [e1]; exact hU
  · by_cases e2 : w = .isRef (.static Bundle.tN "SUPPRESSED_SENTINEL" Bundle.listD)
    · rw [e2]; exact hN
    · by_cases e3 : w = .laysStatic Bundle.tN "UNASSIGNED_STACK" Bundle.steD
      · rw [e3]; exact lU
      · by_cases e4 : w = .laysStatic Bundle.tN "SUPPRESSED_SENTINEL" Bundle.listD
        · rw [e4]; exact lN
        · exact h1 w (List.mem_filter.mpr ⟨hw, by unfold vx_no; rw [decide_eq_true e1, decide_eq_true e2, decide_eq_true e3, decide_eq_true e4]; rfl⟩)
/-- where a static field lies, its class's statics cell in H -/
def vx_L (C n d : String) (A : Nat → Prop) (U : State) (H : Heap) : Prop := ∃ (c : ClassId) (k : Class) (i : Nat) (f : Field) (a : Nat) (cell : Cell), U.vm.findClass C = some c ∧ U.fieldFound? C n d = some (c, k, i, f) ∧ f.isStatic = true ∧ k.statics = some a ∧ H[a]? = some cell ∧ cell.vm.isStatics = true ∧ cell.cls = c ∧ f.slot < cell.slots.size ∧ k.staticTypes[f.slot]? = some f.type ∧ ¬ A a
theorem vx_L.moved {C n d : String} {A : Nat → Prop} {u U : State} {H : Heap} (hvm : u.vm.Alike U.vm) (h : vx_L C n d A u H) : vx_L C n d A U H := by
  obtain ⟨c, k, i, f, a, cell, h1, h2, h3, h4, h5, h6, h7, h8, h9, h10⟩ := h
  obtain ⟨k', hi', he⟩ := State.fieldFound?_setVm hvm h2
  exact ⟨c, k', i, f, a, cell, by rw [hvm.findClass]; exact h1, hi', h3, by rw [he]; exact h4, h5, h6, h7, h8, by rw [he]; exact h9, h10⟩
theorem vx_L.kept {C n d : String} {A : Nat → Prop} {U : State} {H H1 : Heap} (h : vx_L C n d A U H) (hq : ∀ a : Nat, a < H.size → ¬ A a → H1[a]? = H[a]?) : vx_L C n d A U H1 := by
  obtain ⟨c, k, i, f, a, cell, h1, h2, h3, h4, h5, h6, h7, h8, h9, h10⟩ := h
  exact ⟨c, k, i, f, a, cell, h1, h2, h3, h4, by rw [hq a (Array.getElem?_eq_some_iff.mp h5).1 h10]; exact h5, h6, h7, h8, h9, h10⟩
theorem vx_L.narrow {C n d : String} {A B : Nat → Prop} {U : State} {H : Heap} (h : vx_L C n d A U H) (hAB : ∀ q, B q → A q) : vx_L C n d B U H := by
  obtain ⟨c, k, i, f, a, cell, h1, h2, h3, h4, h5, h6, h7, h8, h9, h10⟩ := h
  exact ⟨c, k, i, f, a, cell, h1, h2, h3, h4, h5, h6, h7, h8, h9, fun z => h10 (hAB _ z)⟩
theorem vx_L.word {C n d : String} {A : Nat → Prop} {s : State} {args : Array Value} (h : vx_L C n d A s s.heap) : (Cond.laysStatic C n d).before args s = true := by
  obtain ⟨c, k, i, f, a, cell, h1, h2, h3, h4, h5, h6, h7, h8, h9, -⟩ := h
  show (Cond.laysStatic C n d).holds args s none s [] = true
  exact Cond.laysStatic_of h1 h2 h3 h4 h5 h6 h7 h8 h9
/-- .. and what it holds: null or some reference -/
def vx_Zq (C n d : String) (A : Nat → Prop) (U : State) (H : Heap) : Prop := va_Zq C n d A U H ∧ vx_L C n d A U H
theorem vx_Zq.moved {C n d : String} {A : Nat → Prop} {u U : State} {H : Heap} (hvm : u.vm.Alike U.vm) (h : vx_Zq C n d A u H) : vx_Zq C n d A U H := ⟨va_Zq.moved hvm h.1, vx_L.moved hvm h.2⟩
theorem vx_Zq.kept {C n d : String} {A : Nat → Prop} {U : State} {H H1 : Heap} (h : vx_Zq C n d A U H) (hq : ∀ a : Nat, a < H.size → ¬ A a → H1[a]? = H[a]?) : vx_Zq C n d A U H1 := ⟨va_Zq.kept h.1 hq, vx_L.kept h.2 hq⟩
theorem vx_Zq.narrow {C n d : String} {A B : Nat → Prop} {U : State} {H : Heap} (h : vx_Zq C n d A U H) (hAB : ∀ q, B q → A q) : vx_Zq C n d B U H := ⟨va_Zq.narrow h.1 hAB, vx_L.narrow h.2 hAB⟩
theorem vx_Zqof {args : Array Value} {s : State} {C n d : String} {A : Nat → Prop} (hl : (Cond.laysStatic C n d).before args s = true) (hini : (Cond.initialized C).before args s = true) (h : (Cond.isRef (.static C n d)).before args s = true) (hA : ∀ a : Nat, a < s.heap.size → ¬ A a) : vx_Zq C n d A s s.heap := by
  refine ⟨va_Zqof hl hini h hA, ?_⟩
  obtain ⟨c, k, i, f, a, cell, h1, h2, h3, h4, h5, h6, h7, h8, h9⟩ := Cond.laysStatic_spec hl
  exact ⟨c, k, i, f, a, cell, h1, h2, h3, h4, h5, h6, h7, h8, h9, hA a (Array.getElem?_eq_some_iff.mp h5).1⟩
theorem vx_isRef {C n d : String} {v : Value} {A : Nat → Prop} {s : State} {args : Array Value} (h : va_Z C n d v A s s.heap) (hv : v.isRef = true) : (Cond.isRef (.static C n d)).before args s = true := by
  obtain ⟨cf, kf, fi, f, a, cell, h1, h2, h3, h4, h5, h6, h7, -⟩ := h
  have he : (Term.static C n d).eval args s none [] s = some v := by
    simp [Term.eval, State.fieldNamed?, h1, h2, h4, h5, h6, h7]
  simp only [Cond.before, Cond.holds, Cond.value, he]
  cases v <;> simp_all [Value.isRef]
theorem vx_isRefq {C n d : String} {A : Nat → Prop} {s : State} {args : Array Value} (h : va_Zq C n d A s s.heap) : (Cond.isRef (.static C n d)).before args s = true := by
  rcases h with h | ⟨t, h⟩
  · exact vx_isRef h rfl
  · exact vx_isRef h rfl
/-- the same frame, seen from here: as if the method were called anew in this heap -/
theorem vx_rebase {T : State} (X : Stand p l e R s m args below meth c T locs cells slots) {R' : Room} (hf : R'.frames ≤ R.frames) (hl : R'.locals ≤ R.locals) (hc : cells + R'.cells ≤ R.cells) (hs : slots + R'.slots ≤ R.slots) :
    Stand p l e R' ((T.setVm s.vm).setFrames (.invoking m args :: below)) m args below meth c T [] 0 0 := by
  have htop : (T.setVm s.vm).topJava?.isSome := X.here.top
  have hF : ((T.setVm s.vm).setFrames (.invoking m args :: below)).frames = .invoking m args :: below := State.frames_setFrames _ (State.cur_lt_of_top htop)
  obtain ⟨g₀, hg0⟩ := Option.isSome_iff_exists.mp htop
  obtain ⟨r, hr⟩ := State.topJava?_eq_some.mp hg0
  have hl9 : e.platform.stackLimits (T.setVm s.vm).me = e.platform.stackLimits s.me := X.limits
  have hb9 : (T.setVm s.vm).me.stackBytes = s.me.stackBytes := X.bytes
  refine ⟨X.admits, X.cas, X.clock, hF, ?_, X.hears, X.method, X.code, X.here, X.tail, X.warmed, ?_, ?_, ?_⟩
  · have h := X.room
    have hU : ((T.setVm s.vm).setFrames (.invoking m args :: below)).localsInUse = s.localsInUse := by
      rw [State.localsInUse_invoking hF (meth := meth) (c := c) X.method X.code, State.localsInUse_invoking X.frames X.method X.code]
    simp only [State.hasRoom, Bool.and_eq_true, decide_eq_true_eq] at h ⊢
    obtain ⟨⟨⟨⟨h1, h2, h3, h4, h5, h6⟩, h7⟩, h8⟩, h9⟩ := h
    rw [X.frames, List.length_cons] at h2 h3
    have q1 := X.heapSize
    have q2 := X.used
    simp only [hF, hU, List.length_cons, State.stackLimits_setFrames, State.stackBytes_setFrames, hl9, hb9]
    refine ⟨⟨⟨⟨by omega, by omega, by omega, by omega, by omega, h6⟩, ?_⟩, ?_⟩, X.book⟩
    · show T.heap.size + R'.cells ≤ e.platform.maxCells
      omega
    · show T.slotsUsed + R'.slots ≤ e.platform.maxSlots
      omega
  · rw [State.stackLimits_setFrames]; rfl
  · rw [State.stackBytes_setFrames]; rfl
  · refine ⟨?_, Nat.le_refl _, Nat.le_refl _, ?_, ?_, fun a c9 h9 => ⟨c9, h9, rfl, rfl, fun _ _ => rfl⟩⟩
    · obtain ⟨t, ht, -⟩ := State.frames_cons hr
      show T.setVm s.vm = { ((T.setVm s.vm).setFrames (.invoking m args :: below)).setFrames (T.setVm s.vm).frames with heap := T.heap, slotsUsed := T.slotsUsed }
      rw [State.setFrames_setFrames, State.setFrames_self ht]
      rfl
    · show T.slotsUsed = T.slotsUsed + ((T.heap.toList.drop T.heap.size).map (·.slots.size)).sum
      rw [List.drop_eq_nil_of_le (Nat.le_of_eq Array.length_toList)]
      rfl
    · show ((T.heap.toList.drop T.heap.size).map (·.slots.size)).sum ≤ 0
      rw [List.drop_eq_nil_of_le (Nat.le_of_eq Array.length_toList)]
      exact Nat.le_refl _
end Ends
section Bodies
variable {l : Launch}
theorem vx_ofW {y : MethodName} {ws ws' : List Cond} {rm : Room} {Pc : Array Value → State → Prop} {Qc : Array Value → State → Outcome → State → Prop} {XC : String → State → State → Prop} {mc ms : Nat} {free : Addr → Prop} {cc : ByteArray} {maxL : Nat} {ret : Option FieldType}
    (hy : plainName y.cls = true) (hw : ws = Cond.code y cc maxL ret :: ws')
    (body : ∀ p e s m args below meth c s₁, BodyLoose p l y (headSpec ws rm) cc maxL ret e s m args below meth c s₁ → c.maxLocals = maxL → (∀ x ∈ c.exceptionTable.toList, False) → Pc args s →
      W p l e (headSpec ws rm).room s m args below meth c s.heap [] 0 0 (vx_MQ below Qc XC args s mc ms free) (entryFrame m args maxL)) : vx_Met l y ws rm Pc Qc XC mc ms free := by
  refine MetFree.of_bodyS (code := cc) (maxLocals := maxL) (ret := ret) hy ?_ ?_
  · intro args s m h hn
    obtain ⟨meth, c, h1, h2, h3, h4, h5, h6, -, -⟩ := Cond.code_spec hn (atoms_spec (ws := ws) h _ (by rw [hw]; exact List.mem_cons_self))
    exact ⟨meth, c, h1, h2, h3, h4, h5, h6⟩
  · intro p e s m args below meth c s₁ B hml hP _
    have hh0 : s₁.heap = s.heap := by rw [B.state]; rfl
    have ht : ∀ x ∈ c.exceptionTable.toList, False := by
      obtain ⟨meth9, c9, h1, h2, -, -, -, -, h7, -⟩ := Cond.code_spec B.named (atoms_spec (ws := ws) B.pre _ (by rw [hw]; exact List.mem_cons_self))
      cases Option.some.inj (h1.symm.trans B.method)
      cases Option.some.inj (h2.symm.trans (Stand.of_body B).code)
      intro x hx
      rw [Array.isEmpty_iff.mp h7] at hx
      cases hx
    obtain ⟨t, a1, o, b1, b2, b3⟩ := body p e s m args below meth c s₁ B hml ht hP s₁ hh0 (Stand.of_body B)
    exact ⟨t, o, a1, b1, b2, b3⟩
/-- the table of a body with handlers -/
theorem vx_table {p : Program} {x y : MethodName} {S : Spec} {cc bytes : ByteArray} {maxL maxL' : Nat} {ret ret' : Option FieldType} {e : Env} {s s₁ : State} {m : MethodId} {args : Array Value} {below : List Frame} {meth : Method} {c : Code} {hh : List (Nat × Nat × Nat × Nat)}
    (B : BodyLoose p l y S cc maxL ret e s m args below meth c s₁) (h : (Cond.codeWith y bytes maxL' ret' hh).before args s = true) : c.exceptionTable.toList = tableOf hh := by
  obtain ⟨m9, meth9, c9, hn9, h1, h2, -, -, h6, -⟩ := Cond.codeWith_spec h
  cases Option.some.inj (hn9.symm.trans B.named)
  cases Option.some.inj (h1.symm.trans B.method)
  cases Option.some.inj (h2.symm.trans (Stand.of_body B).code)
  rw [← h6, table_eq]
end Bodies
end VXA
/-! ===== END ===== -/
/-! ===== BEGIN a static call of a method with an exception table ===== -/
section VXS
variable {p : Program} {l : Launch} {e : Env} {R : Room} {s : State} {m : MethodId} {args : Array Value} {below : List Frame} {meth : Method} {c : Code} {T : State} {H : Heap} {locs : List Loc} {cells slots : Nat}
abbrev vx_CSW (R : Room) (s : State) (args : Array Value) (own : String) (index : Nat) (y : MethodName) (bytes : ByteArray) (maxL : Nat) (ret : Option FieldType) (hh : List (Nat × Nat × Nat × Nat)) (ws : List Cond) (rm : Room) (mc ms n : Nat) : Prop :=
  (rm.cells = mc ∧ rm.slots = ms ∧ rm.frames + 1 ≤ R.frames ∧ 8 + (maxL + 11) + rm.locals ≤ R.locals ∧ (∀ w ∈ ws, ∀ (a' : Array Value) (U : State), s.WarmedH U.vm → w.before a' U = true) ∧ Cond.codeWith y bytes maxL ret hh ∈ ws) ∧
  (Cond.codeWith y bytes maxL ret hh).before args s = true ∧ (Cond.initialized y.cls).before args s = true ∧ (y.cls ≠ "java/lang/invoke/MethodHandle" ∧ y.cls ≠ "java/lang/invoke/VarHandle") ∧
  (∀ sig, parseMethodDescriptor y.desc = some sig → n = sig.parameters.length) ∧ (Cond.methodLink own index y).before args s = true ∧ (Cond.static y).before args s = true
theorem vx_cwSW {own : String} {index maxL mc ms : Nat} {y : MethodName} {bytes : ByteArray} {ret : Option FieldType} {hh : List (Nat × Nat × Nat × Nat)} {Ts ws ws' : List Cond} {rm : Room} (n : Nat) (ht : ∀ w ∈ Ts, w.before args s = true) (hT : GoodIn Ts (va_wsS own index y ws)) (hw : ws = Cond.codeWith y bytes maxL ret hh :: ws') (hrc : rm.cells = mc) (hrs : rm.slots = ms)
    (hd : y.cls ≠ "java/lang/invoke/MethodHandle" ∧ y.cls ≠ "java/lang/invoke/VarHandle" ∧ (parseMethodDescriptor y.desc).map (fun d => d.parameters.length) = some n) (hR : rm.frames + 1 ≤ R.frames ∧ 8 + (maxL + 11) + rm.locals ≤ R.locals) :
    vx_CSW R s args own index y bytes maxL ret hh ws rm mc ms n := by
  have ok : ∀ w ∈ va_wsS own index y ws, w.before args s = true := fun w h => ht w (hT w h).1
  have hG : GoodIn Ts ws := fun w h => hT w (by unfold va_wsS; exact List.mem_append_right _ h)
  have hc : Cond.codeWith y bytes maxL ret hh ∈ ws := by rw [hw]; exact List.mem_cons_self
  refine ⟨⟨hrc, hrs, hR.1, hR.2, pay_in ht hG, hc⟩, ht _ (hG _ hc).1, ok _ (by simp [va_wsS]), ⟨hd.1, hd.2.1⟩, fun sig h => ?_, ok _ (by simp [va_wsS]), ok _ (by simp [va_wsS])⟩
  have h2 := hd.2.2
  rw [h] at h2
  exact (Option.some.inj h2).symm
theorem vx_callSW (X : Stand p l e R s m args below meth c T locs cells slots) (hexec : p.tables.exec = Jvm.exec) {own : String} {index : Nat} {y : MethodName} {bytes : ByteArray} {maxL : Nat} {ret : Option FieldType} {hh : List (Nat × Nat × Nat × Nat)}
    (hown : s.vm.findClass own = some m.cls) (hlink : (Cond.methodLink own index y).before args s = true) (hstat : (Cond.static y).before args s = true) (hinit : (Cond.initialized y.cls).before args s = true)
    (hcode : (Cond.codeWith y bytes maxL ret hh).before args s = true) (hy : y.cls ≠ "java/lang/invoke/MethodHandle" ∧ y.cls ≠ "java/lang/invoke/VarHandle")
    {W9 : Nat} {Pre : Pt → Array Value → Prop} {Post : Pt → Array Value → Option Value → Pt → Prop} (hK : Back l R p e below s args y 3 W9 Pre Post)
    {g : JFrame} (hg : g.method = m) (hsize : g.locals.size = c.maxLocals) {argsL rest : List Value} (hlen : ∀ sig, parseMethodDescriptor y.desc = some sig → argsL.length = sig.parameters.length)
    (hstack : g.stack = argsL.reverse ++ rest) (hW : 2 * g.monitorRoom + (rest.map fun v => v.category).sum ≤ W9) (hdg : decode c.code g.pc = .ok (.invokestatic index, 3))
    (hpre : ∀ vm₁, s.WarmedH vm₁ → Pre ⟨T.setVm vm₁, locs, cells, slots⟩ argsL.toArray) :
    ∃ (v : Option Value) (vm₁ : Vm) (B : Pt), s.WarmedH vm₁ ∧ Stand p l e R s m args below meth c B.U B.locs B.cells B.slots ∧ Post ⟨T.setVm vm₁, locs, cells, slots⟩ argsL.toArray v B ∧
      ∀ target, Steps p.tables e below (B.U.setTop { g with pc := g.pc + 3, stack := v.toList ++ rest }) target → Steps p.tables e below (T.setTop g) target := by
  obtain ⟨mk, methM, cM, hnamed, hmethM, -, -, -, -, -, -, hsigM⟩ := Cond.codeWith_spec hcode
  have hstatic : methM.isStatic = true := Cond.static_spec hnamed hmethM hstat
  obtain ⟨kP, hkP, -⟩ := className_of_methodNamed hnamed
  have hinitP : kP.init = .initialized := Cond.initialized_spec (findClass_of_methodNamed hnamed) hkP hinit
  obtain ⟨vm₁, X₁, hstep₁⟩ := X.invokestatic hexec hown hlink hnamed hmethM hstatic hkP hinitP hy (g := g) hg (argsL := argsL) (rest := rest) (hlen _ hsigM) hstack hdg
  obtain ⟨v, B, X', hpost, hsteps⟩ := hK m meth c ⟨T.setVm vm₁, locs, cells, slots⟩ { g with stack := rest } (.invokestatic index) mk argsL.toArray X₁ hg hsize hdg hW (X₁.named hnamed) (hpre vm₁ X₁.warmed)
  exact ⟨v, vm₁, B, X₁.warmed, X', hpost, fun target h => hstep₁ _ fun acts => by rw [doInvoke_state]; exact hsteps.trans h⟩
theorem vx_runSW {y : MethodName} {bytes cc : ByteArray} {maxL nL mc ms n index : Nat} {ret : Option FieldType} {hh : List (Nat × Nat × Nat × Nat)} {ws : List Cond} {rm : Room} {Pc : Array Value → State → Prop} {Qc : Array Value → State → Outcome → State → Prop} {free : Addr → Prop} {Ts : List Cond} {own : String} {As rest : List Value} {g : JFrame}
    (S : CallFix p m c cc nL s args Ts own) (hM : Met l y ws rm Pc Qc mc ms free) (cw : vx_CSW R s args own index y bytes maxL ret hh ws rm mc ms n) (hp : PreS s H Pc As)
    (hg : g.method = m) (hn : As.length = n) (hsize : g.locals.size = nL) (hstack : g.stack = As.reverse ++ rest) (hW : 2 * g.monitorRoom + (rest.map fun v => v.category).sum ≤ 8) (hdg : decode cc g.pc = .ok (.invokestatic index, 3)) (hf : cells + mc ≤ R.cells ∧ slots + ms ≤ R.slots) :
    va_Run p l e R s m args below meth c H locs cells slots mc ms g rest (Qc As.toArray) (free) := by
  obtain ⟨⟨hrc, hrs, hfr, hlo, hws, hcw⟩, hcode, hini, hy, hlen, hl, hstt⟩ := cw
  have hK : Back l R p e below s args y 3 8 (PreOf R mc ms Pc) (PostOf Qc mc ms free) := va_backW (hh := hh) (bytes := bytes) (maxL := maxL) (ret := ret) hM hp.1 hrc hrs hfr hlo hws hcw (fun a' U hW => word_at hW (Or.inl (by first | rfl | simp [Cond.onTables, Cond.keeps, Cond.steady])) hini)
  obtain ⟨hx, hb, hml, ho, -⟩ := S
  intro T hT X
  obtain ⟨v, vm₁, ⟨U', l2, c2, s2⟩, hW₁, X', ⟨g', mk, t, L, e1, e2, hq, h1, hL, h2, h3⟩, st⟩ := vx_callSW X hx (hh := hh) (bytes := bytes) (maxL := maxL) (ret := ret) ho hl hstt hini hcode hy hK hg (hsize.trans hml.symm) (argsL := As) (rest := rest) (fun sig h => hn.trans (hlen sig h)) hstack hW (by rw [hb]; exact hdg)
    (fun vm₁ hW₁ => ⟨hf.1, hf.2, hp.2 (T.setVm vm₁) hT hW₁⟩)
  dsimp only [Pt.U, Pt.locs, Pt.cells, Pt.slots] at X' e1 e2 h1 h2 h3 st
  subst h1; subst h2; subst h3
  exact ⟨v, (T.setVm vm₁).calling g' mk As.toArray, t, U', L, hT, X', hL, e1, e2, hq, st⟩
/-- a thing of a world lies in the heap -/
theorem vx_lt {D : va_G} {cl : List vw_C} {ws : va_W} {H1 : Heap} (h : va_P D cl ws H1) {k : Nat} {q : Nat × va_E} (hk : ws[k]? = some q) : q.1 < H1.size := (h k q hk).lt
end VXS
/-! ===== END ===== -/
/-! ===== BEGIN methods with a table of their own: called by a name, returning or throwing ===== -/
section VXH
/-! vx_backW, vx_callVX, vx_callSX, vx_callVW, vx_runVW, vx_runVX, vx_runSX, vx_ofWH follow the same proofs as their sisters above (Free/Laws.lean, Shelf42/LK1.lean); vx_outP calls Shelf42/NT130.lean (outThrough). -/
section
variable {l : Launch} {R : Room} {p : Program} {e : Env} {below : List Frame} {s : State} {sargs : Array Value} {y : MethodName} {len W9 : Nat}
theorem vx_backW {ws : List Cond} {rm : Room} {Pc : Array Value → State → Prop} {Qc : Array Value → State → Outcome → State → Prop} {XC : String → State → State → Prop} {mc ms : Nat} {free : Addr → Prop} {bytes : ByteArray} {maxL : Nat} {ret : Option FieldType} {hh : List (Nat × Nat × Nat × Nat)}
    (hM : vx_Met l y ws rm Pc Qc XC mc ms free) (hblind : FrameBlind Pc) (hrc : rm.cells = mc) (hrs : rm.slots = ms)
    (hframes : rm.frames + 1 ≤ R.frames) (hlocals : W9 + (maxL + 11) + rm.locals ≤ R.locals)
    (hws : ∀ w ∈ ws, ∀ a' U, s.WarmedH U.vm → w.before a' U = true) (hcode : Cond.codeWith y bytes maxL ret hh ∈ ws) (hinit : ∀ a' U, s.WarmedH U.vm → (Cond.initialized y.cls).before a' U = true) :
    vx_Back l R p e below s sargs y len W9 (PreOf R mc ms Pc) (PostOf Qc mc ms free) (vx_Post XC mc ms free) := by
  intro m meth c A g ig mk a X hg hsize hdg hW hn hp
  have h1 : (headSpec ws rm).pre.before a A.U = true := atoms_intro fun w hw => hws w hw _ _ X.warmed
  have h2 : (Cond.codeWith y bytes maxL ret hh).before a A.U = true := hws _ hcode _ _ X.warmed
  have h3 : (Cond.initialized y.cls).before a A.U = true := hinit _ _ X.warmed
  have h4 : A.cells + (headSpec ws rm).room.cells ≤ R.cells := by rw [show (headSpec ws rm).room.cells = mc from hrc]; exact hp.1
  have h5 : A.slots + (headSpec ws rm).room.slots ≤ R.slots := by rw [show (headSpec ws rm).room.slots = ms from hrs]; exact hp.2.1
  have hPc : Pc a (A.U.calling g mk a) := hblind _ _ _ _ hp.2.2
  obtain ⟨U, Ls, c0, s0⟩ := A
  dsimp only [Pt.U, Pt.locs, Pt.cells, Pt.slots] at h1 h2 h3 h4 h5 X hn hPc ⊢
  obtain ⟨m9, methY, cY, hn9, hmY, hcY, -, hlY, -⟩ := Cond.codeWith_spec h2
  cases Option.some.inj (hn9.symm.trans hn)
  obtain ⟨kY, hkY, -⟩ := className_of_methodNamed hn
  have hinitY : kY.init = .initialized := Cond.initialized_spec (findClass_of_methodNamed hn) hkY h3
  have h : At U g.method c below := by rw [hg]; exact X.here
  have hlocals9 : W9 + (maxL + 11) + (headSpec ws rm).room.locals ≤ R.locals := hlocals
  have happ : (headSpec ws rm).appliesLoose y e.platform (U.calling g mk a) = true :=
    Spec.appliesLoose_calling (g := g) h hdg hn hkY hinitY
      (X.room_calling (g := g) (R' := (headSpec ws rm).room) hsize hmY hcY hframes (by rw [hlY]; omega) h4 h5) h1
  obtain ⟨mid, hmid⟩ := h.above
  have hfr : (U.setTop g).frames = (.java g :: mid) ++ below := by rw [State.frames_setTop' g h.top, hmid]; rfl
  obtain ⟨o, s₂, hsteps, -, hend, hq⟩ := Steps.callFree hM p X.admits X.cas X.clock (acts := []) hfr happ hPc trivial
  have hq' : vx_Q Qc XC mc ms free a (U.calling g mk a) o s₂ := hq
  rw [State.frames_setTop' g h.top] at hend
  obtain ⟨g₀, hg0⟩ := Option.isSome_iff_exists.mp h.top
  obtain ⟨r, hr⟩ := State.topJava?_eq_some.mp hg0
  have hr' : (({ U with heap := s₂.heap, slotsUsed := s₂.slotsUsed } : State).setVm s₂.vm).frames = .java g₀ :: r := hr
  rcases hq' with ⟨hqc, L, hfe, hL⟩ | ⟨q, rfl, E, ce, L, hx, hce, hcv, hcl, hW₂, hsm, hL⟩
  · obtain ⟨⟨v, rfl⟩, hW₂, e2, q2, q3, q4, q5, q6⟩ := id hfe
    have e3 : s₂ = ({ (U.calling g mk a).setFrames s₂.frames with heap := s₂.heap, slotsUsed := s₂.slotsUsed } : State).setVm s₂.vm := by
      have : s₂ = ({ s₂ with vm := (U.calling g mk a).vm } : State).setVm s₂.vm := rfl
      rw [e2] at this
      exact this
    obtain ⟨c₂, i₂, len₂, hc₂, hd₂, hf₂⟩ := hend
    have hW' : U.WarmedH s₂.vm := hW₂
    have hcc : c₂ = c := by
      have h1 : s₂.code? g.method = U.code? g.method := by
        rw [State.code?_eq, State.code?_eq, hW'.alike.method?]
      exact Option.some.inj (hc₂.symm.trans (h1.trans h.code))
    subst hcc
    have hlen : len₂ = len := by rw [hdg] at hd₂; cases hd₂; rfl
    subst hlen
    have hs₂ : s₂ = (({ U with heap := s₂.heap, slotsUsed := s₂.slotsUsed } : State).setVm s₂.vm).setTop { g with pc := g.pc + len₂, stack := v.toList ++ g.stack } := by
      refine e3.trans ?_
      rw [hf₂, State.calling_eq h.top, State.setFrames_setFrames, State.setTop_of_frames _ hr', hr]
      rfl
    have hsame : U.sameButNew ({ U with heap := s₂.heap, slotsUsed := s₂.slotsUsed } : State) L mc ms := by
      refine ⟨?_, q2, q3, q4, q5, q6⟩
      obtain ⟨t, ht, -⟩ := State.frames_cons hr
      show ({ U with heap := s₂.heap, slotsUsed := s₂.slotsUsed } : State) = { U.setFrames U.frames with heap := s₂.heap, slotsUsed := s₂.slotsUsed }
      rw [State.setFrames_self ht]
    subst hg
    refine Or.inl ⟨v, ⟨(({ U with heap := s₂.heap, slotsUsed := s₂.slotsUsed } : State).setVm s₂.vm), Ls ++ L, c0 + mc, s0 + ms⟩,
      ⟨X.admits, X.cas, X.clock, X.frames, X.room, X.hears, X.method, X.code, (X.here.setHeapUsed s₂.heap s₂.slotsUsed).setVm hW'.alike, X.tail, State.WarmedH.trans X.warmed hW', X.limits, X.bytes, X.same.trans (hsame.setVm s.vm)⟩,
      ⟨g, mk, s₂, L, rfl, rfl, hqc, rfl, hL, rfl, rfl⟩, ?_⟩
    show Steps p.tables e below _ ((({ U with heap := s₂.heap, slotsUsed := s₂.slotsUsed } : State).setVm s₂.vm).setTop { g with pc := g.pc + len₂, stack := v.toList ++ g.stack })
    rw [← hs₂]
    exact hsteps
  · obtain ⟨e2, q2, q3, q4, q5, q6⟩ := id hsm
    have e3 : s₂ = ({ (U.calling g mk a).setFrames s₂.frames with heap := s₂.heap, slotsUsed := s₂.slotsUsed } : State).setVm s₂.vm := by
      have : s₂ = ({ s₂ with vm := (U.calling g mk a).vm } : State).setVm s₂.vm := rfl
      rw [e2] at this
      exact this
    have hf₂ : s₂.frames = .throwing q :: .java g :: U.frames.tail := hend
    have hW' : U.WarmedH s₂.vm := hW₂
    have hs₂ : s₂ = ((({ U with heap := s₂.heap, slotsUsed := s₂.slotsUsed } : State).setVm s₂.vm).setTop g).pushFrame (.throwing q) := by
      refine e3.trans ?_
      rw [hf₂, State.calling_eq h.top, State.setFrames_setFrames, State.pushFrame, State.frames_setTop _ hr', State.setTop_of_frames _ hr', State.setFrames_setFrames, hr]
      rfl
    have hsame : U.sameButNew ({ U with heap := s₂.heap, slotsUsed := s₂.slotsUsed } : State) L mc ms := by
      refine ⟨?_, q2, q3, q4, q5, q6⟩
      obtain ⟨t, ht, -⟩ := State.frames_cons hr
      show ({ U with heap := s₂.heap, slotsUsed := s₂.slotsUsed } : State) = { U.setFrames U.frames with heap := s₂.heap, slotsUsed := s₂.slotsUsed }
      rw [State.setFrames_self ht]
    subst hg
    refine Or.inr ⟨q, ⟨(({ U with heap := s₂.heap, slotsUsed := s₂.slotsUsed } : State).setVm s₂.vm), Ls ++ L, c0 + mc, s0 + ms⟩,
      ⟨X.admits, X.cas, X.clock, X.frames, X.room, X.hears, X.method, X.code, (X.here.setHeapUsed s₂.heap s₂.slotsUsed).setVm hW'.alike, X.tail, State.WarmedH.trans X.warmed hW', X.limits, X.bytes, X.same.trans (hsame.setVm s.vm)⟩,
      ⟨g, mk, s₂, L, E, ce, rfl, rfl, hx, hce, hcv, hcl, rfl, hL, rfl, rfl⟩, ?_⟩
    show Steps p.tables e below _ (((({ U with heap := s₂.heap, slotsUsed := s₂.slotsUsed } : State).setVm s₂.vm).setTop g).pushFrame (.throwing q))
    rw [← hs₂]
    exact hsteps
end
variable {p : Program} {l : Launch} {e : Env} {R : Room} {s : State} {m : MethodId} {args : Array Value} {below : List Frame} {meth : Method} {c : Code} {T : State} {H : Heap} {locs : List Loc} {cells slots : Nat}
theorem vx_callVX (X : Stand p l e R s m args below meth c T locs cells slots) (hexec : p.tables.exec = Jvm.exec) {own C : String} {index : Nat} {y : MethodName} {bytes : ByteArray} {maxL : Nat} {ret : Option FieldType} {hh : List (Nat × Nat × Nat × Nat)}
    (hown : s.vm.findClass own = some m.cls) (hlink : (Cond.methodLink own index y).before args s = true) (hinst : (Cond.instanceMethod y).before args s = true) (hsel : (Cond.selects C y y).before args s = true)
    (hcode : (Cond.codeWith y bytes maxL ret hh).before args s = true) (hy : y.cls ≠ "java/lang/invoke/MethodHandle" ∧ y.cls ≠ "java/lang/invoke/VarHandle")
    {W9 : Nat} {Pre : Pt → Array Value → Prop} {Post : Pt → Array Value → Option Value → Pt → Prop} {PostX : Pt → Array Value → Addr → Pt → Prop} (hK : vx_Back l R p e below s args y 3 W9 Pre Post PostX)
    {b : Addr} {cellB : Cell} (hcell : T.heap[b]? = some cellB) (hobj : cellB.vm.isStatics = false) (hcls : s.vm.findClass C = some cellB.cls)
    {g : JFrame} (hg : g.method = m) (hsize : g.locals.size = c.maxLocals) {argsL rest : List Value} (hlen : ∀ sig, parseMethodDescriptor y.desc = some sig → argsL.length = sig.parameters.length)
    (hstack : g.stack = argsL.reverse ++ .ref b :: rest) (hW : 2 * g.monitorRoom + (rest.map fun v => v.category).sum ≤ W9) (hdg : decode c.code g.pc = .ok (.invokevirtual index, 3))
    (hpre : ∀ vm₁, s.WarmedH vm₁ → Pre ⟨T.setVm vm₁, locs, cells, slots⟩ (Value.ref b :: argsL).toArray) :
    (∃ (v : Option Value) (vm₁ : Vm) (B : Pt), s.WarmedH vm₁ ∧ Stand p l e R s m args below meth c B.U B.locs B.cells B.slots ∧ Post ⟨T.setVm vm₁, locs, cells, slots⟩ (Value.ref b :: argsL).toArray v B ∧
      ∀ target, Steps p.tables e below (B.U.setTop { g with pc := g.pc + 3, stack := v.toList ++ rest }) target → Steps p.tables e below (T.setTop g) target) ∨
    (∃ (q : Addr) (vm₁ : Vm) (B : Pt), s.WarmedH vm₁ ∧ Stand p l e R s m args below meth c B.U B.locs B.cells B.slots ∧ PostX ⟨T.setVm vm₁, locs, cells, slots⟩ (Value.ref b :: argsL).toArray q B ∧
      Steps p.tables e below (T.setTop g) ((B.U.setTop { g with stack := rest }).pushFrame (.throwing q))) := by
  obtain ⟨mk, methM, hnamed, hmethM, hstM, habM⟩ := Cond.instanceMethod_spec hinst
  obtain ⟨m8, methM', cM, hn8, hmethM', -, -, -, -, -, -, hsigM⟩ := Cond.codeWith_spec hcode
  cases Option.some.inj (hn8.symm.trans hnamed)
  cases hmethM.symm.trans hmethM'
  obtain ⟨c2, r2, m2, q1, q2, q3, q4, kP, hkP, hkPi⟩ := Cond.selects_spec hsel
  cases hcls.symm.trans q1
  cases (State.methodFound?_of_named hnamed hy).symm.trans q2
  cases hnamed.symm.trans q3
  have hselP : selectMethod e.platform s.vm cellB.cls mk = .method mk := by rw [Launch.admits_selectMethod X.admits]; exact q4
  obtain ⟨vm₁, X₁, hstep₁⟩ := X.invokevirtual hexec hown hlink hnamed hmethM hstM hkP hkPi hy (a := b) (cell := cellB) hcell
    (fun z h => by rw [h] at hobj; cases hobj) hselP hmethM habM hkP hkPi (g := g) hg (argsL := argsL) (rest := rest) (hlen _ hsigM) hstack hdg
  rcases hK m meth c ⟨T.setVm vm₁, locs, cells, slots⟩ { g with stack := rest } (.invokevirtual index) mk (Value.ref b :: argsL).toArray X₁ hg hsize hdg hW (X₁.named hnamed) (hpre vm₁ X₁.warmed) with ⟨v, B, X', hpost, hsteps⟩ | ⟨q, B, X', hpost, hsteps⟩
  · exact Or.inl ⟨v, vm₁, B, X₁.warmed, X', hpost, fun target h => hstep₁ _ fun acts => by rw [doInvoke_state]; exact hsteps.trans h⟩
  · exact Or.inr ⟨q, vm₁, B, X₁.warmed, X', hpost, hstep₁ _ fun acts => by rw [doInvoke_state]; exact hsteps⟩
theorem vx_callSX (X : Stand p l e R s m args below meth c T locs cells slots) (hexec : p.tables.exec = Jvm.exec) {own : String} {index : Nat} {y : MethodName} {bytes : ByteArray} {maxL : Nat} {ret : Option FieldType} {hh : List (Nat × Nat × Nat × Nat)}
    (hown : s.vm.findClass own = some m.cls) (hlink : (Cond.methodLink own index y).before args s = true) (hstat : (Cond.static y).before args s = true) (hinit : (Cond.initialized y.cls).before args s = true)
    (hcode : (Cond.codeWith y bytes maxL ret hh).before args s = true) (hy : y.cls ≠ "java/lang/invoke/MethodHandle" ∧ y.cls ≠ "java/lang/invoke/VarHandle")
    {W9 : Nat} {Pre : Pt → Array Value → Prop} {Post : Pt → Array Value → Option Value → Pt → Prop} {PostX : Pt → Array Value → Addr → Pt → Prop} (hK : vx_Back l R p e below s args y 3 W9 Pre Post PostX)
    {g : JFrame} (hg : g.method = m) (hsize : g.locals.size = c.maxLocals) {argsL rest : List Value} (hlen : ∀ sig, parseMethodDescriptor y.desc = some sig → argsL.length = sig.parameters.length)
    (hstack : g.stack = argsL.reverse ++ rest) (hW : 2 * g.monitorRoom + (rest.map fun v => v.category).sum ≤ W9) (hdg : decode c.code g.pc = .ok (.invokestatic index, 3))
    (hpre : ∀ vm₁, s.WarmedH vm₁ → Pre ⟨T.setVm vm₁, locs, cells, slots⟩ argsL.toArray) :
    (∃ (v : Option Value) (vm₁ : Vm) (B : Pt), s.WarmedH vm₁ ∧ Stand p l e R s m args below meth c B.U B.locs B.cells B.slots ∧ Post ⟨T.setVm vm₁, locs, cells, slots⟩ argsL.toArray v B ∧
      ∀ target, Steps p.tables e below (B.U.setTop { g with pc := g.pc + 3, stack := v.toList ++ rest }) target → Steps p.tables e below (T.setTop g) target) ∨
    (∃ (q : Addr) (vm₁ : Vm) (B : Pt), s.WarmedH vm₁ ∧ Stand p l e R s m args below meth c B.U B.locs B.cells B.slots ∧ PostX ⟨T.setVm vm₁, locs, cells, slots⟩ argsL.toArray q B ∧
      Steps p.tables e below (T.setTop g) ((B.U.setTop { g with stack := rest }).pushFrame (.throwing q))) := by
  obtain ⟨mk, methM, cM, hnamed, hmethM, -, -, -, -, -, -, hsigM⟩ := Cond.codeWith_spec hcode
  have hstatic : methM.isStatic = true := Cond.static_spec hnamed hmethM hstat
  obtain ⟨kP, hkP, -⟩ := className_of_methodNamed hnamed
  have hinitP : kP.init = .initialized := Cond.initialized_spec (findClass_of_methodNamed hnamed) hkP hinit
  obtain ⟨vm₁, X₁, hstep₁⟩ := X.invokestatic hexec hown hlink hnamed hmethM hstatic hkP hinitP hy (g := g) hg (argsL := argsL) (rest := rest) (hlen _ hsigM) hstack hdg
  rcases hK m meth c ⟨T.setVm vm₁, locs, cells, slots⟩ { g with stack := rest } (.invokestatic index) mk argsL.toArray X₁ hg hsize hdg hW (X₁.named hnamed) (hpre vm₁ X₁.warmed) with ⟨v, B, X', hpost, hsteps⟩ | ⟨q, B, X', hpost, hsteps⟩
  · exact Or.inl ⟨v, vm₁, B, X₁.warmed, X', hpost, fun target h => hstep₁ _ fun acts => by rw [doInvoke_state]; exact hsteps.trans h⟩
  · exact Or.inr ⟨q, vm₁, B, X₁.warmed, X', hpost, hstep₁ _ fun acts => by rw [doInvoke_state]; exact hsteps⟩
theorem vx_callVW (X : Stand p l e R s m args below meth c T locs cells slots) (hexec : p.tables.exec = Jvm.exec) {own C : String} {index : Nat} {y : MethodName} {bytes : ByteArray} {maxL : Nat} {ret : Option FieldType} {hh : List (Nat × Nat × Nat × Nat)}
    (hown : s.vm.findClass own = some m.cls) (hlink : (Cond.methodLink own index y).before args s = true) (hinst : (Cond.instanceMethod y).before args s = true) (hsel : (Cond.selects C y y).before args s = true)
    (hcode : (Cond.codeWith y bytes maxL ret hh).before args s = true) (hy : y.cls ≠ "java/lang/invoke/MethodHandle" ∧ y.cls ≠ "java/lang/invoke/VarHandle")
    {W9 : Nat} {Pre : Pt → Array Value → Prop} {Post : Pt → Array Value → Option Value → Pt → Prop} (hK : Back l R p e below s args y 3 W9 Pre Post)
    {b : Addr} {cellB : Cell} (hcell : T.heap[b]? = some cellB) (hobj : cellB.vm.isStatics = false) (hcls : s.vm.findClass C = some cellB.cls)
    {g : JFrame} (hg : g.method = m) (hsize : g.locals.size = c.maxLocals) {argsL rest : List Value} (hlen : ∀ sig, parseMethodDescriptor y.desc = some sig → argsL.length = sig.parameters.length)
    (hstack : g.stack = argsL.reverse ++ .ref b :: rest) (hW : 2 * g.monitorRoom + (rest.map fun v => v.category).sum ≤ W9) (hdg : decode c.code g.pc = .ok (.invokevirtual index, 3))
    (hpre : ∀ vm₁, s.WarmedH vm₁ → Pre ⟨T.setVm vm₁, locs, cells, slots⟩ (Value.ref b :: argsL).toArray) :
    ∃ (v : Option Value) (vm₁ : Vm) (B : Pt), s.WarmedH vm₁ ∧ Stand p l e R s m args below meth c B.U B.locs B.cells B.slots ∧ Post ⟨T.setVm vm₁, locs, cells, slots⟩ (Value.ref b :: argsL).toArray v B ∧
      ∀ target, Steps p.tables e below (B.U.setTop { g with pc := g.pc + 3, stack := v.toList ++ rest }) target → Steps p.tables e below (T.setTop g) target := by
  obtain ⟨mk, methM, hnamed, hmethM, hstM, habM⟩ := Cond.instanceMethod_spec hinst
  obtain ⟨m8, methM', cM, hn8, hmethM', -, -, -, -, -, -, hsigM⟩ := Cond.codeWith_spec hcode
  cases Option.some.inj (hn8.symm.trans hnamed)
  cases hmethM.symm.trans hmethM'
  obtain ⟨c2, r2, m2, q1, q2, q3, q4, kP, hkP, hkPi⟩ := Cond.selects_spec hsel
  cases hcls.symm.trans q1
  cases (State.methodFound?_of_named hnamed hy).symm.trans q2
  cases hnamed.symm.trans q3
  have hselP : selectMethod e.platform s.vm cellB.cls mk = .method mk := by rw [Launch.admits_selectMethod X.admits]; exact q4
  obtain ⟨vm₁, X₁, hstep₁⟩ := X.invokevirtual hexec hown hlink hnamed hmethM hstM hkP hkPi hy (a := b) (cell := cellB) hcell
    (fun z h => by rw [h] at hobj; cases hobj) hselP hmethM habM hkP hkPi (g := g) hg (argsL := argsL) (rest := rest) (hlen _ hsigM) hstack hdg
  obtain ⟨v, B, X', hpost, hsteps⟩ := hK m meth c ⟨T.setVm vm₁, locs, cells, slots⟩ { g with stack := rest } (.invokevirtual index) mk (Value.ref b :: argsL).toArray X₁ hg hsize hdg hW (X₁.named hnamed) (hpre vm₁ X₁.warmed)
  exact ⟨v, vm₁, B, X₁.warmed, X', hpost, fun target h => hstep₁ _ fun acts => by rw [doInvoke_state]; exact hsteps.trans h⟩
abbrev vx_CVW (R : Room) (s : State) (args : Array Value) (own C : String) (index : Nat) (y : MethodName) (bytes : ByteArray) (maxL : Nat) (ret : Option FieldType) (hh : List (Nat × Nat × Nat × Nat)) (ws : List Cond) (rm : Room) (mc ms n : Nat) : Prop :=
  (rm.cells = mc ∧ rm.slots = ms ∧ rm.frames + 1 ≤ R.frames ∧ 8 + (maxL + 11) + rm.locals ≤ R.locals ∧ (∀ w ∈ ws, ∀ (a' : Array Value) (U : State), s.WarmedH U.vm → w.before a' U = true) ∧ Cond.codeWith y bytes maxL ret hh ∈ ws) ∧
  (Cond.codeWith y bytes maxL ret hh).before args s = true ∧ (Cond.initialized y.cls).before args s = true ∧ (y.cls ≠ "java/lang/invoke/MethodHandle" ∧ y.cls ≠ "java/lang/invoke/VarHandle") ∧
  (∀ sig, parseMethodDescriptor y.desc = some sig → n = sig.parameters.length) ∧ (Cond.methodLink own index y).before args s = true ∧ (Cond.instanceMethod y).before args s = true ∧ (Cond.selects C y y).before args s = true
theorem vx_cwVW {own C : String} {index maxL mc ms : Nat} {y : MethodName} {bytes : ByteArray} {ret : Option FieldType} {hh : List (Nat × Nat × Nat × Nat)} {Ts ws ws' : List Cond} {rm : Room} (n : Nat) (ht : ∀ w ∈ Ts, w.before args s = true) (hT : GoodIn Ts (wsV own index C y ws)) (hw : ws = Cond.codeWith y bytes maxL ret hh :: ws') (hrc : rm.cells = mc) (hrs : rm.slots = ms)
    (hd : y.cls = C ∧ y.cls ≠ "java/lang/invoke/MethodHandle" ∧ y.cls ≠ "java/lang/invoke/VarHandle" ∧ (parseMethodDescriptor y.desc).map (fun d => d.parameters.length) = some n) (hR : rm.frames + 1 ≤ R.frames ∧ 8 + (maxL + 11) + rm.locals ≤ R.locals) :
    vx_CVW R s args own C index y bytes maxL ret hh ws rm mc ms n := by
  obtain ⟨hC, hd⟩ := hd
  subst hC
  have ok : ∀ w ∈ wsV own index y.cls y ws, w.before args s = true := fun w h => ht w (hT w h).1
  have hG : GoodIn Ts ws := fun w h => hT w (by unfold wsV; exact List.mem_append_right _ h)
  have hc : Cond.codeWith y bytes maxL ret hh ∈ ws := by rw [hw]; exact List.mem_cons_self
  refine ⟨⟨hrc, hrs, hR.1, hR.2, pay_in ht hG, hc⟩, ht _ (hG _ hc).1, ok _ (by simp [wsV]), ⟨hd.1, hd.2.1⟩, fun sig h => ?_, ok _ (by simp [wsV]), ok _ (by simp [wsV]), ok _ (by simp [wsV])⟩
  have h2 := hd.2.2
  rw [h] at h2
  exact (Option.some.inj h2).symm
theorem vx_runVW {y : MethodName} {bytes cc : ByteArray} {maxL nL mc ms n index : Nat} {ret : Option FieldType} {hh : List (Nat × Nat × Nat × Nat)} {ws : List Cond} {rm : Room} {Pc : Array Value → State → Prop} {Qc : Array Value → State → Outcome → State → Prop} {free : Addr → Prop} {Ts : List Cond} {own C : String} {b : Addr} {As rest : List Value} {g : JFrame}
    (S : CallFix p m c cc nL s args Ts own) (hM : Met l y ws rm Pc Qc mc ms free) (cw : vx_CVW R s args own C index y bytes maxL ret hh ws rm mc ms n) (hp : PreV s H C b Pc As)
    (hg : g.method = m) (hn : As.length = n) (hsize : g.locals.size = nL) (hstack : g.stack = As.reverse ++ .ref b :: rest) (hW : 2 * g.monitorRoom + (rest.map fun v => v.category).sum ≤ 8) (hdg : decode cc g.pc = .ok (.invokevirtual index, 3)) (hf : cells + mc ≤ R.cells ∧ slots + ms ≤ R.slots) :
    va_Run p l e R s m args below meth c H locs cells slots mc ms g rest (Qc (Value.ref b :: As).toArray) free := by
  obtain ⟨⟨hrc, hrs, hfr, hlo, hws, hcw⟩, hcode, hini, hy, hlen, hl, hin, hse⟩ := cw
  have hK : Back l R p e below s args y 3 8 (PreOf R mc ms Pc) (PostOf Qc mc ms free) := va_backW (hh := hh) (bytes := bytes) (maxL := maxL) (ret := ret) hM hp.1 hrc hrs hfr hlo hws hcw (fun a' U hW => word_at hW (Or.inl (by first | rfl | simp [Cond.onTables, Cond.keeps, Cond.steady])) hini)
  obtain ⟨hx, hb, hml, ho, -⟩ := S
  obtain ⟨-, ⟨cellB, hcB, hoB, hclB⟩, hPc⟩ := hp
  intro T hT X
  obtain ⟨v, vm₁, ⟨U', l2, c2, s2⟩, hW₁, X', ⟨g', mk, t, L, e1, e2, hq, h1, hL, h2, h3⟩, st⟩ := vx_callVW X hx (C := C) (hh := hh) (bytes := bytes) (maxL := maxL) (ret := ret) ho hl hin hse hcode hy hK (by rw [hT]; exact hcB) hoB hclB hg (hsize.trans hml.symm) (argsL := As) (rest := rest) (fun sig h => hn.trans (hlen sig h)) hstack hW (by rw [hb]; exact hdg)
    (fun vm₁ hW₁ => ⟨hf.1, hf.2, hPc (T.setVm vm₁) hT hW₁⟩)
  dsimp only [Pt.U, Pt.locs, Pt.cells, Pt.slots] at X' e1 e2 h1 h2 h3 st
  subst h1; subst h2; subst h3
  exact ⟨v, (T.setVm vm₁).calling g' mk (Value.ref b :: As).toArray, t, U', L, hT, X', hL, e1, e2, hq, st⟩
section
variable {y : MethodName} {bytes cc : ByteArray} {maxL nL mc ms n index : Nat} {ret : Option FieldType} {ws : List Cond} {rm : Room} {Pc : Array Value → State → Prop} {Qc : Array Value → State → Outcome → State → Prop} {XC : String → State → State → Prop} {free : Addr → Prop} {Ts : List Cond} {own C : String} {b : Addr} {As rest : List Value} {g : JFrame}
theorem vx_runVX {hh : List (Nat × Nat × Nat × Nat)} (S : CallFix p m c cc nL s args Ts own) (hM : vx_Met l y ws rm Pc Qc XC mc ms free) (cw : vx_CVW R s args own C index y bytes maxL ret hh ws rm mc ms n) (hp : PreV s H C b Pc As)
    (hg : g.method = m) (hn : As.length = n) (hsize : g.locals.size = nL) (hstack : g.stack = As.reverse ++ .ref b :: rest) (hW : 2 * g.monitorRoom + (rest.map fun v => v.category).sum ≤ 8) (hdg : decode cc g.pc = .ok (.invokevirtual index, 3)) (hf : cells + mc ≤ R.cells ∧ slots + ms ≤ R.slots) :
    vx_Run p l e R s m args below meth c H locs cells slots mc ms g rest (Qc (Value.ref b :: As).toArray) XC free := by
  obtain ⟨⟨hrc, hrs, hfr, hlo, hws, hcw⟩, hcode, hini, hy, hlen, hl, hin, hse⟩ := cw
  have hK : vx_Back l R p e below s args y 3 8 (PreOf R mc ms Pc) (PostOf Qc mc ms free) (vx_Post XC mc ms free) := vx_backW (hh := hh) (bytes := bytes) (maxL := maxL) (ret := ret) hM hp.1 hrc hrs hfr hlo hws hcw (fun a' U hW => word_at hW (Or.inl (by first | rfl | simp [Cond.onTables, Cond.keeps, Cond.steady])) hini)
  obtain ⟨hx, hb, hml, ho, -⟩ := S
  obtain ⟨-, ⟨cellB, hcB, hoB, hclB⟩, hPc⟩ := hp
  intro T hT X
  rcases vx_callVX X hx (C := C) (hh := hh) (bytes := bytes) (maxL := maxL) (ret := ret) ho hl hin hse hcode hy hK (by rw [hT]; exact hcB) hoB hclB hg (hsize.trans hml.symm) (argsL := As) (rest := rest) (fun sig h => hn.trans (hlen sig h)) hstack hW (by rw [hb]; exact hdg)
    (fun vm₁ hW₁ => ⟨hf.1, hf.2, hPc (T.setVm vm₁) hT hW₁⟩) with ⟨v, vm₁, ⟨U', l2, c2, s2⟩, hW₁, X', ⟨g', mk, t, L, e1, e2, hq, h1, hL, h2, h3⟩, st⟩ | ⟨q, vm₁, ⟨U', l2, c2, s2⟩, hW₁, X', ⟨g', mk, t, L, E, ce, e1, e2, hq, hce, hcv, hcl, h1, hL, h2, h3⟩, st⟩
  · dsimp only [Pt.U, Pt.locs, Pt.cells, Pt.slots] at X' e1 e2 h1 h2 h3 st
    subst h1; subst h2; subst h3
    exact Or.inl ⟨v, (T.setVm vm₁).calling g' mk (Value.ref b :: As).toArray, t, U', L, hT, X', hL, e1, e2, hq, st⟩
  · dsimp only [Pt.U, Pt.locs, Pt.cells, Pt.slots] at X' e1 e2 h1 h2 h3 st hcl
    subst h1; subst h2; subst h3
    exact Or.inr ⟨q, (T.setVm vm₁).calling g' mk (Value.ref b :: As).toArray, t, U', L, E, ce, hT, X', hL, e1, e2, hq, hce, hcv, vx_cls hW₁ hcl, st⟩
theorem vx_runSX {hh : List (Nat × Nat × Nat × Nat)} (S : CallFix p m c cc nL s args Ts own) (hM : vx_Met l y ws rm Pc Qc XC mc ms free) (cw : vx_CSW R s args own index y bytes maxL ret hh ws rm mc ms n) (hp : PreS s H Pc As)
    (hg : g.method = m) (hn : As.length = n) (hsize : g.locals.size = nL) (hstack : g.stack = As.reverse ++ rest) (hW : 2 * g.monitorRoom + (rest.map fun v => v.category).sum ≤ 8) (hdg : decode cc g.pc = .ok (.invokestatic index, 3)) (hf : cells + mc ≤ R.cells ∧ slots + ms ≤ R.slots) :
    vx_Run p l e R s m args below meth c H locs cells slots mc ms g rest (Qc As.toArray) XC free := by
  obtain ⟨⟨hrc, hrs, hfr, hlo, hws, hcw⟩, hcode, hini, hy, hlen, hl, hstt⟩ := cw
  have hK : vx_Back l R p e below s args y 3 8 (PreOf R mc ms Pc) (PostOf Qc mc ms free) (vx_Post XC mc ms free) := vx_backW (hh := hh) (bytes := bytes) (maxL := maxL) (ret := ret) hM hp.1 hrc hrs hfr hlo hws hcw (fun a' U hW => word_at hW (Or.inl (by first | rfl | simp [Cond.onTables, Cond.keeps, Cond.steady])) hini)
  obtain ⟨hx, hb, hml, ho, -⟩ := S
  intro T hT X
  rcases vx_callSX X hx (hh := hh) (bytes := bytes) (maxL := maxL) (ret := ret) ho hl hstt hini hcode hy hK hg (hsize.trans hml.symm) (argsL := As) (rest := rest) (fun sig h => hn.trans (hlen sig h)) hstack hW (by rw [hb]; exact hdg)
    (fun vm₁ hW₁ => ⟨hf.1, hf.2, hp.2 (T.setVm vm₁) hT hW₁⟩) with ⟨v, vm₁, ⟨U', l2, c2, s2⟩, hW₁, X', ⟨g', mk, t, L, e1, e2, hq, h1, hL, h2, h3⟩, st⟩ | ⟨q, vm₁, ⟨U', l2, c2, s2⟩, hW₁, X', ⟨g', mk, t, L, E, ce, e1, e2, hq, hce, hcv, hcl, h1, hL, h2, h3⟩, st⟩
  · dsimp only [Pt.U, Pt.locs, Pt.cells, Pt.slots] at X' e1 e2 h1 h2 h3 st
    subst h1; subst h2; subst h3
    exact Or.inl ⟨v, (T.setVm vm₁).calling g' mk As.toArray, t, U', L, hT, X', hL, e1, e2, hq, st⟩
  · dsimp only [Pt.U, Pt.locs, Pt.cells, Pt.slots] at X' e1 e2 h1 h2 h3 st hcl
    subst h1; subst h2; subst h3
    exact Or.inr ⟨q, (T.setVm vm₁).calling g' mk As.toArray, t, U', L, E, ce, hT, X', hL, e1, e2, hq, hce, hcv, vx_cls hW₁ hcl, st⟩
end
end VXH
theorem vx_ofWH {l : Launch} {y : MethodName} {ws ws' : List Cond} {rm : Room} {Pc : Array Value → State → Prop} {Qc : Array Value → State → Outcome → State → Prop} {XC : String → State → State → Prop} {mc ms : Nat} {free : Addr → Prop} {cc : ByteArray} {maxL : Nat} {ret : Option FieldType} {hh : List (Nat × Nat × Nat × Nat)}
    (hy : plainName y.cls = true) (hw : ws = Cond.codeWith y cc maxL ret hh :: ws')
    (body : ∀ p e s m args below meth c s₁, BodyLoose p l y (headSpec ws rm) cc maxL ret e s m args below meth c s₁ → c.maxLocals = maxL → Pc args s →
      W p l e (headSpec ws rm).room s m args below meth c s.heap [] 0 0 (vx_MQ below Qc XC args s mc ms free) (entryFrame m args maxL)) : vx_Met l y ws rm Pc Qc XC mc ms free := by
  refine MetFree.of_bodyS (code := cc) (maxLocals := maxL) (ret := ret) hy ?_ ?_
  · intro args s m h hn
    obtain ⟨m9, meth, c, hn9, h1, h2, h3, h4, -, h5, h6, -⟩ := Cond.codeWith_spec (atoms_spec (ws := ws) h _ (by rw [hw]; exact List.mem_cons_self))
    cases hn.symm.trans hn9
    exact ⟨meth, c, h1, h2, h3, h4, h5, h6⟩
  · intro p e s m args below meth c s₁ B hml hP _
    have hh0 : s₁.heap = s.heap := by rw [B.state]; rfl
    obtain ⟨t, a1, o, b1, b2, b3⟩ := body p e s m args below meth c s₁ B hml hP s₁ hh0 (Stand.of_body B)
    exact ⟨t, o, a1, b1, b2, b3⟩
/-! ===== END ===== -/
section STP
variable {p : Program} {l : Launch} {e : Env} {R : Room} {s : State} {m₀ : MethodId} {args : Array Value} {below : List Frame} {meth : Method} {c : Code} {W : State} {locs : List Loc} {cells slots : Nat}
set_option maxHeartbeats 1000000 in
/-- 'new E()' that isn't thrown: the constructor's run (it follows the library's proof of a throw, without the throw) -/
theorem sx_ctor (X : Stand p l e R s m₀ args below meth c W locs cells slots) (hexec : p.tables.exec = Jvm.exec) (htr : e.platform.stackTraces = false) {own cls : String} {names : List String} {ic : Nat}
    (hown : s.vm.findClass own = some m₀.cls) (hcls : Bundle.fit cls = true) (hnames : ∀ n ∈ names, Bundle.fit n = true)
    (h : ∀ a ∈ Bundle.ownAtoms0 own ic cls names, a.before args s = true)
    (hlocs : ∀ x ∈ locs, ∀ cell, s.heap[x.base]? = some cell → cell.vm.isStatics = false)
    {a : Addr} {cX : ClassId} {kX : Class} (hfoundX : s.vm.findClass cls = some cX) (hkX : s.vm.classes[cX]? = some kX) (hcell : W.heap[a]? = some (freshCell cX kX)) (hnew : s.heap.size ≤ a)
    {g : JFrame} (hg : g.method = m₀) (hsize : g.locals.size = c.maxLocals) {rest : List Value} (hstack : g.stack = .ref a :: .ref a :: rest)
    (hd6 : decode c.code g.pc = .ok (.invokespecial ic, 3))
    (hRframes : names.length + 3 < R.frames) (hRlocals : 2 * g.monitorRoom + ((Value.ref a :: rest).map fun v => v.category).sum + (13 * (names.length + 1) + 41) ≤ R.locals) :
    ∃ (vm' : Vm) (ce : Cell) (L : List Loc), (∀ x ∈ L, x.base = a) ∧ ce.vm = .none ∧ ce.cls = cX ∧ Stand p l e R s m₀ args below meth c ((W.setVm vm').setCell a ce) (locs ++ L) cells slots ∧
      ∀ target, Steps p.tables e below (((W.setVm vm').setCell a ce).setTop { g with pc := g.pc + 3, stack := .ref a :: rest }) target → Steps p.tables e below (W.setTop g) target := by
  have howns : e.platform.frameOwnsMonitors = true := by rw [X.admits.platform]
  have hfin : e.platform.finalization = false := by rw [X.admits.platform]
  have hpl : e.platform.magicAccessors = ({} : Platform).magicAccessors := by rw [X.admits.platform]
  have a' : ∀ x, x ∈ Bundle.ownAtoms0 own ic cls names → x.holds args s none s [] = true := fun x hx => h x hx
  obtain ⟨T, Z, L, LZ, Y⟩ := ThrowableC.of_atoms (args := args) howns hfin hpl (fun x hx => h x (by simp [Bundle.ownAtoms0, hx]))
  obtain ⟨P1, Ps, hlen, L1, hL, hP1m, hlink1, hlink⟩ := Bundle.chain0 (args := args) hpl Y.init0 names cls hcls hnames (fun x hx => h x (by simp [Bundle.ownAtoms0, hx]))
  have hfound : s.vm.findClass cls = some P1.m.cls := findClass_of_methodNamed hP1m
  cases Option.some.inj (hfoundX.symm.trans hfound)
  obtain ⟨c1, kX', hc1, hk, hord, -, -, hn6⟩ := Cond.instantiable_spec (a' (.instantiable cls 6) (by simp [Bundle.ownAtoms0]))
  cases Option.some.inj (hc1.symm.trans hfound)
  cases Option.some.inj (hkX.symm.trans hk)
  have hsel0 : selectMethod e.platform s.vm P1.m.cls T.fill0 = .method T.fill0 := by
    obtain ⟨c2, r2, m2, q1, q2, q3, q4, -⟩ := Cond.selects_spec (a' (.selects cls Bundle.tFill0 Bundle.tFill0) (by simp [Bundle.ownAtoms0]))
    cases Option.some.inj (q1.symm.trans hfound)
    cases Option.some.inj (q2.symm.trans (State.methodFound?_of_named Y.fill0 (by decide)))
    cases Option.some.inj (q3.symm.trans Y.fill0)
    rw [Launch.admits_selectMethod X.admits]; exact q4
  have hselF : selectMethod e.platform s.vm P1.m.cls T.fill = .method T.fill := by
    obtain ⟨c2, r2, m2, q1, q2, q3, q4, -⟩ := Cond.selects_spec (a' (.selects cls Bundle.tFill Bundle.tFill) (by simp [Bundle.ownAtoms0]))
    cases Option.some.inj (q1.symm.trans hfound)
    cases Option.some.inj (q2.symm.trans (State.methodFound?_of_named Y.fill (by decide)))
    cases Option.some.inj (q3.symm.trans Y.fill)
    rw [Launch.admits_selectMethod X.admits]; exact q4
  obtain ⟨cellS0, hcS0, hiss⟩ := Y.statics
  obtain ⟨u0, hu0⟩ := Cond.staticRefV Y.unassigned L.unassignedStatic L.statics hcS0 hiss (a' (.isRef (.static Bundle.tN "UNASSIGNED_STACK" Bundle.steD)) (by simp [Bundle.ownAtoms0]))
  obtain ⟨sen, hsen⟩ := Cond.staticRefV Y.sentinel L.sentinelStatic L.statics hcS0 hiss (a' (.isRef (.static Bundle.tN "SUPPRESSED_SENTINEL" Bundle.listD)) (by simp [Bundle.ownAtoms0]))
  obtain ⟨ci198, i198, fB, hk198, hg198, ha198, hsB, -, hnB, htB, hffB⟩ := Cond.ownField (t := .object "java/lang/Object") Y.found L.cls (by decide +kernel) (a' (.fieldLink Bundle.tN 198 Bundle.tN "backtrace" "Ljava/lang/Object;") (by simp [Bundle.ownAtoms0])) (a' (.lays Bundle.tN Bundle.tN "backtrace" "Ljava/lang/Object;") (by simp [Bundle.ownAtoms0])) e.platform hpl
  obtain ⟨cellS, hcS', heS, -, hkeep⟩ := X.same.2.2.2.2.2 T.aS cellS0 hcS0
  have hcellS : W.heap[T.aS]? = some cellS := hcS'
  have hout' : ∀ i, (⟨T.aS, i⟩ : Loc) ∉ locs := fun i hmem => by
    have := hlocs _ hmem cellS0 hcS0
    rw [hiss] at this; cases this
  have hknownS : cellS.vm ≠ .unknown := by
    rw [heS]; intro hu
    rw [show cellS0.vm = .unknown from hu] at hiss
    cases hiss
  have hneS : T.aS ≠ a := Nat.ne_of_lt (Nat.lt_of_lt_of_le (Array.getElem?_eq_some_iff.mp hcS0).1 hnew)
  obtain ⟨tyC, dC, hdC, hdnC⟩ := Cond.laysAt hfound hk Y.cause (a' (.lays cls Bundle.tN "cause" "Ljava/lang/Throwable;") (by simp [Bundle.ownAtoms0]))
  obtain ⟨tyS, dS, hdS, hdnS⟩ := Cond.laysAt hfound hk Y.stack (a' (.lays cls Bundle.tN "stackTrace" Bundle.steD) (by simp [Bundle.ownAtoms0]))
  obtain ⟨tyP, dP, hdP, hdnP⟩ := Cond.laysAt hfound hk Y.supp (a' (.lays cls Bundle.tN "suppressedExceptions" Bundle.listD) (by simp [Bundle.ownAtoms0]))
  obtain ⟨tyB, dB, hdB, hdnB⟩ := Cond.laysAt hfound hk hffB (a' (.lays cls Bundle.tN "backtrace" "Ljava/lang/Object;") (by simp [Bundle.ownAtoms0]))
  have bC := Cond.laysApart hdB hdC hdnB hdnC (by rw [hnB, Y.causeName]; decide)
  have bS := Cond.laysApart hdB hdS hdnB hdnS (by rw [hnB, Y.stackName]; decide)
  have bP := Cond.laysApart hdB hdP hdnB hdnP (by rw [hnB, Y.suppName]; decide)
  have hskip : SkipFacts T e.platform s (fun u => u) u0 ((preparedCellV T.toThrowableT (freshCell P1.m.cls kX) a u0 sen).withEntry W.cur) :=
    ⟨{ ci198 := ci198, i198 := i198, fBack := fB }, ⟨hk198, hg198, ha198, hsB⟩, by
      have := fresh_default (c := P1.m.cls) tyB
      rw [htB] at this
      simpa [preparedCellV, Cell.setSlot, Cell.withEntry, Array.getElem?_setIfInBounds, bC, bS, bP, bC.symm, bS.symm, bP.symm, defaultValue] using this, fun _ _ => rfl⟩
  obtain ⟨tm, methC, cdC, kC, vm₁, hnC, -, -, -, -, -, -, -, hW₁, st1⟩ := Steps.initCold (tb := p.tables) (e := e) (below := below) (s := s) (U := W) X.here hexec X.warmed hpl hown (t := Bundle.init0 cls) rfl rfl (Bundle.fit_spec hcls).2
    (a' (.methodLink own ic (Bundle.init0 cls)) (by simp [Bundle.ownAtoms0])) (h (.instanceMethod (Bundle.init0 cls)) (by cases names <;> simp [Bundle.ownAtoms0, Bundle.chain0Atoms, Bundle.passAtoms])) (bytes := Bundle.five) (maxL := 1) (h (.code (Bundle.init0 cls) Bundle.five 1 none) (by cases names <;> simp [Bundle.ownAtoms0, Bundle.chain0Atoms, Bundle.passAtoms]))
    (f := g) hg (a := a) (rest := .ref a :: rest) hstack hd6
  cases Option.some.inj (hnC.symm.trans hP1m)
  have X₁ := X.noted hW₁
  obtain ⟨vm₂, X₂, st2⟩ := X₁.ctorPlainOffV hexec (g := { g with stack := .ref a :: rest }) hg hsize T L Z LZ (P1 :: Ps)
    (fun P hP => by rcases List.mem_cons.mp hP with rfl | hP; exact L1; exact hL P hP) ⟨hlink1, hlink⟩ (u0 := u0) (sen := sen) (self := a) (cell := freshCell P1.m.cls kX) (cellS := cellS)
    hcell (fun _ => by simp) (by simp) rfl rfl hsel0 hselF hcellS hneS hknownS (by rw [hkeep _ (hout' _)]; exact hu0) (by rw [hkeep _ (hout' _)]; exact hsen)
    (Takes.of_laid hk hord tyC (by rw [Y.causeType]; rfl)) (Takes.of_laid hk hord tyS (by rw [Y.stackType]; exact fits_refV_array _ u0)) (Takes.of_laid hk hord tyP (by rw [Y.suppType]; exact fits_refV_object _ sen)) Y.objLocals hskip htr [] hd6
    (by simp only [List.length_cons, hlen]; omega) (by simp only [List.length_cons, hlen]; exact hRlocals)
  refine ⟨vm₂, _, _, ?_, ?_, ?_, X₂, fun target hst => st1 _ (fun acts => ?_)⟩
  · intro x hx
    simp only [List.mem_cons, List.not_mem_nil, or_false] at hx
    rcases hx with rfl | rfl | rfl | rfl <;> rfl
  · rfl
  · rfl
  · rw [doInvoke_state]
    exact st2 _ hst
end STP
section STW
variable {p : Program} {l : Launch} {e : Env} {R : Room} {s : State} {m : MethodId} {args : Array Value} {below : List Frame} {meth : Method} {c : Code} {H : Heap} {locs : List Loc} {cells slots : Nat} {Q : State → Prop} {pc : Nat} {ls : Array Slot} {rest : List Value}
/-- a throw of a thing that is there -/
theorem sx_athrow {cc : ByteArray} {q : Addr} (hexec : p.tables.exec = Jvm.exec) (hb : c.code = cc) (hdg : decode cc pc = .ok (.athrow, 1)) (kx : vx_W p l e R s m args below meth c H locs cells slots Q (F0 m pc ls rest) q) : W p l e R s m args below meth c H locs cells slots Q (F0 m pc ls (.ref q :: rest)) := by
  intro T hT X
  obtain ⟨t, a1, b1⟩ := kx T hT X
  refine ⟨t, ?_, b1⟩
  subst hb
  jvm_step X.here [X.here.top, hexec, hdg, athrow.wp_sem]
  exact a1
set_option maxHeartbeats 1000000 in
/-- 'new E()' whose thing is kept: new; dup; invokespecial -/
theorem sx_new {cc : ByteArray} (hexec : p.tables.exec = Jvm.exec) (hb : c.code = cc) (hl : l.stackTraces = false) {own cls : String} {names : List String} {ik ic : Nat} {A : Nat → Prop}
    (hown : s.vm.findClass own = some m.cls) (hcls : Bundle.fit cls = true) (hnames : ∀ n ∈ names, Bundle.fit n = true)
    (hk : (Cond.classLink own ik cls).before args s = true) (hini : (Cond.initialized cls).before args s = true) (h : ∀ w ∈ Bundle.ownAtoms0 own ic cls names, w.before args s = true)
    (hlocs : ∀ q : Nat, A q → ∀ cell, s.heap[q]? = some cell → cell.vm.isStatics = false)
    {D : va_G} {cl : List vw_C} {tys : List (ClassId × FieldType)} {ws : va_W} {ci : Nat} {T0 : u_T} (hK : va_K D cl tys s) (hP : va_P D cl ws H) (hD : va_D A ws) (hS : va_S A s.heap H locs) (hA : ∀ q, s.heap.size ≤ q → A q) (hc : cl[ci]? = some (cls, T0, 0)) (hsize : ls.size = c.maxLocals)
    (d0 : decode cc pc = .ok (.new ik, 3)) (d3 : decode cc (pc + 3) = .ok (.dup, 1)) (d4 : decode cc (pc + 4) = .ok (.invokespecial ic, 3))
    (hRframes : names.length + 3 < R.frames) (hRlocals : (rest.map fun v => v.category).sum + (13 * (names.length + 1) + 42) ≤ R.locals) (hRcells : cells + 1 ≤ R.cells) (hRslots : slots + 6 ≤ R.slots)
    (kk : ∀ (q : Nat) (H1 : Heap) (locs1 : List Loc), va_P D cl (ws ++ [(q, .inr (ci, []))]) H1 → va_D A (ws ++ [(q, .inr (ci, []))]) → va_S A s.heap H1 locs1 → W p l e R s m args below meth c H1 locs1 (cells + 1) (slots + 6) Q (F0 m (pc + 7) ls (.ref q :: rest))) :
    W p l e R s m args below meth c H locs cells slots Q (F0 m pc ls rest) := by
  intro T hT X
  have htr : e.platform.stackTraces = false := (show e.platform.stackTraces = l.stackTraces by rw [X.admits.platform]).trans hl
  have hins : (Cond.instantiable cls 6).before args s = true := h _ (by simp [Bundle.ownAtoms0])
  obtain ⟨vm₁, cX, kX, hfX, hkX, -, -, X₁, st1⟩ := X.newCold hexec (own := own) (C := cls) (index := ik) (n := 6) hown hk hins hini
    (g := F0 m pc ls rest) rfl (by rw [hb]; exact d0) hRcells hRslots
  have hpush : ∀ q : Nat, q < T.heap.size → ((T.setVm vm₁).pushCell { cls := cX, slots := kX.instanceTypes.map defaultValue, vm := .none }).heap[q]? = T.heap[q]? := fun q hq => by
    show (T.heap.push _)[q]? = T.heap[q]?
    rw [Array.getElem?_push_lt hq, Array.getElem?_eq_getElem hq]
  have hsz1 : ((T.setVm vm₁).pushCell { cls := cX, slots := kX.instanceTypes.map defaultValue, vm := .none }).heap.size = T.heap.size + 1 := Array.size_push _
  have hcellA : ((T.setVm vm₁).pushCell { cls := cX, slots := kX.instanceTypes.map defaultValue, vm := .none }).heap[T.heap.size]? = some (freshCell cX kX) := State.heap_pushCell_size _ _
  generalize hT1 : (T.setVm vm₁).pushCell { cls := cX, slots := kX.instanceTypes.map defaultValue, vm := .none } = T1 at X₁ st1 hpush hsz1 hcellA
  have hcat : (Value.ref T.heap.size).category = 1 := rfl
  have d3' : decode c.code (pc + 3) = .ok (.dup, 1) := by rw [hb]; exact d3
  obtain ⟨vm', ce, L, hLb, hcv, hcc, X2, st2⟩ := sx_ctor X₁ hexec htr (own := own) (cls := cls) (names := names) (ic := ic) hown hcls hnames h (fun x hx => hlocs _ (hS.2.2 x hx)) hfX hkX hcellA (by rw [hT]; exact hS.1)
    (g := { method := m, pc := pc + 4, locals := ls, stack := .ref T.heap.size :: .ref T.heap.size :: rest, locked := none }) rfl hsize (rest := rest) rfl
    (by rw [hb]; exact d4) hRframes (by simp only [List.map_cons, List.sum_cons, hcat]; omega)
  have hlt : T.heap.size < (T1.setVm vm').heap.size := by show T.heap.size < T1.heap.size; omega
  have hself : ((T1.setVm vm').setCell T.heap.size ce).heap[T.heap.size]? = some ce := heapAt_setCell_self ce hlt
  have hoth : ∀ q : Nat, q < T.heap.size → ((T1.setVm vm').setCell T.heap.size ce).heap[q]? = H[q]? := fun q hq => by
    rw [heapAt_setCell_ne ce (Nat.ne_of_gt hq)]
    show T1.heap[q]? = H[q]?
    rw [hpush q hq, hT]
  have hsz2 : ((T1.setVm vm').setCell T.heap.size ce).heap.size = T.heap.size + 1 := by
    show (T1.heap.setIfInBounds T.heap.size ce).size = _
    rw [Array.size_setIfInBounds]; exact hsz1
  rw [hT] at hself hoth hsz2 hLb
  have hcx : D.1 ci = cX := Option.some.inj ((hK.1 ci _ hc).2.1.symm.trans hfX)
  have hP' : va_P D cl (ws ++ [(H.size, .inr (ci, []))]) ((T1.setVm vm').setCell H.size ce).heap := by
    refine (hP.kept (fun k x hx => ?_)).app (fun k x hx => ?_)
    · exact hoth x.1 (hP k x hx).lt
    · have hz : k < 1 := (List.getElem?_eq_some_iff.mp hx).1
      rw [show k = 0 by omega] at hx
      cases hx
      exact ⟨_, hc, ce, hself, by rw [hcx]; exact hcc, hcv, fun k hk => absurd hk (Nat.not_lt_zero _)⟩
  have hS' : va_S A s.heap ((T1.setVm vm').setCell H.size ce).heap (locs ++ L) := by
    refine ⟨by rw [hsz2]; have := hS.1; omega, fun q h1 h2 => ?_, fun x hx => ?_⟩
    · rw [hoth q (Nat.lt_of_lt_of_le h1 hS.1)]; exact hS.2.1 q h1 h2
    · rcases List.mem_append.mp hx with h1 | h1
      · exact hS.2.2 x h1
      · rw [hLb x h1]; exact hA _ hS.1
  rw [hT] at X2 st2
  obtain ⟨t, a1, b1⟩ := kk H.size ((T1.setVm vm').setCell H.size ce).heap (locs ++ L) hP' (hD.push hP rfl (hA _ hS.1)) hS' ((T1.setVm vm').setCell H.size ce) rfl X2
  refine ⟨t, ?_, b1⟩
  refine st1 _ ?_
  show Steps p.tables e below (T1.setTop { method := m, pc := pc + 3, locals := ls, stack := .ref T.heap.size :: rest, locked := none }) _
  jvm_step X₁.here [X₁.here.top, hexec, d3', Value.category]
  rw [hT]
  exact st2 _ a1
end STW
end
