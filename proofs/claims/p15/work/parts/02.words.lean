/-! THE WORDS THAT THE REACHED METHODS NEED -/
def rB0 : List Cond := [Cond.code ⟨"java/lang/Object", "<init>", "()V"⟩ object_method_1_code 1 (Option.none : Option FieldType),
  Cond.methodLink "NativeWorks$Names" 3 ⟨"java/lang/Object", "<init>", "()V"⟩,
  Cond.instanceMethod ⟨"java/lang/Object", "<init>", "()V"⟩,
  Cond.arrayClass FieldType.byte,
  Cond.fieldLink "NativeWorks$Names" 9 "NativeWorks$Names" "letters" "[B",
  Cond.arrayClass FieldType.int,
  Cond.fieldLink "NativeWorks$Names" 15 "NativeWorks$Names" "from" "[I",
  Cond.fieldLink "NativeWorks$Names" 19 "NativeWorks$Names" "olde\x72" "[I",
  Cond.fieldLink "NativeWorks$Names" 22 "NativeWorks$Names" "slot" "[I",
  Cond.fieldLink "NativeWorks$Names" 25 "NativeWorks$Names" "newest" "[I",
  Cond.code ⟨"java/util/Arrays", "fill", "([II)V"⟩ prog_38_method_103_code 4 (Option.none : Option FieldType),
  Cond.methodLink "NativeWorks$Names" 28 ⟨"java/util/Arrays", "fill", "([II)V"⟩,
  Cond.static ⟨"java/util/Arrays", "fill", "([II)V"⟩,
  Cond.initialized "java/util/Arrays",
  Cond.fieldLink "NativeWorks$Names" 34 "NativeWorks$Names" "count" "I",
  Cond.methodLink "NativeWorks$Units" 3 ⟨"java/lang/Object", "<init>", "()V"⟩,
  Cond.classLink "NativeWorks$Units" 9 "NativeWorks$Names",
  Cond.instantiable "NativeWorks$Names" 6,
  Cond.initialized "NativeWorks$Names",
  Cond.constant "NativeWorks$Units" 13 129024,
  Cond.code ⟨"NativeWorks$Names", "<init>", "(II)V"⟩ prog_9_method_1_code 3 (Option.none : Option FieldType),
  Cond.methodLink "NativeWorks$Units" 14 ⟨"NativeWorks$Names", "<init>", "(II)V"⟩,
  Cond.instanceMethod ⟨"NativeWorks$Names", "<init>", "(II)V"⟩,
  Cond.fieldLink "NativeWorks$Units" 17 "NativeWorks$Units" "names" "LNativeWorks$Names;",
  Cond.classLink "NativeWorks$Units" 21 "[[I",
  Cond.fieldLink "NativeWorks$Units" 23 "NativeWorks$Units" "symbols" "[[I",
  Cond.arrayClass FieldType.long,
  Cond.fieldLink "NativeWorks$Units" 26 "NativeWorks$Units" "constants" "[J",
  Cond.fieldLink "NativeWorks$Units" 30 "NativeWorks$Units" "labels" "[I",
  Cond.fieldLink "NativeWorks$Units" 34 "NativeWorks$Units" "statements" "[[I",
  Cond.fieldLink "NativeWorks$Units" 37 "NativeWorks$Units" "waits" "[[I",
  Cond.fieldLink "NativeWorks$Units" 40 "NativeWorks$Units" "waitNumbers" "[J",
  Cond.constant "NativeWorks$Units" 43 131072,
  Cond.fieldLink "NativeWorks$Units" 44 "NativeWorks$Units" "put" "[B",
  Cond.fieldLink "NativeWorks$Units" 48 "NativeWorks$Units" "bytes" "[B",
  Cond.fieldLink "NativeWorks$Units" 51 "NativeWorks$Units" "rows" "[[I",
  Cond.fieldLink "NativeWorks$Units" 54 "NativeWorks$Units" "ends" "[I",
  Cond.fieldLink "java/lang/String" 38 "java/lang/String" "COMPACT_STRINGS" "Z",
  Cond.fieldLink "java/lang/String" 15 "java/lang/String" "code\x72" "B",
  Cond.fieldLink "java/lang/String" 9 "java/lang/String" "value" "[B",
  Cond.code ⟨"java/lang/String", "code\x72", "()B"⟩ prog_30_method_152_code 1 (Option.some FieldType.byte),
  Cond.methodLink "java/lang/String" 335 ⟨"java/lang/String", "code\x72", "()B"⟩,
  Cond.instanceMethod ⟨"java/lang/String", "code\x72", "()B"⟩,
  Cond.selects "java/lang/String" ⟨"java/lang/String", "code\x72", "()B"⟩ ⟨"java/lang/String", "code\x72", "()B"⟩,
  Cond.initialized "java/lang/String",
  Cond.fieldLink "java/lang/String" 1053 "jdk/internal/util/Preconditions" "SIOOBE_FORMATTER" "Ljava/util/function/BiFunction;",
  Cond.code ⟨"jdk/internal/util/Preconditions", "checkIndex", "(IILjava/util/function/BiFunction;)I"⟩ prog_41_method_11_code 3 (Option.some FieldType.int),
  Cond.methodLink "java/lang/String" 1059 ⟨"jdk/internal/util/Preconditions", "checkIndex", "(IILjava/util/function/BiFunction;)I"⟩]
def rB1 : List Cond := [Cond.static ⟨"jdk/internal/util/Preconditions", "checkIndex", "(IILjava/util/function/BiFunction;)I"⟩,
  Cond.initialized "jdk/internal/util/Preconditions",
  Cond.code ⟨"java/lang/String", "checkIndex", "(II)V"⟩ prog_30_method_155_code 2 (Option.none : Option FieldType),
  Cond.methodLink "java/lang/StringLatin1" 9 ⟨"java/lang/String", "checkIndex", "(II)V"⟩,
  Cond.static ⟨"java/lang/String", "checkIndex", "(II)V"⟩,
  Cond.code ⟨"java/lang/String", "isLatin1", "()Z"⟩ prog_30_method_154_code 1 (Option.some FieldType.boolean),
  Cond.methodLink "java/lang/String" 492 ⟨"java/lang/String", "isLatin1", "()Z"⟩,
  Cond.instanceMethod ⟨"java/lang/String", "isLatin1", "()Z"⟩,
  Cond.selects "java/lang/String" ⟨"java/lang/String", "isLatin1", "()Z"⟩ ⟨"java/lang/String", "isLatin1", "()Z"⟩,
  Cond.code ⟨"java/lang/StringLatin1", "charAt", "([BI)C"⟩ prog_32_method_2_code 2 (Option.some FieldType.char),
  Cond.methodLink "java/lang/String" 495 ⟨"java/lang/StringLatin1", "charAt", "([BI)C"⟩,
  Cond.static ⟨"java/lang/StringLatin1", "charAt", "([BI)C"⟩,
  Cond.initialized "java/lang/StringLatin1",
  Cond.methodLink "NativeWorks$Names" 38 ⟨"java/lang/System", "arraycopy", "(Ljava/lang/Object;ILjava/lang/Object;II)V"⟩,
  Cond.native ⟨"java/lang/System", "arraycopy", "(Ljava/lang/Object;ILjava/lang/Object;II)V"⟩,
  Cond.static ⟨"java/lang/System", "arraycopy", "(Ljava/lang/Object;ILjava/lang/Object;II)V"⟩,
  Cond.initialized "java/lang/System",
  Cond.code ⟨"java/lang/String", "length", "()I"⟩ prog_30_method_54_code 1 (Option.some FieldType.int),
  Cond.methodLink "NativeWorks$Line" 76 ⟨"java/lang/String", "length", "()I"⟩,
  Cond.instanceMethod ⟨"java/lang/String", "length", "()I"⟩,
  Cond.selects "java/lang/String" ⟨"java/lang/String", "length", "()I"⟩ ⟨"java/lang/String", "length", "()I"⟩,
  Cond.fieldLink "NativeWorks$Line" 11 "NativeWorks$Line" "text" "[B",
  Cond.code ⟨"java/lang/String", "charAt", "(I)C"⟩ prog_30_method_56_code 2 (Option.some FieldType.char),
  Cond.methodLink "NativeWorks$Line" 82 ⟨"java/lang/String", "charAt", "(I)C"⟩,
  Cond.instanceMethod ⟨"java/lang/String", "charAt", "(I)C"⟩,
  Cond.selects "java/lang/String" ⟨"java/lang/String", "charAt", "(I)C"⟩ ⟨"java/lang/String", "charAt", "(I)C"⟩,
  Cond.fieldLink "NativeWorks$Line" 20 "NativeWorks$Line" "words" "LNativeWorks$Names;",
  Cond.code ⟨"NativeWorks$Names", "add", "([BII)I"⟩ prog_9_method_3_code 6 (Option.some FieldType.int),
  Cond.methodLink "NativeWorks$Line" 86 ⟨"NativeWorks$Names", "add", "([BII)I"⟩,
  Cond.instanceMethod ⟨"NativeWorks$Names", "add", "([BII)I"⟩,
  Cond.selects "NativeWorks$Names" ⟨"NativeWorks$Names", "add", "([BII)I"⟩ ⟨"NativeWorks$Names", "add", "([BII)I"⟩,
  Cond.methodLink "NativeWorks$Line" 3 ⟨"java/lang/Object", "<init>", "()V"⟩,
  Cond.classLink "NativeWorks$Line" 15 "NativeWorks$Names",
  Cond.methodLink "NativeWorks$Line" 17 ⟨"NativeWorks$Names", "<init>", "(II)V"⟩,
  Cond.fieldLink "NativeWorks$Line" 24 "NativeWorks$Line" "kind" "[I",
  Cond.fieldLink "NativeWorks$Line" 28 "NativeWorks$Line" "value" "[J",
  Cond.fieldLink "NativeWorks$Line" 32 "NativeWorks$Line" "from" "[I",
  Cond.fieldLink "NativeWorks$Line" 35 "NativeWorks$Line" "to" "[I",
  Cond.code ⟨"NativeWorks$Line", "teach", "(Ljava/lang/String;)V"⟩ prog_5_method_2_code 4 (Option.none : Option FieldType),
  Cond.methodLink "NativeWorks$Line" 40 ⟨"NativeWorks$Line", "teach", "(Ljava/lang/String;)V"⟩,
  Cond.instanceMethod ⟨"NativeWorks$Line", "teach", "(Ljava/lang/String;)V"⟩,
  Cond.selects "NativeWorks$Line" ⟨"NativeWorks$Line", "teach", "(Ljava/lang/String;)V"⟩ ⟨"NativeWorks$Line", "teach", "(Ljava/lang/String;)V"⟩,
  Cond.initialized "NativeWorks$Line",
  Cond.methodLink "NativeWorks$Source" 3 ⟨"java/lang/Object", "<init>", "()V"⟩,
  Cond.fieldLink "NativeWorks$Source" 9 "NativeWorks$Source" "bytes" "[B",
  Cond.fieldLink "NativeWorks$Source" 15 "NativeWorks$Source" "words" "LNativeWorks$Names;",
  Cond.constant "NativeWorks$Source" 19 65538,
  Cond.fieldLink "NativeWorks$Source" 20 "NativeWorks$Source" "lineAt" "[I"]
def rB2 : List Cond := [Cond.constant "NativeWorks$Source" 24 65537,
  Cond.fieldLink "NativeWorks$Source" 25 "NativeWorks$Source" "sorts" "[B",
  Cond.fieldLink "NativeWorks$Source" 28 "NativeWorks$Source" "ifEnds" "[I",
  Cond.fieldLink "NativeWorks$Source" 31 "NativeWorks$Source" "elses" "[I",
  Cond.fieldLink "NativeWorks$Source" 34 "NativeWorks$Source" "reptEnds" "[I",
  Cond.classLink "NativeWorks$Source" 37 "NativeWorks$Names",
  Cond.constant "NativeWorks$Source" 39 65536,
  Cond.methodLink "NativeWorks$Source" 40 ⟨"NativeWorks$Names", "<init>", "(II)V"⟩,
  Cond.fieldLink "NativeWorks$Source" 43 "NativeWorks$Source" "macros" "LNativeWorks$Names;",
  Cond.fieldLink "NativeWorks$Source" 46 "NativeWorks$Source" "bodyFrom" "[I",
  Cond.fieldLink "NativeWorks$Source" 49 "NativeWorks$Source" "bodyTo" "[I",
  Cond.fieldLink "NativeWorks$Source" 52 "NativeWorks$Source" "firstParamete\x72" "[I",
  Cond.constant "NativeWorks$Source" 55 32768,
  Cond.fieldLink "NativeWorks$Source" 56 "NativeWorks$Source" "parameterFrom" "[I",
  Cond.fieldLink "NativeWorks$Source" 59 "NativeWorks$Source" "parameterTo" "[I",
  Cond.fieldLink "NativeWorks$Source" 62 "NativeWorks$Source" "lines" "I",
  Cond.methodLink "NativeWorks$Reade\x72" 3 ⟨"java/lang/Object", "<init>", "()V"⟩,
  Cond.fieldLink "NativeWorks$Reade\x72" 9 "NativeWorks$Reade\x72" "source" "LNativeWorks$Source;",
  Cond.fieldLink "NativeWorks$Reade\x72" 15 "NativeWorks$Reade\x72" "line" "LNativeWorks$Line;",
  Cond.fieldLink "NativeWorks$Reade\x72" 19 "NativeWorks$Reade\x72" "first" "[I",
  Cond.fieldLink "NativeWorks$Reade\x72" 23 "NativeWorks$Reade\x72" "end" "[I",
  Cond.fieldLink "NativeWorks$Reade\x72" 26 "NativeWorks$Reade\x72" "next" "[I",
  Cond.fieldLink "NativeWorks$Reade\x72" 29 "NativeWorks$Reade\x72" "left" "[I",
  Cond.fieldLink "NativeWorks$Reade\x72" 32 "NativeWorks$Reade\x72" "make\x72" "[I",
  Cond.fieldLink "NativeWorks$Reade\x72" 35 "NativeWorks$Reade\x72" "ifsBelow" "[I",
  Cond.fieldLink "NativeWorks$Reade\x72" 38 "NativeWorks$Reade\x72" "macro" "[I",
  Cond.fieldLink "NativeWorks$Reade\x72" 41 "NativeWorks$Reade\x72" "made" "[I",
  Cond.fieldLink "NativeWorks$Reade\x72" 46 "NativeWorks$Reade\x72" "arguments" "[B",
  Cond.fieldLink "NativeWorks$Reade\x72" 50 "NativeWorks$Reade\x72" "argumentFrom" "[I",
  Cond.fieldLink "NativeWorks$Reade\x72" 53 "NativeWorks$Reade\x72" "argumentTo" "[I",
  Cond.arrayClass FieldType.boolean,
  Cond.fieldLink "NativeWorks$Reade\x72" 56 "NativeWorks$Reade\x72" "elseRead" "[Z",
  Cond.methodLink "NativeWorks$Expression" 3 ⟨"java/lang/Object", "<init>", "()V"⟩,
  Cond.fieldLink "NativeWorks$Expression" 9 "NativeWorks$Expression" "line" "LNativeWorks$Line;",
  Cond.fieldLink "NativeWorks$Expression" 15 "NativeWorks$Expression" "units" "LNativeWorks$Units;",
  Cond.fieldLink "NativeWorks$Expression" 21 "NativeWorks$Expression" "numbe\x72" "[J",
  Cond.fieldLink "NativeWorks$Expression" 25 "NativeWorks$Expression" "plus" "[I",
  Cond.fieldLink "NativeWorks$Expression" 29 "NativeWorks$Expression" "minus" "[I",
  Cond.fieldLink "NativeWorks$Expression" 32 "NativeWorks$Expression" "signs" "[I",
  Cond.fieldLink "NativeWorks$Expression" 35 "NativeWorks$Expression" "name" "[B",
  Cond.fieldLink "NativeWorks$Expression" 39 "NativeWorks$Expression" "latest" "[B",
  Cond.fieldLink "NativeWorks$Instruction" 18 "NativeWorks$Instruction" "rows" "[I",
  Cond.fieldLink "NativeWorks$Instruction" 53 "NativeWorks$Instruction" "L_AT" "[I",
  Cond.code ⟨"NativeWorks$Instruction", "isConditional", "(I)Z"⟩ prog_4_method_3_code 1 (Option.some FieldType.boolean),
  Cond.methodLink "NativeWorks$Instruction" 56 ⟨"NativeWorks$Instruction", "isConditional", "(I)Z"⟩,
  Cond.static ⟨"NativeWorks$Instruction", "isConditional", "(I)Z"⟩,
  Cond.initialized "NativeWorks$Instruction",
  Cond.fieldLink "NativeWorks$Instruction" 24 "NativeWorks$Instruction" "rowAt" "[I"]
def rB3 : List Cond := [Cond.methodLink "NativeWorks$Instruction" 3 ⟨"java/lang/Object", "<init>", "()V"⟩,
  Cond.fieldLink "NativeWorks$Instruction" 9 "NativeWorks$Instruction" "ARITHMETIC" "[I",
  Cond.fieldLink "NativeWorks$Instruction" 15 "NativeWorks$Instruction" "TABLE" "[I",
  Cond.fieldLink "NativeWorks$Instruction" 21 "NativeWorks$Instruction" "firstRow" "[I",
  Cond.fieldLink "NativeWorks$Instruction" 27 "NativeWorks$Instruction" "kind" "[I",
  Cond.fieldLink "NativeWorks$Instruction" 30 "NativeWorks$Instruction" "reg" "[I",
  Cond.fieldLink "NativeWorks$Instruction" 33 "NativeWorks$Instruction" "bytes" "[B",
  Cond.methodLink "NativeWorks$Instruction" 37 ⟨"java/util/Arrays", "fill", "([II)V"⟩,
  Cond.methodLink "NativeWorks$Instruction" 43 ⟨"java/lang/System", "arraycopy", "(Ljava/lang/Object;ILjava/lang/Object;II)V"⟩,
  Cond.code ⟨"NativeWorks$Instruction", "ente\x72", "(I)V"⟩ prog_4_method_2_code 8 (Option.none : Option FieldType),
  Cond.methodLink "NativeWorks$Instruction" 49 ⟨"NativeWorks$Instruction", "ente\x72", "(I)V"⟩,
  Cond.instanceMethod ⟨"NativeWorks$Instruction", "ente\x72", "(I)V"⟩,
  Cond.selects "NativeWorks$Instruction" ⟨"NativeWorks$Instruction", "ente\x72", "(I)V"⟩ ⟨"NativeWorks$Instruction", "ente\x72", "(I)V"⟩,
  Cond.methodLink "NativeWorks$Assemble\x72" 3 ⟨"java/lang/Object", "<init>", "()V"⟩,
  Cond.classLink "NativeWorks$Assemble\x72" 9 "NativeWorks$Line",
  Cond.instantiable "NativeWorks$Line" 10,
  Cond.code ⟨"NativeWorks$Line", "<init>", "()V"⟩ prog_5_method_1_code 1 (Option.none : Option FieldType),
  Cond.methodLink "NativeWorks$Assemble\x72" 11 ⟨"NativeWorks$Line", "<init>", "()V"⟩,
  Cond.instanceMethod ⟨"NativeWorks$Line", "<init>", "()V"⟩,
  Cond.fieldLink "NativeWorks$Assemble\x72" 12 "NativeWorks$Assemble\x72" "line" "LNativeWorks$Line;",
  Cond.fieldLink "NativeWorks$Assemble\x72" 18 "NativeWorks$Assemble\x72" "units" "LNativeWorks$Units;",
  Cond.classLink "NativeWorks$Assemble\x72" 22 "NativeWorks$Reade\x72",
  Cond.instantiable "NativeWorks$Reade\x72" 20,
  Cond.initialized "NativeWorks$Reade\x72",
  Cond.classLink "NativeWorks$Assemble\x72" 24 "NativeWorks$Source",
  Cond.instantiable "NativeWorks$Source" 14,
  Cond.initialized "NativeWorks$Source",
  Cond.fieldLink "NativeWorks$Assemble\x72" 26 "NativeWorks$Line" "words" "LNativeWorks$Names;",
  Cond.code ⟨"NativeWorks$Source", "<init>", "([BLNativeWorks$Names;)V"⟩ prog_11_method_1_code 3 (Option.none : Option FieldType),
  Cond.methodLink "NativeWorks$Assemble\x72" 30 ⟨"NativeWorks$Source", "<init>", "([BLNativeWorks$Names;)V"⟩,
  Cond.instanceMethod ⟨"NativeWorks$Source", "<init>", "([BLNativeWorks$Names;)V"⟩,
  Cond.code ⟨"NativeWorks$Reade\x72", "<init>", "(LNativeWorks$Source;LNativeWorks$Line;)V"⟩ prog_10_method_1_code 3 (Option.none : Option FieldType),
  Cond.methodLink "NativeWorks$Assemble\x72" 33 ⟨"NativeWorks$Reade\x72", "<init>", "(LNativeWorks$Source;LNativeWorks$Line;)V"⟩,
  Cond.instanceMethod ⟨"NativeWorks$Reade\x72", "<init>", "(LNativeWorks$Source;LNativeWorks$Line;)V"⟩,
  Cond.fieldLink "NativeWorks$Assemble\x72" 36 "NativeWorks$Assemble\x72" "reade\x72" "LNativeWorks$Reader;",
  Cond.classLink "NativeWorks$Assemble\x72" 40 "NativeWorks$Expression",
  Cond.instantiable "NativeWorks$Expression" 11,
  Cond.initialized "NativeWorks$Expression",
  Cond.code ⟨"NativeWorks$Expression", "<init>", "(LNativeWorks$Line;LNativeWorks$Units;)V"⟩ prog_3_method_1_code 3 (Option.none : Option FieldType),
  Cond.methodLink "NativeWorks$Assemble\x72" 42 ⟨"NativeWorks$Expression", "<init>", "(LNativeWorks$Line;LNativeWorks$Units;)V"⟩,
  Cond.instanceMethod ⟨"NativeWorks$Expression", "<init>", "(LNativeWorks$Line;LNativeWorks$Units;)V"⟩,
  Cond.fieldLink "NativeWorks$Assemble\x72" 45 "NativeWorks$Assemble\x72" "expression" "LNativeWorks$Expression;",
  Cond.classLink "NativeWorks$Assemble\x72" 49 "NativeWorks$Instruction",
  Cond.instantiable "NativeWorks$Instruction" 21,
  Cond.code ⟨"NativeWorks$Instruction", "<init>", "()V"⟩ prog_4_method_1_code 6 (Option.none : Option FieldType),
  Cond.methodLink "NativeWorks$Assemble\x72" 51 ⟨"NativeWorks$Instruction", "<init>", "()V"⟩,
  Cond.instanceMethod ⟨"NativeWorks$Instruction", "<init>", "()V"⟩,
  Cond.fieldLink "NativeWorks$Assemble\x72" 52 "NativeWorks$Assemble\x72" "instruction" "LNativeWorks$Instruction;"]
def rB4 : List Cond := [Cond.fieldLink "NativeWorks$Assemble\x72" 56 "NativeWorks$Assemble\x72" "told" "[I",
  Cond.methodLink "NativeWorks$Linke\x72" 3 ⟨"java/lang/Object", "<init>", "()V"⟩,
  Cond.fieldLink "NativeWorks$Linke\x72" 9 "NativeWorks$Linke\x72" "units" "LNativeWorks$Units;",
  Cond.fieldLink "NativeWorks$Linke\x72" 17 "NativeWorks$Linke\x72" "taken" "[Z",
  Cond.fieldLink "NativeWorks$Linke\x72" 21 "NativeWorks$Linke\x72" "needed" "[Z",
  Cond.fieldLink "NativeWorks$Linke\x72" 24 "NativeWorks$Linke\x72" "places" "[I",
  Cond.fieldLink "NativeWorks$Linke\x72" 28 "NativeWorks$Linke\x72" "stands" "[I",
  Cond.fieldLink "NativeWorks$Linke\x72" 31 "NativeWorks$Linke\x72" "from" "[I",
  Cond.fieldLink "NativeWorks$Linke\x72" 34 "NativeWorks$Linke\x72" "to" "[I",
  Cond.constant "NativeWorks$Linke\x72" 37 131072,
  Cond.fieldLink "NativeWorks$Linke\x72" 38 "NativeWorks$Linke\x72" "bytes" "[B",
  Cond.fieldLink "NativeWorks$Linke\x72" 42 "NativeWorks$Linke\x72" "origins" "[I",
  Cond.classLink "NativeWorks$Linke\x72" 45 "NativeWorks$Names",
  Cond.constant "NativeWorks$Linke\x72" 47 129024,
  Cond.methodLink "NativeWorks$Linke\x72" 48 ⟨"NativeWorks$Names", "<init>", "(II)V"⟩,
  Cond.fieldLink "NativeWorks$Linke\x72" 51 "NativeWorks$Linke\x72" "names" "LNativeWorks$Names;",
  Cond.fieldLink "NativeWorks$Linke\x72" 55 "NativeWorks$Linke\x72" "addresses" "[J",
  Cond.methodLink "NativeWorks$Linke\x72" 59 ⟨"java/util/Arrays", "fill", "([II)V"⟩,
  Cond.methodLink "NativeWorks$Memory" 3 ⟨"java/lang/Object", "<init>", "()V"⟩,
  Cond.constant "NativeWorks$Memory" 13 196608,
  Cond.fieldLink "NativeWorks$Memory" 14 "NativeWorks$Memory" "low" "[B",
  Cond.constant "NativeWorks$Memory" 18 65536,
  Cond.fieldLink "NativeWorks$Memory" 19 "NativeWorks$Memory" "stack" "[B",
  Cond.constant "NativeWorks$Memory" 22 131072,
  Cond.fieldLink "NativeWorks$Memory" 23 "NativeWorks$Memory" "begins" "[Z",
  Cond.fieldLink "NativeWorks$Memory" 27 "NativeWorks$Memory" "loaded" "Z",
  Cond.constantLong "NativeWorks$Memory" 31 4194304,
  Cond.fieldLink "NativeWorks$Memory" 33 "NativeWorks$Memory" "heap" "J",
  Cond.fieldLink "NativeWorks$Memory" 37 "NativeWorks$Memory" "end" "J",
  Cond.methodLink "NativeWorks$Machine" 3 ⟨"java/lang/Object", "<init>", "()V"⟩,
  Cond.classLink "NativeWorks$Machine" 9 "NativeWorks$Memory",
  Cond.instantiable "NativeWorks$Memory" 12,
  Cond.initialized "NativeWorks$Memory",
  Cond.code ⟨"NativeWorks$Memory", "<init>", "()V"⟩ prog_8_method_1_code 1 (Option.none : Option FieldType),
  Cond.methodLink "NativeWorks$Machine" 11 ⟨"NativeWorks$Memory", "<init>", "()V"⟩,
  Cond.instanceMethod ⟨"NativeWorks$Memory", "<init>", "()V"⟩,
  Cond.fieldLink "NativeWorks$Machine" 12 "NativeWorks$Machine" "memory" "LNativeWorks$Memory;",
  Cond.classLink "NativeWorks$Machine" 18 "NativeWorks$Instruction",
  Cond.methodLink "NativeWorks$Machine" 20 ⟨"NativeWorks$Instruction", "<init>", "()V"⟩,
  Cond.fieldLink "NativeWorks$Machine" 21 "NativeWorks$Machine" "it" "LNativeWorks$Instruction;",
  Cond.fieldLink "NativeWorks$Machine" 25 "NativeWorks$Machine" "\x72" "[J",
  Cond.constant "NativeWorks$Machine" 29 65536,
  Cond.fieldLink "NativeWorks$Machine" 30 "NativeWorks$Machine" "input" "[B",
  Cond.fieldLink "NativeWorks$Machine" 34 "NativeWorks$Machine" "output" "[B",
  Cond.fieldLink "NativeWorks$Machine" 37 "NativeWorks$Machine" "stops" "[J",
  Cond.methodLink "NativeWorks" 1 ⟨"java/lang/Object", "<init>", "()V"⟩,
  Cond.constant "NativeWorks" 9 65536,
  Cond.classLink "NativeWorks" 10 "NativeWorks$Units"]
def rB5 : List Cond := [Cond.instantiable "NativeWorks$Units" 19,
  Cond.initialized "NativeWorks$Units",
  Cond.code ⟨"NativeWorks$Units", "<init>", "()V"⟩ prog_12_method_1_code 1 (Option.none : Option FieldType),
  Cond.methodLink "NativeWorks" 12 ⟨"NativeWorks$Units", "<init>", "()V"⟩,
  Cond.instanceMethod ⟨"NativeWorks$Units", "<init>", "()V"⟩,
  Cond.fieldLink "NativeWorks" 13 "NativeWorks" "tape" "[B",
  Cond.fieldLink "NativeWorks" 17 "NativeWorks" "units" "LNativeWorks$Units;",
  Cond.classLink "NativeWorks" 21 "NativeWorks$Assemble\x72",
  Cond.instantiable "NativeWorks$Assemble\x72" 15,
  Cond.initialized "NativeWorks$Assemble\x72",
  Cond.code ⟨"NativeWorks$Assemble\x72", "<init>", "([BLNativeWorks$Units;)V"⟩ prog_2_method_1_code 4 (Option.none : Option FieldType),
  Cond.methodLink "NativeWorks" 23 ⟨"NativeWorks$Assemble\x72", "<init>", "([BLNativeWorks$Units;)V"⟩,
  Cond.instanceMethod ⟨"NativeWorks$Assemble\x72", "<init>", "([BLNativeWorks$Units;)V"⟩,
  Cond.fieldLink "NativeWorks" 26 "NativeWorks" "assemble\x72" "LNativeWorks$Assembler;",
  Cond.classLink "NativeWorks" 30 "NativeWorks$Linke\x72",
  Cond.instantiable "NativeWorks$Linke\x72" 18,
  Cond.initialized "NativeWorks$Linke\x72",
  Cond.code ⟨"NativeWorks$Linke\x72", "<init>", "(LNativeWorks$Units;)V"⟩ prog_6_method_1_code 2 (Option.none : Option FieldType),
  Cond.methodLink "NativeWorks" 32 ⟨"NativeWorks$Linke\x72", "<init>", "(LNativeWorks$Units;)V"⟩,
  Cond.instanceMethod ⟨"NativeWorks$Linke\x72", "<init>", "(LNativeWorks$Units;)V"⟩,
  Cond.fieldLink "NativeWorks" 35 "NativeWorks" "linke\x72" "LNativeWorks$Linker;",
  Cond.classLink "NativeWorks" 39 "NativeWorks$Machine",
  Cond.instantiable "NativeWorks$Machine" 17,
  Cond.initialized "NativeWorks$Machine",
  Cond.code ⟨"NativeWorks$Machine", "<init>", "()V"⟩ prog_7_method_1_code 1 (Option.none : Option FieldType),
  Cond.methodLink "NativeWorks" 41 ⟨"NativeWorks$Machine", "<init>", "()V"⟩,
  Cond.instanceMethod ⟨"NativeWorks$Machine", "<init>", "()V"⟩,
  Cond.fieldLink "NativeWorks" 42 "NativeWorks" "machine" "LNativeWorks$Machine;",
  Cond.fieldLink "NativeWorks" 46 "NativeWorks" "fed" "I",
  Cond.fieldLink "NativeWorks" 50 "NativeWorks" "faultKind" "I",
  Cond.fieldLink "NativeWorks" 53 "NativeWorks" "faultLine" "I",
  Cond.fieldLink "NativeWorks" 56 "NativeWorks" "faultUnit" "I",
  Cond.methodLink "NativeWorksModel$Code" 3 ⟨"java/lang/Object", "<init>", "()V"⟩,
  Cond.fieldLink "NativeWorksModel$Code" 9 "NativeWorksModel$Code" "address" "[I",
  Cond.fieldLink "NativeWorksModel$Code" 15 "NativeWorksModel$Code" "where" "[I",
  Cond.fieldLink "NativeWorksModel$Code" 18 "NativeWorksModel$Code" "shape" "[J",
  Cond.fieldLink "NativeWorksModel$Code" 22 "NativeWorksModel$Code" "displacement" "[J",
  Cond.fieldLink "NativeWorksModel$Code" 25 "NativeWorksModel$Code" "numbe\x72" "[J",
  Cond.code ⟨"jdk/internal/util/Preconditions", "checkFromToIndex", "(IIILjava/util/function/BiFunction;)I"⟩ prog_41_method_12_code 4 (Option.some FieldType.int),
  Cond.methodLink "java/lang/String" 1062 ⟨"jdk/internal/util/Preconditions", "checkFromToIndex", "(IIILjava/util/function/BiFunction;)I"⟩,
  Cond.static ⟨"jdk/internal/util/Preconditions", "checkFromToIndex", "(IIILjava/util/function/BiFunction;)I"⟩,
  Cond.code ⟨"java/util/Arrays", "checkLength", "(II)V"⟩ prog_38_method_131_code 2 (Option.none : Option FieldType),
  Cond.methodLink "java/util/Arrays" 343 ⟨"java/util/Arrays", "checkLength", "(II)V"⟩,
  Cond.static ⟨"java/util/Arrays", "checkLength", "(II)V"⟩,
  Cond.methodLink "java/util/Arrays" 304 ⟨"java/lang/Math", "min", "(II)I"⟩,
  Cond.static ⟨"java/lang/Math", "min", "(II)I"⟩,
  Cond.initialized "java/lang/Math",
  Cond.code ⟨"java/lang/Math", "min", "(II)I"⟩ prog_27_method_69_code 2 (Option.some FieldType.int)]
def rB6 : List Cond := [Cond.methodLink "java/util/Arrays" 150 ⟨"java/lang/System", "arraycopy", "(Ljava/lang/Object;ILjava/lang/Object;II)V"⟩,
  Cond.code ⟨"java/util/Arrays", "copyOfRangeByte", "([BII)[B"⟩ prog_38_method_133_code 5 (Option.some (FieldType.array FieldType.byte)),
  Cond.methodLink "java/util/Arrays" 339 ⟨"java/util/Arrays", "copyOfRangeByte", "([BII)[B"⟩,
  Cond.static ⟨"java/util/Arrays", "copyOfRangeByte", "([BII)[B"⟩,
  Cond.methodLink "java/lang/String" 1 ⟨"java/lang/Object", "<init>", "()V"⟩,
  Cond.classLink "java/lang/StringLatin1" 1 "java/lang/String",
  Cond.instantiable "java/lang/String" 4,
  Cond.code ⟨"java/util/Arrays", "copyOfRange", "([BII)[B"⟩ prog_38_method_132_code 3 (Option.some (FieldType.array FieldType.byte)),
  Cond.methodLink "java/lang/StringLatin1" 232 ⟨"java/util/Arrays", "copyOfRange", "([BII)[B"⟩,
  Cond.static ⟨"java/util/Arrays", "copyOfRange", "([BII)[B"⟩,
  Cond.code ⟨"java/lang/String", "<init>", "([BB)V"⟩ prog_30_method_151_code 3 (Option.none : Option FieldType),
  Cond.methodLink "java/lang/StringLatin1" 112 ⟨"java/lang/String", "<init>", "([BB)V"⟩,
  Cond.instanceMethod ⟨"java/lang/String", "<init>", "([BB)V"⟩,
  Cond.methodLink "java/lang/String" 505 ⟨"java/lang/String", "length", "()I"⟩,
  Cond.code ⟨"java/lang/String", "checkBoundsBeginEnd", "(III)V"⟩ prog_30_method_158_code 3 (Option.none : Option FieldType),
  Cond.methodLink "java/lang/String" 521 ⟨"java/lang/String", "checkBoundsBeginEnd", "(III)V"⟩,
  Cond.static ⟨"java/lang/String", "checkBoundsBeginEnd", "(III)V"⟩,
  Cond.code ⟨"java/lang/StringLatin1", "newString", "([BII)Ljava/lang/String;"⟩ prog_32_method_47_code 3 (Option.some (FieldType.object "java/lang/String")),
  Cond.methodLink "java/lang/String" 685 ⟨"java/lang/StringLatin1", "newString", "([BII)Ljava/lang/String;"⟩,
  Cond.static ⟨"java/lang/StringLatin1", "newString", "([BII)Ljava/lang/String;"⟩,
  Cond.methodLink "NativeWorksModel" 469 ⟨"java/lang/String", "length", "()I"⟩,
  Cond.methodLink "NativeWorksModel" 475 ⟨"java/lang/String", "charAt", "(I)C"⟩,
  Cond.fieldLink "NativeWorksModel" 14 "NativeWorksModel" "wordName" "[J",
  Cond.fieldLink "NativeWorksModel" 483 "NativeWorksModel" "words" "I",
  Cond.code ⟨"NativeWorksModel", "pack", "(Ljava/lang/String;)J"⟩ prog_14_method_2_code 4 (Option.some FieldType.long),
  Cond.methodLink "NativeWorksModel" 419 ⟨"NativeWorksModel", "pack", "(Ljava/lang/String;)J"⟩,
  Cond.static ⟨"NativeWorksModel", "pack", "(Ljava/lang/String;)J"⟩,
  Cond.initialized "NativeWorksModel",
  Cond.fieldLink "NativeWorksModel" 21 "NativeWorksModel" "wordCode" "[I",
  Cond.code ⟨"java/lang/String", "substring", "(II)Ljava/lang/String;"⟩ prog_30_method_92_code 5 (Option.some (FieldType.object "java/lang/String")),
  Cond.methodLink "NativeWorksModel" 479 ⟨"java/lang/String", "substring", "(II)Ljava/lang/String;"⟩,
  Cond.instanceMethod ⟨"java/lang/String", "substring", "(II)Ljava/lang/String;"⟩,
  Cond.selects "java/lang/String" ⟨"java/lang/String", "substring", "(II)Ljava/lang/String;"⟩ ⟨"java/lang/String", "substring", "(II)Ljava/lang/String;"⟩,
  Cond.code ⟨"NativeWorksModel", "word", "(Ljava/lang/String;I)V"⟩ prog_14_method_4_code 3 (Option.none : Option FieldType),
  Cond.methodLink "NativeWorksModel" 370 ⟨"NativeWorksModel", "word", "(Ljava/lang/String;I)V"⟩,
  Cond.instanceMethod ⟨"NativeWorksModel", "word", "(Ljava/lang/String;I)V"⟩,
  Cond.selects "NativeWorksModel" ⟨"NativeWorksModel", "word", "(Ljava/lang/String;I)V"⟩ ⟨"NativeWorksModel", "word", "(Ljava/lang/String;I)V"⟩,
  Cond.methodLink "java/lang/AbstractStringBuilde\x72" 3 ⟨"java/lang/Object", "<init>", "()V"⟩,
  Cond.fieldLink "java/lang/AbstractStringBuilde\x72" 18 "java/lang/String" "COMPACT_STRINGS" "Z",
  Cond.fieldLink "java/lang/AbstractStringBuilde\x72" 15 "java/lang/AbstractStringBuilde\x72" "value" "[B",
  Cond.fieldLink "java/lang/AbstractStringBuilde\x72" 22 "java/lang/AbstractStringBuilde\x72" "code\x72" "B",
  Cond.code ⟨"java/lang/AbstractStringBuilde\x72", "<init>", "(I)V"⟩ prog_17_method_2_code 2 (Option.none : Option FieldType),
  Cond.methodLink "java/lang/StringBuilde\x72" 1 ⟨"java/lang/AbstractStringBuilde\x72", "<init>", "(I)V"⟩,
  Cond.instanceMethod ⟨"java/lang/AbstractStringBuilde\x72", "<init>", "(I)V"⟩,
  Cond.initialized "java/lang/AbstractStringBuilde\x72",
  Cond.methodLink "java/lang/AbstractStringBuilde\x72" 40 ⟨"java/lang/String", "code\x72", "()B"⟩,
  Cond.methodLink "java/lang/String" 212 ⟨"java/lang/System", "arraycopy", "(Ljava/lang/Object;ILjava/lang/Object;II)V"⟩,
  Cond.code ⟨"java/lang/AbstractStringBuilde\x72", "inflateIfNeededFo\x72", "(Ljava/lang/String;)V"⟩ prog_17_method_71_code 2 (Option.none : Option FieldType)]
def rB7 : List Cond := [Cond.methodLink "java/lang/AbstractStringBuilde\x72" 397 ⟨"java/lang/AbstractStringBuilde\x72", "inflateIfNeededFo\x72", "(Ljava/lang/String;)V"⟩,
  Cond.sameMethod "java/lang/AbstractStringBuilde\x72" "java/lang/AbstractStringBuilde\x72" "inflateIfNeededFo\x72" "(Ljava/lang/String;)V",
  Cond.selects "java/lang/StringBuilde\x72" ⟨"java/lang/AbstractStringBuilde\x72", "inflateIfNeededFo\x72", "(Ljava/lang/String;)V"⟩ ⟨"java/lang/AbstractStringBuilde\x72", "inflateIfNeededFo\x72", "(Ljava/lang/String;)V"⟩,
  Cond.instanceMethod ⟨"java/lang/AbstractStringBuilde\x72", "inflateIfNeededFo\x72", "(Ljava/lang/String;)V"⟩,
  Cond.code ⟨"java/lang/String", "getBytes", "([BIB)V"⟩ prog_30_method_147_code 4 (Option.none : Option FieldType),
  Cond.methodLink "java/lang/AbstractStringBuilde\x72" 399 ⟨"java/lang/String", "getBytes", "([BIB)V"⟩,
  Cond.instanceMethod ⟨"java/lang/String", "getBytes", "([BIB)V"⟩,
  Cond.selects "java/lang/String" ⟨"java/lang/String", "getBytes", "([BIB)V"⟩ ⟨"java/lang/String", "getBytes", "([BIB)V"⟩,
  Cond.methodLink "java/lang/AbstractStringBuilde\x72" 32 ⟨"java/lang/String", "length", "()I"⟩,
  Cond.fieldLink "java/lang/AbstractStringBuilde\x72" 79 "java/lang/AbstractStringBuilde\x72" "count" "I",
  Cond.code ⟨"java/lang/AbstractStringBuilde\x72", "ensureCapacityInternal", "(I)V"⟩ prog_17_method_9_code 3 (Option.none : Option FieldType),
  Cond.methodLink "java/lang/AbstractStringBuilde\x72" 100 ⟨"java/lang/AbstractStringBuilde\x72", "ensureCapacityInternal", "(I)V"⟩,
  Cond.sameMethod "java/lang/AbstractStringBuilde\x72" "java/lang/AbstractStringBuilde\x72" "ensureCapacityInternal" "(I)V",
  Cond.selects "java/lang/StringBuilde\x72" ⟨"java/lang/AbstractStringBuilde\x72", "ensureCapacityInternal", "(I)V"⟩ ⟨"java/lang/AbstractStringBuilde\x72", "ensureCapacityInternal", "(I)V"⟩,
  Cond.instanceMethod ⟨"java/lang/AbstractStringBuilde\x72", "ensureCapacityInternal", "(I)V"⟩,
  Cond.code ⟨"java/lang/AbstractStringBuilde\x72", "putStringAt", "(ILjava/lang/String;)V"⟩ prog_17_method_73_code 3 (Option.none : Option FieldType),
  Cond.methodLink "java/lang/AbstractStringBuilde\x72" 208 ⟨"java/lang/AbstractStringBuilde\x72", "putStringAt", "(ILjava/lang/String;)V"⟩,
  Cond.sameMethod "java/lang/AbstractStringBuilde\x72" "java/lang/AbstractStringBuilde\x72" "putStringAt" "(ILjava/lang/String;)V",
  Cond.selects "java/lang/StringBuilde\x72" ⟨"java/lang/AbstractStringBuilde\x72", "putStringAt", "(ILjava/lang/String;)V"⟩ ⟨"java/lang/AbstractStringBuilde\x72", "putStringAt", "(ILjava/lang/String;)V"⟩,
  Cond.instanceMethod ⟨"java/lang/AbstractStringBuilde\x72", "putStringAt", "(ILjava/lang/String;)V"⟩,
  Cond.code ⟨"java/lang/AbstractStringBuilde\x72", "append", "(Ljava/lang/String;)Ljava/lang/AbstractStringBuilder;"⟩ prog_17_method_22_code 3 (Option.some (FieldType.object "java/lang/AbstractStringBuilde\x72")),
  Cond.methodLink "java/lang/StringBuilde\x72" 29 ⟨"java/lang/AbstractStringBuilde\x72", "append", "(Ljava/lang/String;)Ljava/lang/AbstractStringBuilder;"⟩,
  Cond.sameMethod "java/lang/AbstractStringBuilde\x72" "java/lang/AbstractStringBuilde\x72" "append" "(Ljava/lang/String;)Ljava/lang/AbstractStringBuilder;",
  Cond.superclass "java/lang/StringBuilde\x72" "java/lang/AbstractStringBuilde\x72",
  Cond.instanceMethod ⟨"java/lang/AbstractStringBuilde\x72", "append", "(Ljava/lang/String;)Ljava/lang/AbstractStringBuilder;"⟩,
  Cond.code ⟨"java/lang/AbstractStringBuilde\x72", "length", "()I"⟩ prog_17_method_6_code 1 (Option.some FieldType.int),
  Cond.methodLink "java/lang/StringBuilde\x72" 343 ⟨"java/lang/AbstractStringBuilde\x72", "length", "()I"⟩,
  Cond.sameMethod "java/lang/AbstractStringBuilde\x72" "java/lang/AbstractStringBuilde\x72" "length" "()I",
  Cond.instanceMethod ⟨"java/lang/AbstractStringBuilde\x72", "length", "()I"⟩,
  Cond.code ⟨"java/lang/AbstractStringBuilde\x72", "getValue", "()[B"⟩ prog_17_method_64_code 1 (Option.some (FieldType.array FieldType.byte)),
  Cond.methodLink "java/lang/String" 552 ⟨"java/lang/AbstractStringBuilde\x72", "getValue", "()[B"⟩,
  Cond.sameMethod "java/lang/AbstractStringBuilde\x72" "java/lang/AbstractStringBuilde\x72" "getValue" "()[B",
  Cond.selects "java/lang/StringBuilde\x72" ⟨"java/lang/AbstractStringBuilde\x72", "getValue", "()[B"⟩ ⟨"java/lang/AbstractStringBuilde\x72", "getValue", "()[B"⟩,
  Cond.instanceMethod ⟨"java/lang/AbstractStringBuilde\x72", "getValue", "()[B"⟩,
  Cond.code ⟨"java/lang/StringBuilde\x72", "length", "()I"⟩ prog_31_method_93_code 1 (Option.some FieldType.int),
  Cond.methodLink "java/lang/String" 549 ⟨"java/lang/AbstractStringBuilde\x72", "length", "()I"⟩,
  Cond.selects "java/lang/StringBuilde\x72" ⟨"java/lang/AbstractStringBuilde\x72", "length", "()I"⟩ ⟨"java/lang/StringBuilde\x72", "length", "()I"⟩,
  Cond.instanceMethod ⟨"java/lang/StringBuilde\x72", "length", "()I"⟩,
  Cond.initialized "java/lang/StringBuilde\x72",
  Cond.code ⟨"java/lang/AbstractStringBuilde\x72", "isLatin1", "()Z"⟩ prog_17_method_68_code 1 (Option.some FieldType.boolean),
  Cond.methodLink "java/lang/String" 1047 ⟨"java/lang/AbstractStringBuilde\x72", "isLatin1", "()Z"⟩,
  Cond.sameMethod "java/lang/AbstractStringBuilde\x72" "java/lang/AbstractStringBuilde\x72" "isLatin1" "()Z",
  Cond.selects "java/lang/StringBuilde\x72" ⟨"java/lang/AbstractStringBuilde\x72", "isLatin1", "()Z"⟩ ⟨"java/lang/AbstractStringBuilde\x72", "isLatin1", "()Z"⟩,
  Cond.instanceMethod ⟨"java/lang/AbstractStringBuilde\x72", "isLatin1", "()Z"⟩,
  Cond.methodLink "java/lang/String" 54 ⟨"java/util/Arrays", "copyOfRange", "([BII)[B"⟩,
  Cond.code ⟨"java/lang/String", "<init>", "(Ljava/lang/AbstractStringBuilder;Ljava/lang/Void;)V"⟩ prog_30_method_150_code 5 (Option.none : Option FieldType),
  Cond.methodLink "java/lang/String" 489 ⟨"java/lang/String", "<init>", "(Ljava/lang/AbstractStringBuilder;Ljava/lang/Void;)V"⟩,
  Cond.instanceMethod ⟨"java/lang/String", "<init>", "(Ljava/lang/AbstractStringBuilder;Ljava/lang/Void;)V"⟩]
def rB8 : List Cond := [Cond.classLink "java/lang/StringBuilde\x72" 18 "java/lang/String",
  Cond.code ⟨"java/lang/String", "<init>", "(Ljava/lang/StringBuilder;)V"⟩ prog_30_method_53_code 2 (Option.none : Option FieldType),
  Cond.methodLink "java/lang/StringBuilde\x72" 137 ⟨"java/lang/String", "<init>", "(Ljava/lang/StringBuilder;)V"⟩,
  Cond.instanceMethod ⟨"java/lang/String", "<init>", "(Ljava/lang/StringBuilder;)V"⟩,
  Cond.classLink "NativeWorksModel" 530 "java/lang/StringBuilde\x72",
  Cond.instantiable "java/lang/StringBuilde\x72" 4,
  Cond.code ⟨"java/lang/StringBuilde\x72", "<init>", "()V"⟩ prog_31_method_1_code 1 (Option.none : Option FieldType),
  Cond.methodLink "NativeWorksModel" 532 ⟨"java/lang/StringBuilde\x72", "<init>", "()V"⟩,
  Cond.instanceMethod ⟨"java/lang/StringBuilde\x72", "<init>", "()V"⟩,
  Cond.code ⟨"java/lang/StringBuilde\x72", "append", "(Ljava/lang/String;)Ljava/lang/StringBuilder;"⟩ prog_31_method_7_code 2 (Option.some (FieldType.object "java/lang/StringBuilde\x72")),
  Cond.methodLink "NativeWorksModel" 533 ⟨"java/lang/StringBuilde\x72", "append", "(Ljava/lang/String;)Ljava/lang/StringBuilder;"⟩,
  Cond.instanceMethod ⟨"java/lang/StringBuilde\x72", "append", "(Ljava/lang/String;)Ljava/lang/StringBuilder;"⟩,
  Cond.selects "java/lang/StringBuilde\x72" ⟨"java/lang/StringBuilde\x72", "append", "(Ljava/lang/String;)Ljava/lang/StringBuilder;"⟩ ⟨"java/lang/StringBuilde\x72", "append", "(Ljava/lang/String;)Ljava/lang/StringBuilder;"⟩,
  Cond.code ⟨"java/lang/StringBuilde\x72", "toString", "()Ljava/lang/String;"⟩ prog_31_method_42_code 1 (Option.some (FieldType.object "java/lang/String")),
  Cond.methodLink "NativeWorksModel" 537 ⟨"java/lang/StringBuilde\x72", "toString", "()Ljava/lang/String;"⟩,
  Cond.instanceMethod ⟨"java/lang/StringBuilde\x72", "toString", "()Ljava/lang/String;"⟩,
  Cond.selects "java/lang/StringBuilde\x72" ⟨"java/lang/StringBuilde\x72", "toString", "()Ljava/lang/String;"⟩ ⟨"java/lang/StringBuilde\x72", "toString", "()Ljava/lang/String;"⟩,
  Cond.classLink "NativeWorksModel" 470 "java/lang/String",
  Cond.code ⟨"NativeWorksModel", "joined", "(Ljava/lang/String;Ljava/lang/String;)Ljava/lang/String;"⟩ prog_14_method_6_code 2 (Option.some (FieldType.object "java/lang/String")),
  Cond.methodLink "NativeWorksModel" 526 ⟨"NativeWorksModel", "joined", "(Ljava/lang/String;Ljava/lang/String;)Ljava/lang/String;"⟩,
  Cond.static ⟨"NativeWorksModel", "joined", "(Ljava/lang/String;Ljava/lang/String;)Ljava/lang/String;"⟩,
  Cond.fieldLink "NativeWorksModel" 18 "NativeWorksModel" "registerName" "[J",
  Cond.fieldLink "NativeWorksModel" 605 "NativeWorksModel" "registers" "I",
  Cond.fieldLink "NativeWorksModel" 25 "NativeWorksModel" "registerCode" "[I",
  Cond.fieldLink "java/lang/Intege\x72" 83 "java/lang/Intege\x72" "DigitOnes" "[B",
  Cond.fieldLink "java/lang/Intege\x72" 87 "java/lang/Intege\x72" "DigitTens" "[B",
  Cond.code ⟨"java/lang/Intege\x72", "stringSize", "(I)I"⟩ prog_25_method_13_code 4 (Option.some FieldType.int),
  Cond.methodLink "java/lang/AbstractStringBuilde\x72" 245 ⟨"java/lang/Intege\x72", "stringSize", "(I)I"⟩,
  Cond.static ⟨"java/lang/Intege\x72", "stringSize", "(I)I"⟩,
  Cond.initialized "java/lang/Intege\x72",
  Cond.methodLink "java/lang/AbstractStringBuilde\x72" 83 ⟨"java/lang/AbstractStringBuilde\x72", "isLatin1", "()Z"⟩,
  Cond.code ⟨"java/lang/Intege\x72", "getChars", "(II[B)I"⟩ prog_25_method_12_code 7 (Option.some FieldType.int),
  Cond.methodLink "java/lang/AbstractStringBuilde\x72" 248 ⟨"java/lang/Intege\x72", "getChars", "(II[B)I"⟩,
  Cond.static ⟨"java/lang/Intege\x72", "getChars", "(II[B)I"⟩,
  Cond.code ⟨"java/lang/AbstractStringBuilde\x72", "append", "(I)Ljava/lang/AbstractStringBuilder;"⟩ prog_17_method_32_code 4 (Option.some (FieldType.object "java/lang/AbstractStringBuilde\x72")),
  Cond.methodLink "java/lang/StringBuilde\x72" 53 ⟨"java/lang/AbstractStringBuilde\x72", "append", "(I)Ljava/lang/AbstractStringBuilder;"⟩,
  Cond.sameMethod "java/lang/AbstractStringBuilde\x72" "java/lang/AbstractStringBuilde\x72" "append" "(I)Ljava/lang/AbstractStringBuilder;",
  Cond.instanceMethod ⟨"java/lang/AbstractStringBuilde\x72", "append", "(I)Ljava/lang/AbstractStringBuilder;"⟩,
  Cond.code ⟨"java/lang/StringBuilde\x72", "append", "(I)Ljava/lang/StringBuilder;"⟩ prog_31_method_15_code 2 (Option.some (FieldType.object "java/lang/StringBuilde\x72")),
  Cond.methodLink "NativeWorksModel" 543 ⟨"java/lang/StringBuilde\x72", "append", "(I)Ljava/lang/StringBuilder;"⟩,
  Cond.instanceMethod ⟨"java/lang/StringBuilde\x72", "append", "(I)Ljava/lang/StringBuilder;"⟩,
  Cond.selects "java/lang/StringBuilde\x72" ⟨"java/lang/StringBuilde\x72", "append", "(I)Ljava/lang/StringBuilder;"⟩ ⟨"java/lang/StringBuilde\x72", "append", "(I)Ljava/lang/StringBuilder;"⟩,
  Cond.code ⟨"NativeWorksModel", "registerNamed", "(Ljava/lang/String;I)V"⟩ prog_14_method_9_code 3 (Option.none : Option FieldType),
  Cond.methodLink "NativeWorksModel" 594 ⟨"NativeWorksModel", "registerNamed", "(Ljava/lang/String;I)V"⟩,
  Cond.instanceMethod ⟨"NativeWorksModel", "registerNamed", "(Ljava/lang/String;I)V"⟩,
  Cond.selects "NativeWorksModel" ⟨"NativeWorksModel", "registerNamed", "(Ljava/lang/String;I)V"⟩ ⟨"NativeWorksModel", "registerNamed", "(Ljava/lang/String;I)V"⟩,
  Cond.code ⟨"NativeWorksModel", "numbered", "(ILjava/lang/String;)Ljava/lang/String;"⟩ prog_14_method_7_code 2 (Option.some (FieldType.object "java/lang/String")),
  Cond.methodLink "NativeWorksModel" 599 ⟨"NativeWorksModel", "numbered", "(ILjava/lang/String;)Ljava/lang/String;"⟩]
def rB9 : List Cond := [Cond.static ⟨"NativeWorksModel", "numbered", "(ILjava/lang/String;)Ljava/lang/String;"⟩,
  Cond.fieldLink "NativeWorksModel" 258 "NativeWorksModel" "rowOp" "[I",
  Cond.fieldLink "NativeWorksModel" 1075 "NativeWorksModel" "rows" "I",
  Cond.fieldLink "NativeWorksModel" 261 "NativeWorksModel" "rowSizes" "[I",
  Cond.fieldLink "NativeWorksModel" 264 "NativeWorksModel" "rowPattern" "[I",
  Cond.fieldLink "NativeWorksModel" 267 "NativeWorksModel" "rowLead" "[I",
  Cond.fieldLink "NativeWorksModel" 270 "NativeWorksModel" "rowCode" "[I",
  Cond.fieldLink "NativeWorksModel" 273 "NativeWorksModel" "rowTell" "[I",
  Cond.fieldLink "NativeWorksModel" 276 "NativeWorksModel" "rowNumbe\x72" "[I",
  Cond.code ⟨"NativeWorksModel", "row", "(IIIIIII)V"⟩ prog_14_method_102_code 8 (Option.none : Option FieldType),
  Cond.methodLink "NativeWorksModel" 1103 ⟨"NativeWorksModel", "row", "(IIIIIII)V"⟩,
  Cond.instanceMethod ⟨"NativeWorksModel", "row", "(IIIIIII)V"⟩,
  Cond.selects "NativeWorksModel" ⟨"NativeWorksModel", "row", "(IIIIIII)V"⟩ ⟨"NativeWorksModel", "row", "(IIIIIII)V"⟩,
  Cond.code ⟨"NativeWorksModel", "fillRest", "()V"⟩ prog_14_method_104_code 2 (Option.none : Option FieldType),
  Cond.methodLink "NativeWorksModel" 1107 ⟨"NativeWorksModel", "fillRest", "()V"⟩,
  Cond.instanceMethod ⟨"NativeWorksModel", "fillRest", "()V"⟩,
  Cond.selects "NativeWorksModel" ⟨"NativeWorksModel", "fillRest", "()V"⟩ ⟨"NativeWorksModel", "fillRest", "()V"⟩,
  Cond.methodLink "NativeWorksModel" 1 ⟨"java/lang/Object", "<init>", "()V"⟩,
  Cond.constant "NativeWorksModel" 9 65536,
  Cond.fieldLink "NativeWorksModel" 10 "NativeWorksModel" "tape" "[B",
  Cond.fieldLink "NativeWorksModel" 28 "NativeWorksModel" "symbolUnit" "[I",
  Cond.fieldLink "NativeWorksModel" 31 "NativeWorksModel" "isLibrary" "[Z",
  Cond.fieldLink "NativeWorksModel" 35 "NativeWorksModel" "firstItem" "[I",
  Cond.fieldLink "NativeWorksModel" 38 "NativeWorksModel" "firstSymbol" "[I",
  Cond.fieldLink "NativeWorksModel" 41 "NativeWorksModel" "firstWait" "[I",
  Cond.fieldLink "NativeWorksModel" 44 "NativeWorksModel" "sectionSize" "[I",
  Cond.fieldLink "NativeWorksModel" 47 "NativeWorksModel" "kept" "[Z",
  Cond.fieldLink "NativeWorksModel" 50 "NativeWorksModel" "faultUnit" "I",
  Cond.constant "NativeWorksModel" 54 129024,
  Cond.fieldLink "NativeWorksModel" 55 "NativeWorksModel" "pool" "[B",
  Cond.fieldLink "NativeWorksModel" 58 "NativeWorksModel" "nameAt" "[I",
  Cond.fieldLink "NativeWorksModel" 61 "NativeWorksModel" "nameLength" "[I",
  Cond.fieldLink "NativeWorksModel" 64 "NativeWorksModel" "nameSum" "[J",
  Cond.fieldLink "NativeWorksModel" 67 "NativeWorksModel" "labelItem" "[I",
  Cond.fieldLink "NativeWorksModel" 70 "NativeWorksModel" "isConstant" "[Z",
  Cond.fieldLink "NativeWorksModel" 73 "NativeWorksModel" "isUsed" "[Z",
  Cond.fieldLink "NativeWorksModel" 76 "NativeWorksModel" "isGlobal" "[Z",
  Cond.fieldLink "NativeWorksModel" 79 "NativeWorksModel" "isWeak" "[Z",
  Cond.fieldLink "NativeWorksModel" 82 "NativeWorksModel" "constant" "[J",
  Cond.fieldLink "NativeWorksModel" 85 "NativeWorksModel" "itemKind" "[B",
  Cond.fieldLink "NativeWorksModel" 88 "NativeWorksModel" "itemSection" "[B",
  Cond.fieldLink "NativeWorksModel" 91 "NativeWorksModel" "itemLine" "[I",
  Cond.fieldLink "NativeWorksModel" 94 "NativeWorksModel" "itemSize" "[I",
  Cond.fieldLink "NativeWorksModel" 97 "NativeWorksModel" "itemOffset" "[I",
  Cond.fieldLink "NativeWorksModel" 100 "NativeWorksModel" "itemData" "[I",
  Cond.fieldLink "NativeWorksModel" 103 "NativeWorksModel" "itemShape" "[J",
  Cond.fieldLink "NativeWorksModel" 106 "NativeWorksModel" "itemDisplacement" "[I",
  Cond.fieldLink "NativeWorksModel" 109 "NativeWorksModel" "itemNumbe\x72" "[J"]
def rB10 : List Cond := [Cond.constant "NativeWorksModel" 112 132172,
  Cond.fieldLink "NativeWorksModel" 113 "NativeWorksModel" "data" "[B",
  Cond.fieldLink "NativeWorksModel" 116 "NativeWorksModel" "waitItem" "[I",
  Cond.fieldLink "NativeWorksModel" 119 "NativeWorksModel" "waitAt" "[I",
  Cond.fieldLink "NativeWorksModel" 122 "NativeWorksModel" "waitPlus" "[I",
  Cond.fieldLink "NativeWorksModel" 125 "NativeWorksModel" "waitMinus" "[I",
  Cond.fieldLink "NativeWorksModel" 128 "NativeWorksModel" "waitSize" "[B",
  Cond.fieldLink "NativeWorksModel" 131 "NativeWorksModel" "waitWhat" "[B",
  Cond.fieldLink "NativeWorksModel" 134 "NativeWorksModel" "waitConstant" "[J",
  Cond.fieldLink "NativeWorksModel" 137 "NativeWorksModel" "line" "[B",
  Cond.fieldLink "NativeWorksModel" 140 "NativeWorksModel" "frameKind" "[I",
  Cond.fieldLink "NativeWorksModel" 143 "NativeWorksModel" "frameStop" "[I",
  Cond.fieldLink "NativeWorksModel" 146 "NativeWorksModel" "frameStopLine" "[I",
  Cond.fieldLink "NativeWorksModel" 149 "NativeWorksModel" "frameBody" "[I",
  Cond.fieldLink "NativeWorksModel" 152 "NativeWorksModel" "frameBodyLine" "[I",
  Cond.fieldLink "NativeWorksModel" 155 "NativeWorksModel" "frameLeft" "[I",
  Cond.fieldLink "NativeWorksModel" 158 "NativeWorksModel" "frameOwn" "[I",
  Cond.fieldLink "NativeWorksModel" 161 "NativeWorksModel" "frameMacro" "[I",
  Cond.fieldLink "NativeWorksModel" 164 "NativeWorksModel" "frameNumbe\x72" "[I",
  Cond.fieldLink "NativeWorksModel" 167 "NativeWorksModel" "frameElse" "[Z",
  Cond.classLink "NativeWorksModel" 170 "[[B",
  Cond.fieldLink "NativeWorksModel" 172 "NativeWorksModel" "argument" "[[B",
  Cond.classLink "NativeWorksModel" 175 "[[I",
  Cond.fieldLink "NativeWorksModel" 177 "NativeWorksModel" "argumentAt" "[[I",
  Cond.fieldLink "NativeWorksModel" 180 "NativeWorksModel" "arguments" "[I",
  Cond.fieldLink "NativeWorksModel" 183 "NativeWorksModel" "macroName" "[I",
  Cond.fieldLink "NativeWorksModel" 186 "NativeWorksModel" "macroLength" "[I",
  Cond.fieldLink "NativeWorksModel" 189 "NativeWorksModel" "macroParameters" "[I",
  Cond.fieldLink "NativeWorksModel" 192 "NativeWorksModel" "macroBody" "[I",
  Cond.fieldLink "NativeWorksModel" 195 "NativeWorksModel" "macroBodyLine" "[I",
  Cond.fieldLink "NativeWorksModel" 198 "NativeWorksModel" "macroEnd" "[I",
  Cond.fieldLink "NativeWorksModel" 201 "NativeWorksModel" "macroEndLine" "[I",
  Cond.fieldLink "NativeWorksModel" 204 "NativeWorksModel" "token" "[I",
  Cond.fieldLink "NativeWorksModel" 207 "NativeWorksModel" "tokenStart" "[I",
  Cond.fieldLink "NativeWorksModel" 210 "NativeWorksModel" "tokenLength" "[I",
  Cond.fieldLink "NativeWorksModel" 213 "NativeWorksModel" "tokenValue" "[J",
  Cond.fieldLink "NativeWorksModel" 216 "NativeWorksModel" "name" "[B",
  Cond.fieldLink "NativeWorksModel" 219 "NativeWorksModel" "value" "[J",
  Cond.fieldLink "NativeWorksModel" 222 "NativeWorksModel" "plus" "[I",
  Cond.fieldLink "NativeWorksModel" 225 "NativeWorksModel" "minus" "[I",
  Cond.fieldLink "NativeWorksModel" 228 "NativeWorksModel" "operato\x72" "[I",
  Cond.fieldLink "NativeWorksModel" 231 "NativeWorksModel" "piece" "[I",
  Cond.fieldLink "NativeWorksModel" 234 "NativeWorksModel" "spanPlus" "[I",
  Cond.fieldLink "NativeWorksModel" 237 "NativeWorksModel" "spanMinus" "[I",
  Cond.fieldLink "NativeWorksModel" 240 "NativeWorksModel" "spanLine" "[I",
  Cond.fieldLink "NativeWorksModel" 243 "NativeWorksModel" "kind" "[I",
  Cond.fieldLink "NativeWorksModel" 246 "NativeWorksModel" "registe\x72" "[I",
  Cond.fieldLink "NativeWorksModel" 249 "NativeWorksModel" "told" "[I"]
def rB11 : List Cond := [Cond.fieldLink "NativeWorksModel" 252 "NativeWorksModel" "from" "[I",
  Cond.fieldLink "NativeWorksModel" 255 "NativeWorksModel" "to" "[I",
  Cond.fieldLink "NativeWorksModel" 279 "NativeWorksModel" "best" "[B",
  Cond.fieldLink "NativeWorksModel" 282 "NativeWorksModel" "trial" "[B",
  Cond.fieldLink "NativeWorksModel" 285 "NativeWorksModel" "termRegiste\x72" "[I",
  Cond.fieldLink "NativeWorksModel" 288 "NativeWorksModel" "termScale" "[I",
  Cond.classLink "NativeWorksModel" 291 "NativeWorksModel$Code",
  Cond.instantiable "NativeWorksModel$Code" 13,
  Cond.initialized "NativeWorksModel$Code",
  Cond.code ⟨"NativeWorksModel$Code", "<init>", "()V"⟩ prog_15_method_1_code 1 (Option.none : Option FieldType),
  Cond.instanceMethod ⟨"NativeWorksModel$Code", "<init>", "()V"⟩,
  Cond.fieldLink "NativeWorksModel" 294 "NativeWorksModel" "image" "LNativeWorksModel$Code;",
  Cond.fieldLink "NativeWorksModel" 298 "NativeWorksModel" "code" "LNativeWorksModel$Code;",
  Cond.constant "NativeWorksModel" 301 131072,
  Cond.fieldLink "NativeWorksModel" 302 "NativeWorksModel" "imageBytes" "[B",
  Cond.fieldLink "NativeWorksModel" 305 "NativeWorksModel" "taken" "[Z",
  Cond.fieldLink "NativeWorksModel" 308 "NativeWorksModel" "needed" "[Z",
  Cond.fieldLink "NativeWorksModel" 311 "NativeWorksModel" "addressOf" "[I",
  Cond.fieldLink "NativeWorksModel" 314 "NativeWorksModel" "imagePool" "[B",
  Cond.fieldLink "NativeWorksModel" 317 "NativeWorksModel" "imageNameAt" "[I",
  Cond.fieldLink "NativeWorksModel" 320 "NativeWorksModel" "imageNameLength" "[I",
  Cond.fieldLink "NativeWorksModel" 323 "NativeWorksModel" "imageNameAddress" "[I",
  Cond.fieldLink "NativeWorksModel" 326 "NativeWorksModel" "memory" "[B",
  Cond.fieldLink "NativeWorksModel" 329 "NativeWorksModel" "heap" "[B",
  Cond.fieldLink "NativeWorksModel" 332 "NativeWorksModel" "stack" "[B",
  Cond.fieldLink "NativeWorksModel" 335 "NativeWorksModel" "given" "[B",
  Cond.fieldLink "NativeWorksModel" 338 "NativeWorksModel" "shown" "[B",
  Cond.fieldLink "NativeWorksModel" 341 "NativeWorksModel" "registers0" "[J",
  Cond.fieldLink "NativeWorksModel" 344 "NativeWorksModel" "kept0" "[J",
  Cond.fieldLink "NativeWorksModel" 347 "NativeWorksModel" "places" "[J",
  Cond.code ⟨"NativeWorksModel", "wordsOf", "(Ljava/lang/String;I)V"⟩ prog_14_method_3_code 6 (Option.none : Option FieldType),
  Cond.methodLink "NativeWorksModel" 352 ⟨"NativeWorksModel", "wordsOf", "(Ljava/lang/String;I)V"⟩,
  Cond.instanceMethod ⟨"NativeWorksModel", "wordsOf", "(Ljava/lang/String;I)V"⟩,
  Cond.selects "NativeWorksModel" ⟨"NativeWorksModel", "wordsOf", "(Ljava/lang/String;I)V"⟩ ⟨"NativeWorksModel", "wordsOf", "(Ljava/lang/String;I)V"⟩,
  Cond.code ⟨"NativeWorksModel", "conditions", "(Ljava/lang/String;I)V"⟩ prog_14_method_5_code 5 (Option.none : Option FieldType),
  Cond.methodLink "NativeWorksModel" 360 ⟨"NativeWorksModel", "conditions", "(Ljava/lang/String;I)V"⟩,
  Cond.instanceMethod ⟨"NativeWorksModel", "conditions", "(Ljava/lang/String;I)V"⟩,
  Cond.selects "NativeWorksModel" ⟨"NativeWorksModel", "conditions", "(Ljava/lang/String;I)V"⟩ ⟨"NativeWorksModel", "conditions", "(Ljava/lang/String;I)V"⟩,
  Cond.constant "NativeWorksModel" 369 262181,
  Cond.constant "NativeWorksModel" 375 524325,
  Cond.constant "NativeWorksModel" 378 262182,
  Cond.constant "NativeWorksModel" 381 524326,
  Cond.constant "NativeWorksModel" 386 65586,
  Cond.constant "NativeWorksModel" 389 262194,
  Cond.constant "NativeWorksModel" 392 524338,
  Cond.constant "NativeWorksModel" 395 65587,
  Cond.constant "NativeWorksModel" 398 262195,
  Cond.constant "NativeWorksModel" 401 524339]
def rB12 : List Cond := [Cond.code ⟨"NativeWorksModel", "registerNames", "()V"⟩ prog_14_method_8_code 5 (Option.none : Option FieldType),
  Cond.methodLink "NativeWorksModel" 414 ⟨"NativeWorksModel", "registerNames", "()V"⟩,
  Cond.instanceMethod ⟨"NativeWorksModel", "registerNames", "()V"⟩,
  Cond.selects "NativeWorksModel" ⟨"NativeWorksModel", "registerNames", "()V"⟩ ⟨"NativeWorksModel", "registerNames", "()V"⟩,
  Cond.fieldLink "NativeWorksModel" 423 "NativeWorksModel" "textWord" "J",
  Cond.fieldLink "NativeWorksModel" 429 "NativeWorksModel" "rodataWord" "J",
  Cond.fieldLink "NativeWorksModel" 433 "NativeWorksModel" "dataWord" "J",
  Cond.fieldLink "NativeWorksModel" 438 "NativeWorksModel" "bssWord" "J",
  Cond.fieldLink "NativeWorksModel" 441 "NativeWorksModel" "byteWord" "J",
  Cond.fieldLink "NativeWorksModel" 444 "NativeWorksModel" "dwordWord" "J",
  Cond.fieldLink "NativeWorksModel" 447 "NativeWorksModel" "qwordWord" "J",
  Cond.fieldLink "NativeWorksModel" 450 "NativeWorksModel" "relWord" "J",
  Cond.fieldLink "NativeWorksModel" 453 "NativeWorksModel" "equWord" "J",
  Cond.fieldLink "NativeWorksModel" 458 "NativeWorksModel" "repWord" "J",
  Cond.fieldLink "NativeWorksModel" 463 "NativeWorksModel" "startWord" "J",
  Cond.code ⟨"NativeWorksModel", "fillTable", "()V"⟩ prog_14_method_103_code 3 (Option.none : Option FieldType),
  Cond.methodLink "NativeWorksModel" 466 ⟨"NativeWorksModel", "fillTable", "()V"⟩,
  Cond.instanceMethod ⟨"NativeWorksModel", "fillTable", "()V"⟩,
  Cond.selects "NativeWorksModel" ⟨"NativeWorksModel", "fillTable", "()V"⟩ ⟨"NativeWorksModel", "fillTable", "()V"⟩,
  Cond.code ⟨"NativeWorks", "append", "(I)V"⟩ prog_1_method_21_code 3 (Option.none : Option FieldType),
  Cond.methodLink "NativeWorks" 59 ⟨"NativeWorks", "append", "(I)V"⟩,
  Cond.instanceMethod ⟨"NativeWorks", "append", "(I)V"⟩,
  Cond.selects "NativeWorks" ⟨"NativeWorks", "append", "(I)V"⟩ ⟨"NativeWorks", "append", "(I)V"⟩,
  Cond.initialized "NativeWorks",
  Cond.methodLink "NativeWorks" 224 ⟨"java/lang/Math", "min", "(II)I"⟩,
  Cond.methodLink "NativeWorks" 230 ⟨"java/lang/Math", "max", "(II)I"⟩,
  Cond.static ⟨"java/lang/Math", "max", "(II)I"⟩,
  Cond.code ⟨"java/lang/Math", "max", "(II)I"⟩ prog_27_method_65_code 2 (Option.some FieldType.int),
  Cond.fieldLink "NativeWorks$Units" 57 "NativeWorks$Units" "count" "I",
  Cond.methodLink "NativeWorks$Units" 77 ⟨"java/util/Arrays", "fill", "([II)V"⟩,
  Cond.fieldLink "NativeWorks$Units" 83 "NativeWorks$Names" "count" "I",
  Cond.fieldLink "NativeWorks$Units" 65 "NativeWorks$Units" "statementCount" "I",
  Cond.fieldLink "NativeWorks$Units" 68 "NativeWorks$Units" "waitCount" "I",
  Cond.fieldLink "NativeWorks$Units" 84 "NativeWorks$Units" "symbolsFrom" "I",
  Cond.fieldLink "NativeWorks$Units" 87 "NativeWorks$Units" "labelCount" "I",
  Cond.fieldLink "NativeWorks$Units" 90 "NativeWorks$Units" "putCount" "I",
  Cond.code ⟨"NativeWorks$Names", "cut", "(I)V"⟩ prog_9_method_4_code 2 (Option.none : Option FieldType),
  Cond.methodLink "NativeWorks$Source" 66 ⟨"NativeWorks$Names", "cut", "(I)V"⟩,
  Cond.instanceMethod ⟨"NativeWorks$Names", "cut", "(I)V"⟩,
  Cond.selects "NativeWorks$Names" ⟨"NativeWorks$Names", "cut", "(I)V"⟩ ⟨"NativeWorks$Names", "cut", "(I)V"⟩,
  Cond.code ⟨"NativeWorks$Source", "match", "()V"⟩ prog_11_method_4_code 5 (Option.none : Option FieldType),
  Cond.methodLink "NativeWorks$Source" 74 ⟨"NativeWorks$Source", "match", "()V"⟩,
  Cond.instanceMethod ⟨"NativeWorks$Source", "match", "()V"⟩,
  Cond.selects "NativeWorks$Source" ⟨"NativeWorks$Source", "match", "()V"⟩ ⟨"NativeWorks$Source", "match", "()V"⟩,
  Cond.code ⟨"NativeWorks$Source", "split", "(I)V"⟩ prog_11_method_2_code 3 (Option.none : Option FieldType),
  Cond.methodLink "NativeWorks$Reade\x72" 60 ⟨"NativeWorks$Source", "split", "(I)V"⟩,
  Cond.instanceMethod ⟨"NativeWorks$Source", "split", "(I)V"⟩,
  Cond.selects "NativeWorks$Source" ⟨"NativeWorks$Source", "split", "(I)V"⟩ ⟨"NativeWorks$Source", "split", "(I)V"⟩]
def rB13 : List Cond := [Cond.fieldLink "NativeWorks$Reade\x72" 66 "NativeWorks$Reade\x72" "depth" "I",
  Cond.fieldLink "NativeWorks$Reade\x72" 70 "NativeWorks$Source" "lines" "I",
  Cond.fieldLink "NativeWorks$Reade\x72" 73 "NativeWorks$Reade\x72" "ifs" "I",
  Cond.fieldLink "NativeWorks$Reade\x72" 76 "NativeWorks$Reade\x72" "told" "I",
  Cond.fieldLink "NativeWorks$Reade\x72" 79 "NativeWorks$Reade\x72" "read" "I",
  Cond.fieldLink "NativeWorks$Reade\x72" 82 "NativeWorks$Reade\x72" "used" "I",
  Cond.fieldLink "NativeWorks$Reade\x72" 85 "NativeWorks$Reade\x72" "unended" "Z",
  Cond.constant "NativeWorks$Reade\x72" 89 1000000,
  Cond.code ⟨"NativeWorks$Units", "place", "()V"⟩ prog_12_method_17_code 5 (Option.none : Option FieldType),
  Cond.methodLink "NativeWorks$Units" 103 ⟨"NativeWorks$Units", "place", "()V"⟩,
  Cond.instanceMethod ⟨"NativeWorks$Units", "place", "()V"⟩,
  Cond.selects "NativeWorks$Units" ⟨"NativeWorks$Units", "place", "()V"⟩ ⟨"NativeWorks$Units", "place", "()V"⟩,
  Cond.code ⟨"NativeWorks$Units", "lengthen", "()Z"⟩ prog_12_method_18_code 6 (Option.some FieldType.boolean),
  Cond.methodLink "NativeWorks$Units" 106 ⟨"NativeWorks$Units", "lengthen", "()Z"⟩,
  Cond.instanceMethod ⟨"NativeWorks$Units", "lengthen", "()Z"⟩,
  Cond.selects "NativeWorks$Units" ⟨"NativeWorks$Units", "lengthen", "()Z"⟩ ⟨"NativeWorks$Units", "lengthen", "()Z"⟩,
  Cond.code ⟨"NativeWorks$Units", "settleWaits", "()V"⟩ prog_12_method_20_code 4 (Option.none : Option FieldType),
  Cond.methodLink "NativeWorks$Units" 110 ⟨"NativeWorks$Units", "settleWaits", "()V"⟩,
  Cond.instanceMethod ⟨"NativeWorks$Units", "settleWaits", "()V"⟩,
  Cond.selects "NativeWorks$Units" ⟨"NativeWorks$Units", "settleWaits", "()V"⟩ ⟨"NativeWorks$Units", "settleWaits", "()V"⟩,
  Cond.code ⟨"java/util/Arrays", "rangeCheck", "(III)V"⟩ prog_38_method_30_code 3 (Option.none : Option FieldType),
  Cond.methodLink "java/util/Arrays" 13 ⟨"java/util/Arrays", "rangeCheck", "(III)V"⟩,
  Cond.static ⟨"java/util/Arrays", "rangeCheck", "(III)V"⟩,
  Cond.fieldLink "NativeWorks$Units" 71 "NativeWorks$Units" "byteCount" "I",
  Cond.code ⟨"java/util/Arrays", "fill", "([BIIB)V"⟩ prog_38_method_110_code 5 (Option.none : Option FieldType),
  Cond.methodLink "NativeWorks$Units" 125 ⟨"java/util/Arrays", "fill", "([BIIB)V"⟩,
  Cond.static ⟨"java/util/Arrays", "fill", "([BIIB)V"⟩,
  Cond.fieldLink "NativeWorks$Assemble\x72" 122 "NativeWorks$Reade\x72" "source" "LNativeWorks$Source;",
  Cond.fieldLink "NativeWorks$Assemble\x72" 126 "NativeWorks$Source" "lines" "I",
  Cond.fieldLink "NativeWorks$Assemble\x72" 129 "NativeWorks$Reade\x72" "unended" "Z",
  Cond.fieldLink "NativeWorks$Assemble\x72" 133 "NativeWorks$Reade\x72" "ifs" "I",
  Cond.code ⟨"NativeWorks$Units", "brokenSpan", "()I"⟩ prog_12_method_12_code 5 (Option.some FieldType.int),
  Cond.methodLink "NativeWorks$Assemble\x72" 136 ⟨"NativeWorks$Units", "brokenSpan", "()I"⟩,
  Cond.instanceMethod ⟨"NativeWorks$Units", "brokenSpan", "()I"⟩,
  Cond.selects "NativeWorks$Units" ⟨"NativeWorks$Units", "brokenSpan", "()I"⟩ ⟨"NativeWorks$Units", "brokenSpan", "()I"⟩,
  Cond.code ⟨"NativeWorks$Units", "layOut", "()V"⟩ prog_12_method_15_code 3 (Option.none : Option FieldType),
  Cond.methodLink "NativeWorks$Assemble\x72" 139 ⟨"NativeWorks$Units", "layOut", "()V"⟩,
  Cond.instanceMethod ⟨"NativeWorks$Units", "layOut", "()V"⟩,
  Cond.selects "NativeWorks$Units" ⟨"NativeWorks$Units", "layOut", "()V"⟩ ⟨"NativeWorks$Units", "layOut", "()V"⟩,
  Cond.code ⟨"NativeWorks$Units", "overlong", "()I"⟩ prog_12_method_21_code 2 (Option.some FieldType.int),
  Cond.methodLink "NativeWorks$Assemble\x72" 142 ⟨"NativeWorks$Units", "overlong", "()I"⟩,
  Cond.instanceMethod ⟨"NativeWorks$Units", "overlong", "()I"⟩,
  Cond.selects "NativeWorks$Units" ⟨"NativeWorks$Units", "overlong", "()I"⟩ ⟨"NativeWorks$Units", "overlong", "()I"⟩,
  Cond.code ⟨"NativeWorks$Units", "write", "()Z"⟩ prog_12_method_22_code 5 (Option.some FieldType.boolean),
  Cond.methodLink "NativeWorks$Assemble\x72" 145 ⟨"NativeWorks$Units", "write", "()Z"⟩,
  Cond.instanceMethod ⟨"NativeWorks$Units", "write", "()Z"⟩,
  Cond.selects "NativeWorks$Units" ⟨"NativeWorks$Units", "write", "()Z"⟩ ⟨"NativeWorks$Units", "write", "()Z"⟩,
  Cond.code ⟨"NativeWorks$Units", "keepAll", "()V"⟩ prog_12_method_6_code 2 (Option.none : Option FieldType)]
def rB14 : List Cond := [Cond.methodLink "NativeWorks$Assemble\x72" 148 ⟨"NativeWorks$Units", "keepAll", "()V"⟩,
  Cond.instanceMethod ⟨"NativeWorks$Units", "keepAll", "()V"⟩,
  Cond.selects "NativeWorks$Units" ⟨"NativeWorks$Units", "keepAll", "()V"⟩ ⟨"NativeWorks$Units", "keepAll", "()V"⟩,
  Cond.code ⟨"NativeWorks$Units", "begin", "(Z)V"⟩ prog_12_method_4_code 3 (Option.none : Option FieldType),
  Cond.methodLink "NativeWorks$Assemble\x72" 60 ⟨"NativeWorks$Units", "begin", "(Z)V"⟩,
  Cond.instanceMethod ⟨"NativeWorks$Units", "begin", "(Z)V"⟩,
  Cond.selects "NativeWorks$Units" ⟨"NativeWorks$Units", "begin", "(Z)V"⟩ ⟨"NativeWorks$Units", "begin", "(Z)V"⟩,
  Cond.code ⟨"NativeWorks$Reade\x72", "open", "(I)V"⟩ prog_10_method_2_code 2 (Option.none : Option FieldType),
  Cond.methodLink "NativeWorks$Assemble\x72" 66 ⟨"NativeWorks$Reade\x72", "open", "(I)V"⟩,
  Cond.instanceMethod ⟨"NativeWorks$Reade\x72", "open", "(I)V"⟩,
  Cond.selects "NativeWorks$Reade\x72" ⟨"NativeWorks$Reade\x72", "open", "(I)V"⟩ ⟨"NativeWorks$Reade\x72", "open", "(I)V"⟩,
  Cond.fieldLink "NativeWorks$Assemble\x72" 70 "NativeWorks$Expression" "latestLength" "I",
  Cond.fieldLink "NativeWorks$Assemble\x72" 74 "NativeWorks$Assemble\x72" "section" "I",
  Cond.constant "NativeWorks$Assemble\x72" 77 65536,
  Cond.code ⟨"NativeWorks$Reade\x72", "advance", "()Z"⟩ prog_10_method_3_code 2 (Option.some FieldType.boolean),
  Cond.methodLink "NativeWorks$Assemble\x72" 78 ⟨"NativeWorks$Reade\x72", "advance", "()Z"⟩,
  Cond.instanceMethod ⟨"NativeWorks$Reade\x72", "advance", "()Z"⟩,
  Cond.selects "NativeWorks$Reade\x72" ⟨"NativeWorks$Reade\x72", "advance", "()Z"⟩ ⟨"NativeWorks$Reade\x72", "advance", "()Z"⟩,
  Cond.code ⟨"NativeWorks$Assemble\x72", "finish", "()I"⟩ prog_2_method_4_code 4 (Option.some FieldType.int),
  Cond.methodLink "NativeWorks$Assemble\x72" 113 ⟨"NativeWorks$Assemble\x72", "finish", "()I"⟩,
  Cond.instanceMethod ⟨"NativeWorks$Assemble\x72", "finish", "()I"⟩,
  Cond.selects "NativeWorks$Assemble\x72" ⟨"NativeWorks$Assemble\x72", "finish", "()I"⟩ ⟨"NativeWorks$Assemble\x72", "finish", "()I"⟩,
  Cond.code ⟨"NativeWorks", "emptied", "(I)I"⟩ prog_1_method_22_code 3 (Option.some FieldType.int),
  Cond.methodLink "NativeWorks" 63 ⟨"NativeWorks", "emptied", "(I)I"⟩,
  Cond.instanceMethod ⟨"NativeWorks", "emptied", "(I)I"⟩,
  Cond.selects "NativeWorks" ⟨"NativeWorks", "emptied", "(I)I"⟩ ⟨"NativeWorks", "emptied", "(I)I"⟩,
  Cond.fieldLink "NativeWorks" 67 "NativeWorks$Units" "count" "I",
  Cond.code ⟨"NativeWorks$Assemble\x72", "assemble", "(IZ)I"⟩ prog_2_method_2_code 4 (Option.some FieldType.int),
  Cond.methodLink "NativeWorks" 81 ⟨"NativeWorks$Assemble\x72", "assemble", "(IZ)I"⟩,
  Cond.instanceMethod ⟨"NativeWorks$Assemble\x72", "assemble", "(IZ)I"⟩,
  Cond.selects "NativeWorks$Assemble\x72" ⟨"NativeWorks$Assemble\x72", "assemble", "(IZ)I"⟩ ⟨"NativeWorks$Assemble\x72", "assemble", "(IZ)I"⟩,
  Cond.code ⟨"NativeWorks", "tell", "(III)V"⟩ prog_1_method_23_code 4 (Option.none : Option FieldType),
  Cond.methodLink "NativeWorks" 70 ⟨"NativeWorks", "tell", "(III)V"⟩,
  Cond.instanceMethod ⟨"NativeWorks", "tell", "(III)V"⟩,
  Cond.selects "NativeWorks" ⟨"NativeWorks", "tell", "(III)V"⟩ ⟨"NativeWorks", "tell", "(III)V"⟩,
  Cond.methodLink "NativeWorks$Units" 61 ⟨"NativeWorks$Names", "cut", "(I)V"⟩,
  Cond.fieldLink "NativeWorks$Units" 74 "NativeWorks$Units" "counted" "I",
  Cond.code ⟨"NativeWorks$Units", "empty", "()V"⟩ prog_12_method_3_code 1 (Option.none : Option FieldType),
  Cond.methodLink "NativeWorks" 88 ⟨"NativeWorks$Units", "empty", "()V"⟩,
  Cond.instanceMethod ⟨"NativeWorks$Units", "empty", "()V"⟩,
  Cond.selects "NativeWorks$Units" ⟨"NativeWorks$Units", "empty", "()V"⟩ ⟨"NativeWorks$Units", "empty", "()V"⟩,
  Cond.code ⟨"NativeWorks$Units", "has", "(II)Z"⟩ prog_12_method_2_code 3 (Option.some FieldType.boolean),
  Cond.methodLink "NativeWorks" 91 ⟨"NativeWorks$Units", "has", "(II)Z"⟩,
  Cond.instanceMethod ⟨"NativeWorks$Units", "has", "(II)Z"⟩,
  Cond.selects "NativeWorks$Units" ⟨"NativeWorks$Units", "has", "(II)Z"⟩ ⟨"NativeWorks$Units", "has", "(II)Z"⟩,
  Cond.fieldLink "NativeWorks$Linke\x72" 133 "NativeWorks$Linke\x72" "faultKind" "I",
  Cond.fieldLink "NativeWorks$Linke\x72" 136 "NativeWorks$Linke\x72" "faultLine" "I",
  Cond.fieldLink "NativeWorks$Linke\x72" 139 "NativeWorks$Linke\x72" "faultUnit" "I"]
def rB15 : List Cond := [Cond.fieldLink "NativeWorks$Linke\x72" 154 "NativeWorks$Units" "count" "I",
  Cond.code ⟨"NativeWorks$Linke\x72", "tell", "(III)V"⟩ prog_6_method_3_code 4 (Option.none : Option FieldType),
  Cond.methodLink "NativeWorks$Linke\x72" 65 ⟨"NativeWorks$Linke\x72", "tell", "(III)V"⟩,
  Cond.instanceMethod ⟨"NativeWorks$Linke\x72", "tell", "(III)V"⟩,
  Cond.selects "NativeWorks$Linke\x72" ⟨"NativeWorks$Linke\x72", "tell", "(III)V"⟩ ⟨"NativeWorks$Linke\x72", "tell", "(III)V"⟩,
  Cond.code ⟨"NativeWorks$Linke\x72", "takeUnits", "()V"⟩ prog_6_method_9_code 3 (Option.none : Option FieldType),
  Cond.methodLink "NativeWorks$Linke\x72" 69 ⟨"NativeWorks$Linke\x72", "takeUnits", "()V"⟩,
  Cond.instanceMethod ⟨"NativeWorks$Linke\x72", "takeUnits", "()V"⟩,
  Cond.selects "NativeWorks$Linke\x72" ⟨"NativeWorks$Linke\x72", "takeUnits", "()V"⟩ ⟨"NativeWorks$Linke\x72", "takeUnits", "()V"⟩,
  Cond.fieldLink "NativeWorks$Linke\x72" 72 "NativeWorks$Units" "names" "LNativeWorks$Names;",
  Cond.fieldLink "NativeWorks$Linke\x72" 73 "NativeWorks$Linke\x72" "START" "[B",
  Cond.fieldLink "NativeWorks$Linke\x72" 76 "NativeWorks$Names" "count" "I",
  Cond.code ⟨"NativeWorks$Names", "find", "([BIII)I"⟩ prog_9_method_2_code 9 (Option.some FieldType.int),
  Cond.methodLink "NativeWorks$Linke\x72" 80 ⟨"NativeWorks$Names", "find", "([BIII)I"⟩,
  Cond.instanceMethod ⟨"NativeWorks$Names", "find", "([BIII)I"⟩,
  Cond.selects "NativeWorks$Names" ⟨"NativeWorks$Names", "find", "([BIII)I"⟩ ⟨"NativeWorks$Names", "find", "([BIII)I"⟩,
  Cond.code ⟨"NativeWorks$Linke\x72", "make", "()Z"⟩ prog_6_method_2_code 4 (Option.some FieldType.boolean),
  Cond.methodLink "NativeWorks" 102 ⟨"NativeWorks$Linke\x72", "make", "()Z"⟩,
  Cond.instanceMethod ⟨"NativeWorks$Linke\x72", "make", "()Z"⟩,
  Cond.selects "NativeWorks$Linke\x72" ⟨"NativeWorks$Linke\x72", "make", "()Z"⟩ ⟨"NativeWorks$Linke\x72", "make", "()Z"⟩,
  Cond.fieldLink "NativeWorks" 106 "NativeWorks$Linke\x72" "faultKind" "I",
  Cond.fieldLink "NativeWorks" 107 "NativeWorks$Linke\x72" "faultLine" "I",
  Cond.fieldLink "NativeWorks" 108 "NativeWorks$Linke\x72" "faultUnit" "I",
  Cond.classLink "NativeWorks" 109 "java/lang/IllegalStateException",
  Cond.initialized "java/lang/IllegalStateException",
  Cond.fieldLink "NativeWorks" 117 "NativeWorks$Linke\x72" "names" "LNativeWorks$Names;",
  Cond.fieldLink "NativeWorks" 121 "NativeWorks$Names" "count" "I",
  Cond.methodLink "NativeWorks" 124 ⟨"NativeWorks$Names", "find", "([BIII)I"⟩,
  Cond.classLink "NativeWorks" 128 "java/util/NoSuchElementException",
  Cond.initialized "java/util/NoSuchElementException",
  Cond.fieldLink "NativeWorks" 137 "NativeWorks$Linke\x72" "made" "Z",
  Cond.fieldLink "NativeWorks$Machine" 64 "NativeWorks$Machine" "waiting" "I",
  Cond.methodLink "NativeWorks$Machine" 79 ⟨"java/lang/Math", "min", "(II)I"⟩,
  Cond.methodLink "NativeWorks$Machine" 85 ⟨"java/lang/System", "arraycopy", "(Ljava/lang/Object;ILjava/lang/Object;II)V"⟩,
  Cond.code ⟨"NativeWorks$Machine", "take", "([BI)I"⟩ prog_7_method_4_code 4 (Option.some FieldType.int),
  Cond.methodLink "NativeWorks" 150 ⟨"NativeWorks$Machine", "take", "([BI)I"⟩,
  Cond.instanceMethod ⟨"NativeWorks$Machine", "take", "([BI)I"⟩,
  Cond.selects "NativeWorks$Machine" ⟨"NativeWorks$Machine", "take", "([BI)I"⟩ ⟨"NativeWorks$Machine", "take", "([BI)I"⟩,
  Cond.classLink "NativeWorks" 74 "java/lang/IllegalArgumentException",
  Cond.initialized "java/lang/IllegalArgumentException",
  Cond.fieldLink "NativeWorks" 156 "NativeWorks$Machine" "memory" "LNativeWorks$Memory;",
  Cond.fieldLink "NativeWorks" 160 "NativeWorks$Memory" "loaded" "Z",
  Cond.fieldLink "NativeWorks" 165 "NativeWorks$Machine" "stop" "I",
  Cond.fieldLink "NativeWorks" 173 "NativeWorks$Machine" "stopValue" "J",
  Cond.fieldLink "NativeWorks$Machine" 61 "NativeWorks$Machine" "flags" "I",
  Cond.fieldLink "NativeWorks" 177 "NativeWorks$Machine" "\x72" "[J",
  Cond.fieldLink "NativeWorks" 180 "NativeWorks$Machine" "ip" "J",
  Cond.code ⟨"NativeWorks$Machine", "told", "()I"⟩ prog_7_method_3_code 1 (Option.some FieldType.int)]
def rB16 : List Cond := [Cond.methodLink "NativeWorks" 183 ⟨"NativeWorks$Machine", "told", "()I"⟩,
  Cond.instanceMethod ⟨"NativeWorks$Machine", "told", "()I"⟩,
  Cond.selects "NativeWorks$Machine" ⟨"NativeWorks$Machine", "told", "()I"⟩ ⟨"NativeWorks$Machine", "told", "()I"⟩,
  Cond.fieldLink "NativeWorks" 187 "NativeWorks$Memory" "end" "J",
  Cond.fieldLink "NativeWorks" 190 "NativeWorks$Machine" "steps" "I",
  Cond.code ⟨"NativeWorks$Memory", "may", "(JJZ)Z"⟩ prog_8_method_4_code 13 (Option.some FieldType.boolean),
  Cond.methodLink "NativeWorks" 193 ⟨"NativeWorks$Memory", "may", "(JJZ)Z"⟩,
  Cond.instanceMethod ⟨"NativeWorks$Memory", "may", "(JJZ)Z"⟩,
  Cond.selects "NativeWorks$Memory" ⟨"NativeWorks$Memory", "may", "(JJZ)Z"⟩ ⟨"NativeWorks$Memory", "may", "(JJZ)Z"⟩,
  Cond.fieldLink "NativeWorks$Machine" 91 "NativeWorks$Machine" "stopCount" "I",
  Cond.code ⟨"NativeWorks$Machine", "stopPlace", "(J)I"⟩ prog_7_method_5_code 4 (Option.some FieldType.int),
  Cond.methodLink "NativeWorks$Machine" 94 ⟨"NativeWorks$Machine", "stopPlace", "(J)I"⟩,
  Cond.instanceMethod ⟨"NativeWorks$Machine", "stopPlace", "(J)I"⟩,
  Cond.selects "NativeWorks$Machine" ⟨"NativeWorks$Machine", "stopPlace", "(J)I"⟩ ⟨"NativeWorks$Machine", "stopPlace", "(J)I"⟩,
  Cond.code ⟨"NativeWorks$Machine", "addPlace", "(J)Z"⟩ prog_7_method_6_code 3 (Option.some FieldType.boolean),
  Cond.methodLink "NativeWorks" 205 ⟨"NativeWorks$Machine", "addPlace", "(J)Z"⟩,
  Cond.instanceMethod ⟨"NativeWorks$Machine", "addPlace", "(J)Z"⟩,
  Cond.selects "NativeWorks$Machine" ⟨"NativeWorks$Machine", "addPlace", "(J)Z"⟩ ⟨"NativeWorks$Machine", "addPlace", "(J)Z"⟩,
  Cond.code ⟨"NativeWorks$Machine", "dropPlace", "(J)Z"⟩ prog_7_method_7_code 4 (Option.some FieldType.boolean),
  Cond.methodLink "NativeWorks" 209 ⟨"NativeWorks$Machine", "dropPlace", "(J)Z"⟩,
  Cond.instanceMethod ⟨"NativeWorks$Machine", "dropPlace", "(J)Z"⟩,
  Cond.selects "NativeWorks$Machine" ⟨"NativeWorks$Machine", "dropPlace", "(J)Z"⟩ ⟨"NativeWorks$Machine", "dropPlace", "(J)Z"⟩,
  Cond.fieldLink "NativeWorks" 212 "NativeWorks$Machine" "written" "I",
  Cond.constantLong "NativeWorks" 218 4194304,
  Cond.fieldLink "NativeWorks" 220 "NativeWorks$Linke\x72" "origins" "[I",
  Cond.fieldLink "NativeWorksModel" 608 "NativeWorksModel" "thrown" "I",
  Cond.fieldLink "NativeWorksModel" 611 "NativeWorksModel" "taped" "I",
  Cond.fieldLink "NativeWorksModel" 629 "NativeWorksModel" "frames" "I",
  Cond.code ⟨"NativeWorksModel", "reade\x72", "()I"⟩ prog_14_method_26_code 2 (Option.some FieldType.int),
  Cond.methodLink "NativeWorksModel" 672 ⟨"NativeWorksModel", "reade\x72", "()I"⟩,
  Cond.instanceMethod ⟨"NativeWorksModel", "reade\x72", "()I"⟩,
  Cond.selects "NativeWorksModel" ⟨"NativeWorksModel", "reade\x72", "()I"⟩ ⟨"NativeWorksModel", "reade\x72", "()I"⟩,
  Cond.fieldLink "NativeWorksModel" 632 "NativeWorksModel" "bad" "I",
  Cond.fieldLink "NativeWorksModel" 675 "NativeWorksModel" "at" "I",
  Cond.fieldLink "NativeWorksModel" 649 "NativeWorksModel" "sourceEnd" "I",
  Cond.fieldLink "NativeWorksModel" 739 "NativeWorksModel" "unit" "I",
  Cond.fieldLink "NativeWorksModel" 791 "NativeWorksModel" "items" "I",
  Cond.fieldLink "NativeWorksModel" 842 "NativeWorksModel" "waits" "I",
  Cond.code ⟨"NativeWorksModel", "layOut", "()V"⟩ prog_14_method_115_code 9 (Option.none : Option FieldType),
  Cond.methodLink "NativeWorksModel" 1143 ⟨"NativeWorksModel", "layOut", "()V"⟩,
  Cond.instanceMethod ⟨"NativeWorksModel", "layOut", "()V"⟩,
  Cond.selects "NativeWorksModel" ⟨"NativeWorksModel", "layOut", "()V"⟩ ⟨"NativeWorksModel", "layOut", "()V"⟩,
  Cond.fieldLink "NativeWorksModel" 967 "NativeWorksModel" "notEnded" "Z",
  Cond.fieldLink "NativeWorksModel" 848 "NativeWorksModel" "spans" "I",
  Cond.code ⟨"NativeWorksModel", "shorten", "()V"⟩ prog_14_method_118_code 6 (Option.none : Option FieldType),
  Cond.methodLink "NativeWorksModel" 1156 ⟨"NativeWorksModel", "shorten", "()V"⟩,
  Cond.instanceMethod ⟨"NativeWorksModel", "shorten", "()V"⟩,
  Cond.selects "NativeWorksModel" ⟨"NativeWorksModel", "shorten", "()V"⟩ ⟨"NativeWorksModel", "shorten", "()V"⟩]
def rB17 : List Cond := [Cond.code ⟨"NativeWorksModel", "used", "(I)I"⟩ prog_14_method_13_code 2 (Option.some FieldType.int),
  Cond.methodLink "NativeWorksModel" 1159 ⟨"NativeWorksModel", "used", "(I)I"⟩,
  Cond.instanceMethod ⟨"NativeWorksModel", "used", "(I)I"⟩,
  Cond.selects "NativeWorksModel" ⟨"NativeWorksModel", "used", "(I)I"⟩ ⟨"NativeWorksModel", "used", "(I)I"⟩,
  Cond.fieldLink "NativeWorksModel" 1162 "NativeWorksModel" "units" "I",
  Cond.fieldLink "NativeWorksModel" 742 "NativeWorksModel" "symbols" "I",
  Cond.fieldLink "NativeWorksModel" 751 "NativeWorksModel" "pooled" "I",
  Cond.fieldLink "NativeWorksModel" 785 "NativeWorksModel" "datas" "I",
  Cond.fieldLink "NativeWorksModel" 845 "NativeWorksModel" "plain" "I",
  Cond.fieldLink "NativeWorksModel" 839 "NativeWorksModel" "statements" "I",
  Cond.fieldLink "NativeWorksModel" 626 "NativeWorksModel" "lineNumbe\x72" "I",
  Cond.fieldLink "NativeWorksModel" 851 "NativeWorksModel" "linesRead" "I",
  Cond.fieldLink "NativeWorksModel" 970 "NativeWorksModel" "macrosRead" "I",
  Cond.fieldLink "NativeWorksModel" 763 "NativeWorksModel" "macros" "I",
  Cond.fieldLink "NativeWorksModel" 782 "NativeWorksModel" "section" "I",
  Cond.fieldLink "NativeWorksModel" 736 "NativeWorksModel" "latest" "I",
  Cond.fieldLink "NativeWorksModel" 754 "NativeWorksModel" "full" "Z",
  Cond.code ⟨"NativeWorksModel", "nextLine", "()Z"⟩ prog_14_method_28_code 2 (Option.some FieldType.boolean),
  Cond.methodLink "NativeWorksModel" 1165 ⟨"NativeWorksModel", "nextLine", "()Z"⟩,
  Cond.instanceMethod ⟨"NativeWorksModel", "nextLine", "()Z"⟩,
  Cond.selects "NativeWorksModel" ⟨"NativeWorksModel", "nextLine", "()Z"⟩ ⟨"NativeWorksModel", "nextLine", "()Z"⟩,
  Cond.code ⟨"NativeWorksModel", "finish", "()V"⟩ prog_14_method_120_code 4 (Option.none : Option FieldType),
  Cond.methodLink "NativeWorksModel" 1171 ⟨"NativeWorksModel", "finish", "()V"⟩,
  Cond.instanceMethod ⟨"NativeWorksModel", "finish", "()V"⟩,
  Cond.selects "NativeWorksModel" ⟨"NativeWorksModel", "finish", "()V"⟩ ⟨"NativeWorksModel", "finish", "()V"⟩,
  Cond.fieldLink "NativeWorksModel" 1174 "NativeWorksModel" "faultKind" "I",
  Cond.fieldLink "NativeWorksModel" 1177 "NativeWorksModel" "faultLine" "I",
  Cond.code ⟨"NativeWorksModel", "give", "(II)I"⟩ prog_14_method_10_code 3 (Option.some FieldType.int),
  Cond.methodLink "NativeWorksModel" 1180 ⟨"NativeWorksModel", "give", "(II)I"⟩,
  Cond.instanceMethod ⟨"NativeWorksModel", "give", "(II)I"⟩,
  Cond.selects "NativeWorksModel" ⟨"NativeWorksModel", "give", "(II)I"⟩ ⟨"NativeWorksModel", "give", "(II)I"⟩,
  Cond.fieldLink "NativeWorksModel" 733 "NativeWorksModel" "nameSize" "I",
  Cond.code ⟨"NativeWorksModel", "takeUnits", "()V"⟩ prog_14_method_133_code 3 (Option.none : Option FieldType),
  Cond.methodLink "NativeWorksModel" 1225 ⟨"NativeWorksModel", "takeUnits", "()V"⟩,
  Cond.instanceMethod ⟨"NativeWorksModel", "takeUnits", "()V"⟩,
  Cond.selects "NativeWorksModel" ⟨"NativeWorksModel", "takeUnits", "()V"⟩ ⟨"NativeWorksModel", "takeUnits", "()V"⟩,
  Cond.code ⟨"NativeWorksModel", "startSymbol", "()I"⟩ prog_14_method_143_code 2 (Option.some FieldType.int),
  Cond.methodLink "NativeWorksModel" 1228 ⟨"NativeWorksModel", "startSymbol", "()I"⟩,
  Cond.instanceMethod ⟨"NativeWorksModel", "startSymbol", "()I"⟩,
  Cond.selects "NativeWorksModel" ⟨"NativeWorksModel", "startSymbol", "()I"⟩ ⟨"NativeWorksModel", "startSymbol", "()I"⟩,
  Cond.code ⟨"NativeWorksModel", "linkFault", "(III)V"⟩ prog_14_method_142_code 4 (Option.none : Option FieldType),
  Cond.methodLink "NativeWorksModel" 1222 ⟨"NativeWorksModel", "linkFault", "(III)V"⟩,
  Cond.instanceMethod ⟨"NativeWorksModel", "linkFault", "(III)V"⟩,
  Cond.selects "NativeWorksModel" ⟨"NativeWorksModel", "linkFault", "(III)V"⟩ ⟨"NativeWorksModel", "linkFault", "(III)V"⟩,
  Cond.fieldLink "NativeWorksModel" 1296 "NativeWorksModel" "imageNames" "I",
  Cond.fieldLink "NativeWorksModel" 1248 "NativeWorksModel" "hasImage" "Z",
  Cond.fieldLink "NativeWorksModel" 1472 "NativeWorksModel" "givenSize" "I",
  Cond.fieldLink "NativeWorksModel" 1302 "NativeWorksModel" "loaded" "Z"]
def rB18 : List Cond := [Cond.fieldLink "NativeWorksModel" 1535 "NativeWorksModel" "stopKind" "I",
  Cond.fieldLink "NativeWorksModel" 1538 "NativeWorksModel" "stopValue" "J",
  Cond.constantLong "NativeWorksModel" 973 2,
  Cond.fieldLink "NativeWorksModel" 1381 "NativeWorksModel" "carry" "Z",
  Cond.fieldLink "NativeWorksModel" 1378 "NativeWorksModel" "parity" "Z",
  Cond.fieldLink "NativeWorksModel" 1366 "NativeWorksModel" "zero" "Z",
  Cond.fieldLink "NativeWorksModel" 1372 "NativeWorksModel" "negative" "Z",
  Cond.fieldLink "NativeWorksModel" 1384 "NativeWorksModel" "ove\x72" "Z",
  Cond.constantLong "NativeWorksModel" 1213 4194304,
  Cond.fieldLink "NativeWorksModel" 1444 "NativeWorksModel" "ip" "J",
  Cond.code ⟨"NativeWorksModel", "flags", "()J"⟩ prog_14_method_171_code 1 (Option.some FieldType.long),
  Cond.methodLink "NativeWorksModel" 1469 ⟨"NativeWorksModel", "flags", "()J"⟩,
  Cond.instanceMethod ⟨"NativeWorksModel", "flags", "()J"⟩,
  Cond.selects "NativeWorksModel" ⟨"NativeWorksModel", "flags", "()J"⟩ ⟨"NativeWorksModel", "flags", "()J"⟩,
  Cond.code ⟨"NativeWorksModel", "heapBegin", "()J"⟩ prog_14_method_151_code 1 (Option.some FieldType.long),
  Cond.methodLink "NativeWorksModel" 1305 ⟨"NativeWorksModel", "heapBegin", "()J"⟩,
  Cond.instanceMethod ⟨"NativeWorksModel", "heapBegin", "()J"⟩,
  Cond.selects "NativeWorksModel" ⟨"NativeWorksModel", "heapBegin", "()J"⟩ ⟨"NativeWorksModel", "heapBegin", "()J"⟩,
  Cond.fieldLink "NativeWorksModel" 1309 "NativeWorksModel" "heapSize" "I",
  Cond.fieldLink "NativeWorksModel" 1544 "NativeWorksModel" "stepsDone" "J",
  Cond.code ⟨"NativeWorksModel", "find", "(JZ)I"⟩ prog_14_method_152_code 10 (Option.some FieldType.int),
  Cond.methodLink "NativeWorksModel" 1321 ⟨"NativeWorksModel", "find", "(JZ)I"⟩,
  Cond.instanceMethod ⟨"NativeWorksModel", "find", "(JZ)I"⟩,
  Cond.selects "NativeWorksModel" ⟨"NativeWorksModel", "find", "(JZ)I"⟩ ⟨"NativeWorksModel", "find", "(JZ)I"⟩,
  Cond.fieldLink "NativeWorksModel" 1556 "NativeWorksModel" "placesMany" "I",
  Cond.code ⟨"NativeWorksModel", "isPlace", "(J)Z"⟩ prog_14_method_196_code 4 (Option.some FieldType.boolean),
  Cond.methodLink "NativeWorksModel" 1559 ⟨"NativeWorksModel", "isPlace", "(J)Z"⟩,
  Cond.instanceMethod ⟨"NativeWorksModel", "isPlace", "(J)Z"⟩,
  Cond.selects "NativeWorksModel" ⟨"NativeWorksModel", "isPlace", "(J)Z"⟩ ⟨"NativeWorksModel", "isPlace", "(J)Z"⟩,
  Cond.fieldLink "NativeWorksModel" 1481 "NativeWorksModel" "shownSize" "I",
  Cond.initialized "java/lang/Throwable",
  Cond.superclass "java/lang/Throwable" "java/lang/Object",
  Cond.instanceMethod ⟨"java/lang/Throwable", "fillInStackTrace", "()Ljava/lang/Throwable;"⟩,
  Cond.codeSync ⟨"java/lang/Throwable", "fillInStackTrace", "()Ljava/lang/Throwable;"⟩ prog_35_method_18_code 1 (Option.some (FieldType.object "java/lang/Throwable")),
  Cond.instanceMethod ⟨"java/lang/Throwable", "fillInStackTrace", "(I)Ljava/lang/Throwable;"⟩,
  Cond.native ⟨"java/lang/Throwable", "fillInStackTrace", "(I)Ljava/lang/Throwable;"⟩,
  Cond.instanceMethod ⟨"java/lang/Throwable", "<init>", "()V"⟩,
  Cond.code ⟨"java/lang/Throwable", "<init>", "()V"⟩ prog_35_method_1_code 1 (Option.none : Option FieldType),
  Cond.methodLink "java/lang/Throwable" 1 ⟨"java/lang/Object", "<init>", "()V"⟩,
  Cond.methodLink "java/lang/Throwable" 27 ⟨"java/lang/Throwable", "fillInStackTrace", "()Ljava/lang/Throwable;"⟩,
  Cond.methodLink "java/lang/Throwable" 202 ⟨"java/lang/Throwable", "fillInStackTrace", "(I)Ljava/lang/Throwable;"⟩,
  Cond.fieldLink "java/lang/Throwable" 7 "java/lang/Throwable" "cause" "Ljava/lang/Throwable;",
  Cond.lays "java/lang/Throwable" "java/lang/Throwable" "cause" "Ljava/lang/Throwable;",
  Cond.fieldLink "java/lang/Throwable" 17 "java/lang/Throwable" "stackTrace" "[Ljava/lang/StackTraceElement;",
  Cond.lays "java/lang/Throwable" "java/lang/Throwable" "stackTrace" "[Ljava/lang/StackTraceElement;",
  Cond.fieldLink "java/lang/Throwable" 24 "java/lang/Throwable" "suppressedExceptions" "Ljava/util/List;",
  Cond.lays "java/lang/Throwable" "java/lang/Throwable" "suppressedExceptions" "Ljava/util/List;",
  Cond.fieldLink "java/lang/Throwable" 13 "java/lang/Throwable" "UNASSIGNED_STACK" "[Ljava/lang/StackTraceElement;"]
def rB19 : List Cond := [Cond.fieldLink "java/lang/Throwable" 20 "java/lang/Throwable" "SUPPRESSED_SENTINEL" "Ljava/util/List;",
  Cond.lays "java/lang/Throwable" "java/lang/Throwable" "detailMessage" "Ljava/lang/String;",
  Cond.instanceMethod ⟨"java/lang/Throwable", "<init>", "(Ljava/lang/String;)V"⟩,
  Cond.code ⟨"java/lang/Throwable", "<init>", "(Ljava/lang/String;)V"⟩ prog_35_method_2_code 2 (Option.none : Option FieldType),
  Cond.fieldLink "java/lang/Throwable" 31 "java/lang/Throwable" "detailMessage" "Ljava/lang/String;",
  Cond.instanceMethod ⟨"java/lang/IllegalStateException", "<init>", "(Ljava/lang/String;)V"⟩,
  Cond.code ⟨"java/lang/IllegalStateException", "<init>", "(Ljava/lang/String;)V"⟩ prog_24_method_2_code 2 (Option.none : Option FieldType),
  Cond.methodLink "java/lang/IllegalStateException" 7 ⟨"java/lang/RuntimeException", "<init>", "(Ljava/lang/String;)V"⟩,
  Cond.instanceMethod ⟨"java/lang/RuntimeException", "<init>", "(Ljava/lang/String;)V"⟩,
  Cond.code ⟨"java/lang/RuntimeException", "<init>", "(Ljava/lang/String;)V"⟩ prog_29_method_2_code 2 (Option.none : Option FieldType),
  Cond.methodLink "java/lang/RuntimeException" 7 ⟨"java/lang/Exception", "<init>", "(Ljava/lang/String;)V"⟩,
  Cond.instanceMethod ⟨"java/lang/Exception", "<init>", "(Ljava/lang/String;)V"⟩,
  Cond.code ⟨"java/lang/Exception", "<init>", "(Ljava/lang/String;)V"⟩ prog_22_method_2_code 2 (Option.none : Option FieldType),
  Cond.methodLink "java/lang/Exception" 7 ⟨"java/lang/Throwable", "<init>", "(Ljava/lang/String;)V"⟩,
  Cond.methodLink "NativeWorks" 113 ⟨"java/lang/IllegalStateException", "<init>", "(Ljava/lang/String;)V"⟩,
  Cond.instantiable "java/lang/IllegalStateException" 6,
  Cond.selects "java/lang/IllegalStateException" ⟨"java/lang/Throwable", "fillInStackTrace", "(I)Ljava/lang/Throwable;"⟩ ⟨"java/lang/Throwable", "fillInStackTrace", "(I)Ljava/lang/Throwable;"⟩,
  Cond.selects "java/lang/IllegalStateException" ⟨"java/lang/Throwable", "fillInStackTrace", "()Ljava/lang/Throwable;"⟩ ⟨"java/lang/Throwable", "fillInStackTrace", "()Ljava/lang/Throwable;"⟩,
  Cond.lays "java/lang/IllegalStateException" "java/lang/Throwable" "cause" "Ljava/lang/Throwable;",
  Cond.lays "java/lang/IllegalStateException" "java/lang/Throwable" "stackTrace" "[Ljava/lang/StackTraceElement;",
  Cond.lays "java/lang/IllegalStateException" "java/lang/Throwable" "suppressedExceptions" "Ljava/util/List;",
  Cond.lays "java/lang/IllegalStateException" "java/lang/Throwable" "detailMessage" "Ljava/lang/String;",
  Cond.fieldLink "java/lang/Throwable" 198 "java/lang/Throwable" "backtrace" "Ljava/lang/Object;",
  Cond.lays "java/lang/Throwable" "java/lang/Throwable" "backtrace" "Ljava/lang/Object;",
  Cond.lays "java/lang/IllegalStateException" "java/lang/Throwable" "backtrace" "Ljava/lang/Object;",
  Cond.instanceMethod ⟨"java/util/NoSuchElementException", "<init>", "(Ljava/lang/String;)V"⟩,
  Cond.code ⟨"java/util/NoSuchElementException", "<init>", "(Ljava/lang/String;)V"⟩ prog_39_method_4_code 2 (Option.none : Option FieldType),
  Cond.methodLink "java/util/NoSuchElementException" 13 ⟨"java/lang/RuntimeException", "<init>", "(Ljava/lang/String;)V"⟩,
  Cond.methodLink "NativeWorks" 132 ⟨"java/util/NoSuchElementException", "<init>", "(Ljava/lang/String;)V"⟩,
  Cond.instantiable "java/util/NoSuchElementException" 6,
  Cond.selects "java/util/NoSuchElementException" ⟨"java/lang/Throwable", "fillInStackTrace", "(I)Ljava/lang/Throwable;"⟩ ⟨"java/lang/Throwable", "fillInStackTrace", "(I)Ljava/lang/Throwable;"⟩,
  Cond.selects "java/util/NoSuchElementException" ⟨"java/lang/Throwable", "fillInStackTrace", "()Ljava/lang/Throwable;"⟩ ⟨"java/lang/Throwable", "fillInStackTrace", "()Ljava/lang/Throwable;"⟩,
  Cond.lays "java/util/NoSuchElementException" "java/lang/Throwable" "cause" "Ljava/lang/Throwable;",
  Cond.lays "java/util/NoSuchElementException" "java/lang/Throwable" "stackTrace" "[Ljava/lang/StackTraceElement;",
  Cond.lays "java/util/NoSuchElementException" "java/lang/Throwable" "suppressedExceptions" "Ljava/util/List;",
  Cond.lays "java/util/NoSuchElementException" "java/lang/Throwable" "detailMessage" "Ljava/lang/String;",
  Cond.lays "java/util/NoSuchElementException" "java/lang/Throwable" "backtrace" "Ljava/lang/Object;",
  Cond.instanceMethod ⟨"java/lang/IllegalArgumentException", "<init>", "(Ljava/lang/String;)V"⟩,
  Cond.code ⟨"java/lang/IllegalArgumentException", "<init>", "(Ljava/lang/String;)V"⟩ prog_23_method_2_code 2 (Option.none : Option FieldType),
  Cond.methodLink "java/lang/IllegalArgumentException" 7 ⟨"java/lang/RuntimeException", "<init>", "(Ljava/lang/String;)V"⟩,
  Cond.methodLink "NativeWorks" 78 ⟨"java/lang/IllegalArgumentException", "<init>", "(Ljava/lang/String;)V"⟩,
  Cond.instantiable "java/lang/IllegalArgumentException" 6,
  Cond.selects "java/lang/IllegalArgumentException" ⟨"java/lang/Throwable", "fillInStackTrace", "(I)Ljava/lang/Throwable;"⟩ ⟨"java/lang/Throwable", "fillInStackTrace", "(I)Ljava/lang/Throwable;"⟩,
  Cond.selects "java/lang/IllegalArgumentException" ⟨"java/lang/Throwable", "fillInStackTrace", "()Ljava/lang/Throwable;"⟩ ⟨"java/lang/Throwable", "fillInStackTrace", "()Ljava/lang/Throwable;"⟩,
  Cond.lays "java/lang/IllegalArgumentException" "java/lang/Throwable" "cause" "Ljava/lang/Throwable;",
  Cond.lays "java/lang/IllegalArgumentException" "java/lang/Throwable" "stackTrace" "[Ljava/lang/StackTraceElement;",
  Cond.lays "java/lang/IllegalArgumentException" "java/lang/Throwable" "suppressedExceptions" "Ljava/util/List;",
  Cond.lays "java/lang/IllegalArgumentException" "java/lang/Throwable" "detailMessage" "Ljava/lang/String;"]
def rB20 : List Cond := [Cond.lays "java/lang/IllegalArgumentException" "java/lang/Throwable" "backtrace" "Ljava/lang/Object;",
  Cond.methodLink "NativeWorksLaw" 7 ⟨"NativeWorks", "unit", "(IZ)I"⟩,
  Cond.instanceMethod ⟨"NativeWorks", "unit", "(IZ)I"⟩,
  Cond.code ⟨"NativeWorks", "unit", "(IZ)I"⟩ prog_1_method_3_code 6 (Option.some FieldType.int),
  Cond.selects "NativeWorks" ⟨"NativeWorks", "unit", "(IZ)I"⟩ ⟨"NativeWorks", "unit", "(IZ)I"⟩,
  Cond.methodLink "NativeWorksLaw" 15 ⟨"NativeWorks", "link", "()I"⟩,
  Cond.instanceMethod ⟨"NativeWorks", "link", "()I"⟩,
  Cond.code ⟨"NativeWorks", "link", "()I"⟩ prog_1_method_8_code 2 (Option.some FieldType.int),
  Cond.selects "NativeWorks" ⟨"NativeWorks", "link", "()I"⟩ ⟨"NativeWorks", "link", "()I"⟩,
  Cond.methodLink "NativeWorksLaw" 21 ⟨"NativeWorks", "symbol", "(I)J"⟩,
  Cond.instanceMethod ⟨"NativeWorks", "symbol", "(I)J"⟩,
  Cond.code ⟨"NativeWorks", "symbol", "(I)J"⟩ prog_1_method_9_code 4 (Option.some FieldType.long),
  Cond.selects "NativeWorks" ⟨"NativeWorks", "symbol", "(I)J"⟩ ⟨"NativeWorks", "symbol", "(I)J"⟩,
  Cond.methodLink "NativeWorksLaw" 27 ⟨"NativeWorks", "load", "()J"⟩,
  Cond.instanceMethod ⟨"NativeWorks", "load", "()J"⟩,
  Cond.code ⟨"NativeWorks", "load", "()J"⟩ prog_1_method_10_code 1 (Option.some FieldType.long),
  Cond.selects "NativeWorks" ⟨"NativeWorks", "load", "()J"⟩ ⟨"NativeWorks", "load", "()J"⟩,
  Cond.methodLink "NativeWorksLaw" 31 ⟨"NativeWorks", "run", "(I)I"⟩,
  Cond.instanceMethod ⟨"NativeWorks", "run", "(I)I"⟩,
  Cond.code ⟨"NativeWorks", "run", "(I)I"⟩ prog_1_method_12_code 2 (Option.some FieldType.int),
  Cond.selects "NativeWorks" ⟨"NativeWorks", "run", "(I)I"⟩ ⟨"NativeWorks", "run", "(I)I"⟩,
  Cond.classLink "NativeWorksLaw" 8 "NativeWorks",
  Cond.instantiable "NativeWorks" 9,
  Cond.methodLink "NativeWorksLaw" 35 ⟨"NativeWorks", "<init>", "()V"⟩,
  Cond.instanceMethod ⟨"NativeWorks", "<init>", "()V"⟩,
  Cond.code ⟨"NativeWorks", "<init>", "()V"⟩ prog_1_method_1_code 3 (Option.none : Option FieldType),
  Cond.classLink "NativeWorksLaw" 36 "NativeWorksModel",
  Cond.instantiable "NativeWorksModel" 205,
  Cond.methodLink "NativeWorksLaw" 38 ⟨"NativeWorksModel", "<init>", "()V"⟩,
  Cond.instanceMethod ⟨"NativeWorksModel", "<init>", "()V"⟩,
  Cond.code ⟨"NativeWorksModel", "<init>", "()V"⟩ prog_14_method_1_code 2 (Option.none : Option FieldType),
  Cond.methodLink "NativeWorksLaw" 39 ⟨"NativeWorks", "feed", "(IIIII)I"⟩,
  Cond.instanceMethod ⟨"NativeWorks", "feed", "(IIIII)I"⟩,
  Cond.code ⟨"NativeWorks", "feed", "(IIIII)I"⟩ prog_1_method_2_code 6 (Option.some FieldType.int),
  Cond.selects "NativeWorks" ⟨"NativeWorks", "feed", "(IIIII)I"⟩ ⟨"NativeWorks", "feed", "(IIIII)I"⟩,
  Cond.methodLink "NativeWorksLaw" 43 ⟨"NativeWorksModel", "feed", "(IIIII)I"⟩,
  Cond.instanceMethod ⟨"NativeWorksModel", "feed", "(IIIII)I"⟩,
  Cond.code ⟨"NativeWorksModel", "feed", "(IIIII)I"⟩ prog_14_method_12_code 8 (Option.some FieldType.int),
  Cond.selects "NativeWorksModel" ⟨"NativeWorksModel", "feed", "(IIIII)I"⟩ ⟨"NativeWorksModel", "feed", "(IIIII)I"⟩,
  Cond.methodLink "NativeWorksLaw" 44 ⟨"NativeWorksLaw", "unit", "(LNativeWorks;IZ[J)I"⟩,
  Cond.static ⟨"NativeWorksLaw", "unit", "(LNativeWorks;IZ[J)I"⟩,
  Cond.initialized "NativeWorksLaw",
  Cond.codeWith ⟨"NativeWorksLaw", "unit", "(LNativeWorks;IZ[J)I"⟩ method_3_code 5 (Option.some FieldType.int) [(0, 10, 13, 13)],
  Cond.methodLink "NativeWorksLaw" 49 ⟨"NativeWorksModel", "unit", "(IZ)I"⟩,
  Cond.instanceMethod ⟨"NativeWorksModel", "unit", "(IZ)I"⟩,
  Cond.code ⟨"NativeWorksModel", "unit", "(IZ)I"⟩ prog_14_method_121_code 11 (Option.some FieldType.int),
  Cond.selects "NativeWorksModel" ⟨"NativeWorksModel", "unit", "(IZ)I"⟩ ⟨"NativeWorksModel", "unit", "(IZ)I"⟩,
  Cond.methodLink "NativeWorksLaw" 50 ⟨"NativeWorks", "clea\x72", "()V"⟩]
def rB21 : List Cond := [Cond.instanceMethod ⟨"NativeWorks", "clea\x72", "()V"⟩,
  Cond.code ⟨"NativeWorks", "clea\x72", "()V"⟩ prog_1_method_4_code 1 (Option.none : Option FieldType),
  Cond.selects "NativeWorks" ⟨"NativeWorks", "clea\x72", "()V"⟩ ⟨"NativeWorks", "clea\x72", "()V"⟩,
  Cond.methodLink "NativeWorksLaw" 53 ⟨"NativeWorksModel", "clea\x72", "()V"⟩,
  Cond.instanceMethod ⟨"NativeWorksModel", "clea\x72", "()V"⟩,
  Cond.code ⟨"NativeWorksModel", "clea\x72", "()V"⟩ prog_14_method_122_code 1 (Option.none : Option FieldType),
  Cond.selects "NativeWorksModel" ⟨"NativeWorksModel", "clea\x72", "()V"⟩ ⟨"NativeWorksModel", "clea\x72", "()V"⟩,
  Cond.methodLink "NativeWorksLaw" 54 ⟨"NativeWorks", "fault", "(I)I"⟩,
  Cond.instanceMethod ⟨"NativeWorks", "fault", "(I)I"⟩,
  Cond.code ⟨"NativeWorks", "fault", "(I)I"⟩ prog_1_method_5_code 2 (Option.some FieldType.int),
  Cond.selects "NativeWorks" ⟨"NativeWorks", "fault", "(I)I"⟩ ⟨"NativeWorks", "fault", "(I)I"⟩,
  Cond.methodLink "NativeWorksLaw" 57 ⟨"NativeWorksModel", "fault", "(I)I"⟩,
  Cond.instanceMethod ⟨"NativeWorksModel", "fault", "(I)I"⟩,
  Cond.code ⟨"NativeWorksModel", "fault", "(I)I"⟩ prog_14_method_123_code 2 (Option.some FieldType.int),
  Cond.selects "NativeWorksModel" ⟨"NativeWorksModel", "fault", "(I)I"⟩ ⟨"NativeWorksModel", "fault", "(I)I"⟩,
  Cond.methodLink "NativeWorksLaw" 58 ⟨"NativeWorks", "size", "(II)I"⟩,
  Cond.instanceMethod ⟨"NativeWorks", "size", "(II)I"⟩,
  Cond.code ⟨"NativeWorks", "size", "(II)I"⟩ prog_1_method_6_code 3 (Option.some FieldType.int),
  Cond.selects "NativeWorks" ⟨"NativeWorks", "size", "(II)I"⟩ ⟨"NativeWorks", "size", "(II)I"⟩,
  Cond.methodLink "NativeWorksLaw" 62 ⟨"NativeWorksModel", "size", "(II)I"⟩,
  Cond.instanceMethod ⟨"NativeWorksModel", "size", "(II)I"⟩,
  Cond.code ⟨"NativeWorksModel", "size", "(II)I"⟩ prog_14_method_124_code 3 (Option.some FieldType.int),
  Cond.selects "NativeWorksModel" ⟨"NativeWorksModel", "size", "(II)I"⟩ ⟨"NativeWorksModel", "size", "(II)I"⟩,
  Cond.methodLink "NativeWorksLaw" 63 ⟨"NativeWorks", "octet", "(III)I"⟩,
  Cond.instanceMethod ⟨"NativeWorks", "octet", "(III)I"⟩,
  Cond.code ⟨"NativeWorks", "octet", "(III)I"⟩ prog_1_method_7_code 4 (Option.some FieldType.int),
  Cond.selects "NativeWorks" ⟨"NativeWorks", "octet", "(III)I"⟩ ⟨"NativeWorks", "octet", "(III)I"⟩,
  Cond.methodLink "NativeWorksLaw" 67 ⟨"NativeWorksModel", "octet", "(III)I"⟩,
  Cond.instanceMethod ⟨"NativeWorksModel", "octet", "(III)I"⟩,
  Cond.code ⟨"NativeWorksModel", "octet", "(III)I"⟩ prog_14_method_126_code 5 (Option.some FieldType.int),
  Cond.selects "NativeWorksModel" ⟨"NativeWorksModel", "octet", "(III)I"⟩ ⟨"NativeWorksModel", "octet", "(III)I"⟩,
  Cond.methodLink "NativeWorksLaw" 68 ⟨"NativeWorksLaw", "link", "(LNativeWorks;[J)I"⟩,
  Cond.static ⟨"NativeWorksLaw", "link", "(LNativeWorks;[J)I"⟩,
  Cond.codeWith ⟨"NativeWorksLaw", "link", "(LNativeWorks;[J)I"⟩ method_4_code 3 (Option.some FieldType.int) [(0, 8, 11, 19)],
  Cond.methodLink "NativeWorksLaw" 71 ⟨"NativeWorksModel", "link", "()I"⟩,
  Cond.instanceMethod ⟨"NativeWorksModel", "link", "()I"⟩,
  Cond.code ⟨"NativeWorksModel", "link", "()I"⟩ prog_14_method_145_code 9 (Option.some FieldType.int),
  Cond.selects "NativeWorksModel" ⟨"NativeWorksModel", "link", "()I"⟩ ⟨"NativeWorksModel", "link", "()I"⟩,
  Cond.methodLink "NativeWorksLaw" 72 ⟨"NativeWorksLaw", "symbol", "(LNativeWorks;I[J)I"⟩,
  Cond.static ⟨"NativeWorksLaw", "symbol", "(LNativeWorks;I[J)I"⟩,
  Cond.codeWith ⟨"NativeWorksLaw", "symbol", "(LNativeWorks;I[J)I"⟩ method_5_code 4 (Option.some FieldType.int) [(0, 8, 11, 25)],
  Cond.methodLink "NativeWorksLaw" 75 ⟨"NativeWorksModel", "symbol", "(I)J"⟩,
  Cond.instanceMethod ⟨"NativeWorksModel", "symbol", "(I)J"⟩,
  Cond.code ⟨"NativeWorksModel", "symbol", "(I)J"⟩ prog_14_method_149_code 6 (Option.some FieldType.long),
  Cond.selects "NativeWorksModel" ⟨"NativeWorksModel", "symbol", "(I)J"⟩ ⟨"NativeWorksModel", "symbol", "(I)J"⟩,
  Cond.methodLink "NativeWorksLaw" 76 ⟨"NativeWorksLaw", "load", "(LNativeWorks;[J)I"⟩,
  Cond.static ⟨"NativeWorksLaw", "load", "(LNativeWorks;[J)I"⟩,
  Cond.codeWith ⟨"NativeWorksLaw", "load", "(LNativeWorks;[J)I"⟩ method_6_code 3 (Option.some FieldType.int) [(0, 7, 10, 19)]]
def rB22 : List Cond := [Cond.methodLink "NativeWorksLaw" 78 ⟨"NativeWorksModel", "load", "()J"⟩,
  Cond.instanceMethod ⟨"NativeWorksModel", "load", "()J"⟩,
  Cond.code ⟨"NativeWorksModel", "load", "()J"⟩ prog_14_method_194_code 2 (Option.some FieldType.long),
  Cond.selects "NativeWorksModel" ⟨"NativeWorksModel", "load", "()J"⟩ ⟨"NativeWorksModel", "load", "()J"⟩,
  Cond.methodLink "NativeWorksLaw" 79 ⟨"NativeWorks", "input", "(I)I"⟩,
  Cond.instanceMethod ⟨"NativeWorks", "input", "(I)I"⟩,
  Cond.code ⟨"NativeWorks", "input", "(I)I"⟩ prog_1_method_11_code 2 (Option.some FieldType.int),
  Cond.selects "NativeWorks" ⟨"NativeWorks", "input", "(I)I"⟩ ⟨"NativeWorks", "input", "(I)I"⟩,
  Cond.methodLink "NativeWorksLaw" 82 ⟨"NativeWorksModel", "input", "(I)I"⟩,
  Cond.instanceMethod ⟨"NativeWorksModel", "input", "(I)I"⟩,
  Cond.code ⟨"NativeWorksModel", "input", "(I)I"⟩ prog_14_method_195_code 4 (Option.some FieldType.int),
  Cond.selects "NativeWorksModel" ⟨"NativeWorksModel", "input", "(I)I"⟩ ⟨"NativeWorksModel", "input", "(I)I"⟩,
  Cond.methodLink "NativeWorksLaw" 83 ⟨"NativeWorksLaw", "run", "(LNativeWorks;I[J)I"⟩,
  Cond.static ⟨"NativeWorksLaw", "run", "(LNativeWorks;I[J)I"⟩,
  Cond.codeWith ⟨"NativeWorksLaw", "run", "(LNativeWorks;I[J)I"⟩ method_7_code 4 (Option.some FieldType.int) [(0, 9, 12, 13), (0, 9, 15, 19)],
  Cond.methodLink "NativeWorksLaw" 85 ⟨"NativeWorksModel", "run", "(I)I"⟩,
  Cond.instanceMethod ⟨"NativeWorksModel", "run", "(I)I"⟩,
  Cond.code ⟨"NativeWorksModel", "run", "(I)I"⟩ prog_14_method_197_code 3 (Option.some FieldType.int),
  Cond.selects "NativeWorksModel" ⟨"NativeWorksModel", "run", "(I)I"⟩ ⟨"NativeWorksModel", "run", "(I)I"⟩,
  Cond.methodLink "NativeWorksLaw" 86 ⟨"NativeWorks", "stop", "(I)J"⟩,
  Cond.instanceMethod ⟨"NativeWorks", "stop", "(I)J"⟩,
  Cond.code ⟨"NativeWorks", "stop", "(I)J"⟩ prog_1_method_13_code 2 (Option.some FieldType.long),
  Cond.selects "NativeWorks" ⟨"NativeWorks", "stop", "(I)J"⟩ ⟨"NativeWorks", "stop", "(I)J"⟩,
  Cond.methodLink "NativeWorksLaw" 89 ⟨"NativeWorksModel", "stop", "(I)J"⟩,
  Cond.instanceMethod ⟨"NativeWorksModel", "stop", "(I)J"⟩,
  Cond.code ⟨"NativeWorksModel", "stop", "(I)J"⟩ prog_14_method_198_code 2 (Option.some FieldType.long),
  Cond.selects "NativeWorksModel" ⟨"NativeWorksModel", "stop", "(I)J"⟩ ⟨"NativeWorksModel", "stop", "(I)J"⟩,
  Cond.methodLink "NativeWorksLaw" 90 ⟨"NativeWorks", "registe\x72", "(I)J"⟩,
  Cond.instanceMethod ⟨"NativeWorks", "registe\x72", "(I)J"⟩,
  Cond.code ⟨"NativeWorks", "registe\x72", "(I)J"⟩ prog_1_method_14_code 2 (Option.some FieldType.long),
  Cond.selects "NativeWorks" ⟨"NativeWorks", "registe\x72", "(I)J"⟩ ⟨"NativeWorks", "registe\x72", "(I)J"⟩,
  Cond.methodLink "NativeWorksLaw" 93 ⟨"NativeWorksModel", "registe\x72", "(I)J"⟩,
  Cond.instanceMethod ⟨"NativeWorksModel", "registe\x72", "(I)J"⟩,
  Cond.code ⟨"NativeWorksModel", "registe\x72", "(I)J"⟩ prog_14_method_199_code 2 (Option.some FieldType.long),
  Cond.selects "NativeWorksModel" ⟨"NativeWorksModel", "registe\x72", "(I)J"⟩ ⟨"NativeWorksModel", "registe\x72", "(I)J"⟩,
  Cond.constantLong "NativeWorksLaw" 94 4294967295,
  Cond.methodLink "NativeWorksLaw" 96 ⟨"NativeWorks", "set", "(IJ)Z"⟩,
  Cond.instanceMethod ⟨"NativeWorks", "set", "(IJ)Z"⟩,
  Cond.code ⟨"NativeWorks", "set", "(IJ)Z"⟩ prog_1_method_15_code 4 (Option.some FieldType.boolean),
  Cond.selects "NativeWorks" ⟨"NativeWorks", "set", "(IJ)Z"⟩ ⟨"NativeWorks", "set", "(IJ)Z"⟩,
  Cond.methodLink "NativeWorksLaw" 100 ⟨"NativeWorksModel", "set", "(IJ)Z"⟩,
  Cond.instanceMethod ⟨"NativeWorksModel", "set", "(IJ)Z"⟩,
  Cond.code ⟨"NativeWorksModel", "set", "(IJ)Z"⟩ prog_14_method_200_code 4 (Option.some FieldType.boolean),
  Cond.selects "NativeWorksModel" ⟨"NativeWorksModel", "set", "(IJ)Z"⟩ ⟨"NativeWorksModel", "set", "(IJ)Z"⟩,
  Cond.methodLink "NativeWorksLaw" 101 ⟨"NativeWorks", "peek", "(J)I"⟩,
  Cond.instanceMethod ⟨"NativeWorks", "peek", "(J)I"⟩,
  Cond.code ⟨"NativeWorks", "peek", "(J)I"⟩ prog_1_method_16_code 3 (Option.some FieldType.int),
  Cond.selects "NativeWorks" ⟨"NativeWorks", "peek", "(J)I"⟩ ⟨"NativeWorks", "peek", "(J)I"⟩]
def rB23 : List Cond := [Cond.methodLink "NativeWorksLaw" 105 ⟨"NativeWorksModel", "peek", "(J)I"⟩,
  Cond.instanceMethod ⟨"NativeWorksModel", "peek", "(J)I"⟩,
  Cond.code ⟨"NativeWorksModel", "peek", "(J)I"⟩ prog_14_method_201_code 4 (Option.some FieldType.int),
  Cond.selects "NativeWorksModel" ⟨"NativeWorksModel", "peek", "(J)I"⟩ ⟨"NativeWorksModel", "peek", "(J)I"⟩,
  Cond.methodLink "NativeWorksLaw" 106 ⟨"NativeWorks", "poke", "(JI)Z"⟩,
  Cond.instanceMethod ⟨"NativeWorks", "poke", "(JI)Z"⟩,
  Cond.code ⟨"NativeWorks", "poke", "(JI)Z"⟩ prog_1_method_17_code 4 (Option.some FieldType.boolean),
  Cond.selects "NativeWorks" ⟨"NativeWorks", "poke", "(JI)Z"⟩ ⟨"NativeWorks", "poke", "(JI)Z"⟩,
  Cond.methodLink "NativeWorksLaw" 110 ⟨"NativeWorksModel", "poke", "(JI)Z"⟩,
  Cond.instanceMethod ⟨"NativeWorksModel", "poke", "(JI)Z"⟩,
  Cond.code ⟨"NativeWorksModel", "poke", "(JI)Z"⟩ prog_14_method_202_code 5 (Option.some FieldType.boolean),
  Cond.selects "NativeWorksModel" ⟨"NativeWorksModel", "poke", "(JI)Z"⟩ ⟨"NativeWorksModel", "poke", "(JI)Z"⟩,
  Cond.methodLink "NativeWorksLaw" 111 ⟨"NativeWorks", "stopAt", "(JZ)Z"⟩,
  Cond.instanceMethod ⟨"NativeWorks", "stopAt", "(JZ)Z"⟩,
  Cond.code ⟨"NativeWorks", "stopAt", "(JZ)Z"⟩ prog_1_method_18_code 4 (Option.some FieldType.boolean),
  Cond.selects "NativeWorks" ⟨"NativeWorks", "stopAt", "(JZ)Z"⟩ ⟨"NativeWorks", "stopAt", "(JZ)Z"⟩,
  Cond.methodLink "NativeWorksLaw" 115 ⟨"NativeWorksModel", "stopAt", "(JZ)Z"⟩,
  Cond.instanceMethod ⟨"NativeWorksModel", "stopAt", "(JZ)Z"⟩,
  Cond.code ⟨"NativeWorksModel", "stopAt", "(JZ)Z"⟩ prog_14_method_203_code 5 (Option.some FieldType.boolean),
  Cond.selects "NativeWorksModel" ⟨"NativeWorksModel", "stopAt", "(JZ)Z"⟩ ⟨"NativeWorksModel", "stopAt", "(JZ)Z"⟩,
  Cond.methodLink "NativeWorksLaw" 116 ⟨"NativeWorks", "output", "(I)I"⟩,
  Cond.instanceMethod ⟨"NativeWorks", "output", "(I)I"⟩,
  Cond.code ⟨"NativeWorks", "output", "(I)I"⟩ prog_1_method_19_code 2 (Option.some FieldType.int),
  Cond.selects "NativeWorks" ⟨"NativeWorks", "output", "(I)I"⟩ ⟨"NativeWorks", "output", "(I)I"⟩,
  Cond.methodLink "NativeWorksLaw" 119 ⟨"NativeWorksModel", "output", "(I)I"⟩,
  Cond.instanceMethod ⟨"NativeWorksModel", "output", "(I)I"⟩,
  Cond.code ⟨"NativeWorksModel", "output", "(I)I"⟩ prog_14_method_204_code 2 (Option.some FieldType.int),
  Cond.selects "NativeWorksModel" ⟨"NativeWorksModel", "output", "(I)I"⟩ ⟨"NativeWorksModel", "output", "(I)I"⟩,
  Cond.methodLink "NativeWorksLaw" 120 ⟨"NativeWorks", "where", "(J)I"⟩,
  Cond.instanceMethod ⟨"NativeWorks", "where", "(J)I"⟩,
  Cond.code ⟨"NativeWorks", "where", "(J)I"⟩ prog_1_method_20_code 5 (Option.some FieldType.int),
  Cond.selects "NativeWorks" ⟨"NativeWorks", "where", "(J)I"⟩ ⟨"NativeWorks", "where", "(J)I"⟩,
  Cond.methodLink "NativeWorksLaw" 123 ⟨"NativeWorksModel", "where", "(J)I"⟩,
  Cond.instanceMethod ⟨"NativeWorksModel", "where", "(J)I"⟩,
  Cond.code ⟨"NativeWorksModel", "where", "(J)I"⟩ prog_14_method_150_code 4 (Option.some FieldType.int),
  Cond.selects "NativeWorksModel" ⟨"NativeWorksModel", "where", "(J)I"⟩ ⟨"NativeWorksModel", "where", "(J)I"⟩,
  Cond.classLink "NativeWorksLaw" 13 "java/lang/IllegalArgumentException",
  Cond.classLink "NativeWorksLaw" 19 "java/lang/IllegalStateException",
  Cond.classLink "NativeWorksLaw" 25 "java/util/NoSuchElementException",
  Cond.code ⟨"NativeWorks$Assemble\x72", "address", "()Z"⟩ prog_2_method_28_code 4 (Option.some FieldType.boolean),
  Cond.fieldLink "NativeWorks$Assemble\x72" 247 "NativeWorks$Line" "at" "I",
  Cond.methodLink "NativeWorks$Assemble\x72" 413 ⟨"NativeWorks$Instruction", "beginAddress", "()V"⟩,
  Cond.instanceMethod ⟨"NativeWorks$Instruction", "beginAddress", "()V"⟩,
  Cond.selects "NativeWorks$Instruction" ⟨"NativeWorks$Instruction", "beginAddress", "()V"⟩ ⟨"NativeWorks$Instruction", "beginAddress", "()V"⟩,
  Cond.methodLink "NativeWorks$Assemble\x72" 416 ⟨"NativeWorks$Expression", "beZero", "()V"⟩,
  Cond.instanceMethod ⟨"NativeWorks$Expression", "beZero", "()V"⟩,
  Cond.selects "NativeWorks$Expression" ⟨"NativeWorks$Expression", "beZero", "()V"⟩ ⟨"NativeWorks$Expression", "beZero", "()V"⟩,
  Cond.methodLink "NativeWorks$Assemble\x72" 200 ⟨"NativeWorks$Line", "isMark", "(II)Z"⟩]
def rB24 : List Cond := [Cond.instanceMethod ⟨"NativeWorks$Line", "isMark", "(II)Z"⟩,
  Cond.selects "NativeWorks$Line" ⟨"NativeWorks$Line", "isMark", "(II)Z"⟩ ⟨"NativeWorks$Line", "isMark", "(II)Z"⟩,
  Cond.fieldLink "NativeWorks$Assemble\x72" 419 "NativeWorks$Instruction" "base" "I",
  Cond.methodLink "NativeWorks$Assemble\x72" 286 ⟨"NativeWorks$Expression", "read", "(IZI)Z"⟩,
  Cond.instanceMethod ⟨"NativeWorks$Expression", "read", "(IZI)Z"⟩,
  Cond.selects "NativeWorks$Expression" ⟨"NativeWorks$Expression", "read", "(IZI)Z"⟩ ⟨"NativeWorks$Expression", "read", "(IZI)Z"⟩,
  Cond.methodLink "NativeWorks$Assemble\x72" 388 ⟨"NativeWorks$Line", "isRegiste\x72", "(I)Z"⟩,
  Cond.instanceMethod ⟨"NativeWorks$Line", "isRegiste\x72", "(I)Z"⟩,
  Cond.selects "NativeWorks$Line" ⟨"NativeWorks$Line", "isRegiste\x72", "(I)Z"⟩ ⟨"NativeWorks$Line", "isRegiste\x72", "(I)Z"⟩,
  Cond.methodLink "NativeWorks$Assemble\x72" 422 ⟨"NativeWorks$Assemble\x72", "registerTerm", "()Z"⟩,
  Cond.instanceMethod ⟨"NativeWorks$Assemble\x72", "registerTerm", "()Z"⟩,
  Cond.selects "NativeWorks$Assemble\x72" ⟨"NativeWorks$Assemble\x72", "registerTerm", "()Z"⟩ ⟨"NativeWorks$Assemble\x72", "registerTerm", "()Z"⟩,
  Cond.methodLink "NativeWorks$Assemble\x72" 425 ⟨"NativeWorks$Expression", "apply", "(I)V"⟩,
  Cond.instanceMethod ⟨"NativeWorks$Expression", "apply", "(I)V"⟩,
  Cond.selects "NativeWorks$Expression" ⟨"NativeWorks$Expression", "apply", "(I)V"⟩ ⟨"NativeWorks$Expression", "apply", "(I)V"⟩,
  Cond.fieldLink "NativeWorks$Assemble\x72" 157 "NativeWorks$Line" "kind" "[I",
  Cond.fieldLink "NativeWorks$Assemble\x72" 82 "NativeWorks$Line" "worst" "I",
  Cond.methodLink "NativeWorks$Assemble\x72" 85 ⟨"NativeWorks$Reade\x72", "tooMuch", "()Z"⟩,
  Cond.instanceMethod ⟨"NativeWorks$Reade\x72", "tooMuch", "()Z"⟩,
  Cond.selects "NativeWorks$Reade\x72" ⟨"NativeWorks$Reade\x72", "tooMuch", "()Z"⟩ ⟨"NativeWorks$Reade\x72", "tooMuch", "()Z"⟩,
  Cond.methodLink "NativeWorks$Assemble\x72" 88 ⟨"NativeWorks$Line", "blame", "(I)V"⟩,
  Cond.instanceMethod ⟨"NativeWorks$Line", "blame", "(I)V"⟩,
  Cond.selects "NativeWorks$Line" ⟨"NativeWorks$Line", "blame", "(I)V"⟩ ⟨"NativeWorks$Line", "blame", "(I)V"⟩,
  Cond.methodLink "NativeWorks$Assemble\x72" 91 ⟨"NativeWorks$Line", "cut", "()Z"⟩,
  Cond.instanceMethod ⟨"NativeWorks$Line", "cut", "()Z"⟩,
  Cond.selects "NativeWorks$Line" ⟨"NativeWorks$Line", "cut", "()Z"⟩ ⟨"NativeWorks$Line", "cut", "()Z"⟩,
  Cond.methodLink "NativeWorks$Assemble\x72" 94 ⟨"NativeWorks$Assemble\x72", "begin", "()V"⟩,
  Cond.instanceMethod ⟨"NativeWorks$Assemble\x72", "begin", "()V"⟩,
  Cond.selects "NativeWorks$Assemble\x72" ⟨"NativeWorks$Assemble\x72", "begin", "()V"⟩ ⟨"NativeWorks$Assemble\x72", "begin", "()V"⟩,
  Cond.methodLink "NativeWorks$Assemble\x72" 96 ⟨"NativeWorks$Line", "blamed", "(I)Z"⟩,
  Cond.instanceMethod ⟨"NativeWorks$Line", "blamed", "(I)Z"⟩,
  Cond.selects "NativeWorks$Line" ⟨"NativeWorks$Line", "blamed", "(I)Z"⟩ ⟨"NativeWorks$Line", "blamed", "(I)Z"⟩,
  Cond.methodLink "NativeWorks$Assemble\x72" 100 ⟨"NativeWorks$Assemble\x72", "statement", "()V"⟩,
  Cond.instanceMethod ⟨"NativeWorks$Assemble\x72", "statement", "()V"⟩,
  Cond.selects "NativeWorks$Assemble\x72" ⟨"NativeWorks$Assemble\x72", "statement", "()V"⟩ ⟨"NativeWorks$Assemble\x72", "statement", "()V"⟩,
  Cond.methodLink "NativeWorks$Assemble\x72" 103 ⟨"NativeWorks$Line", "faultKind", "()I"⟩,
  Cond.instanceMethod ⟨"NativeWorks$Line", "faultKind", "()I"⟩,
  Cond.selects "NativeWorks$Line" ⟨"NativeWorks$Line", "faultKind", "()I"⟩ ⟨"NativeWorks$Line", "faultKind", "()I"⟩,
  Cond.fieldLink "NativeWorks$Assemble\x72" 107 "NativeWorks$Reade\x72" "told" "I",
  Cond.methodLink "NativeWorks$Assemble\x72" 109 ⟨"NativeWorks$Assemble\x72", "fail", "(II)I"⟩,
  Cond.instanceMethod ⟨"NativeWorks$Assemble\x72", "fail", "(II)I"⟩,
  Cond.selects "NativeWorks$Assemble\x72" ⟨"NativeWorks$Assemble\x72", "fail", "(II)I"⟩ ⟨"NativeWorks$Assemble\x72", "fail", "(II)I"⟩,
  Cond.code ⟨"NativeWorks$Assemble\x72", "begin", "()V"⟩ prog_2_method_5_code 3 (Option.none : Option FieldType),
  Cond.fieldLink "NativeWorks$Assemble\x72" 151 "NativeWorks$Assemble\x72" "first" "I",
  Cond.fieldLink "NativeWorks$Assemble\x72" 154 "NativeWorks$Line" "count" "I",
  Cond.methodLink "NativeWorks$Assemble\x72" 160 ⟨"NativeWorks$Assemble\x72", "wordAt", "(I)I"⟩,
  Cond.instanceMethod ⟨"NativeWorks$Assemble\x72", "wordAt", "(I)I"⟩,
  Cond.selects "NativeWorks$Assemble\x72" ⟨"NativeWorks$Assemble\x72", "wordAt", "(I)I"⟩ ⟨"NativeWorks$Assemble\x72", "wordAt", "(I)I"⟩]
def rB25 : List Cond := [Cond.fieldLink "NativeWorks$Assemble\x72" 164 "NativeWorks$Assemble\x72" "word" "I",
  Cond.methodLink "NativeWorks$Assemble\x72" 167 ⟨"NativeWorks$Reade\x72", "misplaced", "(I)Z"⟩,
  Cond.instanceMethod ⟨"NativeWorks$Reade\x72", "misplaced", "(I)Z"⟩,
  Cond.selects "NativeWorks$Reade\x72" ⟨"NativeWorks$Reade\x72", "misplaced", "(I)Z"⟩ ⟨"NativeWorks$Reade\x72", "misplaced", "(I)Z"⟩,
  Cond.fieldLink "NativeWorks$Assemble\x72" 170 "NativeWorks$Assemble\x72" "macro" "I",
  Cond.methodLink "NativeWorks$Assemble\x72" 173 ⟨"NativeWorks$Reade\x72", "overused", "(II)Z"⟩,
  Cond.instanceMethod ⟨"NativeWorks$Reade\x72", "overused", "(II)Z"⟩,
  Cond.selects "NativeWorks$Reade\x72" ⟨"NativeWorks$Reade\x72", "overused", "(II)Z"⟩ ⟨"NativeWorks$Reade\x72", "overused", "(II)Z"⟩,
  Cond.methodLink "NativeWorks$Assemble\x72" 177 ⟨"NativeWorks$Assemble\x72", "label", "(I)V"⟩,
  Cond.instanceMethod ⟨"NativeWorks$Assemble\x72", "label", "(I)V"⟩,
  Cond.selects "NativeWorks$Assemble\x72" ⟨"NativeWorks$Assemble\x72", "label", "(I)V"⟩ ⟨"NativeWorks$Assemble\x72", "label", "(I)V"⟩,
  Cond.methodLink "NativeWorks$Assemble\x72" 180 ⟨"NativeWorks$Expression", "spell", "(IZ)V"⟩,
  Cond.instanceMethod ⟨"NativeWorks$Expression", "spell", "(IZ)V"⟩,
  Cond.selects "NativeWorks$Expression" ⟨"NativeWorks$Expression", "spell", "(IZ)V"⟩ ⟨"NativeWorks$Expression", "spell", "(IZ)V"⟩,
  Cond.methodLink "NativeWorks$Assemble\x72" 184 ⟨"NativeWorks$Line", "isWord", "(I)Z"⟩,
  Cond.instanceMethod ⟨"NativeWorks$Line", "isWord", "(I)Z"⟩,
  Cond.selects "NativeWorks$Line" ⟨"NativeWorks$Line", "isWord", "(I)Z"⟩ ⟨"NativeWorks$Line", "isWord", "(I)Z"⟩,
  Cond.methodLink "NativeWorks$Assemble\x72" 187 ⟨"NativeWorks$Assemble\x72", "isMacro", "()Z"⟩,
  Cond.instanceMethod ⟨"NativeWorks$Assemble\x72", "isMacro", "()Z"⟩,
  Cond.selects "NativeWorks$Assemble\x72" ⟨"NativeWorks$Assemble\x72", "isMacro", "()Z"⟩ ⟨"NativeWorks$Assemble\x72", "isMacro", "()Z"⟩,
  Cond.methodLink "NativeWorks$Assemble\x72" 190 ⟨"NativeWorks$Expression", "known", "()I"⟩,
  Cond.instanceMethod ⟨"NativeWorks$Expression", "known", "()I"⟩,
  Cond.selects "NativeWorks$Expression" ⟨"NativeWorks$Expression", "known", "()I"⟩ ⟨"NativeWorks$Expression", "known", "()I"⟩,
  Cond.methodLink "NativeWorks$Assemble\x72" 193 ⟨"NativeWorks$Assemble\x72", "blameIf", "(ZI)V"⟩,
  Cond.instanceMethod ⟨"NativeWorks$Assemble\x72", "blameIf", "(ZI)V"⟩,
  Cond.selects "NativeWorks$Assemble\x72" ⟨"NativeWorks$Assemble\x72", "blameIf", "(ZI)V"⟩ ⟨"NativeWorks$Assemble\x72", "blameIf", "(ZI)V"⟩,
  Cond.methodLink "NativeWorks$Assemble\x72" 197 ⟨"NativeWorks$Assemble\x72", "isDefined", "(I)Z"⟩,
  Cond.instanceMethod ⟨"NativeWorks$Assemble\x72", "isDefined", "(I)Z"⟩,
  Cond.selects "NativeWorks$Assemble\x72" ⟨"NativeWorks$Assemble\x72", "isDefined", "(I)Z"⟩ ⟨"NativeWorks$Assemble\x72", "isDefined", "(I)Z"⟩,
  Cond.code ⟨"NativeWorks$Assemble\x72", "blameIf", "(ZI)V"⟩ prog_2_method_7_code 3 (Option.none : Option FieldType),
  Cond.code ⟨"NativeWorks$Assemble\x72", "changeSection", "()V"⟩ prog_2_method_15_code 2 (Option.none : Option FieldType),
  Cond.fieldLink "NativeWorks$Assemble\x72" 203 "NativeWorks$Line" "value" "[J",
  Cond.constantLong "NativeWorks$Assemble\x72" 302 185,
  Cond.code ⟨"NativeWorks$Assemble\x72", "characters", "(I)I"⟩ prog_2_method_18_code 5 (Option.some FieldType.int),
  Cond.fieldLink "NativeWorks$Assemble\x72" 217 "NativeWorks$Line" "to" "[I",
  Cond.fieldLink "NativeWorks$Assemble\x72" 214 "NativeWorks$Line" "from" "[I",
  Cond.methodLink "NativeWorks$Assemble\x72" 318 ⟨"NativeWorks$Line", "meant", "(I)I"⟩,
  Cond.instanceMethod ⟨"NativeWorks$Line", "meant", "(I)I"⟩,
  Cond.selects "NativeWorks$Line" ⟨"NativeWorks$Line", "meant", "(I)I"⟩ ⟨"NativeWorks$Line", "meant", "(I)I"⟩,
  Cond.methodLink "NativeWorks$Assemble\x72" 321 ⟨"NativeWorks$Units", "putNumbe\x72", "(JI)V"⟩,
  Cond.instanceMethod ⟨"NativeWorks$Units", "putNumbe\x72", "(JI)V"⟩,
  Cond.selects "NativeWorks$Units" ⟨"NativeWorks$Units", "putNumbe\x72", "(JI)V"⟩ ⟨"NativeWorks$Units", "putNumbe\x72", "(JI)V"⟩,
  Cond.fieldLink "NativeWorks$Assemble\x72" 210 "NativeWorks$Line" "text" "[B",
  Cond.code ⟨"NativeWorks$Assemble\x72", "code", "()V"⟩ prog_2_method_35_code 5 (Option.none : Option FieldType),
  Cond.fieldLink "NativeWorks$Assemble\x72" 470 "NativeWorks$Instruction" "displacementAt" "I",
  Cond.fieldLink "NativeWorks$Assemble\x72" 446 "NativeWorks$Instruction" "displacementWaits" "Z",
  Cond.fieldLink "NativeWorks$Assemble\x72" 449 "NativeWorks$Assemble\x72" "displacementPlus" "I",
  Cond.fieldLink "NativeWorks$Assemble\x72" 452 "NativeWorks$Assemble\x72" "displacementMinus" "I"]
def rB26 : List Cond := [Cond.fieldLink "NativeWorks$Assemble\x72" 443 "NativeWorks$Instruction" "displacement" "J",
  Cond.methodLink "NativeWorks$Assemble\x72" 331 ⟨"NativeWorks$Units", "addWait", "(IIZIIJ)Z"⟩,
  Cond.instanceMethod ⟨"NativeWorks$Units", "addWait", "(IIZIIJ)Z"⟩,
  Cond.selects "NativeWorks$Units" ⟨"NativeWorks$Units", "addWait", "(IIZIIJ)Z"⟩ ⟨"NativeWorks$Units", "addWait", "(IIZIIJ)Z"⟩,
  Cond.fieldLink "NativeWorks$Assemble\x72" 486 "NativeWorks$Instruction" "numberAt" "I",
  Cond.fieldLink "NativeWorks$Assemble\x72" 404 "NativeWorks$Instruction" "numberWidth" "I",
  Cond.fieldLink "NativeWorks$Assemble\x72" 367 "NativeWorks$Instruction" "op" "I",
  Cond.fieldLink "NativeWorks$Assemble\x72" 407 "NativeWorks$Assemble\x72" "numberPlus" "I",
  Cond.fieldLink "NativeWorks$Assemble\x72" 410 "NativeWorks$Assemble\x72" "numberMinus" "I",
  Cond.fieldLink "NativeWorks$Assemble\x72" 401 "NativeWorks$Instruction" "numbe\x72" "J",
  Cond.fieldLink "NativeWorks$Assemble\x72" 304 "NativeWorks$Units" "putCount" "I",
  Cond.fieldLink "NativeWorks$Assemble\x72" 489 "NativeWorks$Instruction" "length" "I",
  Cond.fieldLink "NativeWorks$Assemble\x72" 492 "NativeWorks$Instruction" "bytes" "[B",
  Cond.methodLink "NativeWorks$Assemble\x72" 314 ⟨"NativeWorks$Units", "add", "(IIIII)Z"⟩,
  Cond.instanceMethod ⟨"NativeWorks$Units", "add", "(IIIII)Z"⟩,
  Cond.selects "NativeWorks$Units" ⟨"NativeWorks$Units", "add", "(IIIII)Z"⟩ ⟨"NativeWorks$Units", "add", "(IIIII)Z"⟩,
  Cond.code ⟨"NativeWorks$Assemble\x72", "constant", "()Z"⟩ prog_2_method_13_code 1 (Option.some FieldType.boolean),
  Cond.methodLink "NativeWorks$Assemble\x72" 270 ⟨"NativeWorks$Assemble\x72", "ended", "()Z"⟩,
  Cond.instanceMethod ⟨"NativeWorks$Assemble\x72", "ended", "()Z"⟩,
  Cond.selects "NativeWorks$Assemble\x72" ⟨"NativeWorks$Assemble\x72", "ended", "()Z"⟩ ⟨"NativeWorks$Assemble\x72", "ended", "()Z"⟩,
  Cond.methodLink "NativeWorks$Assemble\x72" 290 ⟨"NativeWorks$Expression", "isConstant", "()Z"⟩,
  Cond.instanceMethod ⟨"NativeWorks$Expression", "isConstant", "()Z"⟩,
  Cond.selects "NativeWorks$Expression" ⟨"NativeWorks$Expression", "isConstant", "()Z"⟩ ⟨"NativeWorks$Expression", "isConstant", "()Z"⟩,
  Cond.code ⟨"NativeWorks$Assemble\x72", "control", "()V"⟩ prog_2_method_21_code 1 (Option.none : Option FieldType),
  Cond.methodLink "NativeWorks$Assemble\x72" 293 ⟨"NativeWorks$Assemble\x72", "constant", "()Z"⟩,
  Cond.instanceMethod ⟨"NativeWorks$Assemble\x72", "constant", "()Z"⟩,
  Cond.selects "NativeWorks$Assemble\x72" ⟨"NativeWorks$Assemble\x72", "constant", "()Z"⟩ ⟨"NativeWorks$Assemble\x72", "constant", "()Z"⟩,
  Cond.fieldLink "NativeWorks$Assemble\x72" 299 "NativeWorks$Expression" "numbe\x72" "[J",
  Cond.methodLink "NativeWorks$Assemble\x72" 339 ⟨"NativeWorks$Reade\x72", "readIf", "(Z)V"⟩,
  Cond.instanceMethod ⟨"NativeWorks$Reade\x72", "readIf", "(Z)V"⟩,
  Cond.selects "NativeWorks$Reade\x72" ⟨"NativeWorks$Reade\x72", "readIf", "(Z)V"⟩ ⟨"NativeWorks$Reade\x72", "readIf", "(Z)V"⟩,
  Cond.methodLink "NativeWorks$Assemble\x72" 342 ⟨"NativeWorks$Assemble\x72", "rept", "(J)V"⟩,
  Cond.instanceMethod ⟨"NativeWorks$Assemble\x72", "rept", "(J)V"⟩,
  Cond.selects "NativeWorks$Assemble\x72" ⟨"NativeWorks$Assemble\x72", "rept", "(J)V"⟩ ⟨"NativeWorks$Assemble\x72", "rept", "(J)V"⟩,
  Cond.methodLink "NativeWorks$Assemble\x72" 346 ⟨"NativeWorks$Assemble\x72", "defineMacro", "()V"⟩,
  Cond.instanceMethod ⟨"NativeWorks$Assemble\x72", "defineMacro", "()V"⟩,
  Cond.selects "NativeWorks$Assemble\x72" ⟨"NativeWorks$Assemble\x72", "defineMacro", "()V"⟩ ⟨"NativeWorks$Assemble\x72", "defineMacro", "()V"⟩,
  Cond.methodLink "NativeWorks$Assemble\x72" 349 ⟨"NativeWorks$Reade\x72", "readElse", "()V"⟩,
  Cond.instanceMethod ⟨"NativeWorks$Reade\x72", "readElse", "()V"⟩,
  Cond.selects "NativeWorks$Reade\x72" ⟨"NativeWorks$Reade\x72", "readElse", "()V"⟩ ⟨"NativeWorks$Reade\x72", "readElse", "()V"⟩,
  Cond.methodLink "NativeWorks$Assemble\x72" 352 ⟨"NativeWorks$Reade\x72", "readEndif", "()V"⟩,
  Cond.instanceMethod ⟨"NativeWorks$Reade\x72", "readEndif", "()V"⟩,
  Cond.selects "NativeWorks$Reade\x72" ⟨"NativeWorks$Reade\x72", "readEndif", "()V"⟩ ⟨"NativeWorks$Reade\x72", "readEndif", "()V"⟩,
  Cond.code ⟨"NativeWorks$Assemble\x72", "data", "(I)V"⟩ prog_2_method_17_code 6 (Option.none : Option FieldType),
  Cond.methodLink "NativeWorks$Assemble\x72" 307 ⟨"NativeWorks$Assemble\x72", "characters", "(I)I"⟩,
  Cond.instanceMethod ⟨"NativeWorks$Assemble\x72", "characters", "(I)I"⟩,
  Cond.selects "NativeWorks$Assemble\x72" ⟨"NativeWorks$Assemble\x72", "characters", "(I)I"⟩ ⟨"NativeWorks$Assemble\x72", "characters", "(I)I"⟩,
  Cond.methodLink "NativeWorks$Assemble\x72" 310 ⟨"NativeWorks$Assemble\x72", "item", "(II)V"⟩]
def rB27 : List Cond := [Cond.instanceMethod ⟨"NativeWorks$Assemble\x72", "item", "(II)V"⟩,
  Cond.selects "NativeWorks$Assemble\x72" ⟨"NativeWorks$Assemble\x72", "item", "(II)V"⟩ ⟨"NativeWorks$Assemble\x72", "item", "(II)V"⟩,
  Cond.code ⟨"NativeWorks$Assemble\x72", "defineMacro", "()V"⟩ prog_2_method_23_code 4 (Option.none : Option FieldType),
  Cond.methodLink "NativeWorks$Assemble\x72" 358 ⟨"NativeWorks$Reade\x72", "readMacro", "(I)V"⟩,
  Cond.instanceMethod ⟨"NativeWorks$Reade\x72", "readMacro", "(I)V"⟩,
  Cond.selects "NativeWorks$Reade\x72" ⟨"NativeWorks$Reade\x72", "readMacro", "(I)V"⟩ ⟨"NativeWorks$Reade\x72", "readMacro", "(I)V"⟩,
  Cond.code ⟨"NativeWorks$Assemble\x72", "define", "()V"⟩ prog_2_method_14_code 2 (Option.none : Option FieldType),
  Cond.methodLink "NativeWorks$Assemble\x72" 237 ⟨"NativeWorks$Expression", "made", "()I"⟩,
  Cond.instanceMethod ⟨"NativeWorks$Expression", "made", "()I"⟩,
  Cond.selects "NativeWorks$Expression" ⟨"NativeWorks$Expression", "made", "()I"⟩ ⟨"NativeWorks$Expression", "made", "()I"⟩,
  Cond.fieldLink "NativeWorks$Assemble\x72" 233 "NativeWorks$Units" "symbols" "[[I",
  Cond.fieldLink "NativeWorks$Assemble\x72" 296 "NativeWorks$Units" "constants" "[J",
  Cond.code ⟨"NativeWorks$Assemble\x72", "ended", "()Z"⟩ prog_2_method_12_code 1 (Option.some FieldType.boolean),
  Cond.code ⟨"NativeWorks$Assemble\x72", "fail", "(II)I"⟩ prog_2_method_3_code 3 (Option.some FieldType.int),
  Cond.methodLink "NativeWorks$Assemble\x72" 116 ⟨"NativeWorks$Units", "drop", "()V"⟩,
  Cond.instanceMethod ⟨"NativeWorks$Units", "drop", "()V"⟩,
  Cond.selects "NativeWorks$Units" ⟨"NativeWorks$Units", "drop", "()V"⟩ ⟨"NativeWorks$Units", "drop", "()V"⟩,
  Cond.fieldLink "NativeWorks$Assemble\x72" 119 "NativeWorks$Assemble\x72" "faultLine" "I",
  Cond.code ⟨"NativeWorks$Assemble\x72", "flag", "(I)V"⟩ prog_2_method_16_code 4 (Option.none : Option FieldType),
  Cond.code ⟨"NativeWorks$Assemble\x72", "instruction", "()V"⟩ prog_2_method_31_code 3 (Option.none : Option FieldType),
  Cond.methodLink "NativeWorks$Assemble\x72" 455 ⟨"NativeWorks$Assemble\x72", "settleSize", "()Z"⟩,
  Cond.instanceMethod ⟨"NativeWorks$Assemble\x72", "settleSize", "()Z"⟩,
  Cond.selects "NativeWorks$Assemble\x72" ⟨"NativeWorks$Assemble\x72", "settleSize", "()Z"⟩ ⟨"NativeWorks$Assemble\x72", "settleSize", "()Z"⟩,
  Cond.fieldLink "NativeWorks$Assemble\x72" 376 "NativeWorks$Instruction" "count" "I",
  Cond.fieldLink "NativeWorks$Assemble\x72" 397 "NativeWorks$Instruction" "kind" "[I",
  Cond.methodLink "NativeWorks$Assemble\x72" 458 ⟨"NativeWorks$Assemble\x72", "jump", "()V"⟩,
  Cond.instanceMethod ⟨"NativeWorks$Assemble\x72", "jump", "()V"⟩,
  Cond.selects "NativeWorks$Assemble\x72" ⟨"NativeWorks$Assemble\x72", "jump", "()V"⟩ ⟨"NativeWorks$Assemble\x72", "jump", "()V"⟩,
  Cond.methodLink "NativeWorks$Assemble\x72" 461 ⟨"NativeWorks$Instruction", "beProduct", "()V"⟩,
  Cond.instanceMethod ⟨"NativeWorks$Instruction", "beProduct", "()V"⟩,
  Cond.selects "NativeWorks$Instruction" ⟨"NativeWorks$Instruction", "beProduct", "()V"⟩ ⟨"NativeWorks$Instruction", "beProduct", "()V"⟩,
  Cond.methodLink "NativeWorks$Assemble\x72" 464 ⟨"NativeWorks$Assemble\x72", "settleNumbe\x72", "(Z)V"⟩,
  Cond.instanceMethod ⟨"NativeWorks$Assemble\x72", "settleNumbe\x72", "(Z)V"⟩,
  Cond.selects "NativeWorks$Assemble\x72" ⟨"NativeWorks$Assemble\x72", "settleNumbe\x72", "(Z)V"⟩ ⟨"NativeWorks$Assemble\x72", "settleNumbe\x72", "(Z)V"⟩,
  Cond.methodLink "NativeWorks$Assemble\x72" 467 ⟨"NativeWorks$Instruction", "encode", "()Z"⟩,
  Cond.instanceMethod ⟨"NativeWorks$Instruction", "encode", "()Z"⟩,
  Cond.selects "NativeWorks$Instruction" ⟨"NativeWorks$Instruction", "encode", "()Z"⟩ ⟨"NativeWorks$Instruction", "encode", "()Z"⟩,
  Cond.methodLink "NativeWorks$Assemble\x72" 473 ⟨"NativeWorks$Assemble\x72", "code", "()V"⟩,
  Cond.instanceMethod ⟨"NativeWorks$Assemble\x72", "code", "()V"⟩,
  Cond.selects "NativeWorks$Assemble\x72" ⟨"NativeWorks$Assemble\x72", "code", "()V"⟩ ⟨"NativeWorks$Assemble\x72", "code", "()V"⟩,
  Cond.code ⟨"NativeWorks$Assemble\x72", "isDefined", "(I)Z"⟩ prog_2_method_9_code 3 (Option.some FieldType.boolean),
  Cond.code ⟨"NativeWorks$Assemble\x72", "isMacro", "()Z"⟩ prog_2_method_8_code 2 (Option.some FieldType.boolean),
  Cond.fieldLink "NativeWorks$Assemble\x72" 207 "NativeWorks$Source" "macros" "LNativeWorks$Names;",
  Cond.fieldLink "NativeWorks$Assemble\x72" 227 "NativeWorks$Expression" "name" "[B",
  Cond.fieldLink "NativeWorks$Assemble\x72" 230 "NativeWorks$Expression" "nameLength" "I",
  Cond.fieldLink "NativeWorks$Assemble\x72" 220 "NativeWorks$Names" "count" "I",
  Cond.methodLink "NativeWorks$Assemble\x72" 223 ⟨"NativeWorks$Names", "find", "([BIII)I"⟩,
  Cond.code ⟨"NativeWorks$Assemble\x72", "item", "(II)V"⟩ prog_2_method_19_code 9 (Option.none : Option FieldType)]
def rB28 : List Cond := [Cond.fieldLink "NativeWorks$Assemble\x72" 325 "NativeWorks$Expression" "plus" "[I",
  Cond.fieldLink "NativeWorks$Assemble\x72" 328 "NativeWorks$Expression" "minus" "[I",
  Cond.code ⟨"NativeWorks$Assemble\x72", "jump", "()V"⟩ prog_2_method_34_code 3 (Option.none : Option FieldType),
  Cond.fieldLink "NativeWorks$Assemble\x72" 361 "NativeWorks$Instruction" "condition" "I",
  Cond.code ⟨"NativeWorks$Assemble\x72", "label", "(I)V"⟩ prog_2_method_10_code 3 (Option.none : Option FieldType),
  Cond.methodLink "NativeWorks$Assemble\x72" 240 ⟨"NativeWorks$Units", "beLabel", "(III)V"⟩,
  Cond.instanceMethod ⟨"NativeWorks$Units", "beLabel", "(III)V"⟩,
  Cond.selects "NativeWorks$Units" ⟨"NativeWorks$Units", "beLabel", "(III)V"⟩ ⟨"NativeWorks$Units", "beLabel", "(III)V"⟩,
  Cond.methodLink "NativeWorks$Assemble\x72" 244 ⟨"NativeWorks$Expression", "beLatest", "(I)V"⟩,
  Cond.instanceMethod ⟨"NativeWorks$Expression", "beLatest", "(I)V"⟩,
  Cond.selects "NativeWorks$Expression" ⟨"NativeWorks$Expression", "beLatest", "(I)V"⟩ ⟨"NativeWorks$Expression", "beLatest", "(I)V"⟩,
  Cond.code ⟨"NativeWorks$Assemble\x72", "memoryOperand", "(I)Z"⟩ prog_2_method_30_code 2 (Option.some FieldType.boolean),
  Cond.methodLink "NativeWorks$Assemble\x72" 440 ⟨"NativeWorks$Instruction", "endAddress", "()Z"⟩,
  Cond.instanceMethod ⟨"NativeWorks$Instruction", "endAddress", "()Z"⟩,
  Cond.selects "NativeWorks$Instruction" ⟨"NativeWorks$Instruction", "endAddress", "()Z"⟩ ⟨"NativeWorks$Instruction", "endAddress", "()Z"⟩,
  Cond.code ⟨"NativeWorks$Assemble\x72", "numberOperand", "(I)Z"⟩ prog_2_method_27_code 2 (Option.some FieldType.boolean),
  Cond.code ⟨"NativeWorks$Assemble\x72", "operands", "()Z"⟩ prog_2_method_25_code 4 (Option.some FieldType.boolean),
  Cond.methodLink "NativeWorks$Assemble\x72" 377 ⟨"java/lang/Math", "min", "(II)I"⟩,
  Cond.methodLink "NativeWorks$Assemble\x72" 382 ⟨"NativeWorks$Assemble\x72", "address", "()Z"⟩,
  Cond.instanceMethod ⟨"NativeWorks$Assemble\x72", "address", "()Z"⟩,
  Cond.selects "NativeWorks$Assemble\x72" ⟨"NativeWorks$Assemble\x72", "address", "()Z"⟩ ⟨"NativeWorks$Assemble\x72", "address", "()Z"⟩,
  Cond.methodLink "NativeWorks$Assemble\x72" 385 ⟨"NativeWorks$Assemble\x72", "memoryOperand", "(I)Z"⟩,
  Cond.instanceMethod ⟨"NativeWorks$Assemble\x72", "memoryOperand", "(I)Z"⟩,
  Cond.selects "NativeWorks$Assemble\x72" ⟨"NativeWorks$Assemble\x72", "memoryOperand", "(I)Z"⟩ ⟨"NativeWorks$Assemble\x72", "memoryOperand", "(I)Z"⟩,
  Cond.methodLink "NativeWorks$Assemble\x72" 391 ⟨"NativeWorks$Assemble\x72", "registerOperand", "(I)Z"⟩,
  Cond.instanceMethod ⟨"NativeWorks$Assemble\x72", "registerOperand", "(I)Z"⟩,
  Cond.selects "NativeWorks$Assemble\x72" ⟨"NativeWorks$Assemble\x72", "registerOperand", "(I)Z"⟩ ⟨"NativeWorks$Assemble\x72", "registerOperand", "(I)Z"⟩,
  Cond.methodLink "NativeWorks$Assemble\x72" 394 ⟨"NativeWorks$Assemble\x72", "numberOperand", "(I)Z"⟩,
  Cond.instanceMethod ⟨"NativeWorks$Assemble\x72", "numberOperand", "(I)Z"⟩,
  Cond.selects "NativeWorks$Assemble\x72" ⟨"NativeWorks$Assemble\x72", "numberOperand", "(I)Z"⟩ ⟨"NativeWorks$Assemble\x72", "numberOperand", "(I)Z"⟩,
  Cond.code ⟨"NativeWorks$Assemble\x72", "operation", "()Z"⟩ prog_2_method_24_code 3 (Option.some FieldType.boolean),
  Cond.fieldLink "NativeWorks$Assemble\x72" 364 "NativeWorks$Instruction" "size" "I",
  Cond.fieldLink "NativeWorks$Assemble\x72" 370 "NativeWorks$Assemble\x72" "SIZED_OPS" "[I",
  Cond.fieldLink "NativeWorks$Assemble\x72" 373 "NativeWorks$Assemble\x72" "SIZED_SIZES" "[I",
  Cond.code ⟨"NativeWorks$Assemble\x72", "registerOperand", "(I)Z"⟩ prog_2_method_26_code 3 (Option.some FieldType.boolean),
  Cond.fieldLink "NativeWorks$Assemble\x72" 398 "NativeWorks$Instruction" "reg" "[I",
  Cond.code ⟨"NativeWorks$Assemble\x72", "registerTerm", "()Z"⟩ prog_2_method_29_code 4 (Option.some FieldType.boolean),
  Cond.methodLink "NativeWorks$Assemble\x72" 428 ⟨"NativeWorks$Instruction", "addRegiste\x72", "(I)V"⟩,
  Cond.instanceMethod ⟨"NativeWorks$Instruction", "addRegiste\x72", "(I)V"⟩,
  Cond.selects "NativeWorks$Instruction" ⟨"NativeWorks$Instruction", "addRegiste\x72", "(I)V"⟩ ⟨"NativeWorks$Instruction", "addRegiste\x72", "(I)V"⟩,
  Cond.constantLong "NativeWorks$Assemble\x72" 431 2,
  Cond.constantLong "NativeWorks$Assemble\x72" 433 4,
  Cond.constantLong "NativeWorks$Assemble\x72" 435 8,
  Cond.methodLink "NativeWorks$Assemble\x72" 437 ⟨"NativeWorks$Instruction", "addIndex", "(II)V"⟩,
  Cond.instanceMethod ⟨"NativeWorks$Instruction", "addIndex", "(II)V"⟩,
  Cond.selects "NativeWorks$Instruction" ⟨"NativeWorks$Instruction", "addIndex", "(II)V"⟩ ⟨"NativeWorks$Instruction", "addIndex", "(II)V"⟩,
  Cond.code ⟨"NativeWorks$Assemble\x72", "rept", "(J)V"⟩ prog_2_method_22_code 3 (Option.none : Option FieldType),
  Cond.constantLong "NativeWorks$Assemble\x72" 335 4096]
def rB29 : List Cond := [Cond.methodLink "NativeWorks$Assemble\x72" 355 ⟨"NativeWorks$Reade\x72", "readRept", "(I)V"⟩,
  Cond.instanceMethod ⟨"NativeWorks$Reade\x72", "readRept", "(I)V"⟩,
  Cond.selects "NativeWorks$Reade\x72" ⟨"NativeWorks$Reade\x72", "readRept", "(I)V"⟩ ⟨"NativeWorks$Reade\x72", "readRept", "(I)V"⟩,
  Cond.code ⟨"NativeWorks$Assemble\x72", "settleNumbe\x72", "(Z)V"⟩ prog_2_method_33_code 4 (Option.none : Option FieldType),
  Cond.constantLong "NativeWorks$Assemble\x72" 476 128,
  Cond.constantLong "NativeWorks$Assemble\x72" 478 255,
  Cond.constantLong "NativeWorks$Assemble\x72" 480 256,
  Cond.constantLong "NativeWorks$Assemble\x72" 482 2147483648,
  Cond.constantLong "NativeWorks$Assemble\x72" 484 4294967296,
  Cond.code ⟨"NativeWorks$Assemble\x72", "settleSize", "()Z"⟩ prog_2_method_32_code 7 (Option.some FieldType.boolean),
  Cond.code ⟨"NativeWorks$Assemble\x72", "space", "()V"⟩ prog_2_method_20_code 6 (Option.none : Option FieldType),
  Cond.constantLong "NativeWorks$Assemble\x72" 337 65536,
  Cond.code ⟨"NativeWorks$Assemble\x72", "statement", "()V"⟩ prog_2_method_11_code 1 (Option.none : Option FieldType),
  Cond.methodLink "NativeWorks$Assemble\x72" 250 ⟨"NativeWorks$Assemble\x72", "operation", "()Z"⟩,
  Cond.instanceMethod ⟨"NativeWorks$Assemble\x72", "operation", "()Z"⟩,
  Cond.selects "NativeWorks$Assemble\x72" ⟨"NativeWorks$Assemble\x72", "operation", "()Z"⟩ ⟨"NativeWorks$Assemble\x72", "operation", "()Z"⟩,
  Cond.methodLink "NativeWorks$Assemble\x72" 253 ⟨"NativeWorks$Assemble\x72", "operands", "()Z"⟩,
  Cond.instanceMethod ⟨"NativeWorks$Assemble\x72", "operands", "()Z"⟩,
  Cond.selects "NativeWorks$Assemble\x72" ⟨"NativeWorks$Assemble\x72", "operands", "()Z"⟩ ⟨"NativeWorks$Assemble\x72", "operands", "()Z"⟩,
  Cond.methodLink "NativeWorks$Assemble\x72" 256 ⟨"NativeWorks$Assemble\x72", "instruction", "()V"⟩,
  Cond.instanceMethod ⟨"NativeWorks$Assemble\x72", "instruction", "()V"⟩,
  Cond.selects "NativeWorks$Assemble\x72" ⟨"NativeWorks$Assemble\x72", "instruction", "()V"⟩ ⟨"NativeWorks$Assemble\x72", "instruction", "()V"⟩,
  Cond.methodLink "NativeWorks$Assemble\x72" 258 ⟨"NativeWorks$Reade\x72", "use", "(I)V"⟩,
  Cond.instanceMethod ⟨"NativeWorks$Reade\x72", "use", "(I)V"⟩,
  Cond.selects "NativeWorks$Reade\x72" ⟨"NativeWorks$Reade\x72", "use", "(I)V"⟩ ⟨"NativeWorks$Reade\x72", "use", "(I)V"⟩,
  Cond.methodLink "NativeWorks$Assemble\x72" 261 ⟨"NativeWorks$Assemble\x72", "define", "()V"⟩,
  Cond.instanceMethod ⟨"NativeWorks$Assemble\x72", "define", "()V"⟩,
  Cond.selects "NativeWorks$Assemble\x72" ⟨"NativeWorks$Assemble\x72", "define", "()V"⟩ ⟨"NativeWorks$Assemble\x72", "define", "()V"⟩,
  Cond.methodLink "NativeWorks$Assemble\x72" 264 ⟨"NativeWorks$Assemble\x72", "changeSection", "()V"⟩,
  Cond.instanceMethod ⟨"NativeWorks$Assemble\x72", "changeSection", "()V"⟩,
  Cond.selects "NativeWorks$Assemble\x72" ⟨"NativeWorks$Assemble\x72", "changeSection", "()V"⟩ ⟨"NativeWorks$Assemble\x72", "changeSection", "()V"⟩,
  Cond.methodLink "NativeWorks$Assemble\x72" 267 ⟨"NativeWorks$Assemble\x72", "flag", "(I)V"⟩,
  Cond.instanceMethod ⟨"NativeWorks$Assemble\x72", "flag", "(I)V"⟩,
  Cond.selects "NativeWorks$Assemble\x72" ⟨"NativeWorks$Assemble\x72", "flag", "(I)V"⟩ ⟨"NativeWorks$Assemble\x72", "flag", "(I)V"⟩,
  Cond.fieldLink "NativeWorks$Assemble\x72" 273 "NativeWorks$Units" "rows" "[[I",
  Cond.fieldLink "NativeWorks$Assemble\x72" 276 "NativeWorks$Units" "count" "I",
  Cond.methodLink "NativeWorks$Assemble\x72" 277 ⟨"NativeWorks$Assemble\x72", "data", "(I)V"⟩,
  Cond.instanceMethod ⟨"NativeWorks$Assemble\x72", "data", "(I)V"⟩,
  Cond.selects "NativeWorks$Assemble\x72" ⟨"NativeWorks$Assemble\x72", "data", "(I)V"⟩ ⟨"NativeWorks$Assemble\x72", "data", "(I)V"⟩,
  Cond.methodLink "NativeWorks$Assemble\x72" 280 ⟨"NativeWorks$Assemble\x72", "space", "()V"⟩,
  Cond.instanceMethod ⟨"NativeWorks$Assemble\x72", "space", "()V"⟩,
  Cond.selects "NativeWorks$Assemble\x72" ⟨"NativeWorks$Assemble\x72", "space", "()V"⟩ ⟨"NativeWorks$Assemble\x72", "space", "()V"⟩,
  Cond.methodLink "NativeWorks$Assemble\x72" 283 ⟨"NativeWorks$Assemble\x72", "control", "()V"⟩,
  Cond.instanceMethod ⟨"NativeWorks$Assemble\x72", "control", "()V"⟩,
  Cond.selects "NativeWorks$Assemble\x72" ⟨"NativeWorks$Assemble\x72", "control", "()V"⟩ ⟨"NativeWorks$Assemble\x72", "control", "()V"⟩,
  Cond.code ⟨"NativeWorks$Assemble\x72", "wordAt", "(I)I"⟩ prog_2_method_6_code 4 (Option.some FieldType.int),
  Cond.code ⟨"NativeWorks$Expression", "apply", "(I)V"⟩ prog_3_method_12_code 5 (Option.none : Option FieldType),
  Cond.fieldLink "NativeWorks$Expression" 107 "NativeWorks$Expression" "values" "I"]
def rB30 : List Cond := [Cond.methodLink "NativeWorks$Expression" 42 ⟨"NativeWorks$Expression", "constantAt", "(I)Z"⟩,
  Cond.instanceMethod ⟨"NativeWorks$Expression", "constantAt", "(I)Z"⟩,
  Cond.selects "NativeWorks$Expression" ⟨"NativeWorks$Expression", "constantAt", "(I)Z"⟩ ⟨"NativeWorks$Expression", "constantAt", "(I)Z"⟩,
  Cond.methodLink "NativeWorks$Expression" 146 ⟨"NativeWorks$Expression", "front", "(II)V"⟩,
  Cond.instanceMethod ⟨"NativeWorks$Expression", "front", "(II)V"⟩,
  Cond.selects "NativeWorks$Expression" ⟨"NativeWorks$Expression", "front", "(II)V"⟩ ⟨"NativeWorks$Expression", "front", "(II)V"⟩,
  Cond.methodLink "NativeWorks$Expression" 150 ⟨"NativeWorks$Expression", "sum", "(ZZ)Z"⟩,
  Cond.instanceMethod ⟨"NativeWorks$Expression", "sum", "(ZZ)Z"⟩,
  Cond.selects "NativeWorks$Expression" ⟨"NativeWorks$Expression", "sum", "(ZZ)Z"⟩ ⟨"NativeWorks$Expression", "sum", "(ZZ)Z"⟩,
  Cond.methodLink "NativeWorks$Expression" 154 ⟨"NativeWorks$Expression", "difference", "(ZZ)Z"⟩,
  Cond.instanceMethod ⟨"NativeWorks$Expression", "difference", "(ZZ)Z"⟩,
  Cond.selects "NativeWorks$Expression" ⟨"NativeWorks$Expression", "difference", "(ZZ)Z"⟩ ⟨"NativeWorks$Expression", "difference", "(ZZ)Z"⟩,
  Cond.methodLink "NativeWorks$Expression" 157 ⟨"NativeWorks$Expression", "calculation", "(I)Z"⟩,
  Cond.instanceMethod ⟨"NativeWorks$Expression", "calculation", "(I)Z"⟩,
  Cond.selects "NativeWorks$Expression" ⟨"NativeWorks$Expression", "calculation", "(I)Z"⟩ ⟨"NativeWorks$Expression", "calculation", "(I)Z"⟩,
  Cond.methodLink "NativeWorks$Expression" 100 ⟨"NativeWorks$Line", "blame", "(I)V"⟩,
  Cond.code ⟨"NativeWorks$Expression", "beLatest", "(I)V"⟩ prog_3_method_5_code 2 (Option.none : Option FieldType),
  Cond.fieldLink "NativeWorks$Expression" 58 "NativeWorks$Line" "text" "[B",
  Cond.fieldLink "NativeWorks$Expression" 49 "NativeWorks$Line" "from" "[I",
  Cond.fieldLink "NativeWorks$Expression" 46 "NativeWorks$Line" "to" "[I",
  Cond.methodLink "NativeWorks$Expression" 52 ⟨"java/lang/Math", "min", "(II)I"⟩,
  Cond.fieldLink "NativeWorks$Expression" 61 "NativeWorks$Expression" "latestLength" "I",
  Cond.methodLink "NativeWorks$Expression" 65 ⟨"java/lang/System", "arraycopy", "(Ljava/lang/Object;ILjava/lang/Object;II)V"⟩,
  Cond.code ⟨"NativeWorks$Expression", "beZero", "()V"⟩ prog_3_method_3_code 1 (Option.none : Option FieldType),
  Cond.code ⟨"NativeWorks$Expression", "calculation", "(I)Z"⟩ prog_3_method_17_code 7 (Option.some FieldType.boolean),
  Cond.constantLong "NativeWorks$Expression" 162 63,
  Cond.code ⟨"NativeWorks$Expression", "constantAt", "(I)Z"⟩ prog_3_method_13_code 2 (Option.some FieldType.boolean),
  Cond.code ⟨"NativeWorks$Expression", "difference", "(ZZ)Z"⟩ prog_3_method_16_code 5 (Option.some FieldType.boolean),
  Cond.code ⟨"NativeWorks$Expression", "front", "(II)V"⟩ prog_3_method_14_code 3 (Option.none : Option FieldType),
  Cond.constantLong "NativeWorks$Expression" 160 (-1),
  Cond.code ⟨"NativeWorks$Expression", "isConstant", "()Z"⟩ prog_3_method_2_code 1 (Option.some FieldType.boolean),
  Cond.code ⟨"NativeWorks$Expression", "known", "()I"⟩ prog_3_method_6_code 2 (Option.some FieldType.int),
  Cond.fieldLink "NativeWorks$Expression" 74 "NativeWorks$Units" "names" "LNativeWorks$Names;",
  Cond.fieldLink "NativeWorks$Expression" 71 "NativeWorks$Expression" "nameLength" "I",
  Cond.fieldLink "NativeWorks$Expression" 80 "NativeWorks$Names" "count" "I",
  Cond.methodLink "NativeWorks$Expression" 85 ⟨"NativeWorks$Names", "find", "([BIII)I"⟩,
  Cond.fieldLink "NativeWorks$Expression" 89 "NativeWorks$Units" "symbolsFrom" "I",
  Cond.code ⟨"NativeWorks$Expression", "made", "()I"⟩ prog_3_method_7_code 2 (Option.some FieldType.int),
  Cond.methodLink "NativeWorks$Expression" 92 ⟨"NativeWorks$Expression", "known", "()I"⟩,
  Cond.methodLink "NativeWorks$Expression" 96 ⟨"NativeWorks$Names", "add", "([BII)I"⟩,
  Cond.methodLink "NativeWorks$Expression" 104 ⟨"NativeWorks$Units", "beginSymbol", "(I)V"⟩,
  Cond.instanceMethod ⟨"NativeWorks$Units", "beginSymbol", "(I)V"⟩,
  Cond.selects "NativeWorks$Units" ⟨"NativeWorks$Units", "beginSymbol", "(I)V"⟩ ⟨"NativeWorks$Units", "beginSymbol", "(I)V"⟩,
  Cond.code ⟨"NativeWorks$Expression", "operand", "(I)Z"⟩ prog_3_method_10_code 6 (Option.some FieldType.boolean),
  Cond.fieldLink "NativeWorks$Expression" 126 "NativeWorks$Line" "value" "[J",
  Cond.fieldLink "NativeWorks$Expression" 113 "NativeWorks$Line" "at" "I",
  Cond.methodLink "NativeWorks$Expression" 129 ⟨"NativeWorks$Expression", "push", "(JI)V"⟩,
  Cond.instanceMethod ⟨"NativeWorks$Expression", "push", "(JI)V"⟩]
def rB31 : List Cond := [Cond.selects "NativeWorks$Expression" ⟨"NativeWorks$Expression", "push", "(JI)V"⟩ ⟨"NativeWorks$Expression", "push", "(JI)V"⟩,
  Cond.constantLong "NativeWorks$Expression" 133 53,
  Cond.methodLink "NativeWorks$Expression" 135 ⟨"NativeWorks$Expression", "spell", "(IZ)V"⟩,
  Cond.fieldLink "NativeWorks$Expression" 139 "NativeWorks$Units" "symbols" "[[I",
  Cond.fieldLink "NativeWorks$Expression" 143 "NativeWorks$Units" "constants" "[J",
  Cond.code ⟨"NativeWorks$Expression", "priority", "(I)I"⟩ prog_3_method_9_code 1 (Option.some FieldType.int),
  Cond.code ⟨"NativeWorks$Expression", "push", "(JI)V"⟩ prog_3_method_11_code 4 (Option.none : Option FieldType),
  Cond.code ⟨"NativeWorks$Expression", "read", "(IZI)Z"⟩ prog_3_method_8_code 10 (Option.some FieldType.boolean),
  Cond.fieldLink "NativeWorks$Expression" 110 "NativeWorks$Line" "kind" "[I",
  Cond.methodLink "NativeWorks$Expression" 116 ⟨"NativeWorks$Expression", "operand", "(I)Z"⟩,
  Cond.instanceMethod ⟨"NativeWorks$Expression", "operand", "(I)Z"⟩,
  Cond.selects "NativeWorks$Expression" ⟨"NativeWorks$Expression", "operand", "(I)Z"⟩ ⟨"NativeWorks$Expression", "operand", "(I)Z"⟩,
  Cond.methodLink "NativeWorks$Expression" 119 ⟨"NativeWorks$Expression", "apply", "(I)V"⟩,
  Cond.methodLink "NativeWorks$Expression" 122 ⟨"NativeWorks$Expression", "priority", "(I)I"⟩,
  Cond.static ⟨"NativeWorks$Expression", "priority", "(I)I"⟩,
  Cond.code ⟨"NativeWorks$Expression", "spell", "(IZ)V"⟩ prog_3_method_4_code 5 (Option.none : Option FieldType),
  Cond.code ⟨"NativeWorks$Expression", "sum", "(ZZ)Z"⟩ prog_3_method_15_code 4 (Option.some FieldType.boolean),
  Cond.code ⟨"NativeWorks$Instruction", "addIndex", "(II)V"⟩ prog_4_method_6_code 3 (Option.none : Option FieldType),
  Cond.fieldLink "NativeWorks$Instruction" 70 "NativeWorks$Instruction" "odd" "Z",
  Cond.fieldLink "NativeWorks$Instruction" 64 "NativeWorks$Instruction" "index" "I",
  Cond.fieldLink "NativeWorks$Instruction" 67 "NativeWorks$Instruction" "shift" "I",
  Cond.code ⟨"NativeWorks$Instruction", "addRegiste\x72", "(I)V"⟩ prog_4_method_5_code 2 (Option.none : Option FieldType),
  Cond.fieldLink "NativeWorks$Instruction" 60 "NativeWorks$Instruction" "base" "I",
  Cond.methodLink "NativeWorks$Instruction" 74 ⟨"NativeWorks$Instruction", "addIndex", "(II)V"⟩,
  Cond.code ⟨"NativeWorks$Instruction", "beProduct", "()V"⟩ prog_4_method_8_code 1 (Option.none : Option FieldType),
  Cond.fieldLink "NativeWorks$Instruction" 78 "NativeWorks$Instruction" "op" "I",
  Cond.fieldLink "NativeWorks$Instruction" 81 "NativeWorks$Instruction" "count" "I",
  Cond.code ⟨"NativeWorks$Instruction", "beginAddress", "()V"⟩ prog_4_method_4_code 1 (Option.none : Option FieldType),
  Cond.code ⟨"NativeWorks$Instruction", "decodeForm", "([BIIII)V"⟩ prog_4_method_22_code 11 (Option.none : Option FieldType),
  Cond.methodLink "NativeWorks$Instruction" 181 ⟨"NativeWorks$Instruction", "beginAddress", "()V"⟩,
  Cond.methodLink "NativeWorks$Instruction" 166 ⟨"NativeWorks$Instruction", "next", "([BI)I"⟩,
  Cond.instanceMethod ⟨"NativeWorks$Instruction", "next", "([BI)I"⟩,
  Cond.selects "NativeWorks$Instruction" ⟨"NativeWorks$Instruction", "next", "([BI)I"⟩ ⟨"NativeWorks$Instruction", "next", "([BI)I"⟩,
  Cond.methodLink "NativeWorks$Instruction" 177 ⟨"NativeWorks$Instruction", "nextNumbe\x72", "([BII)J"⟩,
  Cond.instanceMethod ⟨"NativeWorks$Instruction", "nextNumbe\x72", "([BII)J"⟩,
  Cond.selects "NativeWorks$Instruction" ⟨"NativeWorks$Instruction", "nextNumbe\x72", "([BII)J"⟩ ⟨"NativeWorks$Instruction", "nextNumbe\x72", "([BII)J"⟩,
  Cond.fieldLink "NativeWorks$Instruction" 163 "NativeWorks$Instruction" "displacement" "J",
  Cond.code ⟨"NativeWorks$Instruction", "decodeOperands", "([BIIII)V"⟩ prog_4_method_21_code 8 (Option.none : Option FieldType),
  Cond.fieldLink "NativeWorks$Instruction" 93 "NativeWorks$Instruction" "COUNTS" "[I",
  Cond.fieldLink "NativeWorks$Instruction" 99 "NativeWorks$Instruction" "M_AT" "[I",
  Cond.fieldLink "NativeWorks$Instruction" 102 "NativeWorks$Instruction" "R_AT" "[I",
  Cond.methodLink "NativeWorks$Instruction" 174 ⟨"NativeWorks$Instruction", "decodeForm", "([BIIII)V"⟩,
  Cond.instanceMethod ⟨"NativeWorks$Instruction", "decodeForm", "([BIIII)V"⟩,
  Cond.selects "NativeWorks$Instruction" ⟨"NativeWorks$Instruction", "decodeForm", "([BIIII)V"⟩ ⟨"NativeWorks$Instruction", "decodeForm", "([BIIII)V"⟩,
  Cond.fieldLink "NativeWorks$Instruction" 105 "NativeWorks$Instruction" "N_AT" "[I",
  Cond.fieldLink "NativeWorks$Instruction" 149 "NativeWorks$Instruction" "WIDTHS" "[I",
  Cond.fieldLink "NativeWorks$Instruction" 114 "NativeWorks$Instruction" "numbe\x72" "J",
  Cond.code ⟨"NativeWorks$Instruction", "decode", "([BI)V"⟩ prog_4_method_19_code 10 (Option.none : Option FieldType)]
def rB32 : List Cond := [Cond.fieldLink "NativeWorks$Instruction" 90 "NativeWorks$Instruction" "length" "I",
  Cond.fieldLink "NativeWorks$Instruction" 137 "NativeWorks$Instruction" "condition" "I",
  Cond.fieldLink "NativeWorks$Instruction" 118 "NativeWorks$Instruction" "size" "I",
  Cond.methodLink "NativeWorks$Instruction" 170 ⟨"NativeWorks$Instruction", "decodeOperands", "([BIIII)V"⟩,
  Cond.instanceMethod ⟨"NativeWorks$Instruction", "decodeOperands", "([BIIII)V"⟩,
  Cond.selects "NativeWorks$Instruction" ⟨"NativeWorks$Instruction", "decodeOperands", "([BIIII)V"⟩ ⟨"NativeWorks$Instruction", "decodeOperands", "([BIIII)V"⟩,
  Cond.code ⟨"NativeWorks$Instruction", "emitForm", "(II)V"⟩ prog_4_method_16_code 7 (Option.none : Option FieldType),
  Cond.methodLink "NativeWorks$Instruction" 131 ⟨"NativeWorks$Instruction", "put", "(I)V"⟩,
  Cond.instanceMethod ⟨"NativeWorks$Instruction", "put", "(I)V"⟩,
  Cond.selects "NativeWorks$Instruction" ⟨"NativeWorks$Instruction", "put", "(I)V"⟩ ⟨"NativeWorks$Instruction", "put", "(I)V"⟩,
  Cond.fieldLink "NativeWorks$Instruction" 160 "NativeWorks$Instruction" "displacementWaits" "Z",
  Cond.fieldLink "NativeWorks$Instruction" 125 "NativeWorks$Instruction" "displacementAt" "I",
  Cond.methodLink "NativeWorks$Instruction" 152 ⟨"NativeWorks$Instruction", "putNumbe\x72", "(JI)V"⟩,
  Cond.instanceMethod ⟨"NativeWorks$Instruction", "putNumbe\x72", "(JI)V"⟩,
  Cond.selects "NativeWorks$Instruction" ⟨"NativeWorks$Instruction", "putNumbe\x72", "(JI)V"⟩ ⟨"NativeWorks$Instruction", "putNumbe\x72", "(JI)V"⟩,
  Cond.code ⟨"NativeWorks$Instruction", "emitPrefix", "(I)V"⟩ prog_4_method_14_code 9 (Option.none : Option FieldType),
  Cond.methodLink "NativeWorks$Instruction" 156 ⟨"NativeWorks$Instruction", "sizeOfM", "()I"⟩,
  Cond.instanceMethod ⟨"NativeWorks$Instruction", "sizeOfM", "()I"⟩,
  Cond.selects "NativeWorks$Instruction" ⟨"NativeWorks$Instruction", "sizeOfM", "()I"⟩ ⟨"NativeWorks$Instruction", "sizeOfM", "()I"⟩,
  Cond.code ⟨"NativeWorks$Instruction", "emit", "(I)V"⟩ prog_4_method_13_code 7 (Option.none : Option FieldType),
  Cond.fieldLink "NativeWorks$Instruction" 128 "NativeWorks$Instruction" "numberAt" "I",
  Cond.methodLink "NativeWorks$Instruction" 134 ⟨"NativeWorks$Instruction", "emitPrefix", "(I)V"⟩,
  Cond.instanceMethod ⟨"NativeWorks$Instruction", "emitPrefix", "(I)V"⟩,
  Cond.selects "NativeWorks$Instruction" ⟨"NativeWorks$Instruction", "emitPrefix", "(I)V"⟩ ⟨"NativeWorks$Instruction", "emitPrefix", "(I)V"⟩,
  Cond.methodLink "NativeWorks$Instruction" 140 ⟨"java/lang/Math", "max", "(II)I"⟩,
  Cond.methodLink "NativeWorks$Instruction" 146 ⟨"NativeWorks$Instruction", "emitForm", "(II)V"⟩,
  Cond.instanceMethod ⟨"NativeWorks$Instruction", "emitForm", "(II)V"⟩,
  Cond.selects "NativeWorks$Instruction" ⟨"NativeWorks$Instruction", "emitForm", "(II)V"⟩ ⟨"NativeWorks$Instruction", "emitForm", "(II)V"⟩,
  Cond.fieldLink "NativeWorks$Instruction" 111 "NativeWorks$Instruction" "numberWidth" "I",
  Cond.code ⟨"NativeWorks$Instruction", "encode", "()Z"⟩ prog_4_method_9_code 4 (Option.some FieldType.boolean),
  Cond.methodLink "NativeWorks$Instruction" 84 ⟨"NativeWorks$Instruction", "matches", "(I)Z"⟩,
  Cond.instanceMethod ⟨"NativeWorks$Instruction", "matches", "(I)Z"⟩,
  Cond.selects "NativeWorks$Instruction" ⟨"NativeWorks$Instruction", "matches", "(I)Z"⟩ ⟨"NativeWorks$Instruction", "matches", "(I)Z"⟩,
  Cond.methodLink "NativeWorks$Instruction" 87 ⟨"NativeWorks$Instruction", "emit", "(I)V"⟩,
  Cond.instanceMethod ⟨"NativeWorks$Instruction", "emit", "(I)V"⟩,
  Cond.selects "NativeWorks$Instruction" ⟨"NativeWorks$Instruction", "emit", "(I)V"⟩ ⟨"NativeWorks$Instruction", "emit", "(I)V"⟩,
  Cond.code ⟨"NativeWorks$Instruction", "endAddress", "()Z"⟩ prog_4_method_7_code 1 (Option.some FieldType.boolean),
  Cond.code ⟨"NativeWorks$Instruction", "matches", "(I)Z"⟩ prog_4_method_10_code 7 (Option.some FieldType.boolean),
  Cond.methodLink "NativeWorks$Instruction" 96 ⟨"NativeWorks$Instruction", "sizeFits", "(I)Z"⟩,
  Cond.instanceMethod ⟨"NativeWorks$Instruction", "sizeFits", "(I)Z"⟩,
  Cond.selects "NativeWorks$Instruction" ⟨"NativeWorks$Instruction", "sizeFits", "(I)Z"⟩ ⟨"NativeWorks$Instruction", "sizeFits", "(I)Z"⟩,
  Cond.methodLink "NativeWorks$Instruction" 108 ⟨"NativeWorks$Instruction", "numberFits", "(I)Z"⟩,
  Cond.instanceMethod ⟨"NativeWorks$Instruction", "numberFits", "(I)Z"⟩,
  Cond.selects "NativeWorks$Instruction" ⟨"NativeWorks$Instruction", "numberFits", "(I)Z"⟩ ⟨"NativeWorks$Instruction", "numberFits", "(I)Z"⟩,
  Cond.code ⟨"NativeWorks$Instruction", "nextNumbe\x72", "([BII)J"⟩ prog_4_method_23_code 7 (Option.some FieldType.long),
  Cond.code ⟨"NativeWorks$Instruction", "next", "([BI)I"⟩ prog_4_method_20_code 4 (Option.some FieldType.int),
  Cond.code ⟨"NativeWorks$Instruction", "numberFits", "(I)Z"⟩ prog_4_method_12_code 2 (Option.some FieldType.boolean),
  Cond.constantLong "NativeWorks$Instruction" 121 256]
def rB33 : List Cond := [Cond.constantLong "NativeWorks$Instruction" 123 65536,
  Cond.code ⟨"NativeWorks$Instruction", "putNumbe\x72", "(JI)V"⟩ prog_4_method_18_code 5 (Option.none : Option FieldType),
  Cond.code ⟨"NativeWorks$Instruction", "put", "(I)V"⟩ prog_4_method_17_code 2 (Option.none : Option FieldType),
  Cond.code ⟨"NativeWorks$Instruction", "sizeFits", "(I)Z"⟩ prog_4_method_11_code 2 (Option.some FieldType.boolean),
  Cond.code ⟨"NativeWorks$Instruction", "sizeOfM", "()I"⟩ prog_4_method_15_code 1 (Option.some FieldType.int),
  Cond.code ⟨"NativeWorks$Line", "blamed", "(I)Z"⟩ prog_5_method_4_code 2 (Option.some FieldType.boolean),
  Cond.fieldLink "NativeWorks$Line" 90 "NativeWorks$Line" "worst" "I",
  Cond.code ⟨"NativeWorks$Line", "blame", "(I)V"⟩ prog_5_method_3_code 2 (Option.none : Option FieldType),
  Cond.methodLink "NativeWorks$Line" 94 ⟨"java/lang/Math", "min", "(II)I"⟩,
  Cond.code ⟨"NativeWorks$Line", "characte\x72", "(I)I"⟩ prog_5_method_17_code 4 (Option.some FieldType.int),
  Cond.methodLink "NativeWorks$Line" 140 ⟨"NativeWorks$Line", "lette\x72", "(I)I"⟩,
  Cond.instanceMethod ⟨"NativeWorks$Line", "lette\x72", "(I)I"⟩,
  Cond.selects "NativeWorks$Line" ⟨"NativeWorks$Line", "lette\x72", "(I)I"⟩ ⟨"NativeWorks$Line", "lette\x72", "(I)I"⟩,
  Cond.methodLink "NativeWorks$Line" 152 ⟨"NativeWorks$Line", "isCharacte\x72", "(I)Z"⟩,
  Cond.static ⟨"NativeWorks$Line", "isCharacte\x72", "(I)Z"⟩,
  Cond.code ⟨"NativeWorks$Line", "isCharacte\x72", "(I)Z"⟩ prog_5_method_18_code 1 (Option.some FieldType.boolean),
  Cond.fieldLink "NativeWorks$Line" 113 "NativeWorks$Line" "count" "I",
  Cond.methodLink "NativeWorks$Line" 155 ⟨"NativeWorks$Line", "meant", "(I)I"⟩,
  Cond.methodLink "NativeWorks$Line" 120 ⟨"NativeWorks$Line", "inName", "(I)Z"⟩,
  Cond.static ⟨"NativeWorks$Line", "inName", "(I)Z"⟩,
  Cond.code ⟨"NativeWorks$Line", "inName", "(I)Z"⟩ prog_5_method_6_code 1 (Option.some FieldType.boolean),
  Cond.code ⟨"NativeWorks$Line", "cut", "()Z"⟩ prog_5_method_12_code 3 (Option.some FieldType.boolean),
  Cond.fieldLink "NativeWorks$Line" 107 "NativeWorks$Line" "length" "I",
  Cond.methodLink "NativeWorks$Line" 103 ⟨"NativeWorks$Line", "isDigit", "(I)Z"⟩,
  Cond.static ⟨"NativeWorks$Line", "isDigit", "(I)Z"⟩,
  Cond.code ⟨"NativeWorks$Line", "isDigit", "(I)Z"⟩ prog_5_method_7_code 1 (Option.some FieldType.boolean),
  Cond.methodLink "NativeWorks$Line" 116 ⟨"NativeWorks$Line", "numbe\x72", "(I)I"⟩,
  Cond.instanceMethod ⟨"NativeWorks$Line", "numbe\x72", "(I)I"⟩,
  Cond.selects "NativeWorks$Line" ⟨"NativeWorks$Line", "numbe\x72", "(I)I"⟩ ⟨"NativeWorks$Line", "numbe\x72", "(I)I"⟩,
  Cond.methodLink "NativeWorks$Line" 123 ⟨"NativeWorks$Line", "name", "(I)I"⟩,
  Cond.instanceMethod ⟨"NativeWorks$Line", "name", "(I)I"⟩,
  Cond.selects "NativeWorks$Line" ⟨"NativeWorks$Line", "name", "(I)I"⟩ ⟨"NativeWorks$Line", "name", "(I)I"⟩,
  Cond.methodLink "NativeWorks$Line" 126 ⟨"NativeWorks$Line", "characte\x72", "(I)I"⟩,
  Cond.instanceMethod ⟨"NativeWorks$Line", "characte\x72", "(I)I"⟩,
  Cond.selects "NativeWorks$Line" ⟨"NativeWorks$Line", "characte\x72", "(I)I"⟩ ⟨"NativeWorks$Line", "characte\x72", "(I)I"⟩,
  Cond.methodLink "NativeWorks$Line" 129 ⟨"NativeWorks$Line", "quoted", "(I)I"⟩,
  Cond.instanceMethod ⟨"NativeWorks$Line", "quoted", "(I)I"⟩,
  Cond.selects "NativeWorks$Line" ⟨"NativeWorks$Line", "quoted", "(I)I"⟩ ⟨"NativeWorks$Line", "quoted", "(I)I"⟩,
  Cond.methodLink "NativeWorks$Line" 132 ⟨"NativeWorks$Line", "sign", "(I)I"⟩,
  Cond.instanceMethod ⟨"NativeWorks$Line", "sign", "(I)I"⟩,
  Cond.selects "NativeWorks$Line" ⟨"NativeWorks$Line", "sign", "(I)I"⟩ ⟨"NativeWorks$Line", "sign", "(I)I"⟩,
  Cond.code ⟨"NativeWorks$Line", "digit", "(I)I"⟩ prog_5_method_15_code 1 (Option.some FieldType.int),
  Cond.code ⟨"NativeWorks$Line", "faultKind", "()I"⟩ prog_5_method_5_code 1 (Option.some FieldType.int),
  Cond.fieldLink "NativeWorks$Line" 100 "NativeWorks$Line" "KINDS" "[I",
  Cond.code ⟨"NativeWorks$Line", "isMark", "(II)Z"⟩ prog_5_method_11_code 3 (Option.some FieldType.boolean),
  Cond.code ⟨"NativeWorks$Line", "isRegiste\x72", "(I)Z"⟩ prog_5_method_9_code 2 (Option.some FieldType.boolean),
  Cond.constantLong "NativeWorks$Line" 109 48,
  Cond.code ⟨"NativeWorks$Line", "isWord", "(I)Z"⟩ prog_5_method_10_code 2 (Option.some FieldType.boolean)]
def rB34 : List Cond := [Cond.constantLong "NativeWorks$Line" 111 185,
  Cond.code ⟨"NativeWorks$Line", "lette\x72", "(I)I"⟩ prog_5_method_8_code 2 (Option.some FieldType.int),
  Cond.code ⟨"NativeWorks$Line", "meant", "(I)I"⟩ prog_5_method_19_code 3 (Option.some FieldType.int),
  Cond.code ⟨"NativeWorks$Line", "name", "(I)I"⟩ prog_5_method_13_code 3 (Option.some FieldType.int),
  Cond.fieldLink "NativeWorks$Line" 135 "NativeWorks$Names" "count" "I",
  Cond.methodLink "NativeWorks$Line" 136 ⟨"NativeWorks$Names", "find", "([BIII)I"⟩,
  Cond.code ⟨"NativeWorks$Line", "numbe\x72", "(I)I"⟩ prog_5_method_14_code 10 (Option.some FieldType.int),
  Cond.methodLink "NativeWorks$Line" 143 ⟨"NativeWorks$Line", "digit", "(I)I"⟩,
  Cond.static ⟨"NativeWorks$Line", "digit", "(I)I"⟩,
  Cond.methodLink "NativeWorks$Line" 146 ⟨"NativeWorks$Line", "overflows", "(JII)Z"⟩,
  Cond.static ⟨"NativeWorks$Line", "overflows", "(JII)Z"⟩,
  Cond.code ⟨"NativeWorks$Line", "overflows", "(JII)Z"⟩ prog_5_method_16_code 6 (Option.some FieldType.boolean),
  Cond.constantLong "NativeWorks$Line" 150 1844674407370955161,
  Cond.code ⟨"NativeWorks$Line", "quoted", "(I)I"⟩ prog_5_method_20_code 4 (Option.some FieldType.int),
  Cond.constantLong "NativeWorks$Line" 158 (-1),
  Cond.code ⟨"NativeWorks$Line", "sign", "(I)I"⟩ prog_5_method_21_code 4 (Option.some FieldType.int),
  Cond.code ⟨"NativeWorks$Linke\x72", "addressOf", "(I)I"⟩ prog_6_method_16_code 2 (Option.some FieldType.int),
  Cond.methodLink "NativeWorks$Linke\x72" 173 ⟨"NativeWorks$Linke\x72", "sectionOf", "(I)I"⟩,
  Cond.instanceMethod ⟨"NativeWorks$Linke\x72", "sectionOf", "(I)I"⟩,
  Cond.selects "NativeWorks$Linke\x72" ⟨"NativeWorks$Linke\x72", "sectionOf", "(I)I"⟩ ⟨"NativeWorks$Linke\x72", "sectionOf", "(I)I"⟩,
  Cond.fieldLink "NativeWorks$Linke\x72" 142 "NativeWorks$Units" "symbols" "[[I",
  Cond.code ⟨"NativeWorks$Linke\x72", "awakens", "(I[I)Z"⟩ prog_6_method_18_code 7 (Option.some FieldType.boolean),
  Cond.fieldLink "NativeWorks$Linke\x72" 183 "NativeWorks$Units" "statements" "[[I",
  Cond.code ⟨"NativeWorks$Linke\x72", "findNeeded", "(I)V"⟩ prog_6_method_17_code 6 (Option.none : Option FieldType),
  Cond.fieldLink "NativeWorks$Linke\x72" 155 "NativeWorks$Units" "rows" "[[I",
  Cond.fieldLink "NativeWorks$Linke\x72" 176 "NativeWorks$Units" "waits" "[[I",
  Cond.methodLink "NativeWorks$Linke\x72" 179 ⟨"NativeWorks$Linke\x72", "awakens", "(I[I)Z"⟩,
  Cond.instanceMethod ⟨"NativeWorks$Linke\x72", "awakens", "(I[I)Z"⟩,
  Cond.selects "NativeWorks$Linke\x72" ⟨"NativeWorks$Linke\x72", "awakens", "(I[I)Z"⟩ ⟨"NativeWorks$Linke\x72", "awakens", "(I[I)Z"⟩,
  Cond.code ⟨"NativeWorks$Linke\x72", "hasBadWait", "()Z"⟩ prog_6_method_21_code 9 (Option.some FieldType.boolean),
  Cond.methodLink "NativeWorks$Linke\x72" 186 ⟨"NativeWorks$Linke\x72", "valueOf", "(II)J"⟩,
  Cond.instanceMethod ⟨"NativeWorks$Linke\x72", "valueOf", "(II)J"⟩,
  Cond.selects "NativeWorks$Linke\x72" ⟨"NativeWorks$Linke\x72", "valueOf", "(II)J"⟩ ⟨"NativeWorks$Linke\x72", "valueOf", "(II)J"⟩,
  Cond.code ⟨"NativeWorks$Linke\x72", "hasDoubles", "()Z"⟩ prog_6_method_13_code 5 (Option.some FieldType.boolean),
  Cond.methodLink "NativeWorks$Linke\x72" 88 ⟨"NativeWorks$Linke\x72", "isGlobal", "(I)Z"⟩,
  Cond.instanceMethod ⟨"NativeWorks$Linke\x72", "isGlobal", "(I)Z"⟩,
  Cond.selects "NativeWorks$Linke\x72" ⟨"NativeWorks$Linke\x72", "isGlobal", "(I)Z"⟩ ⟨"NativeWorks$Linke\x72", "isGlobal", "(I)Z"⟩,
  Cond.methodLink "NativeWorks$Linke\x72" 84 ⟨"NativeWorks$Linke\x72", "winne\x72", "(I)I"⟩,
  Cond.instanceMethod ⟨"NativeWorks$Linke\x72", "winne\x72", "(I)I"⟩,
  Cond.selects "NativeWorks$Linke\x72" ⟨"NativeWorks$Linke\x72", "winne\x72", "(I)I"⟩ ⟨"NativeWorks$Linke\x72", "winne\x72", "(I)I"⟩,
  Cond.code ⟨"NativeWorks$Linke\x72", "hasFlags", "(III)Z"⟩ prog_6_method_4_code 5 (Option.some FieldType.boolean),
  Cond.code ⟨"NativeWorks$Linke\x72", "isGlobal", "(I)Z"⟩ prog_6_method_6_code 2 (Option.some FieldType.boolean),
  Cond.methodLink "NativeWorks$Linke\x72" 146 ⟨"NativeWorks$Linke\x72", "hasFlags", "(III)Z"⟩,
  Cond.instanceMethod ⟨"NativeWorks$Linke\x72", "hasFlags", "(III)Z"⟩,
  Cond.selects "NativeWorks$Linke\x72" ⟨"NativeWorks$Linke\x72", "hasFlags", "(III)Z"⟩ ⟨"NativeWorks$Linke\x72", "hasFlags", "(III)Z"⟩,
  Cond.code ⟨"NativeWorks$Linke\x72", "isMissed", "(I)Z"⟩ prog_6_method_11_code 5 (Option.some FieldType.boolean),
  Cond.methodLink "NativeWorks$Linke\x72" 167 ⟨"NativeWorks$Linke\x72", "olde\x72", "(II)I"⟩,
  Cond.instanceMethod ⟨"NativeWorks$Linke\x72", "olde\x72", "(II)I"⟩]
def rB35 : List Cond := [Cond.selects "NativeWorks$Linke\x72" ⟨"NativeWorks$Linke\x72", "olde\x72", "(II)I"⟩ ⟨"NativeWorks$Linke\x72", "olde\x72", "(II)I"⟩,
  Cond.methodLink "NativeWorks$Linke\x72" 170 ⟨"NativeWorks$Linke\x72", "isTaken", "(I)Z"⟩,
  Cond.instanceMethod ⟨"NativeWorks$Linke\x72", "isTaken", "(I)Z"⟩,
  Cond.selects "NativeWorks$Linke\x72" ⟨"NativeWorks$Linke\x72", "isTaken", "(I)Z"⟩ ⟨"NativeWorks$Linke\x72", "isTaken", "(I)Z"⟩,
  Cond.methodLink "NativeWorks$Linke\x72" 161 ⟨"NativeWorks$Linke\x72", "isWeakLabel", "(I)Z"⟩,
  Cond.instanceMethod ⟨"NativeWorks$Linke\x72", "isWeakLabel", "(I)Z"⟩,
  Cond.selects "NativeWorks$Linke\x72" ⟨"NativeWorks$Linke\x72", "isWeakLabel", "(I)Z"⟩ ⟨"NativeWorks$Linke\x72", "isWeakLabel", "(I)Z"⟩,
  Cond.code ⟨"NativeWorks$Linke\x72", "isTaken", "(I)Z"⟩ prog_6_method_5_code 2 (Option.some FieldType.boolean),
  Cond.code ⟨"NativeWorks$Linke\x72", "isWanted", "(I)Z"⟩ prog_6_method_10_code 3 (Option.some FieldType.boolean),
  Cond.methodLink "NativeWorks$Linke\x72" 164 ⟨"NativeWorks$Linke\x72", "isMissed", "(I)Z"⟩,
  Cond.instanceMethod ⟨"NativeWorks$Linke\x72", "isMissed", "(I)Z"⟩,
  Cond.selects "NativeWorks$Linke\x72" ⟨"NativeWorks$Linke\x72", "isMissed", "(I)Z"⟩ ⟨"NativeWorks$Linke\x72", "isMissed", "(I)Z"⟩,
  Cond.code ⟨"NativeWorks$Linke\x72", "isWeakLabel", "(I)Z"⟩ prog_6_method_7_code 2 (Option.some FieldType.boolean),
  Cond.methodLink "NativeWorks$Linke\x72" 92 ⟨"NativeWorks$Linke\x72", "hasDoubles", "()Z"⟩,
  Cond.instanceMethod ⟨"NativeWorks$Linke\x72", "hasDoubles", "()Z"⟩,
  Cond.selects "NativeWorks$Linke\x72" ⟨"NativeWorks$Linke\x72", "hasDoubles", "()Z"⟩ ⟨"NativeWorks$Linke\x72", "hasDoubles", "()Z"⟩,
  Cond.methodLink "NativeWorks$Linke\x72" 96 ⟨"NativeWorks$Linke\x72", "resolve", "()V"⟩,
  Cond.instanceMethod ⟨"NativeWorks$Linke\x72", "resolve", "()V"⟩,
  Cond.selects "NativeWorks$Linke\x72" ⟨"NativeWorks$Linke\x72", "resolve", "()V"⟩ ⟨"NativeWorks$Linke\x72", "resolve", "()V"⟩,
  Cond.methodLink "NativeWorks$Linke\x72" 99 ⟨"NativeWorks$Linke\x72", "findNeeded", "(I)V"⟩,
  Cond.instanceMethod ⟨"NativeWorks$Linke\x72", "findNeeded", "(I)V"⟩,
  Cond.selects "NativeWorks$Linke\x72" ⟨"NativeWorks$Linke\x72", "findNeeded", "(I)V"⟩ ⟨"NativeWorks$Linke\x72", "findNeeded", "(I)V"⟩,
  Cond.constant "NativeWorks$Linke\x72" 103 4194304,
  Cond.fieldLink "NativeWorks$Linke\x72" 104 "NativeWorks$Linke\x72" "end" "I",
  Cond.methodLink "NativeWorks$Linke\x72" 107 ⟨"NativeWorks$Linke\x72", "up", "(II)I"⟩,
  Cond.static ⟨"NativeWorks$Linke\x72", "up", "(II)I"⟩,
  Cond.code ⟨"NativeWorks$Linke\x72", "up", "(II)I"⟩ prog_6_method_19_code 2 (Option.some FieldType.int),
  Cond.methodLink "NativeWorks$Linke\x72" 111 ⟨"NativeWorks$Linke\x72", "placeSections", "(II)I"⟩,
  Cond.instanceMethod ⟨"NativeWorks$Linke\x72", "placeSections", "(II)I"⟩,
  Cond.selects "NativeWorks$Linke\x72" ⟨"NativeWorks$Linke\x72", "placeSections", "(II)I"⟩ ⟨"NativeWorks$Linke\x72", "placeSections", "(II)I"⟩,
  Cond.methodLink "NativeWorks$Linke\x72" 114 ⟨"NativeWorks$Linke\x72", "hasBadWait", "()Z"⟩,
  Cond.instanceMethod ⟨"NativeWorks$Linke\x72", "hasBadWait", "()Z"⟩,
  Cond.selects "NativeWorks$Linke\x72" ⟨"NativeWorks$Linke\x72", "hasBadWait", "()Z"⟩ ⟨"NativeWorks$Linke\x72", "hasBadWait", "()Z"⟩,
  Cond.methodLink "NativeWorks$Linke\x72" 117 ⟨"NativeWorks$Linke\x72", "write", "()V"⟩,
  Cond.instanceMethod ⟨"NativeWorks$Linke\x72", "write", "()V"⟩,
  Cond.selects "NativeWorks$Linke\x72" ⟨"NativeWorks$Linke\x72", "write", "()V"⟩ ⟨"NativeWorks$Linke\x72", "write", "()V"⟩,
  Cond.methodLink "NativeWorks$Linke\x72" 120 ⟨"NativeWorks$Linke\x72", "writeNames", "()V"⟩,
  Cond.instanceMethod ⟨"NativeWorks$Linke\x72", "writeNames", "()V"⟩,
  Cond.selects "NativeWorks$Linke\x72" ⟨"NativeWorks$Linke\x72", "writeNames", "()V"⟩ ⟨"NativeWorks$Linke\x72", "writeNames", "()V"⟩,
  Cond.methodLink "NativeWorks$Linke\x72" 123 ⟨"NativeWorks$Linke\x72", "addressOf", "(I)I"⟩,
  Cond.instanceMethod ⟨"NativeWorks$Linke\x72", "addressOf", "(I)I"⟩,
  Cond.selects "NativeWorks$Linke\x72" ⟨"NativeWorks$Linke\x72", "addressOf", "(I)I"⟩ ⟨"NativeWorks$Linke\x72", "addressOf", "(I)I"⟩,
  Cond.fieldLink "NativeWorks$Linke\x72" 126 "NativeWorks$Linke\x72" "start" "I",
  Cond.fieldLink "NativeWorks$Linke\x72" 129 "NativeWorks$Linke\x72" "made" "Z",
  Cond.code ⟨"NativeWorks$Linke\x72", "olde\x72", "(II)I"⟩ prog_6_method_8_code 4 (Option.some FieldType.int),
  Cond.fieldLink "NativeWorks$Linke\x72" 150 "NativeWorks$Names" "letters" "[B",
  Cond.fieldLink "NativeWorks$Linke\x72" 153 "NativeWorks$Names" "from" "[I",
  Cond.code ⟨"NativeWorks$Linke\x72", "placeSections", "(II)I"⟩ prog_6_method_20_code 5 (Option.some FieldType.int)]
def rB36 : List Cond := [Cond.code ⟨"NativeWorks$Linke\x72", "resolve", "()V"⟩ prog_6_method_14_code 3 (Option.none : Option FieldType),
  Cond.code ⟨"NativeWorks$Linke\x72", "sectionOf", "(I)I"⟩ prog_6_method_15_code 2 (Option.some FieldType.int),
  Cond.methodLink "NativeWorks$Linke\x72" 158 ⟨"NativeWorks$Linke\x72", "isWanted", "(I)Z"⟩,
  Cond.instanceMethod ⟨"NativeWorks$Linke\x72", "isWanted", "(I)Z"⟩,
  Cond.selects "NativeWorks$Linke\x72" ⟨"NativeWorks$Linke\x72", "isWanted", "(I)Z"⟩ ⟨"NativeWorks$Linke\x72", "isWanted", "(I)Z"⟩,
  Cond.code ⟨"NativeWorks$Linke\x72", "valueOf", "(II)J"⟩ prog_6_method_22_code 9 (Option.some FieldType.long),
  Cond.fieldLink "NativeWorks$Linke\x72" 190 "NativeWorks$Units" "waitNumbers" "[J",
  Cond.code ⟨"NativeWorks$Linke\x72", "winne\x72", "(I)I"⟩ prog_6_method_12_code 6 (Option.some FieldType.int),
  Cond.code ⟨"NativeWorks$Linke\x72", "writeNames", "()V"⟩ prog_6_method_25_code 4 (Option.none : Option FieldType),
  Cond.methodLink "NativeWorks$Linke\x72" 221 ⟨"NativeWorks$Names", "cut", "(I)V"⟩,
  Cond.methodLink "NativeWorks$Linke\x72" 224 ⟨"NativeWorks$Names", "add", "([BII)I"⟩,
  Cond.code ⟨"NativeWorks$Linke\x72", "writeWait", "(II)V"⟩ prog_6_method_24_code 10 (Option.none : Option FieldType),
  Cond.code ⟨"NativeWorks$Linke\x72", "write", "()V"⟩ prog_6_method_23_code 4 (Option.none : Option FieldType),
  Cond.fieldLink "NativeWorks$Linke\x72" 195 "NativeWorks$Linke\x72" "length" "I",
  Cond.methodLink "NativeWorks$Linke\x72" 198 ⟨"java/util/Arrays", "fill", "([BIIB)V"⟩,
  Cond.methodLink "NativeWorks$Linke\x72" 201 ⟨"java/util/Arrays", "fill", "([IIII)V"⟩,
  Cond.static ⟨"java/util/Arrays", "fill", "([IIII)V"⟩,
  Cond.code ⟨"java/util/Arrays", "fill", "([IIII)V"⟩ prog_38_method_104_code 5 (Option.none : Option FieldType),
  Cond.fieldLink "NativeWorks$Linke\x72" 204 "NativeWorks$Units" "bytes" "[B",
  Cond.methodLink "NativeWorks$Linke\x72" 205 ⟨"java/lang/System", "arraycopy", "(Ljava/lang/Object;ILjava/lang/Object;II)V"⟩,
  Cond.methodLink "NativeWorks$Linke\x72" 211 ⟨"NativeWorks$Linke\x72", "writeWait", "(II)V"⟩,
  Cond.instanceMethod ⟨"NativeWorks$Linke\x72", "writeWait", "(II)V"⟩,
  Cond.selects "NativeWorks$Linke\x72" ⟨"NativeWorks$Linke\x72", "writeWait", "(II)V"⟩ ⟨"NativeWorks$Linke\x72", "writeWait", "(II)V"⟩,
  Cond.constant "NativeWorks$Linke\x72" 214 65536,
  Cond.constant "NativeWorks$Linke\x72" 215 65535,
  Cond.methodLink "NativeWorks$Linke\x72" 216 ⟨"java/lang/Math", "min", "(II)I"⟩,
  Cond.code ⟨"NativeWorks$Machine", "address", "()J"⟩ prog_7_method_11_code 3 (Option.some FieldType.long),
  Cond.fieldLink "NativeWorks$Machine" 131 "NativeWorks$Instruction" "displacement" "J",
  Cond.fieldLink "NativeWorks$Machine" 134 "NativeWorks$Instruction" "base" "I",
  Cond.fieldLink "NativeWorks$Machine" 118 "NativeWorks$Machine" "next" "J",
  Cond.fieldLink "NativeWorks$Machine" 137 "NativeWorks$Instruction" "index" "I",
  Cond.fieldLink "NativeWorks$Machine" 140 "NativeWorks$Instruction" "shift" "I",
  Cond.code ⟨"NativeWorks$Machine", "arithmetic", "(I)V"⟩ prog_7_method_27_code 13 (Option.none : Option FieldType),
  Cond.fieldLink "NativeWorks$Machine" 235 "NativeWorks$Instruction" "size" "I",
  Cond.methodLink "NativeWorks$Machine" 238 ⟨"NativeWorks$Machine", "value", "(II)J"⟩,
  Cond.instanceMethod ⟨"NativeWorks$Machine", "value", "(II)J"⟩,
  Cond.selects "NativeWorks$Machine" ⟨"NativeWorks$Machine", "value", "(II)J"⟩ ⟨"NativeWorks$Machine", "value", "(II)J"⟩,
  Cond.fieldLink "NativeWorks$Machine" 70 "NativeWorks$Machine" "stop" "I",
  Cond.methodLink "NativeWorks$Machine" 242 ⟨"NativeWorks$Machine", "has", "(I)Z"⟩,
  Cond.instanceMethod ⟨"NativeWorks$Machine", "has", "(I)Z"⟩,
  Cond.selects "NativeWorks$Machine" ⟨"NativeWorks$Machine", "has", "(I)Z"⟩ ⟨"NativeWorks$Machine", "has", "(I)Z"⟩,
  Cond.methodLink "NativeWorks$Machine" 246 ⟨"NativeWorks$Machine", "put", "(IIJ)Z"⟩,
  Cond.instanceMethod ⟨"NativeWorks$Machine", "put", "(IIJ)Z"⟩,
  Cond.selects "NativeWorks$Machine" ⟨"NativeWorks$Machine", "put", "(IIJ)Z"⟩ ⟨"NativeWorks$Machine", "put", "(IIJ)Z"⟩,
  Cond.methodLink "NativeWorks$Machine" 250 ⟨"NativeWorks$Machine", "setSum", "(JJJI)V"⟩,
  Cond.instanceMethod ⟨"NativeWorks$Machine", "setSum", "(JJJI)V"⟩,
  Cond.selects "NativeWorks$Machine" ⟨"NativeWorks$Machine", "setSum", "(JJJI)V"⟩ ⟨"NativeWorks$Machine", "setSum", "(JJJI)V"⟩,
  Cond.methodLink "NativeWorks$Machine" 254 ⟨"NativeWorks$Machine", "setDifference", "(JJJI)V"⟩]
def rB37 : List Cond := [Cond.instanceMethod ⟨"NativeWorks$Machine", "setDifference", "(JJJI)V"⟩,
  Cond.selects "NativeWorks$Machine" ⟨"NativeWorks$Machine", "setDifference", "(JJJI)V"⟩ ⟨"NativeWorks$Machine", "setDifference", "(JJJI)V"⟩,
  Cond.methodLink "NativeWorks$Machine" 257 ⟨"NativeWorks$Machine", "setSpill", "(Z)V"⟩,
  Cond.instanceMethod ⟨"NativeWorks$Machine", "setSpill", "(Z)V"⟩,
  Cond.selects "NativeWorks$Machine" ⟨"NativeWorks$Machine", "setSpill", "(Z)V"⟩ ⟨"NativeWorks$Machine", "setSpill", "(Z)V"⟩,
  Cond.methodLink "NativeWorks$Machine" 231 ⟨"NativeWorks$Machine", "setResult", "(JI)V"⟩,
  Cond.instanceMethod ⟨"NativeWorks$Machine", "setResult", "(JI)V"⟩,
  Cond.selects "NativeWorks$Machine" ⟨"NativeWorks$Machine", "setResult", "(JI)V"⟩ ⟨"NativeWorks$Machine", "setResult", "(JI)V"⟩,
  Cond.code ⟨"NativeWorks$Machine", "below", "(JJ)Z"⟩ prog_7_method_34_code 4 (Option.some FieldType.boolean),
  Cond.constantLong "NativeWorks$Machine" 297 (-9223372036854775808),
  Cond.code ⟨"NativeWorks$Machine", "bits", "(I)V"⟩ prog_7_method_45_code 9 (Option.none : Option FieldType),
  Cond.methodLink "NativeWorks$Machine" 219 ⟨"NativeWorks$Machine", "flag", "(IZ)V"⟩,
  Cond.instanceMethod ⟨"NativeWorks$Machine", "flag", "(IZ)V"⟩,
  Cond.selects "NativeWorks$Machine" ⟨"NativeWorks$Machine", "flag", "(IZ)V"⟩ ⟨"NativeWorks$Machine", "flag", "(IZ)V"⟩,
  Cond.methodLink "NativeWorks$Machine" 341 ⟨"NativeWorks$Machine", "lowest", "(J)I"⟩,
  Cond.static ⟨"NativeWorks$Machine", "lowest", "(J)I"⟩,
  Cond.code ⟨"NativeWorks$Machine", "lowest", "(J)I"⟩ prog_7_method_46_code 3 (Option.some FieldType.int),
  Cond.methodLink "NativeWorks$Machine" 344 ⟨"NativeWorks$Machine", "highest", "(J)I"⟩,
  Cond.static ⟨"NativeWorks$Machine", "highest", "(J)I"⟩,
  Cond.code ⟨"NativeWorks$Machine", "highest", "(J)I"⟩ prog_7_method_47_code 3 (Option.some FieldType.int),
  Cond.fieldLink "NativeWorks$Machine" 283 "NativeWorks$Instruction" "count" "I",
  Cond.methodLink "NativeWorks$Machine" 347 ⟨"NativeWorks$Machine", "reversed", "(JI)J"⟩,
  Cond.static ⟨"NativeWorks$Machine", "reversed", "(JI)J"⟩,
  Cond.code ⟨"NativeWorks$Machine", "reversed", "(JI)J"⟩ prog_7_method_48_code 6 (Option.some FieldType.long),
  Cond.fieldLink "NativeWorks$Machine" 178 "NativeWorks$Instruction" "kind" "[I",
  Cond.methodLink "NativeWorks$Machine" 185 ⟨"NativeWorks$Machine", "mask", "(I)J"⟩,
  Cond.static ⟨"NativeWorks$Machine", "mask", "(I)J"⟩,
  Cond.code ⟨"NativeWorks$Machine", "mask", "(I)J"⟩ prog_7_method_13_code 1 (Option.some FieldType.long),
  Cond.methodLink "NativeWorks$Machine" 204 ⟨"NativeWorks$Machine", "change", "(IIJ)V"⟩,
  Cond.instanceMethod ⟨"NativeWorks$Machine", "change", "(IIJ)V"⟩,
  Cond.selects "NativeWorks$Machine" ⟨"NativeWorks$Machine", "change", "(IIJ)V"⟩ ⟨"NativeWorks$Machine", "change", "(IIJ)V"⟩,
  Cond.code ⟨"NativeWorks$Machine", "boot", "(LNativeWorks$Linker;)V"⟩ prog_7_method_2_code 2 (Option.none : Option FieldType),
  Cond.methodLink "NativeWorks$Machine" 40 ⟨"NativeWorks$Memory", "fill", "(LNativeWorks$Linker;)V"⟩,
  Cond.instanceMethod ⟨"NativeWorks$Memory", "fill", "(LNativeWorks$Linker;)V"⟩,
  Cond.selects "NativeWorks$Memory" ⟨"NativeWorks$Memory", "fill", "(LNativeWorks$Linker;)V"⟩ ⟨"NativeWorks$Memory", "fill", "(LNativeWorks$Linker;)V"⟩,
  Cond.methodLink "NativeWorks$Machine" 44 ⟨"java/util/Arrays", "fill", "([JJ)V"⟩,
  Cond.static ⟨"java/util/Arrays", "fill", "([JJ)V"⟩,
  Cond.code ⟨"java/util/Arrays", "fill", "([JJ)V"⟩ prog_38_method_101_code 5 (Option.none : Option FieldType),
  Cond.constantLong "NativeWorks$Machine" 49 2147479552,
  Cond.fieldLink "NativeWorks$Machine" 51 "NativeWorks$Linke\x72" "start" "I",
  Cond.fieldLink "NativeWorks$Machine" 57 "NativeWorks$Machine" "ip" "J",
  Cond.fieldLink "NativeWorks$Machine" 67 "NativeWorks$Machine" "written" "I",
  Cond.fieldLink "NativeWorks$Machine" 73 "NativeWorks$Machine" "stopValue" "J",
  Cond.fieldLink "NativeWorks$Machine" 76 "NativeWorks$Machine" "steps" "I",
  Cond.code ⟨"NativeWorks$Machine", "change", "(IIJ)V"⟩ prog_7_method_20_code 5 (Option.none : Option FieldType),
  Cond.constantLong "NativeWorks$Machine" 215 4294967295,
  Cond.constantLong "NativeWorks$Machine" 217 (-256),
  Cond.constantLong "NativeWorks$Machine" 193 255]
def rB38 : List Cond := [Cond.code ⟨"NativeWorks$Machine", "copyOrFill", "(I)V"⟩ prog_7_method_49_code 6 (Option.none : Option FieldType),
  Cond.methodLink "NativeWorks$Machine" 189 ⟨"NativeWorks$Machine", "fetched", "(JI)J"⟩,
  Cond.instanceMethod ⟨"NativeWorks$Machine", "fetched", "(JI)J"⟩,
  Cond.selects "NativeWorks$Machine" ⟨"NativeWorks$Machine", "fetched", "(JI)J"⟩ ⟨"NativeWorks$Machine", "fetched", "(JI)J"⟩,
  Cond.methodLink "NativeWorks$Machine" 208 ⟨"NativeWorks$Machine", "store", "(JIJ)Z"⟩,
  Cond.instanceMethod ⟨"NativeWorks$Machine", "store", "(JIJ)Z"⟩,
  Cond.selects "NativeWorks$Machine" ⟨"NativeWorks$Machine", "store", "(JIJ)Z"⟩ ⟨"NativeWorks$Machine", "store", "(JIJ)Z"⟩,
  Cond.code ⟨"NativeWorks$Machine", "divide", "(JIZ)V"⟩ prog_7_method_33_code 17 (Option.none : Option FieldType),
  Cond.constantLong "NativeWorks$Machine" 277 65535,
  Cond.methodLink "NativeWorks$Machine" 265 ⟨"NativeWorks$Machine", "signed", "(JI)J"⟩,
  Cond.static ⟨"NativeWorks$Machine", "signed", "(JI)J"⟩,
  Cond.code ⟨"NativeWorks$Machine", "signed", "(JI)J"⟩ prog_7_method_15_code 3 (Option.some FieldType.long),
  Cond.constantLong "NativeWorks$Machine" 176 (-1),
  Cond.methodLink "NativeWorks$Machine" 286 ⟨"NativeWorks$Machine", "below", "(JJ)Z"⟩,
  Cond.static ⟨"NativeWorks$Machine", "below", "(JJ)Z"⟩,
  Cond.methodLink "NativeWorks$Machine" 98 ⟨"NativeWorks$Machine", "halt", "(IJ)V"⟩,
  Cond.instanceMethod ⟨"NativeWorks$Machine", "halt", "(IJ)V"⟩,
  Cond.selects "NativeWorks$Machine" ⟨"NativeWorks$Machine", "halt", "(IJ)V"⟩ ⟨"NativeWorks$Machine", "halt", "(IJ)V"⟩,
  Cond.methodLink "NativeWorks$Machine" 290 ⟨"NativeWorks$Machine", "quotient", "(JJJ)J"⟩,
  Cond.instanceMethod ⟨"NativeWorks$Machine", "quotient", "(JJJ)J"⟩,
  Cond.selects "NativeWorks$Machine" ⟨"NativeWorks$Machine", "quotient", "(JJJ)J"⟩ ⟨"NativeWorks$Machine", "quotient", "(JJJ)J"⟩,
  Cond.methodLink "NativeWorks$Machine" 223 ⟨"NativeWorks$Machine", "top", "(I)J"⟩,
  Cond.static ⟨"NativeWorks$Machine", "top", "(I)J"⟩,
  Cond.code ⟨"NativeWorks$Machine", "top", "(I)J"⟩ prog_7_method_14_code 1 (Option.some FieldType.long),
  Cond.fieldLink "NativeWorks$Machine" 294 "NativeWorks$Machine" "rest" "J",
  Cond.constantLong "NativeWorks$Machine" 275 (-65536),
  Cond.code ⟨"NativeWorks$Machine", "execute", "()V"⟩ prog_7_method_12_code 2 (Option.none : Option FieldType),
  Cond.fieldLink "NativeWorks$Machine" 143 "NativeWorks$Instruction" "op" "I",
  Cond.methodLink "NativeWorks$Machine" 146 ⟨"NativeWorks$Machine", "arithmetic", "(I)V"⟩,
  Cond.instanceMethod ⟨"NativeWorks$Machine", "arithmetic", "(I)V"⟩,
  Cond.selects "NativeWorks$Machine" ⟨"NativeWorks$Machine", "arithmetic", "(I)V"⟩ ⟨"NativeWorks$Machine", "arithmetic", "(I)V"⟩,
  Cond.methodLink "NativeWorks$Machine" 150 ⟨"NativeWorks$Machine", "move", "(I)V"⟩,
  Cond.instanceMethod ⟨"NativeWorks$Machine", "move", "(I)V"⟩,
  Cond.selects "NativeWorks$Machine" ⟨"NativeWorks$Machine", "move", "(I)V"⟩ ⟨"NativeWorks$Machine", "move", "(I)V"⟩,
  Cond.methodLink "NativeWorks$Machine" 153 ⟨"NativeWorks$Machine", "single", "(I)V"⟩,
  Cond.instanceMethod ⟨"NativeWorks$Machine", "single", "(I)V"⟩,
  Cond.selects "NativeWorks$Machine" ⟨"NativeWorks$Machine", "single", "(I)V"⟩ ⟨"NativeWorks$Machine", "single", "(I)V"⟩,
  Cond.methodLink "NativeWorks$Machine" 156 ⟨"NativeWorks$Machine", "product", "()V"⟩,
  Cond.instanceMethod ⟨"NativeWorks$Machine", "product", "()V"⟩,
  Cond.selects "NativeWorks$Machine" ⟨"NativeWorks$Machine", "product", "()V"⟩ ⟨"NativeWorks$Machine", "product", "()V"⟩,
  Cond.methodLink "NativeWorks$Machine" 159 ⟨"NativeWorks$Machine", "shift", "(I)V"⟩,
  Cond.instanceMethod ⟨"NativeWorks$Machine", "shift", "(I)V"⟩,
  Cond.selects "NativeWorks$Machine" ⟨"NativeWorks$Machine", "shift", "(I)V"⟩ ⟨"NativeWorks$Machine", "shift", "(I)V"⟩,
  Cond.methodLink "NativeWorks$Machine" 161 ⟨"NativeWorks$Machine", "pushOrPop", "(I)V"⟩,
  Cond.instanceMethod ⟨"NativeWorks$Machine", "pushOrPop", "(I)V"⟩,
  Cond.selects "NativeWorks$Machine" ⟨"NativeWorks$Machine", "pushOrPop", "(I)V"⟩ ⟨"NativeWorks$Machine", "pushOrPop", "(I)V"⟩,
  Cond.methodLink "NativeWorks$Machine" 164 ⟨"NativeWorks$Machine", "flow", "(I)V"⟩,
  Cond.instanceMethod ⟨"NativeWorks$Machine", "flow", "(I)V"⟩]
def rB39 : List Cond := [Cond.selects "NativeWorks$Machine" ⟨"NativeWorks$Machine", "flow", "(I)V"⟩ ⟨"NativeWorks$Machine", "flow", "(I)V"⟩,
  Cond.methodLink "NativeWorks$Machine" 167 ⟨"NativeWorks$Machine", "plain", "(I)V"⟩,
  Cond.instanceMethod ⟨"NativeWorks$Machine", "plain", "(I)V"⟩,
  Cond.selects "NativeWorks$Machine" ⟨"NativeWorks$Machine", "plain", "(I)V"⟩ ⟨"NativeWorks$Machine", "plain", "(I)V"⟩,
  Cond.methodLink "NativeWorks$Machine" 170 ⟨"NativeWorks$Machine", "bits", "(I)V"⟩,
  Cond.instanceMethod ⟨"NativeWorks$Machine", "bits", "(I)V"⟩,
  Cond.selects "NativeWorks$Machine" ⟨"NativeWorks$Machine", "bits", "(I)V"⟩ ⟨"NativeWorks$Machine", "bits", "(I)V"⟩,
  Cond.methodLink "NativeWorks$Machine" 173 ⟨"NativeWorks$Machine", "copyOrFill", "(I)V"⟩,
  Cond.instanceMethod ⟨"NativeWorks$Machine", "copyOrFill", "(I)V"⟩,
  Cond.selects "NativeWorks$Machine" ⟨"NativeWorks$Machine", "copyOrFill", "(I)V"⟩ ⟨"NativeWorks$Machine", "copyOrFill", "(I)V"⟩,
  Cond.code ⟨"NativeWorks$Machine", "fetched", "(JI)J"⟩ prog_7_method_17_code 4 (Option.some FieldType.long),
  Cond.methodLink "NativeWorks$Machine" 198 ⟨"NativeWorks$Memory", "may", "(JJZ)Z"⟩,
  Cond.methodLink "NativeWorks$Machine" 202 ⟨"NativeWorks$Memory", "numbe\x72", "(JI)J"⟩,
  Cond.instanceMethod ⟨"NativeWorks$Memory", "numbe\x72", "(JI)J"⟩,
  Cond.selects "NativeWorks$Memory" ⟨"NativeWorks$Memory", "numbe\x72", "(JI)J"⟩ ⟨"NativeWorks$Memory", "numbe\x72", "(JI)J"⟩,
  Cond.code ⟨"NativeWorks$Machine", "flag", "(IZ)V"⟩ prog_7_method_21_code 3 (Option.none : Option FieldType),
  Cond.code ⟨"NativeWorks$Machine", "flow", "(I)V"⟩ prog_7_method_40_code 5 (Option.none : Option FieldType),
  Cond.fieldLink "NativeWorks$Machine" 195 "NativeWorks$Instruction" "numbe\x72" "J",
  Cond.methodLink "NativeWorks$Machine" 301 ⟨"NativeWorks$Machine", "push", "(J)Z"⟩,
  Cond.instanceMethod ⟨"NativeWorks$Machine", "push", "(J)Z"⟩,
  Cond.selects "NativeWorks$Machine" ⟨"NativeWorks$Machine", "push", "(J)Z"⟩ ⟨"NativeWorks$Machine", "push", "(J)Z"⟩,
  Cond.constantLong "NativeWorks$Machine" 299 8,
  Cond.methodLink "NativeWorks$Machine" 308 ⟨"NativeWorks$Machine", "holds", "()Z"⟩,
  Cond.instanceMethod ⟨"NativeWorks$Machine", "holds", "()Z"⟩,
  Cond.selects "NativeWorks$Machine" ⟨"NativeWorks$Machine", "holds", "()Z"⟩ ⟨"NativeWorks$Machine", "holds", "()Z"⟩,
  Cond.code ⟨"NativeWorks$Machine", "go", "(I)I"⟩ prog_7_method_8_code 4 (Option.some FieldType.int),
  Cond.methodLink "NativeWorks$Machine" 102 ⟨"NativeWorks$Machine", "step", "()V"⟩,
  Cond.instanceMethod ⟨"NativeWorks$Machine", "step", "()V"⟩,
  Cond.selects "NativeWorks$Machine" ⟨"NativeWorks$Machine", "step", "()V"⟩ ⟨"NativeWorks$Machine", "step", "()V"⟩,
  Cond.code ⟨"NativeWorks$Machine", "halt", "(IJ)V"⟩ prog_7_method_9_code 4 (Option.none : Option FieldType),
  Cond.code ⟨"NativeWorks$Machine", "has", "(I)Z"⟩ prog_7_method_22_code 2 (Option.some FieldType.boolean),
  Cond.code ⟨"NativeWorks$Machine", "high", "(JJZ)J"⟩ prog_7_method_31_code 19 (Option.some FieldType.long),
  Cond.code ⟨"NativeWorks$Machine", "holds", "()Z"⟩ prog_7_method_39_code 2 (Option.some FieldType.boolean),
  Cond.fieldLink "NativeWorks$Machine" 305 "NativeWorks$Instruction" "condition" "I",
  Cond.code ⟨"NativeWorks$Machine", "move", "(I)V"⟩ prog_7_method_28_code 7 (Option.none : Option FieldType),
  Cond.fieldLink "NativeWorks$Machine" 125 "NativeWorks$Machine" "place" "J",
  Cond.methodLink "NativeWorks$Machine" 261 ⟨"NativeWorks$Instruction", "sizeOfM", "()I"⟩,
  Cond.code ⟨"NativeWorks$Machine", "multiply", "(JIZ)V"⟩ prog_7_method_30_code 15 (Option.none : Option FieldType),
  Cond.methodLink "NativeWorks$Machine" 279 ⟨"NativeWorks$Machine", "high", "(JJZ)J"⟩,
  Cond.static ⟨"NativeWorks$Machine", "high", "(JJZ)J"⟩,
  Cond.code ⟨"NativeWorks$Machine", "plain", "(I)V"⟩ prog_7_method_41_code 4 (Option.none : Option FieldType),
  Cond.methodLink "NativeWorks$Machine" 312 ⟨"NativeWorks$Machine", "serve", "()V"⟩,
  Cond.instanceMethod ⟨"NativeWorks$Machine", "serve", "()V"⟩,
  Cond.selects "NativeWorks$Machine" ⟨"NativeWorks$Machine", "serve", "()V"⟩ ⟨"NativeWorks$Machine", "serve", "()V"⟩,
  Cond.code ⟨"NativeWorks$Machine", "product", "()V"⟩ prog_7_method_32_code 10 (Option.none : Option FieldType),
  Cond.code ⟨"NativeWorks$Machine", "pushOrPop", "(I)V"⟩ prog_7_method_38_code 4 (Option.none : Option FieldType),
  Cond.methodLink "NativeWorks$Machine" 121 ⟨"NativeWorks$Machine", "address", "()J"⟩,
  Cond.instanceMethod ⟨"NativeWorks$Machine", "address", "()J"⟩]
def rB40 : List Cond := [Cond.selects "NativeWorks$Machine" ⟨"NativeWorks$Machine", "address", "()J"⟩ ⟨"NativeWorks$Machine", "address", "()J"⟩,
  Cond.code ⟨"NativeWorks$Machine", "push", "(J)Z"⟩ prog_7_method_37_code 3 (Option.some FieldType.boolean),
  Cond.code ⟨"NativeWorks$Machine", "put", "(IIJ)Z"⟩ prog_7_method_18_code 5 (Option.some FieldType.boolean),
  Cond.fieldLink "NativeWorks$Machine" 182 "NativeWorks$Instruction" "reg" "[I",
  Cond.code ⟨"NativeWorks$Machine", "quotient", "(JJJ)J"⟩ prog_7_method_35_code 11 (Option.some FieldType.long),
  Cond.code ⟨"NativeWorks$Machine", "readInput", "()J"⟩ prog_7_method_43_code 3 (Option.some FieldType.long),
  Cond.constantLong "NativeWorks$Machine" 337 (-14),
  Cond.methodLink "NativeWorks$Machine" 212 ⟨"NativeWorks$Memory", "change", "(JIJ)V"⟩,
  Cond.instanceMethod ⟨"NativeWorks$Memory", "change", "(JIJ)V"⟩,
  Cond.selects "NativeWorks$Memory" ⟨"NativeWorks$Memory", "change", "(JIJ)V"⟩ ⟨"NativeWorks$Memory", "change", "(JIJ)V"⟩,
  Cond.code ⟨"NativeWorks$Machine", "serve", "()V"⟩ prog_7_method_42_code 1 (Option.none : Option FieldType),
  Cond.methodLink "NativeWorks$Machine" 315 ⟨"NativeWorks$Machine", "told", "()I"⟩,
  Cond.methodLink "NativeWorks$Machine" 318 ⟨"NativeWorks$Machine", "readInput", "()J"⟩,
  Cond.instanceMethod ⟨"NativeWorks$Machine", "readInput", "()J"⟩,
  Cond.selects "NativeWorks$Machine" ⟨"NativeWorks$Machine", "readInput", "()J"⟩ ⟨"NativeWorks$Machine", "readInput", "()J"⟩,
  Cond.methodLink "NativeWorks$Machine" 321 ⟨"NativeWorks$Machine", "writeOutput", "()J"⟩,
  Cond.instanceMethod ⟨"NativeWorks$Machine", "writeOutput", "()J"⟩,
  Cond.selects "NativeWorks$Machine" ⟨"NativeWorks$Machine", "writeOutput", "()J"⟩ ⟨"NativeWorks$Machine", "writeOutput", "()J"⟩,
  Cond.constantLong "NativeWorks$Machine" 324 12,
  Cond.methodLink "NativeWorks$Machine" 326 ⟨"NativeWorks$Memory", "moveEnd", "(J)V"⟩,
  Cond.instanceMethod ⟨"NativeWorks$Memory", "moveEnd", "(J)V"⟩,
  Cond.selects "NativeWorks$Memory" ⟨"NativeWorks$Memory", "moveEnd", "(J)V"⟩ ⟨"NativeWorks$Memory", "moveEnd", "(J)V"⟩,
  Cond.fieldLink "NativeWorks$Machine" 330 "NativeWorks$Memory" "end" "J",
  Cond.constantLong "NativeWorks$Machine" 333 60,
  Cond.constantLong "NativeWorks$Machine" 335 (-38),
  Cond.code ⟨"NativeWorks$Machine", "setDifference", "(JJJI)V"⟩ prog_7_method_25_code 8 (Option.none : Option FieldType),
  Cond.code ⟨"NativeWorks$Machine", "setResult", "(JI)V"⟩ prog_7_method_23_code 4 (Option.none : Option FieldType),
  Cond.methodLink "NativeWorks$Machine" 226 ⟨"java/lang/Long", "bitCount", "(J)I"⟩,
  Cond.static ⟨"java/lang/Long", "bitCount", "(J)I"⟩,
  Cond.initialized "java/lang/Long",
  Cond.code ⟨"java/lang/Long", "bitCount", "(J)I"⟩ prog_26_method_50_code 2 (Option.some FieldType.int),
  Cond.code ⟨"NativeWorks$Machine", "setSpill", "(Z)V"⟩ prog_7_method_26_code 2 (Option.none : Option FieldType),
  Cond.code ⟨"NativeWorks$Machine", "setSum", "(JJJI)V"⟩ prog_7_method_24_code 8 (Option.none : Option FieldType),
  Cond.code ⟨"NativeWorks$Machine", "shift", "(I)V"⟩ prog_7_method_36_code 15 (Option.none : Option FieldType),
  Cond.code ⟨"NativeWorks$Machine", "single", "(I)V"⟩ prog_7_method_29_code 8 (Option.none : Option FieldType),
  Cond.methodLink "NativeWorks$Machine" 268 ⟨"NativeWorks$Machine", "multiply", "(JIZ)V"⟩,
  Cond.instanceMethod ⟨"NativeWorks$Machine", "multiply", "(JIZ)V"⟩,
  Cond.selects "NativeWorks$Machine" ⟨"NativeWorks$Machine", "multiply", "(JIZ)V"⟩ ⟨"NativeWorks$Machine", "multiply", "(JIZ)V"⟩,
  Cond.methodLink "NativeWorks$Machine" 272 ⟨"NativeWorks$Machine", "divide", "(JIZ)V"⟩,
  Cond.instanceMethod ⟨"NativeWorks$Machine", "divide", "(JIZ)V"⟩,
  Cond.selects "NativeWorks$Machine" ⟨"NativeWorks$Machine", "divide", "(JIZ)V"⟩ ⟨"NativeWorks$Machine", "divide", "(JIZ)V"⟩,
  Cond.code ⟨"NativeWorks$Machine", "step", "()V"⟩ prog_7_method_10_code 2 (Option.none : Option FieldType),
  Cond.methodLink "NativeWorks$Machine" 105 ⟨"NativeWorks$Memory", "codeAt", "(J)I"⟩,
  Cond.instanceMethod ⟨"NativeWorks$Memory", "codeAt", "(J)I"⟩,
  Cond.selects "NativeWorks$Memory" ⟨"NativeWorks$Memory", "codeAt", "(J)I"⟩ ⟨"NativeWorks$Memory", "codeAt", "(J)I"⟩,
  Cond.fieldLink "NativeWorks$Machine" 108 "NativeWorks$Memory" "low" "[B",
  Cond.methodLink "NativeWorks$Machine" 111 ⟨"NativeWorks$Instruction", "decode", "([BI)V"⟩,
  Cond.instanceMethod ⟨"NativeWorks$Instruction", "decode", "([BI)V"⟩]
def rB41 : List Cond := [Cond.selects "NativeWorks$Instruction" ⟨"NativeWorks$Instruction", "decode", "([BI)V"⟩ ⟨"NativeWorks$Instruction", "decode", "([BI)V"⟩,
  Cond.fieldLink "NativeWorks$Machine" 115 "NativeWorks$Instruction" "length" "I",
  Cond.methodLink "NativeWorks$Machine" 128 ⟨"NativeWorks$Machine", "execute", "()V"⟩,
  Cond.instanceMethod ⟨"NativeWorks$Machine", "execute", "()V"⟩,
  Cond.selects "NativeWorks$Machine" ⟨"NativeWorks$Machine", "execute", "()V"⟩ ⟨"NativeWorks$Machine", "execute", "()V"⟩,
  Cond.code ⟨"NativeWorks$Machine", "store", "(JIJ)Z"⟩ prog_7_method_19_code 6 (Option.some FieldType.boolean),
  Cond.code ⟨"NativeWorks$Machine", "value", "(II)J"⟩ prog_7_method_16_code 3 (Option.some FieldType.long),
  Cond.code ⟨"NativeWorks$Machine", "writeOutput", "()J"⟩ prog_7_method_44_code 3 (Option.some FieldType.long),
  Cond.constantLong "NativeWorks$Machine" 339 (-28),
  Cond.code ⟨"NativeWorks$Memory", "change", "(JIJ)V"⟩ prog_8_method_6_code 11 (Option.none : Option FieldType),
  Cond.constantLong "NativeWorks$Memory" 100 2147414016,
  Cond.constantLong "NativeWorks$Memory" 106 65536,
  Cond.code ⟨"NativeWorks$Memory", "codeAt", "(J)I"⟩ prog_8_method_3_code 5 (Option.some FieldType.int),
  Cond.code ⟨"NativeWorks$Memory", "fill", "(LNativeWorks$Linker;)V"⟩ prog_8_method_2_code 5 (Option.none : Option FieldType),
  Cond.methodLink "NativeWorks$Memory" 40 ⟨"java/util/Arrays", "fill", "([BIIB)V"⟩,
  Cond.methodLink "NativeWorks$Memory" 46 ⟨"java/util/Arrays", "fill", "([BB)V"⟩,
  Cond.static ⟨"java/util/Arrays", "fill", "([BB)V"⟩,
  Cond.code ⟨"java/util/Arrays", "fill", "([BB)V"⟩ prog_38_method_109_code 4 (Option.none : Option FieldType),
  Cond.fieldLink "NativeWorks$Memory" 49 "NativeWorks$Linke\x72" "bytes" "[B",
  Cond.fieldLink "NativeWorks$Memory" 52 "NativeWorks$Linke\x72" "length" "I",
  Cond.methodLink "NativeWorks$Memory" 56 ⟨"java/lang/System", "arraycopy", "(Ljava/lang/Object;ILjava/lang/Object;II)V"⟩,
  Cond.methodLink "NativeWorks$Memory" 62 ⟨"java/lang/Math", "max", "(JJ)J"⟩,
  Cond.static ⟨"java/lang/Math", "max", "(JJ)J"⟩,
  Cond.code ⟨"java/lang/Math", "max", "(JJ)J"⟩ prog_27_method_66_code 4 (Option.some FieldType.long),
  Cond.fieldLink "NativeWorks$Memory" 68 "NativeWorks$Linke\x72" "origins" "[I",
  Cond.fieldLink "NativeWorks$Memory" 72 "NativeWorks$Linke\x72" "from" "[I",
  Cond.fieldLink "NativeWorks$Memory" 75 "NativeWorks$Memory" "textFrom" "J",
  Cond.fieldLink "NativeWorks$Memory" 78 "NativeWorks$Linke\x72" "to" "[I",
  Cond.fieldLink "NativeWorks$Memory" 81 "NativeWorks$Memory" "textTo" "J",
  Cond.fieldLink "NativeWorks$Memory" 84 "NativeWorks$Memory" "rodataFrom" "J",
  Cond.fieldLink "NativeWorks$Memory" 87 "NativeWorks$Memory" "rodataTo" "J",
  Cond.fieldLink "NativeWorks$Memory" 90 "NativeWorks$Memory" "dataFrom" "J",
  Cond.methodLink "NativeWorks$Memory" 93 ⟨"java/lang/Math", "max", "(II)I"⟩,
  Cond.fieldLink "NativeWorks$Memory" 96 "NativeWorks$Memory" "dataTo" "J",
  Cond.constant "NativeWorks$Memory" 99 4194304,
  Cond.constantLong "NativeWorks$Memory" 102 2147479552,
  Cond.code ⟨"NativeWorks$Memory", "moveEnd", "(J)V"⟩ prog_8_method_7_code 5 (Option.none : Option FieldType),
  Cond.methodLink "NativeWorks$Memory" 108 ⟨"NativeWorks$Memory", "change", "(JIJ)V"⟩,
  Cond.code ⟨"NativeWorks$Memory", "numbe\x72", "(JI)J"⟩ prog_8_method_5_code 11 (Option.some FieldType.long),
  Cond.constantLong "NativeWorks$Memory" 104 255,
  Cond.methodLink "NativeWorks$Reade\x72" 90 ⟨"NativeWorks$Reade\x72", "bring", "(I)V"⟩,
  Cond.instanceMethod ⟨"NativeWorks$Reade\x72", "bring", "(I)V"⟩,
  Cond.selects "NativeWorks$Reade\x72" ⟨"NativeWorks$Reade\x72", "bring", "(I)V"⟩ ⟨"NativeWorks$Reade\x72", "bring", "(I)V"⟩,
  Cond.code ⟨"NativeWorks$Reade\x72", "appendArgument", "(II)V"⟩ prog_10_method_8_code 5 (Option.none : Option FieldType),
  Cond.methodLink "NativeWorks$Reade\x72" 122 ⟨"NativeWorks$Reade\x72", "append", "(B)V"⟩,
  Cond.instanceMethod ⟨"NativeWorks$Reade\x72", "append", "(B)V"⟩,
  Cond.selects "NativeWorks$Reade\x72" ⟨"NativeWorks$Reade\x72", "append", "(B)V"⟩ ⟨"NativeWorks$Reade\x72", "append", "(B)V"⟩,
  Cond.code ⟨"NativeWorks$Reade\x72", "appendNumbe\x72", "(I)V"⟩ prog_10_method_7_code 3 (Option.none : Option FieldType)]
def rB42 : List Cond := [Cond.code ⟨"NativeWorks$Reade\x72", "append", "(B)V"⟩ prog_10_method_6_code 2 (Option.none : Option FieldType),
  Cond.fieldLink "NativeWorks$Reade\x72" 96 "NativeWorks$Line" "length" "I",
  Cond.fieldLink "NativeWorks$Reade\x72" 106 "NativeWorks$Line" "text" "[B",
  Cond.code ⟨"NativeWorks$Reade\x72", "bring", "(I)V"⟩ prog_10_method_4_code 4 (Option.none : Option FieldType),
  Cond.fieldLink "NativeWorks$Reade\x72" 93 "NativeWorks$Source" "lineAt" "[I",
  Cond.methodLink "NativeWorks$Reade\x72" 99 ⟨"NativeWorks$Reade\x72", "replace", "(III)V"⟩,
  Cond.instanceMethod ⟨"NativeWorks$Reade\x72", "replace", "(III)V"⟩,
  Cond.selects "NativeWorks$Reade\x72" ⟨"NativeWorks$Reade\x72", "replace", "(III)V"⟩ ⟨"NativeWorks$Reade\x72", "replace", "(III)V"⟩,
  Cond.fieldLink "NativeWorks$Reade\x72" 103 "NativeWorks$Source" "bytes" "[B",
  Cond.methodLink "NativeWorks$Reade\x72" 109 ⟨"java/lang/System", "arraycopy", "(Ljava/lang/Object;ILjava/lang/Object;II)V"⟩,
  Cond.code ⟨"NativeWorks$Reade\x72", "current", "()I"⟩ prog_10_method_9_code 1 (Option.some FieldType.int),
  Cond.code ⟨"NativeWorks$Reade\x72", "full", "()Z"⟩ prog_10_method_11_code 1 (Option.some FieldType.boolean),
  Cond.code ⟨"NativeWorks$Reade\x72", "goBehind", "(I)Z"⟩ prog_10_method_17_code 3 (Option.some FieldType.boolean),
  Cond.code ⟨"NativeWorks$Reade\x72", "misplaced", "(I)Z"⟩ prog_10_method_12_code 5 (Option.some FieldType.boolean),
  Cond.fieldLink "NativeWorks$Reade\x72" 140 "NativeWorks$Source" "ifEnds" "[I",
  Cond.methodLink "NativeWorks$Reade\x72" 143 ⟨"NativeWorks$Reade\x72", "current", "()I"⟩,
  Cond.instanceMethod ⟨"NativeWorks$Reade\x72", "current", "()I"⟩,
  Cond.selects "NativeWorks$Reade\x72" ⟨"NativeWorks$Reade\x72", "current", "()I"⟩ ⟨"NativeWorks$Reade\x72", "current", "()I"⟩,
  Cond.methodLink "NativeWorks$Reade\x72" 147 ⟨"NativeWorks$Reade\x72", "full", "()Z"⟩,
  Cond.instanceMethod ⟨"NativeWorks$Reade\x72", "full", "()Z"⟩,
  Cond.selects "NativeWorks$Reade\x72" ⟨"NativeWorks$Reade\x72", "full", "()Z"⟩ ⟨"NativeWorks$Reade\x72", "full", "()Z"⟩,
  Cond.fieldLink "NativeWorks$Reade\x72" 151 "NativeWorks$Source" "reptEnds" "[I",
  Cond.code ⟨"NativeWorks$Reade\x72", "openIf", "(Z)V"⟩ prog_10_method_14_code 2 (Option.none : Option FieldType),
  Cond.code ⟨"NativeWorks$Reade\x72", "overused", "(II)Z"⟩ prog_10_method_20_code 4 (Option.some FieldType.boolean),
  Cond.fieldLink "NativeWorks$Reade\x72" 126 "NativeWorks$Source" "firstParamete\x72" "[I",
  Cond.methodLink "NativeWorks$Reade\x72" 186 ⟨"java/lang/Math", "min", "(II)I"⟩,
  Cond.methodLink "NativeWorks$Reade\x72" 192 ⟨"NativeWorks$Reade\x72", "split", "(III)I"⟩,
  Cond.instanceMethod ⟨"NativeWorks$Reade\x72", "split", "(III)I"⟩,
  Cond.selects "NativeWorks$Reade\x72" ⟨"NativeWorks$Reade\x72", "split", "(III)I"⟩ ⟨"NativeWorks$Reade\x72", "split", "(III)I"⟩,
  Cond.code ⟨"NativeWorks$Reade\x72", "push", "(IIII)V"⟩ prog_10_method_22_code 5 (Option.none : Option FieldType),
  Cond.code ⟨"NativeWorks$Reade\x72", "readElse", "()V"⟩ prog_10_method_15_code 1 (Option.none : Option FieldType),
  Cond.methodLink "NativeWorks$Reade\x72" 161 ⟨"NativeWorks$Reade\x72", "goBehind", "(I)Z"⟩,
  Cond.instanceMethod ⟨"NativeWorks$Reade\x72", "goBehind", "(I)Z"⟩,
  Cond.selects "NativeWorks$Reade\x72" ⟨"NativeWorks$Reade\x72", "goBehind", "(I)Z"⟩ ⟨"NativeWorks$Reade\x72", "goBehind", "(I)Z"⟩,
  Cond.code ⟨"NativeWorks$Reade\x72", "readEndif", "()V"⟩ prog_10_method_16_code 1 (Option.none : Option FieldType),
  Cond.code ⟨"NativeWorks$Reade\x72", "readIf", "(Z)V"⟩ prog_10_method_13_code 3 (Option.none : Option FieldType),
  Cond.methodLink "NativeWorks$Reade\x72" 154 ⟨"NativeWorks$Reade\x72", "openIf", "(Z)V"⟩,
  Cond.instanceMethod ⟨"NativeWorks$Reade\x72", "openIf", "(Z)V"⟩,
  Cond.selects "NativeWorks$Reade\x72" ⟨"NativeWorks$Reade\x72", "openIf", "(Z)V"⟩ ⟨"NativeWorks$Reade\x72", "openIf", "(Z)V"⟩,
  Cond.fieldLink "NativeWorks$Reade\x72" 158 "NativeWorks$Source" "elses" "[I",
  Cond.fieldLink "NativeWorks$Reade\x72" 165 "NativeWorks$Source" "sorts" "[B",
  Cond.code ⟨"NativeWorks$Reade\x72", "readMacro", "(I)V"⟩ prog_10_method_19_code 5 (Option.none : Option FieldType),
  Cond.methodLink "NativeWorks$Reade\x72" 172 ⟨"NativeWorks$Source", "macroEnd", "(I)I"⟩,
  Cond.instanceMethod ⟨"NativeWorks$Source", "macroEnd", "(I)I"⟩,
  Cond.selects "NativeWorks$Source" ⟨"NativeWorks$Source", "macroEnd", "(I)I"⟩ ⟨"NativeWorks$Source", "macroEnd", "(I)I"⟩,
  Cond.methodLink "NativeWorks$Reade\x72" 176 ⟨"NativeWorks$Source", "addMacro", "(LNativeWorks$Line;II)I"⟩,
  Cond.instanceMethod ⟨"NativeWorks$Source", "addMacro", "(LNativeWorks$Line;II)I"⟩,
  Cond.selects "NativeWorks$Source" ⟨"NativeWorks$Source", "addMacro", "(LNativeWorks$Line;II)I"⟩ ⟨"NativeWorks$Source", "addMacro", "(LNativeWorks$Line;II)I"⟩]
def rB43 : List Cond := [Cond.fieldLink "NativeWorks$Reade\x72" 180 "NativeWorks$Source" "bodyFrom" "[I",
  Cond.fieldLink "NativeWorks$Reade\x72" 183 "NativeWorks$Source" "bodyTo" "[I",
  Cond.code ⟨"NativeWorks$Reade\x72", "readRept", "(I)V"⟩ prog_10_method_18_code 4 (Option.none : Option FieldType),
  Cond.methodLink "NativeWorks$Reade\x72" 168 ⟨"NativeWorks$Reade\x72", "push", "(IIII)V"⟩,
  Cond.instanceMethod ⟨"NativeWorks$Reade\x72", "push", "(IIII)V"⟩,
  Cond.selects "NativeWorks$Reade\x72" ⟨"NativeWorks$Reade\x72", "push", "(IIII)V"⟩ ⟨"NativeWorks$Reade\x72", "push", "(IIII)V"⟩,
  Cond.code ⟨"NativeWorks$Reade\x72", "replace", "(III)V"⟩ prog_10_method_5_code 7 (Option.none : Option FieldType),
  Cond.methodLink "NativeWorks$Reade\x72" 115 ⟨"NativeWorks$Reade\x72", "appendNumbe\x72", "(I)V"⟩,
  Cond.instanceMethod ⟨"NativeWorks$Reade\x72", "appendNumbe\x72", "(I)V"⟩,
  Cond.selects "NativeWorks$Reade\x72" ⟨"NativeWorks$Reade\x72", "appendNumbe\x72", "(I)V"⟩ ⟨"NativeWorks$Reade\x72", "appendNumbe\x72", "(I)V"⟩,
  Cond.methodLink "NativeWorks$Reade\x72" 118 ⟨"NativeWorks$Source", "parameterAt", "(III)I"⟩,
  Cond.instanceMethod ⟨"NativeWorks$Source", "parameterAt", "(III)I"⟩,
  Cond.selects "NativeWorks$Source" ⟨"NativeWorks$Source", "parameterAt", "(III)I"⟩ ⟨"NativeWorks$Source", "parameterAt", "(III)I"⟩,
  Cond.methodLink "NativeWorks$Reade\x72" 129 ⟨"NativeWorks$Reade\x72", "appendArgument", "(II)V"⟩,
  Cond.instanceMethod ⟨"NativeWorks$Reade\x72", "appendArgument", "(II)V"⟩,
  Cond.selects "NativeWorks$Reade\x72" ⟨"NativeWorks$Reade\x72", "appendArgument", "(II)V"⟩ ⟨"NativeWorks$Reade\x72", "appendArgument", "(II)V"⟩,
  Cond.fieldLink "NativeWorks$Reade\x72" 133 "NativeWorks$Source" "parameterTo" "[I",
  Cond.fieldLink "NativeWorks$Reade\x72" 136 "NativeWorks$Source" "parameterFrom" "[I",
  Cond.code ⟨"NativeWorks$Reade\x72", "split", "(III)I"⟩ prog_10_method_23_code 11 (Option.some FieldType.int),
  Cond.methodLink "NativeWorks$Reade\x72" 194 ⟨"java/util/Arrays", "fill", "([IIII)V"⟩,
  Cond.fieldLink "NativeWorks$Reade\x72" 200 "NativeWorks$Line" "kind" "[I",
  Cond.fieldLink "NativeWorks$Reade\x72" 203 "NativeWorks$Line" "count" "I",
  Cond.fieldLink "NativeWorks$Reade\x72" 206 "NativeWorks$Line" "from" "[I",
  Cond.fieldLink "NativeWorks$Reade\x72" 209 "NativeWorks$Line" "to" "[I",
  Cond.code ⟨"NativeWorks$Reade\x72", "tooMuch", "()Z"⟩ prog_10_method_10_code 1 (Option.some FieldType.boolean),
  Cond.constant "NativeWorks$Reade\x72" 139 65536,
  Cond.code ⟨"NativeWorks$Reade\x72", "use", "(I)V"⟩ prog_10_method_21_code 2 (Option.none : Option FieldType),
  Cond.code ⟨"NativeWorks$Source", "addMacro", "(LNativeWorks$Line;II)I"⟩ prog_11_method_7_code 7 (Option.some FieldType.int),
  Cond.fieldLink "NativeWorks$Source" 94 "NativeWorks$Line" "text" "[B",
  Cond.fieldLink "NativeWorks$Source" 97 "NativeWorks$Line" "from" "[I",
  Cond.fieldLink "NativeWorks$Source" 100 "NativeWorks$Line" "to" "[I",
  Cond.methodLink "NativeWorks$Source" 103 ⟨"NativeWorks$Names", "add", "([BII)I"⟩,
  Cond.fieldLink "NativeWorks$Source" 107 "NativeWorks$Line" "count" "I",
  Cond.fieldLink "NativeWorks$Source" 108 "NativeWorks$Line" "kind" "[I",
  Cond.code ⟨"NativeWorks$Source", "behind", "([II)I"⟩ prog_11_method_5_code 3 (Option.some FieldType.int),
  Cond.code ⟨"NativeWorks$Source", "macroEnd", "(I)I"⟩ prog_11_method_6_code 3 (Option.some FieldType.int),
  Cond.methodLink "NativeWorks$Source" 90 ⟨"NativeWorks$Source", "behind", "([II)I"⟩,
  Cond.instanceMethod ⟨"NativeWorks$Source", "behind", "([II)I"⟩,
  Cond.selects "NativeWorks$Source" ⟨"NativeWorks$Source", "behind", "([II)I"⟩ ⟨"NativeWorks$Source", "behind", "([II)I"⟩,
  Cond.code ⟨"NativeWorks$Source", "parameterAt", "(III)I"⟩ prog_11_method_8_code 9 (Option.some FieldType.int),
  Cond.code ⟨"NativeWorks$Source", "sortOf", "(I)I"⟩ prog_11_method_3_code 6 (Option.some FieldType.int),
  Cond.methodLink "NativeWorks$Source" 77 ⟨"NativeWorks$Line", "inName", "(I)Z"⟩,
  Cond.fieldLink "NativeWorks$Source" 83 "NativeWorks$Names" "count" "I",
  Cond.methodLink "NativeWorks$Source" 86 ⟨"NativeWorks$Names", "find", "([BIII)I"⟩,
  Cond.methodLink "NativeWorks$Source" 70 ⟨"NativeWorks$Source", "sortOf", "(I)I"⟩,
  Cond.instanceMethod ⟨"NativeWorks$Source", "sortOf", "(I)I"⟩,
  Cond.selects "NativeWorks$Source" ⟨"NativeWorks$Source", "sortOf", "(I)I"⟩ ⟨"NativeWorks$Source", "sortOf", "(I)I"⟩,
  Cond.code ⟨"NativeWorks$Units", "addWait", "(IIZIIJ)Z"⟩ prog_12_method_10_code 9 (Option.some FieldType.boolean)]
def rB44 : List Cond := [Cond.code ⟨"NativeWorks$Units", "add", "(IIIII)Z"⟩ prog_12_method_11_code 7 (Option.some FieldType.boolean),
  Cond.code ⟨"NativeWorks$Units", "beLabel", "(III)V"⟩ prog_12_method_8_code 5 (Option.none : Option FieldType),
  Cond.code ⟨"NativeWorks$Units", "beginSymbol", "(I)V"⟩ prog_12_method_7_code 2 (Option.none : Option FieldType),
  Cond.methodLink "NativeWorks$Units" 95 ⟨"NativeWorks$Units", "sectionOf", "(I[I)I"⟩,
  Cond.instanceMethod ⟨"NativeWorks$Units", "sectionOf", "(I[I)I"⟩,
  Cond.selects "NativeWorks$Units" ⟨"NativeWorks$Units", "sectionOf", "(I[I)I"⟩ ⟨"NativeWorks$Units", "sectionOf", "(I[I)I"⟩,
  Cond.code ⟨"NativeWorks$Units", "distance", "([I)J"⟩ prog_12_method_19_code 3 (Option.some FieldType.long),
  Cond.methodLink "NativeWorks$Units" 121 ⟨"NativeWorks$Units", "placeOf", "(I[I)I"⟩,
  Cond.instanceMethod ⟨"NativeWorks$Units", "placeOf", "(I[I)I"⟩,
  Cond.selects "NativeWorks$Units" ⟨"NativeWorks$Units", "placeOf", "(I[I)I"⟩ ⟨"NativeWorks$Units", "placeOf", "(I[I)I"⟩,
  Cond.code ⟨"NativeWorks$Units", "drop", "()V"⟩ prog_12_method_5_code 2 (Option.none : Option FieldType),
  Cond.methodLink "NativeWorks$Units" 99 ⟨"NativeWorks$Units", "mayBeShort", "([I[I)Z"⟩,
  Cond.instanceMethod ⟨"NativeWorks$Units", "mayBeShort", "([I[I)Z"⟩,
  Cond.selects "NativeWorks$Units" ⟨"NativeWorks$Units", "mayBeShort", "([I[I)Z"⟩ ⟨"NativeWorks$Units", "mayBeShort", "([I[I)Z"⟩,
  Cond.methodLink "NativeWorks$Units" 113 ⟨"NativeWorks$Units", "distance", "([I)J"⟩,
  Cond.instanceMethod ⟨"NativeWorks$Units", "distance", "([I)J"⟩,
  Cond.selects "NativeWorks$Units" ⟨"NativeWorks$Units", "distance", "([I)J"⟩ ⟨"NativeWorks$Units", "distance", "([I)J"⟩,
  Cond.constantLong "NativeWorks$Units" 117 (-128),
  Cond.constantLong "NativeWorks$Units" 119 127,
  Cond.code ⟨"NativeWorks$Units", "mayBeShort", "([I[I)Z"⟩ prog_12_method_16_code 4 (Option.some FieldType.boolean),
  Cond.constant "NativeWorks$Units" 124 65536,
  Cond.code ⟨"NativeWorks$Units", "placeOf", "(I[I)I"⟩ prog_12_method_14_code 3 (Option.some FieldType.int),
  Cond.code ⟨"NativeWorks$Units", "putNumbe\x72", "(JI)V"⟩ prog_12_method_9_code 5 (Option.none : Option FieldType),
  Cond.code ⟨"NativeWorks$Units", "sectionOf", "(I[I)I"⟩ prog_12_method_13_code 3 (Option.some FieldType.int),
  Cond.code ⟨"NativeWorks$Units", "writeStatement", "([II)V"⟩ prog_12_method_23_code 4 (Option.none : Option FieldType),
  Cond.methodLink "NativeWorks$Units" 131 ⟨"java/lang/System", "arraycopy", "(Ljava/lang/Object;ILjava/lang/Object;II)V"⟩,
  Cond.methodLink "NativeWorks$Units" 128 ⟨"NativeWorks$Units", "writeStatement", "([II)V"⟩,
  Cond.instanceMethod ⟨"NativeWorks$Units", "writeStatement", "([II)V"⟩,
  Cond.selects "NativeWorks$Units" ⟨"NativeWorks$Units", "writeStatement", "([II)V"⟩ ⟨"NativeWorks$Units", "writeStatement", "([II)V"⟩,
  Cond.code ⟨"NativeWorksModel$Code", "at", "(J)I"⟩ prog_15_method_3_code 6 (Option.some FieldType.int),
  Cond.fieldLink "NativeWorksModel$Code" 28 "NativeWorksModel$Code" "many" "I",
  Cond.code ⟨"NativeWorksModel$Code", "copy", "(LNativeWorksModel$Code;)V"⟩ prog_15_method_2_code 3 (Option.none : Option FieldType),
  Cond.fieldLink "NativeWorksModel$Code" 32 "NativeWorksModel$Code" "end" "I",
  Cond.fieldLink "NativeWorksModel$Code" 35 "NativeWorksModel$Code" "textEnd" "I",
  Cond.fieldLink "NativeWorksModel$Code" 38 "NativeWorksModel$Code" "rodataBegin" "I",
  Cond.fieldLink "NativeWorksModel$Code" 41 "NativeWorksModel$Code" "rodataEnd" "I",
  Cond.fieldLink "NativeWorksModel$Code" 44 "NativeWorksModel$Code" "dataBegin" "I",
  Cond.fieldLink "NativeWorksModel$Code" 47 "NativeWorksModel$Code" "dataEnd" "I",
  Cond.fieldLink "NativeWorksModel$Code" 50 "NativeWorksModel$Code" "start" "J",
  Cond.code ⟨"NativeWorksModel", "act", "(III)V"⟩ prog_14_method_71_code 7 (Option.none : Option FieldType),
  Cond.methodLink "NativeWorksModel" 860 ⟨"NativeWorksModel", "isName", "(I)Z"⟩,
  Cond.instanceMethod ⟨"NativeWorksModel", "isName", "(I)Z"⟩,
  Cond.selects "NativeWorksModel" ⟨"NativeWorksModel", "isName", "(I)Z"⟩ ⟨"NativeWorksModel", "isName", "(I)Z"⟩,
  Cond.fieldLink "NativeWorksModel" 703 "NativeWorksModel" "tokens" "I",
  Cond.methodLink "NativeWorksModel" 678 ⟨"NativeWorksModel", "fail", "(I)V"⟩,
  Cond.instanceMethod ⟨"NativeWorksModel", "fail", "(I)V"⟩,
  Cond.selects "NativeWorksModel" ⟨"NativeWorksModel", "fail", "(I)V"⟩ ⟨"NativeWorksModel", "fail", "(I)V"⟩,
  Cond.methodLink "NativeWorksModel" 897 ⟨"NativeWorksModel", "nameAll", "(II)V"⟩]
def rB45 : List Cond := [Cond.instanceMethod ⟨"NativeWorksModel", "nameAll", "(II)V"⟩,
  Cond.selects "NativeWorksModel" ⟨"NativeWorksModel", "nameAll", "(II)V"⟩ ⟨"NativeWorksModel", "nameAll", "(II)V"⟩,
  Cond.methodLink "NativeWorksModel" 900 ⟨"NativeWorksModel", "define", "(I)V"⟩,
  Cond.instanceMethod ⟨"NativeWorksModel", "define", "(I)V"⟩,
  Cond.selects "NativeWorksModel" ⟨"NativeWorksModel", "define", "(I)V"⟩ ⟨"NativeWorksModel", "define", "(I)V"⟩,
  Cond.methodLink "NativeWorksModel" 903 ⟨"NativeWorksModel", "dataOf", "(II)V"⟩,
  Cond.instanceMethod ⟨"NativeWorksModel", "dataOf", "(II)V"⟩,
  Cond.selects "NativeWorksModel" ⟨"NativeWorksModel", "dataOf", "(II)V"⟩ ⟨"NativeWorksModel", "dataOf", "(II)V"⟩,
  Cond.methodLink "NativeWorksModel" 906 ⟨"NativeWorksModel", "fill", "(II)V"⟩,
  Cond.instanceMethod ⟨"NativeWorksModel", "fill", "(II)V"⟩,
  Cond.selects "NativeWorksModel" ⟨"NativeWorksModel", "fill", "(II)V"⟩ ⟨"NativeWorksModel", "fill", "(II)V"⟩,
  Cond.methodLink "NativeWorksModel" 909 ⟨"NativeWorksModel", "structure", "(II)V"⟩,
  Cond.instanceMethod ⟨"NativeWorksModel", "structure", "(II)V"⟩,
  Cond.selects "NativeWorksModel" ⟨"NativeWorksModel", "structure", "(II)V"⟩ ⟨"NativeWorksModel", "structure", "(II)V"⟩,
  Cond.methodLink "NativeWorksModel" 912 ⟨"NativeWorksModel", "call", "(I)V"⟩,
  Cond.instanceMethod ⟨"NativeWorksModel", "call", "(I)V"⟩,
  Cond.selects "NativeWorksModel" ⟨"NativeWorksModel", "call", "(I)V"⟩ ⟨"NativeWorksModel", "call", "(I)V"⟩,
  Cond.methodLink "NativeWorksModel" 915 ⟨"NativeWorksModel", "instruction", "(II)V"⟩,
  Cond.instanceMethod ⟨"NativeWorksModel", "instruction", "(II)V"⟩,
  Cond.selects "NativeWorksModel" ⟨"NativeWorksModel", "instruction", "(II)V"⟩ ⟨"NativeWorksModel", "instruction", "(II)V"⟩,
  Cond.code ⟨"NativeWorksModel", "addressNow", "()J"⟩ prog_14_method_160_code 7 (Option.some FieldType.long),
  Cond.fieldLink "NativeWorksModel" 1335 "NativeWorksModel" "now" "I",
  Cond.constantLong "NativeWorksModel" 819 63,
  Cond.constantLong "NativeWorksModel" 1099 15,
  Cond.code ⟨"NativeWorksModel", "add", "(JJZI)J"⟩ prog_14_method_168_code 9 (Option.some FieldType.long),
  Cond.methodLink "NativeWorksModel" 1346 ⟨"NativeWorksModel", "cut", "(JI)J"⟩,
  Cond.static ⟨"NativeWorksModel", "cut", "(JI)J"⟩,
  Cond.code ⟨"NativeWorksModel", "cut", "(JI)J"⟩ prog_14_method_158_code 3 (Option.some FieldType.long),
  Cond.methodLink "NativeWorksModel" 711 ⟨"java/lang/Long", "compareUnsigned", "(JJ)I"⟩,
  Cond.static ⟨"java/lang/Long", "compareUnsigned", "(JJ)I"⟩,
  Cond.code ⟨"java/lang/Long", "compareUnsigned", "(JJ)I"⟩ prog_26_method_43_code 4 (Option.some FieldType.int),
  Cond.methodLink "NativeWorksModel" 1369 ⟨"NativeWorksModel", "uppe\x72", "(JI)J"⟩,
  Cond.static ⟨"NativeWorksModel", "uppe\x72", "(JI)J"⟩,
  Cond.code ⟨"NativeWorksModel", "uppe\x72", "(JI)J"⟩ prog_14_method_166_code 3 (Option.some FieldType.long),
  Cond.methodLink "NativeWorksModel" 1387 ⟨"NativeWorksModel", "zsp", "(JI)V"⟩,
  Cond.instanceMethod ⟨"NativeWorksModel", "zsp", "(JI)V"⟩,
  Cond.selects "NativeWorksModel" ⟨"NativeWorksModel", "zsp", "(JI)V"⟩ ⟨"NativeWorksModel", "zsp", "(JI)V"⟩,
  Cond.code ⟨"NativeWorksModel", "allows", "(II)Z"⟩ prog_14_method_106_code 2 (Option.some FieldType.boolean),
  Cond.code ⟨"NativeWorksModel", "appendNumbe\x72", "(I)V"⟩ prog_14_method_31_code 4 (Option.none : Option FieldType),
  Cond.methodLink "NativeWorksModel" 691 ⟨"NativeWorksModel", "append", "(I)V"⟩,
  Cond.instanceMethod ⟨"NativeWorksModel", "append", "(I)V"⟩,
  Cond.selects "NativeWorksModel" ⟨"NativeWorksModel", "append", "(I)V"⟩ ⟨"NativeWorksModel", "append", "(I)V"⟩,
  Cond.code ⟨"NativeWorksModel", "append", "(I)V"⟩ prog_14_method_29_code 2 (Option.none : Option FieldType),
  Cond.fieldLink "NativeWorksModel" 688 "NativeWorksModel" "lineLength" "I",
  Cond.code ⟨"NativeWorksModel", "arithmetic", "(II)V"⟩ prog_14_method_173_code 9 (Option.none : Option FieldType),
  Cond.methodLink "NativeWorksModel" 1394 ⟨"NativeWorksModel", "take", "(II)J"⟩,
  Cond.instanceMethod ⟨"NativeWorksModel", "take", "(II)J"⟩,
  Cond.selects "NativeWorksModel" ⟨"NativeWorksModel", "take", "(II)J"⟩ ⟨"NativeWorksModel", "take", "(II)J"⟩]
def rB46 : List Cond := [Cond.methodLink "NativeWorksModel" 1397 ⟨"NativeWorksModel", "add", "(JJZI)J"⟩,
  Cond.instanceMethod ⟨"NativeWorksModel", "add", "(JJZI)J"⟩,
  Cond.selects "NativeWorksModel" ⟨"NativeWorksModel", "add", "(JJZI)J"⟩ ⟨"NativeWorksModel", "add", "(JJZI)J"⟩,
  Cond.methodLink "NativeWorksModel" 1401 ⟨"NativeWorksModel", "subtract", "(JJZI)J"⟩,
  Cond.instanceMethod ⟨"NativeWorksModel", "subtract", "(JJZI)J"⟩,
  Cond.selects "NativeWorksModel" ⟨"NativeWorksModel", "subtract", "(JJZI)J"⟩ ⟨"NativeWorksModel", "subtract", "(JJZI)J"⟩,
  Cond.methodLink "NativeWorksModel" 1404 ⟨"NativeWorksModel", "put", "(IIJ)V"⟩,
  Cond.instanceMethod ⟨"NativeWorksModel", "put", "(IIJ)V"⟩,
  Cond.selects "NativeWorksModel" ⟨"NativeWorksModel", "put", "(IIJ)V"⟩ ⟨"NativeWorksModel", "put", "(IIJ)V"⟩,
  Cond.code ⟨"NativeWorksModel", "assemble", "()V"⟩ prog_14_method_96_code 8 (Option.none : Option FieldType),
  Cond.fieldLink "NativeWorksModel" 979 "NativeWorksModel" "operands" "I",
  Cond.fieldLink "NativeWorksModel" 1019 "NativeWorksModel" "op" "I",
  Cond.methodLink "NativeWorksModel" 1049 ⟨"NativeWorksModel", "branch", "()V"⟩,
  Cond.instanceMethod ⟨"NativeWorksModel", "branch", "()V"⟩,
  Cond.selects "NativeWorksModel" ⟨"NativeWorksModel", "branch", "()V"⟩ ⟨"NativeWorksModel", "branch", "()V"⟩,
  Cond.methodLink "NativeWorksModel" 1052 ⟨"NativeWorksModel", "isWaitingNumbe\x72", "()Z"⟩,
  Cond.instanceMethod ⟨"NativeWorksModel", "isWaitingNumbe\x72", "()Z"⟩,
  Cond.selects "NativeWorksModel" ⟨"NativeWorksModel", "isWaitingNumbe\x72", "()Z"⟩ ⟨"NativeWorksModel", "isWaitingNumbe\x72", "()Z"⟩,
  Cond.fieldLink "NativeWorksModel" 1046 "NativeWorksModel" "width" "I",
  Cond.fieldLink "NativeWorksModel" 1028 "NativeWorksModel" "numbe\x72" "J",
  Cond.constantLong "NativeWorksModel" 1055 128,
  Cond.constantLong "NativeWorksModel" 1057 255,
  Cond.constantLong "NativeWorksModel" 726 256,
  Cond.constantLong "NativeWorksModel" 1059 2147483648,
  Cond.constantLong "NativeWorksModel" 1061 4294967295,
  Cond.constantLong "NativeWorksModel" 1063 4294967296,
  Cond.fieldLink "NativeWorksModel" 995 "NativeWorksModel" "displacement" "J",
  Cond.constantLong "NativeWorksModel" 1065 (-2147483648),
  Cond.constantLong "NativeWorksModel" 1067 2147483647,
  Cond.methodLink "NativeWorksModel" 1069 ⟨"NativeWorksModel", "isWaitingDisplacement", "()Z"⟩,
  Cond.instanceMethod ⟨"NativeWorksModel", "isWaitingDisplacement", "()Z"⟩,
  Cond.selects "NativeWorksModel" ⟨"NativeWorksModel", "isWaitingDisplacement", "()Z"⟩ ⟨"NativeWorksModel", "isWaitingDisplacement", "()Z"⟩,
  Cond.fieldLink "NativeWorksModel" 1072 "NativeWorksModel" "bestLength" "I",
  Cond.methodLink "NativeWorksModel" 1078 ⟨"NativeWorksModel", "tries", "(I)Z"⟩,
  Cond.instanceMethod ⟨"NativeWorksModel", "tries", "(I)Z"⟩,
  Cond.selects "NativeWorksModel" ⟨"NativeWorksModel", "tries", "(I)Z"⟩ ⟨"NativeWorksModel", "tries", "(I)Z"⟩,
  Cond.fieldLink "NativeWorksModel" 1081 "NativeWorksModel" "tried" "I",
  Cond.fieldLink "NativeWorksModel" 1084 "NativeWorksModel" "triedDisplacement" "I",
  Cond.fieldLink "NativeWorksModel" 1087 "NativeWorksModel" "bestDisplacement" "I",
  Cond.fieldLink "NativeWorksModel" 1090 "NativeWorksModel" "triedNumbe\x72" "I",
  Cond.fieldLink "NativeWorksModel" 1093 "NativeWorksModel" "bestNumbe\x72" "I",
  Cond.methodLink "NativeWorksModel" 937 ⟨"NativeWorksModel", "statement", "(II)I"⟩,
  Cond.instanceMethod ⟨"NativeWorksModel", "statement", "(II)I"⟩,
  Cond.selects "NativeWorksModel" ⟨"NativeWorksModel", "statement", "(II)I"⟩ ⟨"NativeWorksModel", "statement", "(II)I"⟩,
  Cond.methodLink "NativeWorksModel" 950 ⟨"NativeWorksModel", "put", "(JI)V"⟩,
  Cond.instanceMethod ⟨"NativeWorksModel", "put", "(JI)V"⟩,
  Cond.selects "NativeWorksModel" ⟨"NativeWorksModel", "put", "(JI)V"⟩ ⟨"NativeWorksModel", "put", "(JI)V"⟩,
  Cond.methodLink "NativeWorksModel" 1096 ⟨"NativeWorksModel", "fields", "(I)V"⟩]
def rB47 : List Cond := [Cond.instanceMethod ⟨"NativeWorksModel", "fields", "(I)V"⟩,
  Cond.selects "NativeWorksModel" ⟨"NativeWorksModel", "fields", "(I)V"⟩ ⟨"NativeWorksModel", "fields", "(I)V"⟩,
  Cond.fieldLink "NativeWorksModel" 992 "NativeWorksModel" "isRelative" "Z",
  Cond.fieldLink "NativeWorksModel" 998 "NativeWorksModel" "displacementPlus" "I",
  Cond.fieldLink "NativeWorksModel" 1001 "NativeWorksModel" "displacementMinus" "I",
  Cond.methodLink "NativeWorksModel" 946 ⟨"NativeWorksModel", "waitFo\x72", "(IIIIIIJ)V"⟩,
  Cond.instanceMethod ⟨"NativeWorksModel", "waitFo\x72", "(IIIIIIJ)V"⟩,
  Cond.selects "NativeWorksModel" ⟨"NativeWorksModel", "waitFo\x72", "(IIIIIIJ)V"⟩ ⟨"NativeWorksModel", "waitFo\x72", "(IIIIIIJ)V"⟩,
  Cond.fieldLink "NativeWorksModel" 1013 "NativeWorksModel" "numberPlus" "I",
  Cond.fieldLink "NativeWorksModel" 1016 "NativeWorksModel" "numberMinus" "I",
  Cond.code ⟨"NativeWorksModel", "bits", "(II)V"⟩ prog_14_method_186_code 7 (Option.none : Option FieldType),
  Cond.methodLink "NativeWorksModel" 1450 ⟨"java/lang/Long", "reverseBytes", "(J)J"⟩,
  Cond.static ⟨"java/lang/Long", "reverseBytes", "(J)J"⟩,
  Cond.code ⟨"java/lang/Long", "reverseBytes", "(J)J"⟩ prog_26_method_58_code 2 (Option.some FieldType.long),
  Cond.methodLink "NativeWorksModel" 1454 ⟨"java/lang/Intege\x72", "reverseBytes", "(I)I"⟩,
  Cond.static ⟨"java/lang/Intege\x72", "reverseBytes", "(I)I"⟩,
  Cond.code ⟨"java/lang/Intege\x72", "reverseBytes", "(I)I"⟩ prog_25_method_57_code 1 (Option.some FieldType.int),
  Cond.methodLink "NativeWorksModel" 1458 ⟨"java/lang/Long", "numberOfTrailingZeros", "(J)I"⟩,
  Cond.static ⟨"java/lang/Long", "numberOfTrailingZeros", "(J)I"⟩,
  Cond.code ⟨"java/lang/Long", "numberOfTrailingZeros", "(J)I"⟩ prog_26_method_49_code 3 (Option.some FieldType.int),
  Cond.methodLink "NativeWorksModel" 1461 ⟨"java/lang/Long", "numberOfLeadingZeros", "(J)I"⟩,
  Cond.static ⟨"java/lang/Long", "numberOfLeadingZeros", "(J)I"⟩,
  Cond.code ⟨"java/lang/Long", "numberOfLeadingZeros", "(J)I"⟩ prog_26_method_48_code 3 (Option.some FieldType.int),
  Cond.code ⟨"NativeWorksModel", "branch", "()V"⟩ prog_14_method_101_code 3 (Option.none : Option FieldType),
  Cond.constantLong "NativeWorksModel" 1101 232,
  Cond.code ⟨"NativeWorksModel", "build", "(II)V"⟩ prog_14_method_146_code 12 (Option.none : Option FieldType),
  Cond.methodLink "NativeWorksModel" 1215 ⟨"NativeWorksModel", "itemAddress", "(II)J"⟩,
  Cond.instanceMethod ⟨"NativeWorksModel", "itemAddress", "(II)J"⟩,
  Cond.selects "NativeWorksModel" ⟨"NativeWorksModel", "itemAddress", "(II)J"⟩ ⟨"NativeWorksModel", "itemAddress", "(II)J"⟩,
  Cond.methodLink "NativeWorksModel" 1274 ⟨"NativeWorksModel", "copyUnit", "(I)V"⟩,
  Cond.instanceMethod ⟨"NativeWorksModel", "copyUnit", "(I)V"⟩,
  Cond.selects "NativeWorksModel" ⟨"NativeWorksModel", "copyUnit", "(I)V"⟩ ⟨"NativeWorksModel", "copyUnit", "(I)V"⟩,
  Cond.methodLink "NativeWorksModel" 1207 ⟨"NativeWorksModel", "waitUnit", "(I)I"⟩,
  Cond.instanceMethod ⟨"NativeWorksModel", "waitUnit", "(I)I"⟩,
  Cond.selects "NativeWorksModel" ⟨"NativeWorksModel", "waitUnit", "(I)I"⟩ ⟨"NativeWorksModel", "waitUnit", "(I)I"⟩,
  Cond.methodLink "NativeWorksModel" 1239 ⟨"NativeWorksModel", "isIn", "(II)Z"⟩,
  Cond.instanceMethod ⟨"NativeWorksModel", "isIn", "(II)Z"⟩,
  Cond.selects "NativeWorksModel" ⟨"NativeWorksModel", "isIn", "(II)Z"⟩ ⟨"NativeWorksModel", "isIn", "(II)Z"⟩,
  Cond.methodLink "NativeWorksModel" 1242 ⟨"NativeWorksModel", "fieldOf", "(II)J"⟩,
  Cond.instanceMethod ⟨"NativeWorksModel", "fieldOf", "(II)J"⟩,
  Cond.selects "NativeWorksModel" ⟨"NativeWorksModel", "fieldOf", "(II)J"⟩ ⟨"NativeWorksModel", "fieldOf", "(II)J"⟩,
  Cond.methodLink "NativeWorksModel" 1277 ⟨"NativeWorksModel$Code", "at", "(J)I"⟩,
  Cond.instanceMethod ⟨"NativeWorksModel$Code", "at", "(J)I"⟩,
  Cond.selects "NativeWorksModel$Code" ⟨"NativeWorksModel$Code", "at", "(J)I"⟩ ⟨"NativeWorksModel$Code", "at", "(J)I"⟩,
  Cond.methodLink "NativeWorksModel" 1219 ⟨"NativeWorksModel", "resolved", "(II)J"⟩,
  Cond.instanceMethod ⟨"NativeWorksModel", "resolved", "(II)J"⟩,
  Cond.selects "NativeWorksModel" ⟨"NativeWorksModel", "resolved", "(II)J"⟩ ⟨"NativeWorksModel", "resolved", "(II)J"⟩,
  Cond.methodLink "NativeWorksModel" 1283 ⟨"NativeWorksModel", "keepNames", "()V"⟩]
def rB48 : List Cond := [Cond.instanceMethod ⟨"NativeWorksModel", "keepNames", "()V"⟩,
  Cond.selects "NativeWorksModel" ⟨"NativeWorksModel", "keepNames", "()V"⟩ ⟨"NativeWorksModel", "keepNames", "()V"⟩,
  Cond.code ⟨"NativeWorksModel", "byteAtPlace", "(I)I"⟩ prog_14_method_153_code 2 (Option.some FieldType.int),
  Cond.constant "NativeWorksModel" 831 1048576,
  Cond.constant "NativeWorksModel" 1314 2097152,
  Cond.constant "NativeWorksModel" 1295 65535,
  Cond.code ⟨"NativeWorksModel", "byteAt", "(II)I"⟩ prog_14_method_125_code 5 (Option.some FieldType.int),
  Cond.methodLink "NativeWorksModel" 1150 ⟨"NativeWorksModel", "opOf", "(J)I"⟩,
  Cond.static ⟨"NativeWorksModel", "opOf", "(J)I"⟩,
  Cond.code ⟨"NativeWorksModel", "opOf", "(J)I"⟩ prog_14_method_98_code 2 (Option.some FieldType.int),
  Cond.methodLink "NativeWorksModel" 1183 ⟨"NativeWorksModel", "conditionOf", "(J)I"⟩,
  Cond.static ⟨"NativeWorksModel", "conditionOf", "(J)I"⟩,
  Cond.code ⟨"NativeWorksModel", "conditionOf", "(J)I"⟩ prog_14_method_99_code 2 (Option.some FieldType.int),
  Cond.methodLink "NativeWorksModel" 1137 ⟨"NativeWorksModel", "itemOf", "(I)I"⟩,
  Cond.instanceMethod ⟨"NativeWorksModel", "itemOf", "(I)I"⟩,
  Cond.selects "NativeWorksModel" ⟨"NativeWorksModel", "itemOf", "(I)I"⟩ ⟨"NativeWorksModel", "itemOf", "(I)I"⟩,
  Cond.code ⟨"NativeWorksModel", "byteOf", "(I)V"⟩ prog_14_method_111_code 2 (Option.none : Option FieldType),
  Cond.code ⟨"NativeWorksModel", "bytesFo\x72", "(II)I"⟩ prog_14_method_107_code 2 (Option.some FieldType.int),
  Cond.code ⟨"NativeWorksModel", "bytesOf", "(J)I"⟩ prog_14_method_100_code 2 (Option.some FieldType.int),
  Cond.code ⟨"NativeWorksModel", "call", "(I)V"⟩ prog_14_method_85_code 3 (Option.none : Option FieldType),
  Cond.methodLink "NativeWorksModel" 964 ⟨"NativeWorksModel", "ente\x72", "(III)V"⟩,
  Cond.instanceMethod ⟨"NativeWorksModel", "ente\x72", "(III)V"⟩,
  Cond.selects "NativeWorksModel" ⟨"NativeWorksModel", "ente\x72", "(III)V"⟩ ⟨"NativeWorksModel", "ente\x72", "(III)V"⟩,
  Cond.code ⟨"NativeWorksModel", "characte\x72", "(II)I"⟩ prog_14_method_34_code 4 (Option.some FieldType.int),
  Cond.fieldLink "NativeWorksModel" 660 "NativeWorksModel" "foundAt" "I",
  Cond.code ⟨"NativeWorksModel", "choose", "(I)V"⟩ prog_14_method_192_code 6 (Option.none : Option FieldType),
  Cond.methodLink "NativeWorksModel" 1447 ⟨"NativeWorksModel", "isMet", "(I)Z"⟩,
  Cond.instanceMethod ⟨"NativeWorksModel", "isMet", "(I)Z"⟩,
  Cond.selects "NativeWorksModel" ⟨"NativeWorksModel", "isMet", "(I)Z"⟩ ⟨"NativeWorksModel", "isMet", "(I)Z"⟩,
  Cond.code ⟨"NativeWorksModel", "constantAt", "(I)Z"⟩ prog_14_method_73_code 2 (Option.some FieldType.boolean),
  Cond.methodLink "NativeWorksModel" 918 ⟨"NativeWorksModel", "pass", "(IZ)I"⟩,
  Cond.instanceMethod ⟨"NativeWorksModel", "pass", "(IZ)I"⟩,
  Cond.selects "NativeWorksModel" ⟨"NativeWorksModel", "pass", "(IZ)I"⟩ ⟨"NativeWorksModel", "pass", "(IZ)I"⟩,
  Cond.methodLink "NativeWorksModel" 922 ⟨"NativeWorksModel", "evaluate", "(II)V"⟩,
  Cond.instanceMethod ⟨"NativeWorksModel", "evaluate", "(II)V"⟩,
  Cond.selects "NativeWorksModel" ⟨"NativeWorksModel", "evaluate", "(II)V"⟩ ⟨"NativeWorksModel", "evaluate", "(II)V"⟩,
  Cond.methodLink "NativeWorksModel" 925 ⟨"NativeWorksModel", "isConstantValue", "()Z"⟩,
  Cond.instanceMethod ⟨"NativeWorksModel", "isConstantValue", "()Z"⟩,
  Cond.selects "NativeWorksModel" ⟨"NativeWorksModel", "isConstantValue", "()Z"⟩ ⟨"NativeWorksModel", "isConstantValue", "()Z"⟩,
  Cond.code ⟨"NativeWorksModel", "copyUnit", "(I)V"⟩ prog_14_method_147_code 5 (Option.none : Option FieldType),
  Cond.methodLink "NativeWorksModel" 1186 ⟨"NativeWorksModel", "byteAt", "(II)I"⟩,
  Cond.instanceMethod ⟨"NativeWorksModel", "byteAt", "(II)I"⟩,
  Cond.selects "NativeWorksModel" ⟨"NativeWorksModel", "byteAt", "(II)I"⟩ ⟨"NativeWorksModel", "byteAt", "(II)I"⟩,
  Cond.code ⟨"NativeWorksModel", "dataOf", "(II)V"⟩ prog_14_method_76_code 11 (Option.none : Option FieldType),
  Cond.methodLink "NativeWorksModel" 931 ⟨"NativeWorksModel", "partEnd", "(IZ)I"⟩,
  Cond.instanceMethod ⟨"NativeWorksModel", "partEnd", "(IZ)I"⟩,
  Cond.selects "NativeWorksModel" ⟨"NativeWorksModel", "partEnd", "(IZ)I"⟩ ⟨"NativeWorksModel", "partEnd", "(IZ)I"⟩,
  Cond.methodLink "NativeWorksModel" 797 ⟨"NativeWorksModel", "isSign", "(II)Z"⟩]
def rB49 : List Cond := [Cond.instanceMethod ⟨"NativeWorksModel", "isSign", "(II)Z"⟩,
  Cond.selects "NativeWorksModel" ⟨"NativeWorksModel", "isSign", "(II)Z"⟩ ⟨"NativeWorksModel", "isSign", "(II)Z"⟩,
  Cond.methodLink "NativeWorksModel" 934 ⟨"NativeWorksModel", "textLength", "(I)I"⟩,
  Cond.instanceMethod ⟨"NativeWorksModel", "textLength", "(I)I"⟩,
  Cond.selects "NativeWorksModel" ⟨"NativeWorksModel", "textLength", "(I)I"⟩ ⟨"NativeWorksModel", "textLength", "(I)I"⟩,
  Cond.fieldLink "NativeWorksModel" 816 "NativeWorksModel" "wrongValue" "Z",
  Cond.constantLong "NativeWorksModel" 624 (-1),
  Cond.methodLink "NativeWorksModel" 940 ⟨"NativeWorksModel", "putText", "(I)I"⟩,
  Cond.instanceMethod ⟨"NativeWorksModel", "putText", "(I)I"⟩,
  Cond.selects "NativeWorksModel" ⟨"NativeWorksModel", "putText", "(I)I"⟩ ⟨"NativeWorksModel", "putText", "(I)I"⟩,
  Cond.methodLink "NativeWorksModel" 943 ⟨"NativeWorksModel", "evaluateAt", "(III)V"⟩,
  Cond.instanceMethod ⟨"NativeWorksModel", "evaluateAt", "(III)V"⟩,
  Cond.selects "NativeWorksModel" ⟨"NativeWorksModel", "evaluateAt", "(III)V"⟩ ⟨"NativeWorksModel", "evaluateAt", "(III)V"⟩,
  Cond.code ⟨"NativeWorksModel", "defineLabel", "(I)V"⟩ prog_14_method_51_code 3 (Option.none : Option FieldType),
  Cond.methodLink "NativeWorksModel" 772 ⟨"NativeWorksModel", "takeName", "(I)V"⟩,
  Cond.instanceMethod ⟨"NativeWorksModel", "takeName", "(I)V"⟩,
  Cond.selects "NativeWorksModel" ⟨"NativeWorksModel", "takeName", "(I)V"⟩ ⟨"NativeWorksModel", "takeName", "(I)V"⟩,
  Cond.methodLink "NativeWorksModel" 788 ⟨"NativeWorksModel", "symbolFo\x72", "()I"⟩,
  Cond.instanceMethod ⟨"NativeWorksModel", "symbolFo\x72", "()I"⟩,
  Cond.selects "NativeWorksModel" ⟨"NativeWorksModel", "symbolFo\x72", "()I"⟩ ⟨"NativeWorksModel", "symbolFo\x72", "()I"⟩,
  Cond.methodLink "NativeWorksModel" 794 ⟨"NativeWorksModel", "item", "(II)I"⟩,
  Cond.instanceMethod ⟨"NativeWorksModel", "item", "(II)I"⟩,
  Cond.selects "NativeWorksModel" ⟨"NativeWorksModel", "item", "(II)I"⟩ ⟨"NativeWorksModel", "item", "(II)I"⟩,
  Cond.code ⟨"NativeWorksModel", "define", "(I)V"⟩ prog_14_method_74_code 5 (Option.none : Option FieldType),
  Cond.methodLink "NativeWorksModel" 928 ⟨"NativeWorksModel", "constantAt", "(I)Z"⟩,
  Cond.instanceMethod ⟨"NativeWorksModel", "constantAt", "(I)Z"⟩,
  Cond.selects "NativeWorksModel" ⟨"NativeWorksModel", "constantAt", "(I)Z"⟩ ⟨"NativeWorksModel", "constantAt", "(I)Z"⟩,
  Cond.code ⟨"NativeWorksModel", "digitOf", "(I)I"⟩ prog_14_method_17_code 1 (Option.some FieldType.int),
  Cond.methodLink "NativeWorksModel" 618 ⟨"NativeWorksModel", "isDigit", "(I)Z"⟩,
  Cond.static ⟨"NativeWorksModel", "isDigit", "(I)Z"⟩,
  Cond.code ⟨"NativeWorksModel", "isDigit", "(I)Z"⟩ prog_14_method_15_code 1 (Option.some FieldType.boolean),
  Cond.code ⟨"NativeWorksModel", "divideSmall", "(ZIJ)V"⟩ prog_14_method_178_code 14 (Option.none : Option FieldType),
  Cond.constantLong "NativeWorksModel" 1420 65535,
  Cond.methodLink "NativeWorksModel" 1409 ⟨"NativeWorksModel", "signed", "(JI)J"⟩,
  Cond.static ⟨"NativeWorksModel", "signed", "(JI)J"⟩,
  Cond.code ⟨"NativeWorksModel", "signed", "(JI)J"⟩ prog_14_method_159_code 3 (Option.some FieldType.long),
  Cond.methodLink "NativeWorksModel" 1425 ⟨"java/lang/Long", "divideUnsigned", "(JJ)J"⟩,
  Cond.static ⟨"java/lang/Long", "divideUnsigned", "(JJ)J"⟩,
  Cond.code ⟨"java/lang/Long", "divideUnsigned", "(JJ)J"⟩ prog_26_method_44_code 8 (Option.some FieldType.long),
  Cond.methodLink "NativeWorksModel" 1428 ⟨"java/lang/Long", "remainderUnsigned", "(JJ)J"⟩,
  Cond.static ⟨"java/lang/Long", "remainderUnsigned", "(JJ)J"⟩,
  Cond.code ⟨"java/lang/Long", "remainderUnsigned", "(JJ)J"⟩ prog_26_method_45_code 8 (Option.some FieldType.long),
  Cond.constantLong "NativeWorksModel" 1431 (-9223372036854775808),
  Cond.methodLink "NativeWorksModel" 1325 ⟨"NativeWorksModel", "stopWith", "(IJ)V"⟩,
  Cond.instanceMethod ⟨"NativeWorksModel", "stopWith", "(IJ)V"⟩,
  Cond.selects "NativeWorksModel" ⟨"NativeWorksModel", "stopWith", "(IJ)V"⟩ ⟨"NativeWorksModel", "stopWith", "(IJ)V"⟩,
  Cond.constantLong "NativeWorksModel" 1418 (-65536),
  Cond.methodLink "NativeWorksModel" 1358 ⟨"NativeWorksModel", "setRegiste\x72", "(IIJ)V"⟩]
def rB50 : List Cond := [Cond.instanceMethod ⟨"NativeWorksModel", "setRegiste\x72", "(IIJ)V"⟩,
  Cond.selects "NativeWorksModel" ⟨"NativeWorksModel", "setRegiste\x72", "(IIJ)V"⟩ ⟨"NativeWorksModel", "setRegiste\x72", "(IIJ)V"⟩,
  Cond.code ⟨"NativeWorksModel", "divide", "(ZI)V"⟩ prog_14_method_179_code 20 (Option.none : Option FieldType),
  Cond.fieldLink "NativeWorksModel" 1315 "NativeWorksModel" "halt" "I",
  Cond.methodLink "NativeWorksModel" 1433 ⟨"NativeWorksModel", "divideSmall", "(ZIJ)V"⟩,
  Cond.instanceMethod ⟨"NativeWorksModel", "divideSmall", "(ZIJ)V"⟩,
  Cond.selects "NativeWorksModel" ⟨"NativeWorksModel", "divideSmall", "(ZIJ)V"⟩ ⟨"NativeWorksModel", "divideSmall", "(ZIJ)V"⟩,
  Cond.code ⟨"NativeWorksModel", "endOfLine", "(I)I"⟩ prog_14_method_24_code 3 (Option.some FieldType.int),
  Cond.code ⟨"NativeWorksModel", "ente\x72", "(III)V"⟩ prog_14_method_81_code 5 (Option.none : Option FieldType),
  Cond.code ⟨"NativeWorksModel", "evaluateAt", "(III)V"⟩ prog_14_method_77_code 5 (Option.none : Option FieldType),
  Cond.fieldLink "NativeWorksModel" 821 "NativeWorksModel" "pieces" "I",
  Cond.methodLink "NativeWorksModel" 836 ⟨"NativeWorksModel", "evaluatePieces", "(I)V"⟩,
  Cond.instanceMethod ⟨"NativeWorksModel", "evaluatePieces", "(I)V"⟩,
  Cond.selects "NativeWorksModel" ⟨"NativeWorksModel", "evaluatePieces", "(I)V"⟩ ⟨"NativeWorksModel", "evaluatePieces", "(I)V"⟩,
  Cond.code ⟨"NativeWorksModel", "evaluatePieces", "(I)V"⟩ prog_14_method_58_code 6 (Option.none : Option FieldType),
  Cond.fieldLink "NativeWorksModel" 810 "NativeWorksModel" "values" "I",
  Cond.fieldLink "NativeWorksModel" 813 "NativeWorksModel" "operators" "I",
  Cond.methodLink "NativeWorksModel" 824 ⟨"NativeWorksModel", "leaf", "(III)V"⟩,
  Cond.instanceMethod ⟨"NativeWorksModel", "leaf", "(III)V"⟩,
  Cond.selects "NativeWorksModel" ⟨"NativeWorksModel", "leaf", "(III)V"⟩ ⟨"NativeWorksModel", "leaf", "(III)V"⟩,
  Cond.methodLink "NativeWorksModel" 828 ⟨"NativeWorksModel", "reduce", "()V"⟩,
  Cond.instanceMethod ⟨"NativeWorksModel", "reduce", "()V"⟩,
  Cond.selects "NativeWorksModel" ⟨"NativeWorksModel", "reduce", "()V"⟩ ⟨"NativeWorksModel", "reduce", "()V"⟩,
  Cond.methodLink "NativeWorksModel" 807 ⟨"NativeWorksModel", "strength", "(I)I"⟩,
  Cond.static ⟨"NativeWorksModel", "strength", "(I)I"⟩,
  Cond.code ⟨"NativeWorksModel", "strength", "(I)I"⟩ prog_14_method_52_code 1 (Option.some FieldType.int),
  Cond.code ⟨"NativeWorksModel", "evaluate", "(II)V"⟩ prog_14_method_60_code 4 (Option.none : Option FieldType),
  Cond.code ⟨"NativeWorksModel", "expand", "()V"⟩ prog_14_method_32_code 6 (Option.none : Option FieldType),
  Cond.fieldLink "NativeWorksModel" 685 "NativeWorksModel" "lineEnd" "I",
  Cond.fieldLink "NativeWorksModel" 682 "NativeWorksModel" "lineStart" "I",
  Cond.methodLink "NativeWorksModel" 693 ⟨"NativeWorksModel", "macroFrame", "()I"⟩,
  Cond.instanceMethod ⟨"NativeWorksModel", "macroFrame", "()I"⟩,
  Cond.selects "NativeWorksModel" ⟨"NativeWorksModel", "macroFrame", "()I"⟩ ⟨"NativeWorksModel", "macroFrame", "()I"⟩,
  Cond.methodLink "NativeWorksModel" 696 ⟨"NativeWorksModel", "parameterAt", "(III)I"⟩,
  Cond.instanceMethod ⟨"NativeWorksModel", "parameterAt", "(III)I"⟩,
  Cond.selects "NativeWorksModel" ⟨"NativeWorksModel", "parameterAt", "(III)I"⟩ ⟨"NativeWorksModel", "parameterAt", "(III)I"⟩,
  Cond.methodLink "NativeWorksModel" 700 ⟨"NativeWorksModel", "appendNumbe\x72", "(I)V"⟩,
  Cond.instanceMethod ⟨"NativeWorksModel", "appendNumbe\x72", "(I)V"⟩,
  Cond.selects "NativeWorksModel" ⟨"NativeWorksModel", "appendNumbe\x72", "(I)V"⟩ ⟨"NativeWorksModel", "appendNumbe\x72", "(I)V"⟩,
  Cond.code ⟨"NativeWorksModel", "fail", "(I)V"⟩ prog_14_method_22_code 2 (Option.none : Option FieldType),
  Cond.methodLink "NativeWorksModel" 635 ⟨"NativeWorksModel", "ownLine", "()I"⟩,
  Cond.instanceMethod ⟨"NativeWorksModel", "ownLine", "()I"⟩,
  Cond.selects "NativeWorksModel" ⟨"NativeWorksModel", "ownLine", "()I"⟩ ⟨"NativeWorksModel", "ownLine", "()I"⟩,
  Cond.fieldLink "NativeWorksModel" 638 "NativeWorksModel" "badLine" "I",
  Cond.code ⟨"NativeWorksModel", "fieldOf", "(II)J"⟩ prog_14_method_140_code 6 (Option.some FieldType.long),
  Cond.code ⟨"NativeWorksModel", "fields", "(I)V"⟩ prog_14_method_97_code 5 (Option.none : Option FieldType),
  Cond.fieldLink "NativeWorksModel" 1022 "NativeWorksModel" "condition" "I",
  Cond.fieldLink "NativeWorksModel" 1004 "NativeWorksModel" "base" "I"]
def rB51 : List Cond := [Cond.fieldLink "NativeWorksModel" 1007 "NativeWorksModel" "index" "I",
  Cond.fieldLink "NativeWorksModel" 1010 "NativeWorksModel" "scale" "I",
  Cond.code ⟨"NativeWorksModel", "fill", "(II)V"⟩ prog_14_method_80_code 7 (Option.none : Option FieldType),
  Cond.constantLong "NativeWorksModel" 954 65536,
  Cond.constantLong "NativeWorksModel" 956 4096,
  Cond.code ⟨"NativeWorksModel", "findEnd", "(IIIIIZ)Z"⟩ prog_14_method_25_code 12 (Option.some FieldType.boolean),
  Cond.methodLink "NativeWorksModel" 652 ⟨"NativeWorksModel", "endOfLine", "(I)I"⟩,
  Cond.instanceMethod ⟨"NativeWorksModel", "endOfLine", "(I)I"⟩,
  Cond.selects "NativeWorksModel" ⟨"NativeWorksModel", "endOfLine", "(I)I"⟩ ⟨"NativeWorksModel", "endOfLine", "(I)I"⟩,
  Cond.methodLink "NativeWorksModel" 656 ⟨"NativeWorksModel", "firstWord", "(II)I"⟩,
  Cond.instanceMethod ⟨"NativeWorksModel", "firstWord", "(II)I"⟩,
  Cond.selects "NativeWorksModel" ⟨"NativeWorksModel", "firstWord", "(II)I"⟩ ⟨"NativeWorksModel", "firstWord", "(II)I"⟩,
  Cond.fieldLink "NativeWorksModel" 663 "NativeWorksModel" "foundLine" "I",
  Cond.fieldLink "NativeWorksModel" 666 "NativeWorksModel" "foundWord" "I",
  Cond.fieldLink "NativeWorksModel" 669 "NativeWorksModel" "foundBehind" "I",
  Cond.code ⟨"NativeWorksModel", "findNeeded", "(I)V"⟩ prog_14_method_136_code 7 (Option.none : Option FieldType),
  Cond.methodLink "NativeWorksModel" 1204 ⟨"NativeWorksModel", "labelSection", "(I)I"⟩,
  Cond.instanceMethod ⟨"NativeWorksModel", "labelSection", "(I)I"⟩,
  Cond.selects "NativeWorksModel" ⟨"NativeWorksModel", "labelSection", "(I)I"⟩ ⟨"NativeWorksModel", "labelSection", "(I)I"⟩,
  Cond.methodLink "NativeWorksModel" 1210 ⟨"NativeWorksModel", "standsFo\x72", "(I)I"⟩,
  Cond.instanceMethod ⟨"NativeWorksModel", "standsFo\x72", "(I)I"⟩,
  Cond.selects "NativeWorksModel" ⟨"NativeWorksModel", "standsFo\x72", "(I)I"⟩ ⟨"NativeWorksModel", "standsFo\x72", "(I)I"⟩,
  Cond.code ⟨"NativeWorksModel", "findSize", "(I)Z"⟩ prog_14_method_95_code 7 (Option.some FieldType.boolean),
  Cond.code ⟨"NativeWorksModel", "findTwice", "()V"⟩ prog_14_method_144_code 6 (Option.none : Option FieldType),
  Cond.methodLink "NativeWorksModel" 1189 ⟨"NativeWorksModel", "isStrong", "(I)Z"⟩,
  Cond.instanceMethod ⟨"NativeWorksModel", "isStrong", "(I)Z"⟩,
  Cond.selects "NativeWorksModel" ⟨"NativeWorksModel", "isStrong", "(I)Z"⟩ ⟨"NativeWorksModel", "isStrong", "(I)Z"⟩,
  Cond.methodLink "NativeWorksModel" 1192 ⟨"NativeWorksModel", "isSameName", "(II)Z"⟩,
  Cond.instanceMethod ⟨"NativeWorksModel", "isSameName", "(II)Z"⟩,
  Cond.selects "NativeWorksModel" ⟨"NativeWorksModel", "isSameName", "(II)Z"⟩ ⟨"NativeWorksModel", "isSameName", "(II)Z"⟩,
  Cond.constantLong "NativeWorksModel" 1312 2147414016,
  Cond.methodLink "NativeWorksModel" 1153 ⟨"NativeWorksModel", "linesOfSource", "()I"⟩,
  Cond.instanceMethod ⟨"NativeWorksModel", "linesOfSource", "()I"⟩,
  Cond.selects "NativeWorksModel" ⟨"NativeWorksModel", "linesOfSource", "()I"⟩ ⟨"NativeWorksModel", "linesOfSource", "()I"⟩,
  Cond.code ⟨"NativeWorksModel", "firstWord", "(II)I"⟩ prog_14_method_23_code 4 (Option.some FieldType.int),
  Cond.methodLink "NativeWorksModel" 641 ⟨"NativeWorksModel", "packed", "([BII)J"⟩,
  Cond.static ⟨"NativeWorksModel", "packed", "([BII)J"⟩,
  Cond.code ⟨"NativeWorksModel", "packed", "([BII)J"⟩ prog_14_method_18_code 7 (Option.some FieldType.long),
  Cond.methodLink "NativeWorksModel" 645 ⟨"NativeWorksModel", "wordOf", "(J)I"⟩,
  Cond.instanceMethod ⟨"NativeWorksModel", "wordOf", "(J)I"⟩,
  Cond.selects "NativeWorksModel" ⟨"NativeWorksModel", "wordOf", "(J)I"⟩ ⟨"NativeWorksModel", "wordOf", "(J)I"⟩,
  Cond.constantLong "NativeWorksModel" 975 4,
  Cond.constantLong "NativeWorksModel" 1390 64,
  Cond.constantLong "NativeWorksModel" 1392 2048,
  Cond.code ⟨"NativeWorksModel", "fourth", "()Z"⟩ prog_14_method_94_code 6 (Option.some FieldType.boolean),
  Cond.methodLink "NativeWorksModel" 982 ⟨"NativeWorksModel", "sizeWord", "(JJJJ)I"⟩,
  Cond.static ⟨"NativeWorksModel", "sizeWord", "(JJJJ)I"⟩,
  Cond.code ⟨"NativeWorksModel", "sizeWord", "(JJJJ)I"⟩ prog_14_method_86_code 8 (Option.some FieldType.int)]
def rB52 : List Cond := [Cond.methodLink "NativeWorksModel" 766 ⟨"NativeWorksModel", "registerOf", "(J)I"⟩,
  Cond.instanceMethod ⟨"NativeWorksModel", "registerOf", "(J)I"⟩,
  Cond.selects "NativeWorksModel" ⟨"NativeWorksModel", "registerOf", "(J)I"⟩ ⟨"NativeWorksModel", "registerOf", "(J)I"⟩,
  Cond.methodLink "NativeWorksModel" 986 ⟨"NativeWorksModel", "passAddress", "(I)I"⟩,
  Cond.instanceMethod ⟨"NativeWorksModel", "passAddress", "(I)I"⟩,
  Cond.selects "NativeWorksModel" ⟨"NativeWorksModel", "passAddress", "(I)I"⟩ ⟨"NativeWorksModel", "passAddress", "(I)I"⟩,
  Cond.methodLink "NativeWorksModel" 1031 ⟨"NativeWorksModel", "readAddress", "(II)Z"⟩,
  Cond.instanceMethod ⟨"NativeWorksModel", "readAddress", "(II)Z"⟩,
  Cond.selects "NativeWorksModel" ⟨"NativeWorksModel", "readAddress", "(II)Z"⟩ ⟨"NativeWorksModel", "readAddress", "(II)Z"⟩,
  Cond.code ⟨"NativeWorksModel", "goBehind", "()V"⟩ prog_14_method_82_code 1 (Option.none : Option FieldType),
  Cond.code ⟨"NativeWorksModel", "goes", "(I)V"⟩ prog_14_method_184_code 4 (Option.none : Option FieldType),
  Cond.methodLink "NativeWorksModel" 1340 ⟨"NativeWorksModel", "kindAt", "(I)I"⟩,
  Cond.instanceMethod ⟨"NativeWorksModel", "kindAt", "(I)I"⟩,
  Cond.selects "NativeWorksModel" ⟨"NativeWorksModel", "kindAt", "(I)I"⟩ ⟨"NativeWorksModel", "kindAt", "(I)I"⟩,
  Cond.methodLink "NativeWorksModel" 1437 ⟨"NativeWorksModel", "push", "(J)V"⟩,
  Cond.instanceMethod ⟨"NativeWorksModel", "push", "(J)V"⟩,
  Cond.selects "NativeWorksModel" ⟨"NativeWorksModel", "push", "(J)V"⟩ ⟨"NativeWorksModel", "push", "(J)V"⟩,
  Cond.methodLink "NativeWorksModel" 1441 ⟨"NativeWorksModel", "pop", "()J"⟩,
  Cond.instanceMethod ⟨"NativeWorksModel", "pop", "()J"⟩,
  Cond.selects "NativeWorksModel" ⟨"NativeWorksModel", "pop", "()J"⟩ ⟨"NativeWorksModel", "pop", "()J"⟩,
  Cond.methodLink "NativeWorksModel" 1406 ⟨"NativeWorksModel", "addressNow", "()J"⟩,
  Cond.instanceMethod ⟨"NativeWorksModel", "addressNow", "()J"⟩,
  Cond.selects "NativeWorksModel" ⟨"NativeWorksModel", "addressNow", "()J"⟩ ⟨"NativeWorksModel", "addressNow", "()J"⟩,
  Cond.fieldLink "NativeWorksModel" 1350 "NativeWorksModel" "operandAt" "J",
  Cond.code ⟨"NativeWorksModel", "hasForm", "(I)Z"⟩ prog_14_method_105_code 1 (Option.some FieldType.boolean),
  Cond.code ⟨"NativeWorksModel", "highUnsigned", "(JJ)J"⟩ prog_14_method_176_code 4 (Option.some FieldType.long),
  Cond.methodLink "NativeWorksModel" 1412 ⟨"java/lang/Math", "multiplyHigh", "(JJ)J"⟩,
  Cond.static ⟨"java/lang/Math", "multiplyHigh", "(JJ)J"⟩,
  Cond.code ⟨"java/lang/Math", "multiplyHigh", "(JJ)J"⟩ prog_27_method_45_code 20 (Option.some FieldType.long),
  Cond.code ⟨"NativeWorksModel", "holds", "(I)Z"⟩ prog_14_method_108_code 3 (Option.some FieldType.boolean),
  Cond.methodLink "NativeWorksModel" 1110 ⟨"NativeWorksModel", "bytesFo\x72", "(II)I"⟩,
  Cond.static ⟨"NativeWorksModel", "bytesFo\x72", "(II)I"⟩,
  Cond.code ⟨"NativeWorksModel", "instruction", "(II)V"⟩ prog_14_method_93_code 11 (Option.none : Option FieldType),
  Cond.methodLink "NativeWorksModel" 1025 ⟨"NativeWorksModel", "readOperands", "(I)Z"⟩,
  Cond.instanceMethod ⟨"NativeWorksModel", "readOperands", "(I)Z"⟩,
  Cond.selects "NativeWorksModel" ⟨"NativeWorksModel", "readOperands", "(I)Z"⟩ ⟨"NativeWorksModel", "readOperands", "(I)Z"⟩,
  Cond.methodLink "NativeWorksModel" 1034 ⟨"NativeWorksModel", "placeTerms", "()Z"⟩,
  Cond.instanceMethod ⟨"NativeWorksModel", "placeTerms", "()Z"⟩,
  Cond.selects "NativeWorksModel" ⟨"NativeWorksModel", "placeTerms", "()Z"⟩ ⟨"NativeWorksModel", "placeTerms", "()Z"⟩,
  Cond.methodLink "NativeWorksModel" 1037 ⟨"NativeWorksModel", "fourth", "()Z"⟩,
  Cond.instanceMethod ⟨"NativeWorksModel", "fourth", "()Z"⟩,
  Cond.selects "NativeWorksModel" ⟨"NativeWorksModel", "fourth", "()Z"⟩ ⟨"NativeWorksModel", "fourth", "()Z"⟩,
  Cond.methodLink "NativeWorksModel" 1040 ⟨"NativeWorksModel", "findSize", "(I)Z"⟩,
  Cond.instanceMethod ⟨"NativeWorksModel", "findSize", "(I)Z"⟩,
  Cond.selects "NativeWorksModel" ⟨"NativeWorksModel", "findSize", "(I)Z"⟩ ⟨"NativeWorksModel", "findSize", "(I)Z"⟩,
  Cond.methodLink "NativeWorksModel" 1043 ⟨"NativeWorksModel", "assemble", "()V"⟩,
  Cond.instanceMethod ⟨"NativeWorksModel", "assemble", "()V"⟩,
  Cond.selects "NativeWorksModel" ⟨"NativeWorksModel", "assemble", "()V"⟩ ⟨"NativeWorksModel", "assemble", "()V"⟩]
def rB53 : List Cond := [Cond.code ⟨"NativeWorksModel", "isCalled", "(I)Z"⟩ prog_14_method_42_code 4 (Option.some FieldType.boolean),
  Cond.code ⟨"NativeWorksModel", "isConstantValue", "()Z"⟩ prog_14_method_61_code 1 (Option.some FieldType.boolean),
  Cond.code ⟨"NativeWorksModel", "isFree", "(IZZ)Z"⟩ prog_14_method_49_code 6 (Option.some FieldType.boolean),
  Cond.methodLink "NativeWorksModel" 769 ⟨"NativeWorksModel", "takePlain", "(I)V"⟩,
  Cond.instanceMethod ⟨"NativeWorksModel", "takePlain", "(I)V"⟩,
  Cond.selects "NativeWorksModel" ⟨"NativeWorksModel", "takePlain", "(I)V"⟩ ⟨"NativeWorksModel", "takePlain", "(I)V"⟩,
  Cond.methodLink "NativeWorksModel" 748 ⟨"NativeWorksModel", "symbolNamed", "()I"⟩,
  Cond.instanceMethod ⟨"NativeWorksModel", "symbolNamed", "()I"⟩,
  Cond.selects "NativeWorksModel" ⟨"NativeWorksModel", "symbolNamed", "()I"⟩ ⟨"NativeWorksModel", "symbolNamed", "()I"⟩,
  Cond.methodLink "NativeWorksModel" 775 ⟨"NativeWorksModel", "isMacro", "()Z"⟩,
  Cond.instanceMethod ⟨"NativeWorksModel", "isMacro", "()Z"⟩,
  Cond.selects "NativeWorksModel" ⟨"NativeWorksModel", "isMacro", "()Z"⟩ ⟨"NativeWorksModel", "isMacro", "()Z"⟩,
  Cond.methodLink "NativeWorksModel" 779 ⟨"NativeWorksModel", "isReserved", "(I)Z"⟩,
  Cond.instanceMethod ⟨"NativeWorksModel", "isReserved", "(I)Z"⟩,
  Cond.selects "NativeWorksModel" ⟨"NativeWorksModel", "isReserved", "(I)Z"⟩ ⟨"NativeWorksModel", "isReserved", "(I)Z"⟩,
  Cond.code ⟨"NativeWorksModel", "isFront", "(I)Z"⟩ prog_14_method_54_code 2 (Option.some FieldType.boolean),
  Cond.code ⟨"NativeWorksModel", "isIn", "(II)Z"⟩ prog_14_method_141_code 3 (Option.some FieldType.boolean),
  Cond.code ⟨"NativeWorksModel", "isLette\x72", "(I)Z"⟩ prog_14_method_14_code 1 (Option.some FieldType.boolean),
  Cond.code ⟨"NativeWorksModel", "isMacro", "()Z"⟩ prog_14_method_45_code 1 (Option.some FieldType.boolean),
  Cond.methodLink "NativeWorksModel" 760 ⟨"NativeWorksModel", "macroNamed", "()I"⟩,
  Cond.instanceMethod ⟨"NativeWorksModel", "macroNamed", "()I"⟩,
  Cond.selects "NativeWorksModel" ⟨"NativeWorksModel", "macroNamed", "()I"⟩ ⟨"NativeWorksModel", "macroNamed", "()I"⟩,
  Cond.code ⟨"NativeWorksModel", "isMet", "(I)Z"⟩ prog_14_method_170_code 5 (Option.some FieldType.boolean),
  Cond.code ⟨"NativeWorksModel", "isNamedAs", "(IJ)Z"⟩ prog_14_method_40_code 4 (Option.some FieldType.boolean),
  Cond.code ⟨"NativeWorksModel", "isNamed", "(I)Z"⟩ prog_14_method_16_code 1 (Option.some FieldType.boolean),
  Cond.methodLink "NativeWorksModel" 614 ⟨"NativeWorksModel", "isLette\x72", "(I)Z"⟩,
  Cond.static ⟨"NativeWorksModel", "isLette\x72", "(I)Z"⟩,
  Cond.code ⟨"NativeWorksModel", "isName", "(I)Z"⟩ prog_14_method_39_code 2 (Option.some FieldType.boolean),
  Cond.code ⟨"NativeWorksModel", "isNea\x72", "(I)Z"⟩ prog_14_method_117_code 4 (Option.some FieldType.boolean),
  Cond.code ⟨"NativeWorksModel", "isReserved", "(I)Z"⟩ prog_14_method_48_code 2 (Option.some FieldType.boolean),
  Cond.code ⟨"NativeWorksModel", "isSameName", "(II)Z"⟩ prog_14_method_127_code 5 (Option.some FieldType.boolean),
  Cond.code ⟨"NativeWorksModel", "isSeen", "(I)Z"⟩ prog_14_method_128_code 2 (Option.some FieldType.boolean),
  Cond.code ⟨"NativeWorksModel", "isSign", "(II)Z"⟩ prog_14_method_38_code 3 (Option.some FieldType.boolean),
  Cond.code ⟨"NativeWorksModel", "isStrong", "(I)Z"⟩ prog_14_method_129_code 2 (Option.some FieldType.boolean),
  Cond.code ⟨"NativeWorksModel", "isValue", "(I)Z"⟩ prog_14_method_53_code 3 (Option.some FieldType.boolean),
  Cond.code ⟨"NativeWorksModel", "isWaitingDisplacement", "()Z"⟩ prog_14_method_92_code 1 (Option.some FieldType.boolean),
  Cond.code ⟨"NativeWorksModel", "isWaitingNumbe\x72", "()Z"⟩ prog_14_method_91_code 1 (Option.some FieldType.boolean),
  Cond.code ⟨"NativeWorksModel", "isWanted", "(I)Z"⟩ prog_14_method_132_code 4 (Option.some FieldType.boolean),
  Cond.methodLink "NativeWorksModel" 1198 ⟨"NativeWorksModel", "isSeen", "(I)Z"⟩,
  Cond.instanceMethod ⟨"NativeWorksModel", "isSeen", "(I)Z"⟩,
  Cond.selects "NativeWorksModel" ⟨"NativeWorksModel", "isSeen", "(I)Z"⟩ ⟨"NativeWorksModel", "isSeen", "(I)Z"⟩,
  Cond.methodLink "NativeWorksModel" 1195 ⟨"NativeWorksModel", "knownAs", "(I)I"⟩,
  Cond.instanceMethod ⟨"NativeWorksModel", "knownAs", "(I)I"⟩,
  Cond.selects "NativeWorksModel" ⟨"NativeWorksModel", "knownAs", "(I)I"⟩ ⟨"NativeWorksModel", "knownAs", "(I)I"⟩,
  Cond.code ⟨"NativeWorksModel", "itemAddress", "(II)J"⟩ prog_14_method_138_code 3 (Option.some FieldType.long),
  Cond.code ⟨"NativeWorksModel", "itemOf", "(I)I"⟩ prog_14_method_116_code 2 (Option.some FieldType.int),
  Cond.code ⟨"NativeWorksModel", "item", "(II)I"⟩ prog_14_method_50_code 3 (Option.some FieldType.int),
  Cond.code ⟨"NativeWorksModel", "keepNames", "()V"⟩ prog_14_method_148_code 3 (Option.none : Option FieldType)]
def rB54 : List Cond := [Cond.fieldLink "NativeWorksModel" 1299 "NativeWorksModel" "imagePooled" "I",
  Cond.code ⟨"NativeWorksModel", "kindAt", "(I)I"⟩ prog_14_method_161_code 2 (Option.some FieldType.int),
  Cond.constantLong "NativeWorksModel" 1338 3,
  Cond.code ⟨"NativeWorksModel", "knownAs", "(I)I"⟩ prog_14_method_130_code 3 (Option.some FieldType.int),
  Cond.code ⟨"NativeWorksModel", "labelSection", "(I)I"⟩ prog_14_method_134_code 2 (Option.some FieldType.int),
  Cond.code ⟨"NativeWorksModel", "labels", "(II)V"⟩ prog_14_method_70_code 5 (Option.none : Option FieldType),
  Cond.methodLink "NativeWorksModel" 890 ⟨"NativeWorksModel", "isFree", "(IZZ)Z"⟩,
  Cond.instanceMethod ⟨"NativeWorksModel", "isFree", "(IZZ)Z"⟩,
  Cond.selects "NativeWorksModel" ⟨"NativeWorksModel", "isFree", "(IZZ)Z"⟩ ⟨"NativeWorksModel", "isFree", "(IZZ)Z"⟩,
  Cond.methodLink "NativeWorksModel" 894 ⟨"NativeWorksModel", "defineLabel", "(I)V"⟩,
  Cond.instanceMethod ⟨"NativeWorksModel", "defineLabel", "(I)V"⟩,
  Cond.selects "NativeWorksModel" ⟨"NativeWorksModel", "defineLabel", "(I)V"⟩ ⟨"NativeWorksModel", "defineLabel", "(I)V"⟩,
  Cond.code ⟨"NativeWorksModel", "leaf", "(III)V"⟩ prog_14_method_59_code 6 (Option.none : Option FieldType),
  Cond.methodLink "NativeWorksModel" 832 ⟨"NativeWorksModel", "valueOf", "(JII)V"⟩,
  Cond.instanceMethod ⟨"NativeWorksModel", "valueOf", "(JII)V"⟩,
  Cond.selects "NativeWorksModel" ⟨"NativeWorksModel", "valueOf", "(JII)V"⟩ ⟨"NativeWorksModel", "valueOf", "(JII)V"⟩,
  Cond.code ⟨"NativeWorksModel", "linesOfSource", "()I"⟩ prog_14_method_119_code 3 (Option.some FieldType.int),
  Cond.methodLink "NativeWorksModel" 1231 ⟨"NativeWorksModel", "findTwice", "()V"⟩,
  Cond.instanceMethod ⟨"NativeWorksModel", "findTwice", "()V"⟩,
  Cond.selects "NativeWorksModel" ⟨"NativeWorksModel", "findTwice", "()V"⟩ ⟨"NativeWorksModel", "findTwice", "()V"⟩,
  Cond.methodLink "NativeWorksModel" 1234 ⟨"NativeWorksModel", "findNeeded", "(I)V"⟩,
  Cond.instanceMethod ⟨"NativeWorksModel", "findNeeded", "(I)V"⟩,
  Cond.selects "NativeWorksModel" ⟨"NativeWorksModel", "findNeeded", "(I)V"⟩ ⟨"NativeWorksModel", "findNeeded", "(I)V"⟩,
  Cond.methodLink "NativeWorksModel" 1237 ⟨"NativeWorksModel", "place", "()I"⟩,
  Cond.instanceMethod ⟨"NativeWorksModel", "place", "()I"⟩,
  Cond.selects "NativeWorksModel" ⟨"NativeWorksModel", "place", "()I"⟩ ⟨"NativeWorksModel", "place", "()I"⟩,
  Cond.methodLink "NativeWorksModel" 1245 ⟨"NativeWorksModel", "build", "(II)V"⟩,
  Cond.instanceMethod ⟨"NativeWorksModel", "build", "(II)V"⟩,
  Cond.selects "NativeWorksModel" ⟨"NativeWorksModel", "build", "(II)V"⟩ ⟨"NativeWorksModel", "build", "(II)V"⟩,
  Cond.methodLink "NativeWorksModel" 1550 ⟨"NativeWorksModel$Code", "copy", "(LNativeWorksModel$Code;)V"⟩,
  Cond.instanceMethod ⟨"NativeWorksModel$Code", "copy", "(LNativeWorksModel$Code;)V"⟩,
  Cond.selects "NativeWorksModel$Code" ⟨"NativeWorksModel$Code", "copy", "(LNativeWorksModel$Code;)V"⟩ ⟨"NativeWorksModel$Code", "copy", "(LNativeWorksModel$Code;)V"⟩,
  Cond.constantLong "NativeWorksModel" 1554 2147479552,
  Cond.methodLink "NativeWorksModel" 1547 ⟨"NativeWorksModel", "setFlags", "(J)V"⟩,
  Cond.instanceMethod ⟨"NativeWorksModel", "setFlags", "(J)V"⟩,
  Cond.selects "NativeWorksModel" ⟨"NativeWorksModel", "setFlags", "(J)V"⟩ ⟨"NativeWorksModel", "setFlags", "(J)V"⟩,
  Cond.code ⟨"NativeWorksModel", "macroFrame", "()I"⟩ prog_14_method_27_code 2 (Option.some FieldType.int),
  Cond.code ⟨"NativeWorksModel", "macroNamed", "()I"⟩ prog_14_method_46_code 4 (Option.some FieldType.int),
  Cond.code ⟨"NativeWorksModel", "macro", "(I)V"⟩ prog_14_method_84_code 5 (Option.none : Option FieldType),
  Cond.methodLink "NativeWorksModel" 880 ⟨"NativeWorksModel", "findEnd", "(IIIIIZ)Z"⟩,
  Cond.instanceMethod ⟨"NativeWorksModel", "findEnd", "(IIIIIZ)Z"⟩,
  Cond.selects "NativeWorksModel" ⟨"NativeWorksModel", "findEnd", "(IIIIIZ)Z"⟩ ⟨"NativeWorksModel", "findEnd", "(IIIIIZ)Z"⟩,
  Cond.methodLink "NativeWorksModel" 958 ⟨"NativeWorksModel", "goBehind", "()V"⟩,
  Cond.instanceMethod ⟨"NativeWorksModel", "goBehind", "()V"⟩,
  Cond.selects "NativeWorksModel" ⟨"NativeWorksModel", "goBehind", "()V"⟩ ⟨"NativeWorksModel", "goBehind", "()V"⟩,
  Cond.code ⟨"NativeWorksModel", "may", "(JJZ)Z"⟩ prog_14_method_189_code 8 (Option.some FieldType.boolean),
  Cond.constantLong "NativeWorksModel" 1467 1048576,
  Cond.code ⟨"NativeWorksModel", "memoryOf", "(I)V"⟩ prog_14_method_113_code 7 (Option.none : Option FieldType)]
def rB55 : List Cond := [Cond.methodLink "NativeWorksModel" 1119 ⟨"NativeWorksModel", "byteOf", "(I)V"⟩,
  Cond.instanceMethod ⟨"NativeWorksModel", "byteOf", "(I)V"⟩,
  Cond.selects "NativeWorksModel" ⟨"NativeWorksModel", "byteOf", "(I)V"⟩ ⟨"NativeWorksModel", "byteOf", "(I)V"⟩,
  Cond.methodLink "NativeWorksModel" 1122 ⟨"NativeWorksModel", "putBytes", "(JI)V"⟩,
  Cond.instanceMethod ⟨"NativeWorksModel", "putBytes", "(JI)V"⟩,
  Cond.selects "NativeWorksModel" ⟨"NativeWorksModel", "putBytes", "(JI)V"⟩ ⟨"NativeWorksModel", "putBytes", "(JI)V"⟩,
  Cond.code ⟨"NativeWorksModel", "moves", "(II)V"⟩ prog_14_method_174_code 7 (Option.none : Option FieldType),
  Cond.code ⟨"NativeWorksModel", "multiply", "(ZI)V"⟩ prog_14_method_177_code 11 (Option.none : Option FieldType),
  Cond.methodLink "NativeWorksModel" 1422 ⟨"NativeWorksModel", "highUnsigned", "(JJ)J"⟩,
  Cond.static ⟨"NativeWorksModel", "highUnsigned", "(JJ)J"⟩,
  Cond.code ⟨"NativeWorksModel", "nameAll", "(II)V"⟩ prog_14_method_72_code 7 (Option.none : Option FieldType),
  Cond.code ⟨"NativeWorksModel", "nesting", "(III)V"⟩ prog_14_method_67_code 7 (Option.none : Option FieldType),
  Cond.methodLink "NativeWorksModel" 884 ⟨"NativeWorksModel", "split", "(I)V"⟩,
  Cond.instanceMethod ⟨"NativeWorksModel", "split", "(I)V"⟩,
  Cond.selects "NativeWorksModel" ⟨"NativeWorksModel", "split", "(I)V"⟩ ⟨"NativeWorksModel", "split", "(I)V"⟩,
  Cond.methodLink "NativeWorksModel" 887 ⟨"NativeWorksModel", "parametersOf", "(I)I"⟩,
  Cond.instanceMethod ⟨"NativeWorksModel", "parametersOf", "(I)I"⟩,
  Cond.selects "NativeWorksModel" ⟨"NativeWorksModel", "parametersOf", "(I)I"⟩ ⟨"NativeWorksModel", "parametersOf", "(I)I"⟩,
  Cond.code ⟨"NativeWorksModel", "numberToken", "(I)I"⟩ prog_14_method_35_code 9 (Option.some FieldType.int),
  Cond.methodLink "NativeWorksModel" 706 ⟨"NativeWorksModel", "digitOf", "(I)I"⟩,
  Cond.static ⟨"NativeWorksModel", "digitOf", "(I)I"⟩,
  Cond.constantLong "NativeWorksModel" 709 1844674407370955161,
  Cond.methodLink "NativeWorksModel" 621 ⟨"NativeWorksModel", "isNamed", "(I)Z"⟩,
  Cond.static ⟨"NativeWorksModel", "isNamed", "(I)Z"⟩,
  Cond.methodLink "NativeWorksModel" 717 ⟨"NativeWorksModel", "token", "(IIIJ)V"⟩,
  Cond.instanceMethod ⟨"NativeWorksModel", "token", "(IIIJ)V"⟩,
  Cond.selects "NativeWorksModel" ⟨"NativeWorksModel", "token", "(IIIJ)V"⟩ ⟨"NativeWorksModel", "token", "(IIIJ)V"⟩,
  Cond.code ⟨"NativeWorksModel", "ownLine", "()I"⟩ prog_14_method_21_code 3 (Option.some FieldType.int),
  Cond.code ⟨"NativeWorksModel", "parameterAt", "(III)I"⟩ prog_14_method_30_code 11 (Option.some FieldType.int),
  Cond.code ⟨"NativeWorksModel", "parametersOf", "(I)I"⟩ prog_14_method_68_code 5 (Option.some FieldType.int),
  Cond.code ⟨"NativeWorksModel", "partEnd", "(IZ)I"⟩ prog_14_method_75_code 3 (Option.some FieldType.int),
  Cond.code ⟨"NativeWorksModel", "passAddress", "(I)I"⟩ prog_14_method_87_code 6 (Option.some FieldType.int),
  Cond.methodLink "NativeWorksModel" 863 ⟨"NativeWorksModel", "isNamedAs", "(IJ)Z"⟩,
  Cond.instanceMethod ⟨"NativeWorksModel", "isNamedAs", "(IJ)Z"⟩,
  Cond.selects "NativeWorksModel" ⟨"NativeWorksModel", "isNamedAs", "(IJ)Z"⟩ ⟨"NativeWorksModel", "isNamedAs", "(IJ)Z"⟩,
  Cond.constantLong "NativeWorksModel" 977 8,
  Cond.code ⟨"NativeWorksModel", "pass", "(IZ)I"⟩ prog_14_method_55_code 7 (Option.some FieldType.int),
  Cond.methodLink "NativeWorksModel" 801 ⟨"NativeWorksModel", "isValue", "(I)Z"⟩,
  Cond.instanceMethod ⟨"NativeWorksModel", "isValue", "(I)Z"⟩,
  Cond.selects "NativeWorksModel" ⟨"NativeWorksModel", "isValue", "(I)Z"⟩ ⟨"NativeWorksModel", "isValue", "(I)Z"⟩,
  Cond.methodLink "NativeWorksModel" 804 ⟨"NativeWorksModel", "isFront", "(I)Z"⟩,
  Cond.instanceMethod ⟨"NativeWorksModel", "isFront", "(I)Z"⟩,
  Cond.selects "NativeWorksModel" ⟨"NativeWorksModel", "isFront", "(I)Z"⟩ ⟨"NativeWorksModel", "isFront", "(I)Z"⟩,
  Cond.methodLink "NativeWorksModel" 1329 ⟨"NativeWorksModel", "byteAtPlace", "(I)I"⟩,
  Cond.instanceMethod ⟨"NativeWorksModel", "byteAtPlace", "(I)I"⟩,
  Cond.selects "NativeWorksModel" ⟨"NativeWorksModel", "byteAtPlace", "(I)I"⟩ ⟨"NativeWorksModel", "byteAtPlace", "(I)I"⟩,
  Cond.code ⟨"NativeWorksModel", "perform", "()V"⟩ prog_14_method_191_code 3 (Option.none : Option FieldType),
  Cond.methodLink "NativeWorksModel" 1492 ⟨"NativeWorksModel", "arithmetic", "(II)V"⟩]
def rB56 : List Cond := [Cond.instanceMethod ⟨"NativeWorksModel", "arithmetic", "(II)V"⟩,
  Cond.selects "NativeWorksModel" ⟨"NativeWorksModel", "arithmetic", "(II)V"⟩ ⟨"NativeWorksModel", "arithmetic", "(II)V"⟩,
  Cond.methodLink "NativeWorksModel" 1495 ⟨"NativeWorksModel", "moves", "(II)V"⟩,
  Cond.instanceMethod ⟨"NativeWorksModel", "moves", "(II)V"⟩,
  Cond.selects "NativeWorksModel" ⟨"NativeWorksModel", "moves", "(II)V"⟩ ⟨"NativeWorksModel", "moves", "(II)V"⟩,
  Cond.methodLink "NativeWorksModel" 1498 ⟨"NativeWorksModel", "single", "(II)V"⟩,
  Cond.instanceMethod ⟨"NativeWorksModel", "single", "(II)V"⟩,
  Cond.selects "NativeWorksModel" ⟨"NativeWorksModel", "single", "(II)V"⟩ ⟨"NativeWorksModel", "single", "(II)V"⟩,
  Cond.methodLink "NativeWorksModel" 1501 ⟨"NativeWorksModel", "multiply", "(ZI)V"⟩,
  Cond.instanceMethod ⟨"NativeWorksModel", "multiply", "(ZI)V"⟩,
  Cond.selects "NativeWorksModel" ⟨"NativeWorksModel", "multiply", "(ZI)V"⟩ ⟨"NativeWorksModel", "multiply", "(ZI)V"⟩,
  Cond.methodLink "NativeWorksModel" 1505 ⟨"NativeWorksModel", "divide", "(ZI)V"⟩,
  Cond.instanceMethod ⟨"NativeWorksModel", "divide", "(ZI)V"⟩,
  Cond.selects "NativeWorksModel" ⟨"NativeWorksModel", "divide", "(ZI)V"⟩ ⟨"NativeWorksModel", "divide", "(ZI)V"⟩,
  Cond.methodLink "NativeWorksModel" 1508 ⟨"NativeWorksModel", "product", "(I)V"⟩,
  Cond.instanceMethod ⟨"NativeWorksModel", "product", "(I)V"⟩,
  Cond.selects "NativeWorksModel" ⟨"NativeWorksModel", "product", "(I)V"⟩ ⟨"NativeWorksModel", "product", "(I)V"⟩,
  Cond.methodLink "NativeWorksModel" 1511 ⟨"NativeWorksModel", "shift", "(II)V"⟩,
  Cond.instanceMethod ⟨"NativeWorksModel", "shift", "(II)V"⟩,
  Cond.selects "NativeWorksModel" ⟨"NativeWorksModel", "shift", "(II)V"⟩ ⟨"NativeWorksModel", "shift", "(II)V"⟩,
  Cond.methodLink "NativeWorksModel" 1514 ⟨"NativeWorksModel", "goes", "(I)V"⟩,
  Cond.instanceMethod ⟨"NativeWorksModel", "goes", "(I)V"⟩,
  Cond.selects "NativeWorksModel" ⟨"NativeWorksModel", "goes", "(I)V"⟩ ⟨"NativeWorksModel", "goes", "(I)V"⟩,
  Cond.methodLink "NativeWorksModel" 1517 ⟨"NativeWorksModel", "choose", "(I)V"⟩,
  Cond.instanceMethod ⟨"NativeWorksModel", "choose", "(I)V"⟩,
  Cond.selects "NativeWorksModel" ⟨"NativeWorksModel", "choose", "(I)V"⟩ ⟨"NativeWorksModel", "choose", "(I)V"⟩,
  Cond.methodLink "NativeWorksModel" 1520 ⟨"NativeWorksModel", "spread", "(II)V"⟩,
  Cond.instanceMethod ⟨"NativeWorksModel", "spread", "(II)V"⟩,
  Cond.selects "NativeWorksModel" ⟨"NativeWorksModel", "spread", "(II)V"⟩ ⟨"NativeWorksModel", "spread", "(II)V"⟩,
  Cond.methodLink "NativeWorksModel" 1523 ⟨"NativeWorksModel", "service", "()V"⟩,
  Cond.instanceMethod ⟨"NativeWorksModel", "service", "()V"⟩,
  Cond.selects "NativeWorksModel" ⟨"NativeWorksModel", "service", "()V"⟩ ⟨"NativeWorksModel", "service", "()V"⟩,
  Cond.methodLink "NativeWorksModel" 1526 ⟨"NativeWorksModel", "bits", "(II)V"⟩,
  Cond.instanceMethod ⟨"NativeWorksModel", "bits", "(II)V"⟩,
  Cond.selects "NativeWorksModel" ⟨"NativeWorksModel", "bits", "(II)V"⟩ ⟨"NativeWorksModel", "bits", "(II)V"⟩,
  Cond.methodLink "NativeWorksModel" 1529 ⟨"NativeWorksModel", "togethe\x72", "(II)V"⟩,
  Cond.instanceMethod ⟨"NativeWorksModel", "togethe\x72", "(II)V"⟩,
  Cond.selects "NativeWorksModel" ⟨"NativeWorksModel", "togethe\x72", "(II)V"⟩ ⟨"NativeWorksModel", "togethe\x72", "(II)V"⟩,
  Cond.methodLink "NativeWorksModel" 1532 ⟨"NativeWorksModel", "strings", "(II)V"⟩,
  Cond.instanceMethod ⟨"NativeWorksModel", "strings", "(II)V"⟩,
  Cond.selects "NativeWorksModel" ⟨"NativeWorksModel", "strings", "(II)V"⟩ ⟨"NativeWorksModel", "strings", "(II)V"⟩,
  Cond.code ⟨"NativeWorksModel", "placeTerms", "()Z"⟩ prog_14_method_90_code 2 (Option.some FieldType.boolean),
  Cond.fieldLink "NativeWorksModel" 989 "NativeWorksModel" "terms" "I",
  Cond.code ⟨"NativeWorksModel", "place", "()I"⟩ prog_14_method_137_code 5 (Option.some FieldType.int),
  Cond.code ⟨"NativeWorksModel", "place", "(II)I"⟩ prog_14_method_109_code 2 (Option.some FieldType.int),
  Cond.methodLink "NativeWorksModel" 1332 ⟨"NativeWorksModel", "setPlace", "(II)V"⟩,
  Cond.instanceMethod ⟨"NativeWorksModel", "setPlace", "(II)V"⟩,
  Cond.selects "NativeWorksModel" ⟨"NativeWorksModel", "setPlace", "(II)V"⟩ ⟨"NativeWorksModel", "setPlace", "(II)V"⟩]
def rB57 : List Cond := [Cond.code ⟨"NativeWorksModel", "pop", "()J"⟩ prog_14_method_183_code 3 (Option.some FieldType.long),
  Cond.methodLink "NativeWorksModel" 1353 ⟨"NativeWorksModel", "wordAt", "(JI)J"⟩,
  Cond.instanceMethod ⟨"NativeWorksModel", "wordAt", "(JI)J"⟩,
  Cond.selects "NativeWorksModel" ⟨"NativeWorksModel", "wordAt", "(JI)J"⟩ ⟨"NativeWorksModel", "wordAt", "(JI)J"⟩,
  Cond.code ⟨"NativeWorksModel", "product", "(I)V"⟩ prog_14_method_180_code 9 (Option.none : Option FieldType),
  Cond.code ⟨"NativeWorksModel", "push", "(J)V"⟩ prog_14_method_182_code 3 (Option.none : Option FieldType),
  Cond.methodLink "NativeWorksModel" 1362 ⟨"NativeWorksModel", "store", "(JIJ)V"⟩,
  Cond.instanceMethod ⟨"NativeWorksModel", "store", "(JIJ)V"⟩,
  Cond.selects "NativeWorksModel" ⟨"NativeWorksModel", "store", "(JIJ)V"⟩ ⟨"NativeWorksModel", "store", "(JIJ)V"⟩,
  Cond.code ⟨"NativeWorksModel", "putBytes", "(JI)V"⟩ prog_14_method_112_code 5 (Option.none : Option FieldType),
  Cond.code ⟨"NativeWorksModel", "putText", "(I)I"⟩ prog_14_method_79_code 4 (Option.some FieldType.int),
  Cond.methodLink "NativeWorksModel" 723 ⟨"NativeWorksModel", "characte\x72", "(II)I"⟩,
  Cond.instanceMethod ⟨"NativeWorksModel", "characte\x72", "(II)I"⟩,
  Cond.selects "NativeWorksModel" ⟨"NativeWorksModel", "characte\x72", "(II)I"⟩ ⟨"NativeWorksModel", "characte\x72", "(II)I"⟩,
  Cond.code ⟨"NativeWorksModel", "put", "(IIJ)V"⟩ prog_14_method_165_code 5 (Option.none : Option FieldType),
  Cond.methodLink "NativeWorksModel" 1343 ⟨"NativeWorksModel", "registerAt", "(I)I"⟩,
  Cond.instanceMethod ⟨"NativeWorksModel", "registerAt", "(I)I"⟩,
  Cond.selects "NativeWorksModel" ⟨"NativeWorksModel", "registerAt", "(I)I"⟩ ⟨"NativeWorksModel", "registerAt", "(I)I"⟩,
  Cond.code ⟨"NativeWorksModel", "put", "(JI)V"⟩ prog_14_method_64_code 5 (Option.none : Option FieldType),
  Cond.code ⟨"NativeWorksModel", "readAddress", "(II)Z"⟩ prog_14_method_89_code 8 (Option.some FieldType.boolean),
  Cond.code ⟨"NativeWorksModel", "readLine", "()V"⟩ prog_14_method_66_code 5 (Option.none : Option FieldType),
  Cond.methodLink "NativeWorksModel" 854 ⟨"NativeWorksModel", "expand", "()V"⟩,
  Cond.instanceMethod ⟨"NativeWorksModel", "expand", "()V"⟩,
  Cond.selects "NativeWorksModel" ⟨"NativeWorksModel", "expand", "()V"⟩ ⟨"NativeWorksModel", "expand", "()V"⟩,
  Cond.methodLink "NativeWorksModel" 857 ⟨"NativeWorksModel", "readTokens", "()V"⟩,
  Cond.instanceMethod ⟨"NativeWorksModel", "readTokens", "()V"⟩,
  Cond.selects "NativeWorksModel" ⟨"NativeWorksModel", "readTokens", "()V"⟩ ⟨"NativeWorksModel", "readTokens", "()V"⟩,
  Cond.methodLink "NativeWorksModel" 867 ⟨"NativeWorksModel", "nesting", "(III)V"⟩,
  Cond.instanceMethod ⟨"NativeWorksModel", "nesting", "(III)V"⟩,
  Cond.selects "NativeWorksModel" ⟨"NativeWorksModel", "nesting", "(III)V"⟩ ⟨"NativeWorksModel", "nesting", "(III)V"⟩,
  Cond.methodLink "NativeWorksModel" 870 ⟨"NativeWorksModel", "labels", "(II)V"⟩,
  Cond.instanceMethod ⟨"NativeWorksModel", "labels", "(II)V"⟩,
  Cond.selects "NativeWorksModel" ⟨"NativeWorksModel", "labels", "(II)V"⟩ ⟨"NativeWorksModel", "labels", "(II)V"⟩,
  Cond.methodLink "NativeWorksModel" 874 ⟨"NativeWorksModel", "act", "(III)V"⟩,
  Cond.instanceMethod ⟨"NativeWorksModel", "act", "(III)V"⟩,
  Cond.selects "NativeWorksModel" ⟨"NativeWorksModel", "act", "(III)V"⟩ ⟨"NativeWorksModel", "act", "(III)V"⟩,
  Cond.methodLink "NativeWorksModel" 877 ⟨"NativeWorksModel", "room", "()V"⟩,
  Cond.instanceMethod ⟨"NativeWorksModel", "room", "()V"⟩,
  Cond.selects "NativeWorksModel" ⟨"NativeWorksModel", "room", "()V"⟩ ⟨"NativeWorksModel", "room", "()V"⟩,
  Cond.code ⟨"NativeWorksModel", "readOperands", "(I)Z"⟩ prog_14_method_88_code 6 (Option.some FieldType.boolean),
  Cond.code ⟨"NativeWorksModel", "readTokens", "()V"⟩ prog_14_method_37_code 3 (Option.none : Option FieldType),
  Cond.methodLink "NativeWorksModel" 730 ⟨"NativeWorksModel", "readToken", "(I)I"⟩,
  Cond.instanceMethod ⟨"NativeWorksModel", "readToken", "(I)I"⟩,
  Cond.selects "NativeWorksModel" ⟨"NativeWorksModel", "readToken", "(I)I"⟩ ⟨"NativeWorksModel", "readToken", "(I)I"⟩,
  Cond.code ⟨"NativeWorksModel", "readToken", "(I)I"⟩ prog_14_method_36_code 5 (Option.some FieldType.int),
  Cond.methodLink "NativeWorksModel" 720 ⟨"NativeWorksModel", "numberToken", "(I)I"⟩,
  Cond.instanceMethod ⟨"NativeWorksModel", "numberToken", "(I)I"⟩,
  Cond.selects "NativeWorksModel" ⟨"NativeWorksModel", "numberToken", "(I)I"⟩ ⟨"NativeWorksModel", "numberToken", "(I)I"⟩]
def rB58 : List Cond := [Cond.constantLong "NativeWorksModel" 728 257,
  Cond.code ⟨"NativeWorksModel", "reduce", "()V"⟩ prog_14_method_57_code 10 (Option.none : Option FieldType),
  Cond.code ⟨"NativeWorksModel", "registerAt", "(I)I"⟩ prog_14_method_162_code 2 (Option.some FieldType.int),
  Cond.code ⟨"NativeWorksModel", "registerOf", "(J)I"⟩ prog_14_method_20_code 4 (Option.some FieldType.int),
  Cond.code ⟨"NativeWorksModel", "resolved", "(II)J"⟩ prog_14_method_139_code 6 (Option.some FieldType.long),
  Cond.code ⟨"NativeWorksModel", "room", "()V"⟩ prog_14_method_62_code 1 (Option.none : Option FieldType),
  Cond.methodLink "NativeWorksModel" 1563 ⟨"NativeWorksModel", "step", "()Z"⟩,
  Cond.instanceMethod ⟨"NativeWorksModel", "step", "()Z"⟩,
  Cond.selects "NativeWorksModel" ⟨"NativeWorksModel", "step", "()Z"⟩ ⟨"NativeWorksModel", "step", "()Z"⟩,
  Cond.code ⟨"NativeWorksModel", "service", "()V"⟩ prog_14_method_190_code 12 (Option.none : Option FieldType),
  Cond.methodLink "NativeWorksModel" 1475 ⟨"NativeWorksModel", "may", "(JJZ)Z"⟩,
  Cond.instanceMethod ⟨"NativeWorksModel", "may", "(JJZ)Z"⟩,
  Cond.selects "NativeWorksModel" ⟨"NativeWorksModel", "may", "(JJZ)Z"⟩ ⟨"NativeWorksModel", "may", "(JJZ)Z"⟩,
  Cond.constantLong "NativeWorksModel" 1479 (-14),
  Cond.constantLong "NativeWorksModel" 1484 (-28),
  Cond.constantLong "NativeWorksModel" 1486 12,
  Cond.constantLong "NativeWorksModel" 1488 60,
  Cond.constantLong "NativeWorksModel" 1490 (-38),
  Cond.code ⟨"NativeWorksModel", "setFlags", "(J)V"⟩ prog_14_method_172_code 3 (Option.none : Option FieldType),
  Cond.code ⟨"NativeWorksModel", "setPlace", "(II)V"⟩ prog_14_method_154_code 3 (Option.none : Option FieldType),
  Cond.code ⟨"NativeWorksModel", "setRegiste\x72", "(IIJ)V"⟩ prog_14_method_164_code 5 (Option.none : Option FieldType),
  Cond.constantLong "NativeWorksModel" 1356 (-256),
  Cond.code ⟨"NativeWorksModel", "shift", "(II)V"⟩ prog_14_method_181_code 15 (Option.none : Option FieldType),
  Cond.methodLink "NativeWorksModel" 1140 ⟨"NativeWorksModel", "isNea\x72", "(I)Z"⟩,
  Cond.instanceMethod ⟨"NativeWorksModel", "isNea\x72", "(I)Z"⟩,
  Cond.selects "NativeWorksModel" ⟨"NativeWorksModel", "isNea\x72", "(I)Z"⟩ ⟨"NativeWorksModel", "isNea\x72", "(I)Z"⟩,
  Cond.constantLong "NativeWorksModel" 1146 (-128),
  Cond.constantLong "NativeWorksModel" 1148 127,
  Cond.code ⟨"NativeWorksModel", "single", "(II)V"⟩ prog_14_method_175_code 8 (Option.none : Option FieldType),
  Cond.code ⟨"NativeWorksModel", "split", "(I)V"⟩ prog_14_method_69_code 11 (Option.none : Option FieldType),
  Cond.code ⟨"NativeWorksModel", "spread", "(II)V"⟩ prog_14_method_185_code 5 (Option.none : Option FieldType),
  Cond.code ⟨"NativeWorksModel", "standsFo\x72", "(I)I"⟩ prog_14_method_131_code 3 (Option.some FieldType.int),
  Cond.methodLink "NativeWorksModel" 745 ⟨"NativeWorksModel", "isCalled", "(I)Z"⟩,
  Cond.instanceMethod ⟨"NativeWorksModel", "isCalled", "(I)Z"⟩,
  Cond.selects "NativeWorksModel" ⟨"NativeWorksModel", "isCalled", "(I)Z"⟩ ⟨"NativeWorksModel", "isCalled", "(I)Z"⟩,
  Cond.code ⟨"NativeWorksModel", "statement", "(II)I"⟩ prog_14_method_63_code 4 (Option.some FieldType.int),
  Cond.code ⟨"NativeWorksModel", "step", "()Z"⟩ prog_14_method_193_code 6 (Option.some FieldType.boolean),
  Cond.fieldLink "NativeWorksModel" 1318 "NativeWorksModel" "haltValue" "J",
  Cond.methodLink "NativeWorksModel" 1464 ⟨"NativeWorksModel", "bytesOf", "(J)I"⟩,
  Cond.static ⟨"NativeWorksModel", "bytesOf", "(J)I"⟩,
  Cond.methodLink "NativeWorksModel" 1541 ⟨"NativeWorksModel", "perform", "()V"⟩,
  Cond.instanceMethod ⟨"NativeWorksModel", "perform", "()V"⟩,
  Cond.selects "NativeWorksModel" ⟨"NativeWorksModel", "perform", "()V"⟩ ⟨"NativeWorksModel", "perform", "()V"⟩,
  Cond.code ⟨"NativeWorksModel", "stopWith", "(IJ)V"⟩ prog_14_method_155_code 4 (Option.none : Option FieldType),
  Cond.code ⟨"NativeWorksModel", "store", "(JIJ)V"⟩ prog_14_method_157_code 7 (Option.none : Option FieldType),
  Cond.code ⟨"NativeWorksModel", "strings", "(II)V"⟩ prog_14_method_188_code 7 (Option.none : Option FieldType),
  Cond.code ⟨"NativeWorksModel", "structure", "(II)V"⟩ prog_14_method_83_code 9 (Option.none : Option FieldType),
  Cond.methodLink "NativeWorksModel" 961 ⟨"NativeWorksModel", "macro", "(I)V"⟩]
def rB59 : List Cond := [Cond.instanceMethod ⟨"NativeWorksModel", "macro", "(I)V"⟩,
  Cond.selects "NativeWorksModel" ⟨"NativeWorksModel", "macro", "(I)V"⟩ ⟨"NativeWorksModel", "macro", "(I)V"⟩,
  Cond.code ⟨"NativeWorksModel", "subtract", "(JJZI)J"⟩ prog_14_method_169_code 9 (Option.some FieldType.long),
  Cond.code ⟨"NativeWorksModel", "suits", "(II)Z"⟩ prog_14_method_110_code 4 (Option.some FieldType.boolean),
  Cond.methodLink "NativeWorksModel" 1113 ⟨"NativeWorksModel", "place", "(II)I"⟩,
  Cond.static ⟨"NativeWorksModel", "place", "(II)I"⟩,
  Cond.methodLink "NativeWorksModel" 1116 ⟨"NativeWorksModel", "holds", "(I)Z"⟩,
  Cond.instanceMethod ⟨"NativeWorksModel", "holds", "(I)Z"⟩,
  Cond.selects "NativeWorksModel" ⟨"NativeWorksModel", "holds", "(I)Z"⟩ ⟨"NativeWorksModel", "holds", "(I)Z"⟩,
  Cond.code ⟨"NativeWorksModel", "symbolFo\x72", "()I"⟩ prog_14_method_44_code 5 (Option.some FieldType.int),
  Cond.constantLong "NativeWorksModel" 758 31,
  Cond.code ⟨"NativeWorksModel", "symbolNamed", "()I"⟩ prog_14_method_43_code 2 (Option.some FieldType.int),
  Cond.code ⟨"NativeWorksModel", "takeName", "(I)V"⟩ prog_14_method_41_code 4 (Option.none : Option FieldType),
  Cond.code ⟨"NativeWorksModel", "takePlain", "(I)V"⟩ prog_14_method_47_code 3 (Option.none : Option FieldType),
  Cond.methodLink "NativeWorksModel" 1201 ⟨"NativeWorksModel", "isWanted", "(I)Z"⟩,
  Cond.instanceMethod ⟨"NativeWorksModel", "isWanted", "(I)Z"⟩,
  Cond.selects "NativeWorksModel" ⟨"NativeWorksModel", "isWanted", "(I)Z"⟩ ⟨"NativeWorksModel", "isWanted", "(I)Z"⟩,
  Cond.code ⟨"NativeWorksModel", "take", "(II)J"⟩ prog_14_method_163_code 4 (Option.some FieldType.long),
  Cond.code ⟨"NativeWorksModel", "textLength", "(I)I"⟩ prog_14_method_78_code 4 (Option.some FieldType.int),
  Cond.code ⟨"NativeWorksModel", "togethe\x72", "(II)V"⟩ prog_14_method_187_code 9 (Option.none : Option FieldType),
  Cond.code ⟨"NativeWorksModel", "token", "(IIIJ)V"⟩ prog_14_method_33_code 6 (Option.none : Option FieldType),
  Cond.code ⟨"NativeWorksModel", "tries", "(I)Z"⟩ prog_14_method_114_code 14 (Option.some FieldType.boolean),
  Cond.methodLink "NativeWorksModel" 1125 ⟨"NativeWorksModel", "allows", "(II)Z"⟩,
  Cond.static ⟨"NativeWorksModel", "allows", "(II)Z"⟩,
  Cond.methodLink "NativeWorksModel" 1128 ⟨"NativeWorksModel", "suits", "(II)Z"⟩,
  Cond.instanceMethod ⟨"NativeWorksModel", "suits", "(II)Z"⟩,
  Cond.selects "NativeWorksModel" ⟨"NativeWorksModel", "suits", "(II)Z"⟩ ⟨"NativeWorksModel", "suits", "(II)Z"⟩,
  Cond.methodLink "NativeWorksModel" 1131 ⟨"NativeWorksModel", "hasForm", "(I)Z"⟩,
  Cond.static ⟨"NativeWorksModel", "hasForm", "(I)Z"⟩,
  Cond.methodLink "NativeWorksModel" 1134 ⟨"NativeWorksModel", "memoryOf", "(I)V"⟩,
  Cond.instanceMethod ⟨"NativeWorksModel", "memoryOf", "(I)V"⟩,
  Cond.selects "NativeWorksModel" ⟨"NativeWorksModel", "memoryOf", "(I)V"⟩ ⟨"NativeWorksModel", "memoryOf", "(I)V"⟩,
  Cond.methodLink "NativeWorksModel" 1168 ⟨"NativeWorksModel", "readLine", "()V"⟩,
  Cond.instanceMethod ⟨"NativeWorksModel", "readLine", "()V"⟩,
  Cond.selects "NativeWorksModel" ⟨"NativeWorksModel", "readLine", "()V"⟩ ⟨"NativeWorksModel", "readLine", "()V"⟩,
  Cond.code ⟨"NativeWorksModel", "valueOf", "(JII)V"⟩ prog_14_method_56_code 5 (Option.none : Option FieldType),
  Cond.code ⟨"NativeWorksModel", "waitFo\x72", "(IIIIIIJ)V"⟩ prog_14_method_65_code 10 (Option.none : Option FieldType),
  Cond.code ⟨"NativeWorksModel", "waitUnit", "(I)I"⟩ prog_14_method_135_code 3 (Option.some FieldType.int),
  Cond.code ⟨"NativeWorksModel", "wordAt", "(JI)J"⟩ prog_14_method_156_code 8 (Option.some FieldType.long),
  Cond.code ⟨"NativeWorksModel", "wordOf", "(J)I"⟩ prog_14_method_19_code 4 (Option.some FieldType.int),
  Cond.code ⟨"NativeWorksModel", "zsp", "(JI)V"⟩ prog_14_method_167_code 4 (Option.none : Option FieldType),
  Cond.methodLink "NativeWorksModel" 1375 ⟨"java/lang/Long", "bitCount", "(J)I"⟩,
  Cond.fieldLink "NativeWorks" 114 "NativeWorks$Linke\x72" "length" "I",
  Cond.methodLink "NativeWorks" 143 ⟨"NativeWorks$Machine", "boot", "(LNativeWorks$Linker;)V"⟩,
  Cond.instanceMethod ⟨"NativeWorks$Machine", "boot", "(LNativeWorks$Linker;)V"⟩,
  Cond.selects "NativeWorks$Machine" ⟨"NativeWorks$Machine", "boot", "(LNativeWorks$Linker;)V"⟩ ⟨"NativeWorks$Machine", "boot", "(LNativeWorks$Linker;)V"⟩,
  Cond.fieldLink "NativeWorks" 147 "NativeWorks$Linke\x72" "start" "I",
  Cond.fieldLink "NativeWorks" 95 "NativeWorks$Units" "rows" "[[I"]
def rB60 : List Cond := [Cond.fieldLink "NativeWorks" 99 "NativeWorks$Units" "bytes" "[B",
  Cond.fieldLink "NativeWorks" 215 "NativeWorks$Machine" "output" "[B",
  Cond.methodLink "NativeWorks" 197 ⟨"NativeWorks$Memory", "numbe\x72", "(JI)J"⟩,
  Cond.methodLink "NativeWorks" 201 ⟨"NativeWorks$Memory", "change", "(JIJ)V"⟩,
  Cond.methodLink "NativeWorks" 170 ⟨"NativeWorks$Machine", "go", "(I)I"⟩,
  Cond.instanceMethod ⟨"NativeWorks$Machine", "go", "(I)I"⟩,
  Cond.selects "NativeWorks$Machine" ⟨"NativeWorks$Machine", "go", "(I)I"⟩ ⟨"NativeWorks$Machine", "go", "(I)I"⟩,
  Cond.fieldLink "NativeWorks" 133 "NativeWorks$Linke\x72" "addresses" "[J",
  Cond.fieldLink "NativeWorks" 85 "NativeWorks$Assemble\x72" "faultLine" "I",
  Cond.code ⟨"java/lang/Intege\x72", "numberOfLeadingZeros", "(I)I"⟩ prog_25_method_47_code 2 (Option.some FieldType.int),
  Cond.constant "java/lang/Intege\x72" 264 65536,
  Cond.code ⟨"java/lang/Intege\x72", "numberOfTrailingZeros", "(I)I"⟩ prog_25_method_48_code 2 (Option.some FieldType.int),
  Cond.constant "java/lang/Intege\x72" 274 65280,
  Cond.constantLong "java/lang/Long" 314 6148914691236517205,
  Cond.constantLong "java/lang/Long" 316 3689348814741910323,
  Cond.constantLong "java/lang/Long" 318 1085102592571150095,
  Cond.constantLong "java/lang/Long" 168 (-9223372036854775808),
  Cond.methodLink "java/lang/Long" 302 ⟨"java/lang/Long", "compare", "(JJ)I"⟩,
  Cond.static ⟨"java/lang/Long", "compare", "(JJ)I"⟩,
  Cond.code ⟨"java/lang/Long", "compare", "(JJ)I"⟩ prog_26_method_42_code 4 (Option.some FieldType.int),
  Cond.constantLong "java/lang/Long" 306 (-1),
  Cond.methodLink "java/lang/Long" 308 ⟨"java/lang/Intege\x72", "numberOfLeadingZeros", "(I)I"⟩,
  Cond.static ⟨"java/lang/Intege\x72", "numberOfLeadingZeros", "(I)I"⟩,
  Cond.methodLink "java/lang/Long" 311 ⟨"java/lang/Intege\x72", "numberOfTrailingZeros", "(I)I"⟩,
  Cond.static ⟨"java/lang/Intege\x72", "numberOfTrailingZeros", "(I)I"⟩,
  Cond.constantLong "java/lang/Long" 327 71777214294589695,
  Cond.constantLong "java/lang/Long" 329 4294901760,
  Cond.constantLong "java/lang/Math" 138 4294967295]
def rBase : List Cond := rB0 ++ (rB1 ++ (rB2 ++ (rB3 ++ (rB4 ++ (rB5 ++ (rB6 ++ (rB7 ++ (rB8 ++ (rB9 ++ (rB10 ++ (rB11 ++ (rB12 ++ (rB13 ++ (rB14 ++ (rB15 ++ (rB16 ++ (rB17 ++ (rB18 ++ (rB19 ++ (rB20 ++ (rB21 ++ (rB22 ++ (rB23 ++ (rB24 ++ (rB25 ++ (rB26 ++ (rB27 ++ (rB28 ++ (rB29 ++ (rB30 ++ (rB31 ++ (rB32 ++ (rB33 ++ (rB34 ++ (rB35 ++ (rB36 ++ (rB37 ++ (rB38 ++ (rB39 ++ (rB40 ++ (rB41 ++ (rB42 ++ (rB43 ++ (rB44 ++ (rB45 ++ (rB46 ++ (rB47 ++ (rB48 ++ (rB49 ++ (rB50 ++ (rB51 ++ (rB52 ++ (rB53 ++ (rB54 ++ (rB55 ++ (rB56 ++ (rB57 ++ (rB58 ++ (rB59 ++ (rB60))))))))))))))))))))))))))))))))))))))))))))))))))))))))))))
theorem rBn0 {w : Cond} (h : w ∈ (rB0 ++ (rB1 ++ (rB2 ++ (rB3 ++ (rB4 ++ (rB5 ++ (rB6 ++ (rB7 ++ (rB8 ++ (rB9 ++ (rB10 ++ (rB11 ++ (rB12 ++ (rB13 ++ (rB14 ++ (rB15 ++ (rB16 ++ (rB17 ++ (rB18 ++ (rB19 ++ (rB20 ++ (rB21 ++ (rB22 ++ (rB23 ++ (rB24 ++ (rB25 ++ (rB26 ++ (rB27 ++ (rB28 ++ (rB29 ++ (rB30 ++ (rB31 ++ (rB32 ++ (rB33 ++ (rB34 ++ (rB35 ++ (rB36 ++ (rB37 ++ (rB38 ++ (rB39 ++ (rB40 ++ (rB41 ++ (rB42 ++ (rB43 ++ (rB44 ++ (rB45 ++ (rB46 ++ (rB47 ++ (rB48 ++ (rB49 ++ (rB50 ++ (rB51 ++ (rB52 ++ (rB53 ++ (rB54 ++ (rB55 ++ (rB56 ++ (rB57 ++ (rB58 ++ (rB59 ++ (rB60)))))))))))))))))))))))))))))))))))))))))))))))))))))))))))))) : w ∈ rBase := h
theorem rBm0 {w : Cond} (h : w ∈ rB0) : w ∈ rBase := rBn0 (List.mem_append_left _ h)
theorem rBn1 {w : Cond} (h : w ∈ (rB1 ++ (rB2 ++ (rB3 ++ (rB4 ++ (rB5 ++ (rB6 ++ (rB7 ++ (rB8 ++ (rB9 ++ (rB10 ++ (rB11 ++ (rB12 ++ (rB13 ++ (rB14 ++ (rB15 ++ (rB16 ++ (rB17 ++ (rB18 ++ (rB19 ++ (rB20 ++ (rB21 ++ (rB22 ++ (rB23 ++ (rB24 ++ (rB25 ++ (rB26 ++ (rB27 ++ (rB28 ++ (rB29 ++ (rB30 ++ (rB31 ++ (rB32 ++ (rB33 ++ (rB34 ++ (rB35 ++ (rB36 ++ (rB37 ++ (rB38 ++ (rB39 ++ (rB40 ++ (rB41 ++ (rB42 ++ (rB43 ++ (rB44 ++ (rB45 ++ (rB46 ++ (rB47 ++ (rB48 ++ (rB49 ++ (rB50 ++ (rB51 ++ (rB52 ++ (rB53 ++ (rB54 ++ (rB55 ++ (rB56 ++ (rB57 ++ (rB58 ++ (rB59 ++ (rB60))))))))))))))))))))))))))))))))))))))))))))))))))))))))))))) : w ∈ rBase := rBn0 (List.mem_append_right _ h)
theorem rBm1 {w : Cond} (h : w ∈ rB1) : w ∈ rBase := rBn1 (List.mem_append_left _ h)
theorem rBn2 {w : Cond} (h : w ∈ (rB2 ++ (rB3 ++ (rB4 ++ (rB5 ++ (rB6 ++ (rB7 ++ (rB8 ++ (rB9 ++ (rB10 ++ (rB11 ++ (rB12 ++ (rB13 ++ (rB14 ++ (rB15 ++ (rB16 ++ (rB17 ++ (rB18 ++ (rB19 ++ (rB20 ++ (rB21 ++ (rB22 ++ (rB23 ++ (rB24 ++ (rB25 ++ (rB26 ++ (rB27 ++ (rB28 ++ (rB29 ++ (rB30 ++ (rB31 ++ (rB32 ++ (rB33 ++ (rB34 ++ (rB35 ++ (rB36 ++ (rB37 ++ (rB38 ++ (rB39 ++ (rB40 ++ (rB41 ++ (rB42 ++ (rB43 ++ (rB44 ++ (rB45 ++ (rB46 ++ (rB47 ++ (rB48 ++ (rB49 ++ (rB50 ++ (rB51 ++ (rB52 ++ (rB53 ++ (rB54 ++ (rB55 ++ (rB56 ++ (rB57 ++ (rB58 ++ (rB59 ++ (rB60)))))))))))))))))))))))))))))))))))))))))))))))))))))))))))) : w ∈ rBase := rBn1 (List.mem_append_right _ h)
theorem rBm2 {w : Cond} (h : w ∈ rB2) : w ∈ rBase := rBn2 (List.mem_append_left _ h)
theorem rBn3 {w : Cond} (h : w ∈ (rB3 ++ (rB4 ++ (rB5 ++ (rB6 ++ (rB7 ++ (rB8 ++ (rB9 ++ (rB10 ++ (rB11 ++ (rB12 ++ (rB13 ++ (rB14 ++ (rB15 ++ (rB16 ++ (rB17 ++ (rB18 ++ (rB19 ++ (rB20 ++ (rB21 ++ (rB22 ++ (rB23 ++ (rB24 ++ (rB25 ++ (rB26 ++ (rB27 ++ (rB28 ++ (rB29 ++ (rB30 ++ (rB31 ++ (rB32 ++ (rB33 ++ (rB34 ++ (rB35 ++ (rB36 ++ (rB37 ++ (rB38 ++ (rB39 ++ (rB40 ++ (rB41 ++ (rB42 ++ (rB43 ++ (rB44 ++ (rB45 ++ (rB46 ++ (rB47 ++ (rB48 ++ (rB49 ++ (rB50 ++ (rB51 ++ (rB52 ++ (rB53 ++ (rB54 ++ (rB55 ++ (rB56 ++ (rB57 ++ (rB58 ++ (rB59 ++ (rB60))))))))))))))))))))))))))))))))))))))))))))))))))))))))))) : w ∈ rBase := rBn2 (List.mem_append_right _ h)
theorem rBm3 {w : Cond} (h : w ∈ rB3) : w ∈ rBase := rBn3 (List.mem_append_left _ h)
theorem rBn4 {w : Cond} (h : w ∈ (rB4 ++ (rB5 ++ (rB6 ++ (rB7 ++ (rB8 ++ (rB9 ++ (rB10 ++ (rB11 ++ (rB12 ++ (rB13 ++ (rB14 ++ (rB15 ++ (rB16 ++ (rB17 ++ (rB18 ++ (rB19 ++ (rB20 ++ (rB21 ++ (rB22 ++ (rB23 ++ (rB24 ++ (rB25 ++ (rB26 ++ (rB27 ++ (rB28 ++ (rB29 ++ (rB30 ++ (rB31 ++ (rB32 ++ (rB33 ++ (rB34 ++ (rB35 ++ (rB36 ++ (rB37 ++ (rB38 ++ (rB39 ++ (rB40 ++ (rB41 ++ (rB42 ++ (rB43 ++ (rB44 ++ (rB45 ++ (rB46 ++ (rB47 ++ (rB48 ++ (rB49 ++ (rB50 ++ (rB51 ++ (rB52 ++ (rB53 ++ (rB54 ++ (rB55 ++ (rB56 ++ (rB57 ++ (rB58 ++ (rB59 ++ (rB60)))))))))))))))))))))))))))))))))))))))))))))))))))))))))) : w ∈ rBase := rBn3 (List.mem_append_right _ h)
theorem rBm4 {w : Cond} (h : w ∈ rB4) : w ∈ rBase := rBn4 (List.mem_append_left _ h)
theorem rBn5 {w : Cond} (h : w ∈ (rB5 ++ (rB6 ++ (rB7 ++ (rB8 ++ (rB9 ++ (rB10 ++ (rB11 ++ (rB12 ++ (rB13 ++ (rB14 ++ (rB15 ++ (rB16 ++ (rB17 ++ (rB18 ++ (rB19 ++ (rB20 ++ (rB21 ++ (rB22 ++ (rB23 ++ (rB24 ++ (rB25 ++ (rB26 ++ (rB27 ++ (rB28 ++ (rB29 ++ (rB30 ++ (rB31 ++ (rB32 ++ (rB33 ++ (rB34 ++ (rB35 ++ (rB36 ++ (rB37 ++ (rB38 ++ (rB39 ++ (rB40 ++ (rB41 ++ (rB42 ++ (rB43 ++ (rB44 ++ (rB45 ++ (rB46 ++ (rB47 ++ (rB48 ++ (rB49 ++ (rB50 ++ (rB51 ++ (rB52 ++ (rB53 ++ (rB54 ++ (rB55 ++ (rB56 ++ (rB57 ++ (rB58 ++ (rB59 ++ (rB60))))))))))))))))))))))))))))))))))))))))))))))))))))))))) : w ∈ rBase := rBn4 (List.mem_append_right _ h)
theorem rBm5 {w : Cond} (h : w ∈ rB5) : w ∈ rBase := rBn5 (List.mem_append_left _ h)
theorem rBn6 {w : Cond} (h : w ∈ (rB6 ++ (rB7 ++ (rB8 ++ (rB9 ++ (rB10 ++ (rB11 ++ (rB12 ++ (rB13 ++ (rB14 ++ (rB15 ++ (rB16 ++ (rB17 ++ (rB18 ++ (rB19 ++ (rB20 ++ (rB21 ++ (rB22 ++ (rB23 ++ (rB24 ++ (rB25 ++ (rB26 ++ (rB27 ++ (rB28 ++ (rB29 ++ (rB30 ++ (rB31 ++ (rB32 ++ (rB33 ++ (rB34 ++ (rB35 ++ (rB36 ++ (rB37 ++ (rB38 ++ (rB39 ++ (rB40 ++ (rB41 ++ (rB42 ++ (rB43 ++ (rB44 ++ (rB45 ++ (rB46 ++ (rB47 ++ (rB48 ++ (rB49 ++ (rB50 ++ (rB51 ++ (rB52 ++ (rB53 ++ (rB54 ++ (rB55 ++ (rB56 ++ (rB57 ++ (rB58 ++ (rB59 ++ (rB60)))))))))))))))))))))))))))))))))))))))))))))))))))))))) : w ∈ rBase := rBn5 (List.mem_append_right _ h)
theorem rBm6 {w : Cond} (h : w ∈ rB6) : w ∈ rBase := rBn6 (List.mem_append_left _ h)
theorem rBn7 {w : Cond} (h : w ∈ (rB7 ++ (rB8 ++ (rB9 ++ (rB10 ++ (rB11 ++ (rB12 ++ (rB13 ++ (rB14 ++ (rB15 ++ (rB16 ++ (rB17 ++ (rB18 ++ (rB19 ++ (rB20 ++ (rB21 ++ (rB22 ++ (rB23 ++ (rB24 ++ (rB25 ++ (rB26 ++ (rB27 ++ (rB28 ++ (rB29 ++ (rB30 ++ (rB31 ++ (rB32 ++ (rB33 ++ (rB34 ++ (rB35 ++ (rB36 ++ (rB37 ++ (rB38 ++ (rB39 ++ (rB40 ++ (rB41 ++ (rB42 ++ (rB43 ++ (rB44 ++ (rB45 ++ (rB46 ++ (rB47 ++ (rB48 ++ (rB49 ++ (rB50 ++ (rB51 ++ (rB52 ++ (rB53 ++ (rB54 ++ (rB55 ++ (rB56 ++ (rB57 ++ (rB58 ++ (rB59 ++ (rB60))))))))))))))))))))))))))))))))))))))))))))))))))))))) : w ∈ rBase := rBn6 (List.mem_append_right _ h)
theorem rBm7 {w : Cond} (h : w ∈ rB7) : w ∈ rBase := rBn7 (List.mem_append_left _ h)
theorem rBn8 {w : Cond} (h : w ∈ (rB8 ++ (rB9 ++ (rB10 ++ (rB11 ++ (rB12 ++ (rB13 ++ (rB14 ++ (rB15 ++ (rB16 ++ (rB17 ++ (rB18 ++ (rB19 ++ (rB20 ++ (rB21 ++ (rB22 ++ (rB23 ++ (rB24 ++ (rB25 ++ (rB26 ++ (rB27 ++ (rB28 ++ (rB29 ++ (rB30 ++ (rB31 ++ (rB32 ++ (rB33 ++ (rB34 ++ (rB35 ++ (rB36 ++ (rB37 ++ (rB38 ++ (rB39 ++ (rB40 ++ (rB41 ++ (rB42 ++ (rB43 ++ (rB44 ++ (rB45 ++ (rB46 ++ (rB47 ++ (rB48 ++ (rB49 ++ (rB50 ++ (rB51 ++ (rB52 ++ (rB53 ++ (rB54 ++ (rB55 ++ (rB56 ++ (rB57 ++ (rB58 ++ (rB59 ++ (rB60)))))))))))))))))))))))))))))))))))))))))))))))))))))) : w ∈ rBase := rBn7 (List.mem_append_right _ h)
theorem rBm8 {w : Cond} (h : w ∈ rB8) : w ∈ rBase := rBn8 (List.mem_append_left _ h)
theorem rBn9 {w : Cond} (h : w ∈ (rB9 ++ (rB10 ++ (rB11 ++ (rB12 ++ (rB13 ++ (rB14 ++ (rB15 ++ (rB16 ++ (rB17 ++ (rB18 ++ (rB19 ++ (rB20 ++ (rB21 ++ (rB22 ++ (rB23 ++ (rB24 ++ (rB25 ++ (rB26 ++ (rB27 ++ (rB28 ++ (rB29 ++ (rB30 ++ (rB31 ++ (rB32 ++ (rB33 ++ (rB34 ++ (rB35 ++ (rB36 ++ (rB37 ++ (rB38 ++ (rB39 ++ (rB40 ++ (rB41 ++ (rB42 ++ (rB43 ++ (rB44 ++ (rB45 ++ (rB46 ++ (rB47 ++ (rB48 ++ (rB49 ++ (rB50 ++ (rB51 ++ (rB52 ++ (rB53 ++ (rB54 ++ (rB55 ++ (rB56 ++ (rB57 ++ (rB58 ++ (rB59 ++ (rB60))))))))))))))))))))))))))))))))))))))))))))))))))))) : w ∈ rBase := rBn8 (List.mem_append_right _ h)
theorem rBm9 {w : Cond} (h : w ∈ rB9) : w ∈ rBase := rBn9 (List.mem_append_left _ h)
theorem rBn10 {w : Cond} (h : w ∈ (rB10 ++ (rB11 ++ (rB12 ++ (rB13 ++ (rB14 ++ (rB15 ++ (rB16 ++ (rB17 ++ (rB18 ++ (rB19 ++ (rB20 ++ (rB21 ++ (rB22 ++ (rB23 ++ (rB24 ++ (rB25 ++ (rB26 ++ (rB27 ++ (rB28 ++ (rB29 ++ (rB30 ++ (rB31 ++ (rB32 ++ (rB33 ++ (rB34 ++ (rB35 ++ (rB36 ++ (rB37 ++ (rB38 ++ (rB39 ++ (rB40 ++ (rB41 ++ (rB42 ++ (rB43 ++ (rB44 ++ (rB45 ++ (rB46 ++ (rB47 ++ (rB48 ++ (rB49 ++ (rB50 ++ (rB51 ++ (rB52 ++ (rB53 ++ (rB54 ++ (rB55 ++ (rB56 ++ (rB57 ++ (rB58 ++ (rB59 ++ (rB60)))))))))))))))))))))))))))))))))))))))))))))))))))) : w ∈ rBase := rBn9 (List.mem_append_right _ h)
theorem rBm10 {w : Cond} (h : w ∈ rB10) : w ∈ rBase := rBn10 (List.mem_append_left _ h)
theorem rBn11 {w : Cond} (h : w ∈ (rB11 ++ (rB12 ++ (rB13 ++ (rB14 ++ (rB15 ++ (rB16 ++ (rB17 ++ (rB18 ++ (rB19 ++ (rB20 ++ (rB21 ++ (rB22 ++ (rB23 ++ (rB24 ++ (rB25 ++ (rB26 ++ (rB27 ++ (rB28 ++ (rB29 ++ (rB30 ++ (rB31 ++ (rB32 ++ (rB33 ++ (rB34 ++ (rB35 ++ (rB36 ++ (rB37 ++ (rB38 ++ (rB39 ++ (rB40 ++ (rB41 ++ (rB42 ++ (rB43 ++ (rB44 ++ (rB45 ++ (rB46 ++ (rB47 ++ (rB48 ++ (rB49 ++ (rB50 ++ (rB51 ++ (rB52 ++ (rB53 ++ (rB54 ++ (rB55 ++ (rB56 ++ (rB57 ++ (rB58 ++ (rB59 ++ (rB60))))))))))))))))))))))))))))))))))))))))))))))))))) : w ∈ rBase := rBn10 (List.mem_append_right _ h)
theorem rBm11 {w : Cond} (h : w ∈ rB11) : w ∈ rBase := rBn11 (List.mem_append_left _ h)
theorem rBn12 {w : Cond} (h : w ∈ (rB12 ++ (rB13 ++ (rB14 ++ (rB15 ++ (rB16 ++ (rB17 ++ (rB18 ++ (rB19 ++ (rB20 ++ (rB21 ++ (rB22 ++ (rB23 ++ (rB24 ++ (rB25 ++ (rB26 ++ (rB27 ++ (rB28 ++ (rB29 ++ (rB30 ++ (rB31 ++ (rB32 ++ (rB33 ++ (rB34 ++ (rB35 ++ (rB36 ++ (rB37 ++ (rB38 ++ (rB39 ++ (rB40 ++ (rB41 ++ (rB42 ++ (rB43 ++ (rB44 ++ (rB45 ++ (rB46 ++ (rB47 ++ (rB48 ++ (rB49 ++ (rB50 ++ (rB51 ++ (rB52 ++ (rB53 ++ (rB54 ++ (rB55 ++ (rB56 ++ (rB57 ++ (rB58 ++ (rB59 ++ (rB60)))))))))))))))))))))))))))))))))))))))))))))))))) : w ∈ rBase := rBn11 (List.mem_append_right _ h)
theorem rBm12 {w : Cond} (h : w ∈ rB12) : w ∈ rBase := rBn12 (List.mem_append_left _ h)
theorem rBn13 {w : Cond} (h : w ∈ (rB13 ++ (rB14 ++ (rB15 ++ (rB16 ++ (rB17 ++ (rB18 ++ (rB19 ++ (rB20 ++ (rB21 ++ (rB22 ++ (rB23 ++ (rB24 ++ (rB25 ++ (rB26 ++ (rB27 ++ (rB28 ++ (rB29 ++ (rB30 ++ (rB31 ++ (rB32 ++ (rB33 ++ (rB34 ++ (rB35 ++ (rB36 ++ (rB37 ++ (rB38 ++ (rB39 ++ (rB40 ++ (rB41 ++ (rB42 ++ (rB43 ++ (rB44 ++ (rB45 ++ (rB46 ++ (rB47 ++ (rB48 ++ (rB49 ++ (rB50 ++ (rB51 ++ (rB52 ++ (rB53 ++ (rB54 ++ (rB55 ++ (rB56 ++ (rB57 ++ (rB58 ++ (rB59 ++ (rB60))))))))))))))))))))))))))))))))))))))))))))))))) : w ∈ rBase := rBn12 (List.mem_append_right _ h)
theorem rBm13 {w : Cond} (h : w ∈ rB13) : w ∈ rBase := rBn13 (List.mem_append_left _ h)
theorem rBn14 {w : Cond} (h : w ∈ (rB14 ++ (rB15 ++ (rB16 ++ (rB17 ++ (rB18 ++ (rB19 ++ (rB20 ++ (rB21 ++ (rB22 ++ (rB23 ++ (rB24 ++ (rB25 ++ (rB26 ++ (rB27 ++ (rB28 ++ (rB29 ++ (rB30 ++ (rB31 ++ (rB32 ++ (rB33 ++ (rB34 ++ (rB35 ++ (rB36 ++ (rB37 ++ (rB38 ++ (rB39 ++ (rB40 ++ (rB41 ++ (rB42 ++ (rB43 ++ (rB44 ++ (rB45 ++ (rB46 ++ (rB47 ++ (rB48 ++ (rB49 ++ (rB50 ++ (rB51 ++ (rB52 ++ (rB53 ++ (rB54 ++ (rB55 ++ (rB56 ++ (rB57 ++ (rB58 ++ (rB59 ++ (rB60)))))))))))))))))))))))))))))))))))))))))))))))) : w ∈ rBase := rBn13 (List.mem_append_right _ h)
theorem rBm14 {w : Cond} (h : w ∈ rB14) : w ∈ rBase := rBn14 (List.mem_append_left _ h)
theorem rBn15 {w : Cond} (h : w ∈ (rB15 ++ (rB16 ++ (rB17 ++ (rB18 ++ (rB19 ++ (rB20 ++ (rB21 ++ (rB22 ++ (rB23 ++ (rB24 ++ (rB25 ++ (rB26 ++ (rB27 ++ (rB28 ++ (rB29 ++ (rB30 ++ (rB31 ++ (rB32 ++ (rB33 ++ (rB34 ++ (rB35 ++ (rB36 ++ (rB37 ++ (rB38 ++ (rB39 ++ (rB40 ++ (rB41 ++ (rB42 ++ (rB43 ++ (rB44 ++ (rB45 ++ (rB46 ++ (rB47 ++ (rB48 ++ (rB49 ++ (rB50 ++ (rB51 ++ (rB52 ++ (rB53 ++ (rB54 ++ (rB55 ++ (rB56 ++ (rB57 ++ (rB58 ++ (rB59 ++ (rB60))))))))))))))))))))))))))))))))))))))))))))))) : w ∈ rBase := rBn14 (List.mem_append_right _ h)
theorem rBm15 {w : Cond} (h : w ∈ rB15) : w ∈ rBase := rBn15 (List.mem_append_left _ h)
theorem rBn16 {w : Cond} (h : w ∈ (rB16 ++ (rB17 ++ (rB18 ++ (rB19 ++ (rB20 ++ (rB21 ++ (rB22 ++ (rB23 ++ (rB24 ++ (rB25 ++ (rB26 ++ (rB27 ++ (rB28 ++ (rB29 ++ (rB30 ++ (rB31 ++ (rB32 ++ (rB33 ++ (rB34 ++ (rB35 ++ (rB36 ++ (rB37 ++ (rB38 ++ (rB39 ++ (rB40 ++ (rB41 ++ (rB42 ++ (rB43 ++ (rB44 ++ (rB45 ++ (rB46 ++ (rB47 ++ (rB48 ++ (rB49 ++ (rB50 ++ (rB51 ++ (rB52 ++ (rB53 ++ (rB54 ++ (rB55 ++ (rB56 ++ (rB57 ++ (rB58 ++ (rB59 ++ (rB60)))))))))))))))))))))))))))))))))))))))))))))) : w ∈ rBase := rBn15 (List.mem_append_right _ h)
theorem rBm16 {w : Cond} (h : w ∈ rB16) : w ∈ rBase := rBn16 (List.mem_append_left _ h)
theorem rBn17 {w : Cond} (h : w ∈ (rB17 ++ (rB18 ++ (rB19 ++ (rB20 ++ (rB21 ++ (rB22 ++ (rB23 ++ (rB24 ++ (rB25 ++ (rB26 ++ (rB27 ++ (rB28 ++ (rB29 ++ (rB30 ++ (rB31 ++ (rB32 ++ (rB33 ++ (rB34 ++ (rB35 ++ (rB36 ++ (rB37 ++ (rB38 ++ (rB39 ++ (rB40 ++ (rB41 ++ (rB42 ++ (rB43 ++ (rB44 ++ (rB45 ++ (rB46 ++ (rB47 ++ (rB48 ++ (rB49 ++ (rB50 ++ (rB51 ++ (rB52 ++ (rB53 ++ (rB54 ++ (rB55 ++ (rB56 ++ (rB57 ++ (rB58 ++ (rB59 ++ (rB60))))))))))))))))))))))))))))))))))))))))))))) : w ∈ rBase := rBn16 (List.mem_append_right _ h)
theorem rBm17 {w : Cond} (h : w ∈ rB17) : w ∈ rBase := rBn17 (List.mem_append_left _ h)
theorem rBn18 {w : Cond} (h : w ∈ (rB18 ++ (rB19 ++ (rB20 ++ (rB21 ++ (rB22 ++ (rB23 ++ (rB24 ++ (rB25 ++ (rB26 ++ (rB27 ++ (rB28 ++ (rB29 ++ (rB30 ++ (rB31 ++ (rB32 ++ (rB33 ++ (rB34 ++ (rB35 ++ (rB36 ++ (rB37 ++ (rB38 ++ (rB39 ++ (rB40 ++ (rB41 ++ (rB42 ++ (rB43 ++ (rB44 ++ (rB45 ++ (rB46 ++ (rB47 ++ (rB48 ++ (rB49 ++ (rB50 ++ (rB51 ++ (rB52 ++ (rB53 ++ (rB54 ++ (rB55 ++ (rB56 ++ (rB57 ++ (rB58 ++ (rB59 ++ (rB60)))))))))))))))))))))))))))))))))))))))))))) : w ∈ rBase := rBn17 (List.mem_append_right _ h)
theorem rBm18 {w : Cond} (h : w ∈ rB18) : w ∈ rBase := rBn18 (List.mem_append_left _ h)
theorem rBn19 {w : Cond} (h : w ∈ (rB19 ++ (rB20 ++ (rB21 ++ (rB22 ++ (rB23 ++ (rB24 ++ (rB25 ++ (rB26 ++ (rB27 ++ (rB28 ++ (rB29 ++ (rB30 ++ (rB31 ++ (rB32 ++ (rB33 ++ (rB34 ++ (rB35 ++ (rB36 ++ (rB37 ++ (rB38 ++ (rB39 ++ (rB40 ++ (rB41 ++ (rB42 ++ (rB43 ++ (rB44 ++ (rB45 ++ (rB46 ++ (rB47 ++ (rB48 ++ (rB49 ++ (rB50 ++ (rB51 ++ (rB52 ++ (rB53 ++ (rB54 ++ (rB55 ++ (rB56 ++ (rB57 ++ (rB58 ++ (rB59 ++ (rB60))))))))))))))))))))))))))))))))))))))))))) : w ∈ rBase := rBn18 (List.mem_append_right _ h)
theorem rBm19 {w : Cond} (h : w ∈ rB19) : w ∈ rBase := rBn19 (List.mem_append_left _ h)
theorem rBn20 {w : Cond} (h : w ∈ (rB20 ++ (rB21 ++ (rB22 ++ (rB23 ++ (rB24 ++ (rB25 ++ (rB26 ++ (rB27 ++ (rB28 ++ (rB29 ++ (rB30 ++ (rB31 ++ (rB32 ++ (rB33 ++ (rB34 ++ (rB35 ++ (rB36 ++ (rB37 ++ (rB38 ++ (rB39 ++ (rB40 ++ (rB41 ++ (rB42 ++ (rB43 ++ (rB44 ++ (rB45 ++ (rB46 ++ (rB47 ++ (rB48 ++ (rB49 ++ (rB50 ++ (rB51 ++ (rB52 ++ (rB53 ++ (rB54 ++ (rB55 ++ (rB56 ++ (rB57 ++ (rB58 ++ (rB59 ++ (rB60)))))))))))))))))))))))))))))))))))))))))) : w ∈ rBase := rBn19 (List.mem_append_right _ h)
theorem rBm20 {w : Cond} (h : w ∈ rB20) : w ∈ rBase := rBn20 (List.mem_append_left _ h)
theorem rBn21 {w : Cond} (h : w ∈ (rB21 ++ (rB22 ++ (rB23 ++ (rB24 ++ (rB25 ++ (rB26 ++ (rB27 ++ (rB28 ++ (rB29 ++ (rB30 ++ (rB31 ++ (rB32 ++ (rB33 ++ (rB34 ++ (rB35 ++ (rB36 ++ (rB37 ++ (rB38 ++ (rB39 ++ (rB40 ++ (rB41 ++ (rB42 ++ (rB43 ++ (rB44 ++ (rB45 ++ (rB46 ++ (rB47 ++ (rB48 ++ (rB49 ++ (rB50 ++ (rB51 ++ (rB52 ++ (rB53 ++ (rB54 ++ (rB55 ++ (rB56 ++ (rB57 ++ (rB58 ++ (rB59 ++ (rB60))))))))))))))))))))))))))))))))))))))))) : w ∈ rBase := rBn20 (List.mem_append_right _ h)
theorem rBm21 {w : Cond} (h : w ∈ rB21) : w ∈ rBase := rBn21 (List.mem_append_left _ h)
theorem rBn22 {w : Cond} (h : w ∈ (rB22 ++ (rB23 ++ (rB24 ++ (rB25 ++ (rB26 ++ (rB27 ++ (rB28 ++ (rB29 ++ (rB30 ++ (rB31 ++ (rB32 ++ (rB33 ++ (rB34 ++ (rB35 ++ (rB36 ++ (rB37 ++ (rB38 ++ (rB39 ++ (rB40 ++ (rB41 ++ (rB42 ++ (rB43 ++ (rB44 ++ (rB45 ++ (rB46 ++ (rB47 ++ (rB48 ++ (rB49 ++ (rB50 ++ (rB51 ++ (rB52 ++ (rB53 ++ (rB54 ++ (rB55 ++ (rB56 ++ (rB57 ++ (rB58 ++ (rB59 ++ (rB60)))))))))))))))))))))))))))))))))))))))) : w ∈ rBase := rBn21 (List.mem_append_right _ h)
theorem rBm22 {w : Cond} (h : w ∈ rB22) : w ∈ rBase := rBn22 (List.mem_append_left _ h)
theorem rBn23 {w : Cond} (h : w ∈ (rB23 ++ (rB24 ++ (rB25 ++ (rB26 ++ (rB27 ++ (rB28 ++ (rB29 ++ (rB30 ++ (rB31 ++ (rB32 ++ (rB33 ++ (rB34 ++ (rB35 ++ (rB36 ++ (rB37 ++ (rB38 ++ (rB39 ++ (rB40 ++ (rB41 ++ (rB42 ++ (rB43 ++ (rB44 ++ (rB45 ++ (rB46 ++ (rB47 ++ (rB48 ++ (rB49 ++ (rB50 ++ (rB51 ++ (rB52 ++ (rB53 ++ (rB54 ++ (rB55 ++ (rB56 ++ (rB57 ++ (rB58 ++ (rB59 ++ (rB60))))))))))))))))))))))))))))))))))))))) : w ∈ rBase := rBn22 (List.mem_append_right _ h)
theorem rBm23 {w : Cond} (h : w ∈ rB23) : w ∈ rBase := rBn23 (List.mem_append_left _ h)
theorem rBn24 {w : Cond} (h : w ∈ (rB24 ++ (rB25 ++ (rB26 ++ (rB27 ++ (rB28 ++ (rB29 ++ (rB30 ++ (rB31 ++ (rB32 ++ (rB33 ++ (rB34 ++ (rB35 ++ (rB36 ++ (rB37 ++ (rB38 ++ (rB39 ++ (rB40 ++ (rB41 ++ (rB42 ++ (rB43 ++ (rB44 ++ (rB45 ++ (rB46 ++ (rB47 ++ (rB48 ++ (rB49 ++ (rB50 ++ (rB51 ++ (rB52 ++ (rB53 ++ (rB54 ++ (rB55 ++ (rB56 ++ (rB57 ++ (rB58 ++ (rB59 ++ (rB60)))))))))))))))))))))))))))))))))))))) : w ∈ rBase := rBn23 (List.mem_append_right _ h)
theorem rBm24 {w : Cond} (h : w ∈ rB24) : w ∈ rBase := rBn24 (List.mem_append_left _ h)
theorem rBn25 {w : Cond} (h : w ∈ (rB25 ++ (rB26 ++ (rB27 ++ (rB28 ++ (rB29 ++ (rB30 ++ (rB31 ++ (rB32 ++ (rB33 ++ (rB34 ++ (rB35 ++ (rB36 ++ (rB37 ++ (rB38 ++ (rB39 ++ (rB40 ++ (rB41 ++ (rB42 ++ (rB43 ++ (rB44 ++ (rB45 ++ (rB46 ++ (rB47 ++ (rB48 ++ (rB49 ++ (rB50 ++ (rB51 ++ (rB52 ++ (rB53 ++ (rB54 ++ (rB55 ++ (rB56 ++ (rB57 ++ (rB58 ++ (rB59 ++ (rB60))))))))))))))))))))))))))))))))))))) : w ∈ rBase := rBn24 (List.mem_append_right _ h)
theorem rBm25 {w : Cond} (h : w ∈ rB25) : w ∈ rBase := rBn25 (List.mem_append_left _ h)
theorem rBn26 {w : Cond} (h : w ∈ (rB26 ++ (rB27 ++ (rB28 ++ (rB29 ++ (rB30 ++ (rB31 ++ (rB32 ++ (rB33 ++ (rB34 ++ (rB35 ++ (rB36 ++ (rB37 ++ (rB38 ++ (rB39 ++ (rB40 ++ (rB41 ++ (rB42 ++ (rB43 ++ (rB44 ++ (rB45 ++ (rB46 ++ (rB47 ++ (rB48 ++ (rB49 ++ (rB50 ++ (rB51 ++ (rB52 ++ (rB53 ++ (rB54 ++ (rB55 ++ (rB56 ++ (rB57 ++ (rB58 ++ (rB59 ++ (rB60)))))))))))))))))))))))))))))))))))) : w ∈ rBase := rBn25 (List.mem_append_right _ h)
theorem rBm26 {w : Cond} (h : w ∈ rB26) : w ∈ rBase := rBn26 (List.mem_append_left _ h)
theorem rBn27 {w : Cond} (h : w ∈ (rB27 ++ (rB28 ++ (rB29 ++ (rB30 ++ (rB31 ++ (rB32 ++ (rB33 ++ (rB34 ++ (rB35 ++ (rB36 ++ (rB37 ++ (rB38 ++ (rB39 ++ (rB40 ++ (rB41 ++ (rB42 ++ (rB43 ++ (rB44 ++ (rB45 ++ (rB46 ++ (rB47 ++ (rB48 ++ (rB49 ++ (rB50 ++ (rB51 ++ (rB52 ++ (rB53 ++ (rB54 ++ (rB55 ++ (rB56 ++ (rB57 ++ (rB58 ++ (rB59 ++ (rB60))))))))))))))))))))))))))))))))))) : w ∈ rBase := rBn26 (List.mem_append_right _ h)
theorem rBm27 {w : Cond} (h : w ∈ rB27) : w ∈ rBase := rBn27 (List.mem_append_left _ h)
theorem rBn28 {w : Cond} (h : w ∈ (rB28 ++ (rB29 ++ (rB30 ++ (rB31 ++ (rB32 ++ (rB33 ++ (rB34 ++ (rB35 ++ (rB36 ++ (rB37 ++ (rB38 ++ (rB39 ++ (rB40 ++ (rB41 ++ (rB42 ++ (rB43 ++ (rB44 ++ (rB45 ++ (rB46 ++ (rB47 ++ (rB48 ++ (rB49 ++ (rB50 ++ (rB51 ++ (rB52 ++ (rB53 ++ (rB54 ++ (rB55 ++ (rB56 ++ (rB57 ++ (rB58 ++ (rB59 ++ (rB60)))))))))))))))))))))))))))))))))) : w ∈ rBase := rBn27 (List.mem_append_right _ h)
theorem rBm28 {w : Cond} (h : w ∈ rB28) : w ∈ rBase := rBn28 (List.mem_append_left _ h)
theorem rBn29 {w : Cond} (h : w ∈ (rB29 ++ (rB30 ++ (rB31 ++ (rB32 ++ (rB33 ++ (rB34 ++ (rB35 ++ (rB36 ++ (rB37 ++ (rB38 ++ (rB39 ++ (rB40 ++ (rB41 ++ (rB42 ++ (rB43 ++ (rB44 ++ (rB45 ++ (rB46 ++ (rB47 ++ (rB48 ++ (rB49 ++ (rB50 ++ (rB51 ++ (rB52 ++ (rB53 ++ (rB54 ++ (rB55 ++ (rB56 ++ (rB57 ++ (rB58 ++ (rB59 ++ (rB60))))))))))))))))))))))))))))))))) : w ∈ rBase := rBn28 (List.mem_append_right _ h)
theorem rBm29 {w : Cond} (h : w ∈ rB29) : w ∈ rBase := rBn29 (List.mem_append_left _ h)
theorem rBn30 {w : Cond} (h : w ∈ (rB30 ++ (rB31 ++ (rB32 ++ (rB33 ++ (rB34 ++ (rB35 ++ (rB36 ++ (rB37 ++ (rB38 ++ (rB39 ++ (rB40 ++ (rB41 ++ (rB42 ++ (rB43 ++ (rB44 ++ (rB45 ++ (rB46 ++ (rB47 ++ (rB48 ++ (rB49 ++ (rB50 ++ (rB51 ++ (rB52 ++ (rB53 ++ (rB54 ++ (rB55 ++ (rB56 ++ (rB57 ++ (rB58 ++ (rB59 ++ (rB60)))))))))))))))))))))))))))))))) : w ∈ rBase := rBn29 (List.mem_append_right _ h)
theorem rBm30 {w : Cond} (h : w ∈ rB30) : w ∈ rBase := rBn30 (List.mem_append_left _ h)
theorem rBn31 {w : Cond} (h : w ∈ (rB31 ++ (rB32 ++ (rB33 ++ (rB34 ++ (rB35 ++ (rB36 ++ (rB37 ++ (rB38 ++ (rB39 ++ (rB40 ++ (rB41 ++ (rB42 ++ (rB43 ++ (rB44 ++ (rB45 ++ (rB46 ++ (rB47 ++ (rB48 ++ (rB49 ++ (rB50 ++ (rB51 ++ (rB52 ++ (rB53 ++ (rB54 ++ (rB55 ++ (rB56 ++ (rB57 ++ (rB58 ++ (rB59 ++ (rB60))))))))))))))))))))))))))))))) : w ∈ rBase := rBn30 (List.mem_append_right _ h)
theorem rBm31 {w : Cond} (h : w ∈ rB31) : w ∈ rBase := rBn31 (List.mem_append_left _ h)
theorem rBn32 {w : Cond} (h : w ∈ (rB32 ++ (rB33 ++ (rB34 ++ (rB35 ++ (rB36 ++ (rB37 ++ (rB38 ++ (rB39 ++ (rB40 ++ (rB41 ++ (rB42 ++ (rB43 ++ (rB44 ++ (rB45 ++ (rB46 ++ (rB47 ++ (rB48 ++ (rB49 ++ (rB50 ++ (rB51 ++ (rB52 ++ (rB53 ++ (rB54 ++ (rB55 ++ (rB56 ++ (rB57 ++ (rB58 ++ (rB59 ++ (rB60)))))))))))))))))))))))))))))) : w ∈ rBase := rBn31 (List.mem_append_right _ h)
theorem rBm32 {w : Cond} (h : w ∈ rB32) : w ∈ rBase := rBn32 (List.mem_append_left _ h)
theorem rBn33 {w : Cond} (h : w ∈ (rB33 ++ (rB34 ++ (rB35 ++ (rB36 ++ (rB37 ++ (rB38 ++ (rB39 ++ (rB40 ++ (rB41 ++ (rB42 ++ (rB43 ++ (rB44 ++ (rB45 ++ (rB46 ++ (rB47 ++ (rB48 ++ (rB49 ++ (rB50 ++ (rB51 ++ (rB52 ++ (rB53 ++ (rB54 ++ (rB55 ++ (rB56 ++ (rB57 ++ (rB58 ++ (rB59 ++ (rB60))))))))))))))))))))))))))))) : w ∈ rBase := rBn32 (List.mem_append_right _ h)
theorem rBm33 {w : Cond} (h : w ∈ rB33) : w ∈ rBase := rBn33 (List.mem_append_left _ h)
theorem rBn34 {w : Cond} (h : w ∈ (rB34 ++ (rB35 ++ (rB36 ++ (rB37 ++ (rB38 ++ (rB39 ++ (rB40 ++ (rB41 ++ (rB42 ++ (rB43 ++ (rB44 ++ (rB45 ++ (rB46 ++ (rB47 ++ (rB48 ++ (rB49 ++ (rB50 ++ (rB51 ++ (rB52 ++ (rB53 ++ (rB54 ++ (rB55 ++ (rB56 ++ (rB57 ++ (rB58 ++ (rB59 ++ (rB60)))))))))))))))))))))))))))) : w ∈ rBase := rBn33 (List.mem_append_right _ h)
theorem rBm34 {w : Cond} (h : w ∈ rB34) : w ∈ rBase := rBn34 (List.mem_append_left _ h)
theorem rBn35 {w : Cond} (h : w ∈ (rB35 ++ (rB36 ++ (rB37 ++ (rB38 ++ (rB39 ++ (rB40 ++ (rB41 ++ (rB42 ++ (rB43 ++ (rB44 ++ (rB45 ++ (rB46 ++ (rB47 ++ (rB48 ++ (rB49 ++ (rB50 ++ (rB51 ++ (rB52 ++ (rB53 ++ (rB54 ++ (rB55 ++ (rB56 ++ (rB57 ++ (rB58 ++ (rB59 ++ (rB60))))))))))))))))))))))))))) : w ∈ rBase := rBn34 (List.mem_append_right _ h)
theorem rBm35 {w : Cond} (h : w ∈ rB35) : w ∈ rBase := rBn35 (List.mem_append_left _ h)
theorem rBn36 {w : Cond} (h : w ∈ (rB36 ++ (rB37 ++ (rB38 ++ (rB39 ++ (rB40 ++ (rB41 ++ (rB42 ++ (rB43 ++ (rB44 ++ (rB45 ++ (rB46 ++ (rB47 ++ (rB48 ++ (rB49 ++ (rB50 ++ (rB51 ++ (rB52 ++ (rB53 ++ (rB54 ++ (rB55 ++ (rB56 ++ (rB57 ++ (rB58 ++ (rB59 ++ (rB60)))))))))))))))))))))))))) : w ∈ rBase := rBn35 (List.mem_append_right _ h)
theorem rBm36 {w : Cond} (h : w ∈ rB36) : w ∈ rBase := rBn36 (List.mem_append_left _ h)
theorem rBn37 {w : Cond} (h : w ∈ (rB37 ++ (rB38 ++ (rB39 ++ (rB40 ++ (rB41 ++ (rB42 ++ (rB43 ++ (rB44 ++ (rB45 ++ (rB46 ++ (rB47 ++ (rB48 ++ (rB49 ++ (rB50 ++ (rB51 ++ (rB52 ++ (rB53 ++ (rB54 ++ (rB55 ++ (rB56 ++ (rB57 ++ (rB58 ++ (rB59 ++ (rB60))))))))))))))))))))))))) : w ∈ rBase := rBn36 (List.mem_append_right _ h)
theorem rBm37 {w : Cond} (h : w ∈ rB37) : w ∈ rBase := rBn37 (List.mem_append_left _ h)
theorem rBn38 {w : Cond} (h : w ∈ (rB38 ++ (rB39 ++ (rB40 ++ (rB41 ++ (rB42 ++ (rB43 ++ (rB44 ++ (rB45 ++ (rB46 ++ (rB47 ++ (rB48 ++ (rB49 ++ (rB50 ++ (rB51 ++ (rB52 ++ (rB53 ++ (rB54 ++ (rB55 ++ (rB56 ++ (rB57 ++ (rB58 ++ (rB59 ++ (rB60)))))))))))))))))))))))) : w ∈ rBase := rBn37 (List.mem_append_right _ h)
theorem rBm38 {w : Cond} (h : w ∈ rB38) : w ∈ rBase := rBn38 (List.mem_append_left _ h)
theorem rBn39 {w : Cond} (h : w ∈ (rB39 ++ (rB40 ++ (rB41 ++ (rB42 ++ (rB43 ++ (rB44 ++ (rB45 ++ (rB46 ++ (rB47 ++ (rB48 ++ (rB49 ++ (rB50 ++ (rB51 ++ (rB52 ++ (rB53 ++ (rB54 ++ (rB55 ++ (rB56 ++ (rB57 ++ (rB58 ++ (rB59 ++ (rB60))))))))))))))))))))))) : w ∈ rBase := rBn38 (List.mem_append_right _ h)
theorem rBm39 {w : Cond} (h : w ∈ rB39) : w ∈ rBase := rBn39 (List.mem_append_left _ h)
theorem rBn40 {w : Cond} (h : w ∈ (rB40 ++ (rB41 ++ (rB42 ++ (rB43 ++ (rB44 ++ (rB45 ++ (rB46 ++ (rB47 ++ (rB48 ++ (rB49 ++ (rB50 ++ (rB51 ++ (rB52 ++ (rB53 ++ (rB54 ++ (rB55 ++ (rB56 ++ (rB57 ++ (rB58 ++ (rB59 ++ (rB60)))))))))))))))))))))) : w ∈ rBase := rBn39 (List.mem_append_right _ h)
theorem rBm40 {w : Cond} (h : w ∈ rB40) : w ∈ rBase := rBn40 (List.mem_append_left _ h)
theorem rBn41 {w : Cond} (h : w ∈ (rB41 ++ (rB42 ++ (rB43 ++ (rB44 ++ (rB45 ++ (rB46 ++ (rB47 ++ (rB48 ++ (rB49 ++ (rB50 ++ (rB51 ++ (rB52 ++ (rB53 ++ (rB54 ++ (rB55 ++ (rB56 ++ (rB57 ++ (rB58 ++ (rB59 ++ (rB60))))))))))))))))))))) : w ∈ rBase := rBn40 (List.mem_append_right _ h)
theorem rBm41 {w : Cond} (h : w ∈ rB41) : w ∈ rBase := rBn41 (List.mem_append_left _ h)
theorem rBn42 {w : Cond} (h : w ∈ (rB42 ++ (rB43 ++ (rB44 ++ (rB45 ++ (rB46 ++ (rB47 ++ (rB48 ++ (rB49 ++ (rB50 ++ (rB51 ++ (rB52 ++ (rB53 ++ (rB54 ++ (rB55 ++ (rB56 ++ (rB57 ++ (rB58 ++ (rB59 ++ (rB60)))))))))))))))))))) : w ∈ rBase := rBn41 (List.mem_append_right _ h)
theorem rBm42 {w : Cond} (h : w ∈ rB42) : w ∈ rBase := rBn42 (List.mem_append_left _ h)
theorem rBn43 {w : Cond} (h : w ∈ (rB43 ++ (rB44 ++ (rB45 ++ (rB46 ++ (rB47 ++ (rB48 ++ (rB49 ++ (rB50 ++ (rB51 ++ (rB52 ++ (rB53 ++ (rB54 ++ (rB55 ++ (rB56 ++ (rB57 ++ (rB58 ++ (rB59 ++ (rB60))))))))))))))))))) : w ∈ rBase := rBn42 (List.mem_append_right _ h)
theorem rBm43 {w : Cond} (h : w ∈ rB43) : w ∈ rBase := rBn43 (List.mem_append_left _ h)
theorem rBn44 {w : Cond} (h : w ∈ (rB44 ++ (rB45 ++ (rB46 ++ (rB47 ++ (rB48 ++ (rB49 ++ (rB50 ++ (rB51 ++ (rB52 ++ (rB53 ++ (rB54 ++ (rB55 ++ (rB56 ++ (rB57 ++ (rB58 ++ (rB59 ++ (rB60)))))))))))))))))) : w ∈ rBase := rBn43 (List.mem_append_right _ h)
theorem rBm44 {w : Cond} (h : w ∈ rB44) : w ∈ rBase := rBn44 (List.mem_append_left _ h)
theorem rBn45 {w : Cond} (h : w ∈ (rB45 ++ (rB46 ++ (rB47 ++ (rB48 ++ (rB49 ++ (rB50 ++ (rB51 ++ (rB52 ++ (rB53 ++ (rB54 ++ (rB55 ++ (rB56 ++ (rB57 ++ (rB58 ++ (rB59 ++ (rB60))))))))))))))))) : w ∈ rBase := rBn44 (List.mem_append_right _ h)
theorem rBm45 {w : Cond} (h : w ∈ rB45) : w ∈ rBase := rBn45 (List.mem_append_left _ h)
theorem rBn46 {w : Cond} (h : w ∈ (rB46 ++ (rB47 ++ (rB48 ++ (rB49 ++ (rB50 ++ (rB51 ++ (rB52 ++ (rB53 ++ (rB54 ++ (rB55 ++ (rB56 ++ (rB57 ++ (rB58 ++ (rB59 ++ (rB60)))))))))))))))) : w ∈ rBase := rBn45 (List.mem_append_right _ h)
theorem rBm46 {w : Cond} (h : w ∈ rB46) : w ∈ rBase := rBn46 (List.mem_append_left _ h)
theorem rBn47 {w : Cond} (h : w ∈ (rB47 ++ (rB48 ++ (rB49 ++ (rB50 ++ (rB51 ++ (rB52 ++ (rB53 ++ (rB54 ++ (rB55 ++ (rB56 ++ (rB57 ++ (rB58 ++ (rB59 ++ (rB60))))))))))))))) : w ∈ rBase := rBn46 (List.mem_append_right _ h)
theorem rBm47 {w : Cond} (h : w ∈ rB47) : w ∈ rBase := rBn47 (List.mem_append_left _ h)
theorem rBn48 {w : Cond} (h : w ∈ (rB48 ++ (rB49 ++ (rB50 ++ (rB51 ++ (rB52 ++ (rB53 ++ (rB54 ++ (rB55 ++ (rB56 ++ (rB57 ++ (rB58 ++ (rB59 ++ (rB60)))))))))))))) : w ∈ rBase := rBn47 (List.mem_append_right _ h)
theorem rBm48 {w : Cond} (h : w ∈ rB48) : w ∈ rBase := rBn48 (List.mem_append_left _ h)
theorem rBn49 {w : Cond} (h : w ∈ (rB49 ++ (rB50 ++ (rB51 ++ (rB52 ++ (rB53 ++ (rB54 ++ (rB55 ++ (rB56 ++ (rB57 ++ (rB58 ++ (rB59 ++ (rB60))))))))))))) : w ∈ rBase := rBn48 (List.mem_append_right _ h)
theorem rBm49 {w : Cond} (h : w ∈ rB49) : w ∈ rBase := rBn49 (List.mem_append_left _ h)
theorem rBn50 {w : Cond} (h : w ∈ (rB50 ++ (rB51 ++ (rB52 ++ (rB53 ++ (rB54 ++ (rB55 ++ (rB56 ++ (rB57 ++ (rB58 ++ (rB59 ++ (rB60)))))))))))) : w ∈ rBase := rBn49 (List.mem_append_right _ h)
theorem rBm50 {w : Cond} (h : w ∈ rB50) : w ∈ rBase := rBn50 (List.mem_append_left _ h)
theorem rBn51 {w : Cond} (h : w ∈ (rB51 ++ (rB52 ++ (rB53 ++ (rB54 ++ (rB55 ++ (rB56 ++ (rB57 ++ (rB58 ++ (rB59 ++ (rB60))))))))))) : w ∈ rBase := rBn50 (List.mem_append_right _ h)
theorem rBm51 {w : Cond} (h : w ∈ rB51) : w ∈ rBase := rBn51 (List.mem_append_left _ h)
theorem rBn52 {w : Cond} (h : w ∈ (rB52 ++ (rB53 ++ (rB54 ++ (rB55 ++ (rB56 ++ (rB57 ++ (rB58 ++ (rB59 ++ (rB60)))))))))) : w ∈ rBase := rBn51 (List.mem_append_right _ h)
theorem rBm52 {w : Cond} (h : w ∈ rB52) : w ∈ rBase := rBn52 (List.mem_append_left _ h)
theorem rBn53 {w : Cond} (h : w ∈ (rB53 ++ (rB54 ++ (rB55 ++ (rB56 ++ (rB57 ++ (rB58 ++ (rB59 ++ (rB60))))))))) : w ∈ rBase := rBn52 (List.mem_append_right _ h)
theorem rBm53 {w : Cond} (h : w ∈ rB53) : w ∈ rBase := rBn53 (List.mem_append_left _ h)
theorem rBn54 {w : Cond} (h : w ∈ (rB54 ++ (rB55 ++ (rB56 ++ (rB57 ++ (rB58 ++ (rB59 ++ (rB60)))))))) : w ∈ rBase := rBn53 (List.mem_append_right _ h)
theorem rBm54 {w : Cond} (h : w ∈ rB54) : w ∈ rBase := rBn54 (List.mem_append_left _ h)
theorem rBn55 {w : Cond} (h : w ∈ (rB55 ++ (rB56 ++ (rB57 ++ (rB58 ++ (rB59 ++ (rB60))))))) : w ∈ rBase := rBn54 (List.mem_append_right _ h)
theorem rBm55 {w : Cond} (h : w ∈ rB55) : w ∈ rBase := rBn55 (List.mem_append_left _ h)
theorem rBn56 {w : Cond} (h : w ∈ (rB56 ++ (rB57 ++ (rB58 ++ (rB59 ++ (rB60)))))) : w ∈ rBase := rBn55 (List.mem_append_right _ h)
theorem rBm56 {w : Cond} (h : w ∈ rB56) : w ∈ rBase := rBn56 (List.mem_append_left _ h)
theorem rBn57 {w : Cond} (h : w ∈ (rB57 ++ (rB58 ++ (rB59 ++ (rB60))))) : w ∈ rBase := rBn56 (List.mem_append_right _ h)
theorem rBm57 {w : Cond} (h : w ∈ rB57) : w ∈ rBase := rBn57 (List.mem_append_left _ h)
theorem rBn58 {w : Cond} (h : w ∈ (rB58 ++ (rB59 ++ (rB60)))) : w ∈ rBase := rBn57 (List.mem_append_right _ h)
theorem rBm58 {w : Cond} (h : w ∈ rB58) : w ∈ rBase := rBn58 (List.mem_append_left _ h)
theorem rBn59 {w : Cond} (h : w ∈ (rB59 ++ (rB60))) : w ∈ rBase := rBn58 (List.mem_append_right _ h)
theorem rBm59 {w : Cond} (h : w ∈ rB59) : w ∈ rBase := rBn59 (List.mem_append_left _ h)
theorem rBn60 {w : Cond} (h : w ∈ (rB60)) : w ∈ rBase := rBn59 (List.mem_append_right _ h)
theorem rBm60 {w : Cond} (h : w ∈ rB60) : w ∈ rBase := rBn60 h
def rTs : List Cond := rBase ++ (u_ws RJ0 TJ0 4 ++ (u_ws RJ4 TJ4 4 ++ (u_ws RX0 TX0 15 ++ (u_ws RX1 TX1 11 ++ (u_ws RX2 TX2 21 ++ (u_ws RX3 TX3 10 ++ (u_ws RX4 TX4 18 ++ (u_ws RX5 TX5 17 ++ (u_ws RX6 TX6 12 ++ (u_ws RX7 TX7 6 ++ (u_ws RX8 TX8 20 ++ (u_ws RX9 TX9 14 ++ (u_ws RX10 TX10 19 ++ (u_ws RX11 TX11 9 ++ (u_ws RX12 TX12 13 ++ (u_ws RX13 TX13 205))))))))))))))))
theorem kMem {w : Cond} (i : Nat) (h : rBase[i]? = some w) : w ∈ rTs := List.mem_append_left _ (List.mem_of_getElem? h)
theorem inJ0 : ∀ w ∈ u_ws RJ0 TJ0 4, w ∈ rTs := fun _ h => List.mem_append_right _ (List.mem_append_left _ h)
theorem kc0 : vwCl[0]? = some (RJ0, TJ0, 4) := rfl
theorem inJ4 : ∀ w ∈ u_ws RJ4 TJ4 4, w ∈ rTs := fun _ h => List.mem_append_right _ (List.mem_append_right _ (List.mem_append_left _ h))
theorem kc1 : vwCl[1]? = some (RJ4, TJ4, 4) := rfl
theorem inX0 : ∀ w ∈ u_ws RX0 TX0 15, w ∈ rTs := fun _ h => List.mem_append_right _ (List.mem_append_right _ (List.mem_append_right _ (List.mem_append_left _ h)))
theorem kc2 : vwCl[2]? = some (RX0, TX0, 15) := rfl
theorem inX1 : ∀ w ∈ u_ws RX1 TX1 11, w ∈ rTs := fun _ h => List.mem_append_right _ (List.mem_append_right _ (List.mem_append_right _ (List.mem_append_right _ (List.mem_append_left _ h))))
theorem kc3 : vwCl[3]? = some (RX1, TX1, 11) := rfl
theorem inX2 : ∀ w ∈ u_ws RX2 TX2 21, w ∈ rTs := fun _ h => List.mem_append_right _ (List.mem_append_right _ (List.mem_append_right _ (List.mem_append_right _ (List.mem_append_right _ (List.mem_append_left _ h)))))
theorem kc4 : vwCl[4]? = some (RX2, TX2, 21) := rfl
theorem inX3 : ∀ w ∈ u_ws RX3 TX3 10, w ∈ rTs := fun _ h => List.mem_append_right _ (List.mem_append_right _ (List.mem_append_right _ (List.mem_append_right _ (List.mem_append_right _ (List.mem_append_right _ (List.mem_append_left _ h))))))
theorem kc5 : vwCl[5]? = some (RX3, TX3, 10) := rfl
theorem inX4 : ∀ w ∈ u_ws RX4 TX4 18, w ∈ rTs := fun _ h => List.mem_append_right _ (List.mem_append_right _ (List.mem_append_right _ (List.mem_append_right _ (List.mem_append_right _ (List.mem_append_right _ (List.mem_append_right _ (List.mem_append_left _ h)))))))
theorem kc6 : vwCl[6]? = some (RX4, TX4, 18) := rfl
theorem inX5 : ∀ w ∈ u_ws RX5 TX5 17, w ∈ rTs := fun _ h => List.mem_append_right _ (List.mem_append_right _ (List.mem_append_right _ (List.mem_append_right _ (List.mem_append_right _ (List.mem_append_right _ (List.mem_append_right _ (List.mem_append_right _ (List.mem_append_left _ h))))))))
theorem kc7 : vwCl[7]? = some (RX5, TX5, 17) := rfl
theorem inX6 : ∀ w ∈ u_ws RX6 TX6 12, w ∈ rTs := fun _ h => List.mem_append_right _ (List.mem_append_right _ (List.mem_append_right _ (List.mem_append_right _ (List.mem_append_right _ (List.mem_append_right _ (List.mem_append_right _ (List.mem_append_right _ (List.mem_append_right _ (List.mem_append_left _ h)))))))))
theorem kc8 : vwCl[8]? = some (RX6, TX6, 12) := rfl
theorem inX7 : ∀ w ∈ u_ws RX7 TX7 6, w ∈ rTs := fun _ h => List.mem_append_right _ (List.mem_append_right _ (List.mem_append_right _ (List.mem_append_right _ (List.mem_append_right _ (List.mem_append_right _ (List.mem_append_right _ (List.mem_append_right _ (List.mem_append_right _ (List.mem_append_right _ (List.mem_append_left _ h))))))))))
theorem kc9 : vwCl[9]? = some (RX7, TX7, 6) := rfl
theorem inX8 : ∀ w ∈ u_ws RX8 TX8 20, w ∈ rTs := fun _ h => List.mem_append_right _ (List.mem_append_right _ (List.mem_append_right _ (List.mem_append_right _ (List.mem_append_right _ (List.mem_append_right _ (List.mem_append_right _ (List.mem_append_right _ (List.mem_append_right _ (List.mem_append_right _ (List.mem_append_right _ (List.mem_append_left _ h)))))))))))
theorem kc10 : vwCl[10]? = some (RX8, TX8, 20) := rfl
theorem inX9 : ∀ w ∈ u_ws RX9 TX9 14, w ∈ rTs := fun _ h => List.mem_append_right _ (List.mem_append_right _ (List.mem_append_right _ (List.mem_append_right _ (List.mem_append_right _ (List.mem_append_right _ (List.mem_append_right _ (List.mem_append_right _ (List.mem_append_right _ (List.mem_append_right _ (List.mem_append_right _ (List.mem_append_right _ (List.mem_append_left _ h))))))))))))
theorem kc11 : vwCl[11]? = some (RX9, TX9, 14) := rfl
theorem inX10 : ∀ w ∈ u_ws RX10 TX10 19, w ∈ rTs := fun _ h => List.mem_append_right _ (List.mem_append_right _ (List.mem_append_right _ (List.mem_append_right _ (List.mem_append_right _ (List.mem_append_right _ (List.mem_append_right _ (List.mem_append_right _ (List.mem_append_right _ (List.mem_append_right _ (List.mem_append_right _ (List.mem_append_right _ (List.mem_append_right _ (List.mem_append_left _ h)))))))))))))
theorem kc12 : vwCl[12]? = some (RX10, TX10, 19) := rfl
theorem inX11 : ∀ w ∈ u_ws RX11 TX11 9, w ∈ rTs := fun _ h => List.mem_append_right _ (List.mem_append_right _ (List.mem_append_right _ (List.mem_append_right _ (List.mem_append_right _ (List.mem_append_right _ (List.mem_append_right _ (List.mem_append_right _ (List.mem_append_right _ (List.mem_append_right _ (List.mem_append_right _ (List.mem_append_right _ (List.mem_append_right _ (List.mem_append_right _ (List.mem_append_left _ h))))))))))))))
theorem kc13 : vwCl[13]? = some (RX11, TX11, 9) := rfl
theorem inX12 : ∀ w ∈ u_ws RX12 TX12 13, w ∈ rTs := fun _ h => List.mem_append_right _ (List.mem_append_right _ (List.mem_append_right _ (List.mem_append_right _ (List.mem_append_right _ (List.mem_append_right _ (List.mem_append_right _ (List.mem_append_right _ (List.mem_append_right _ (List.mem_append_right _ (List.mem_append_right _ (List.mem_append_right _ (List.mem_append_right _ (List.mem_append_right _ (List.mem_append_right _ (List.mem_append_left _ h)))))))))))))))
theorem kc14 : vwCl[14]? = some (RX12, TX12, 13) := rfl
theorem inX13 : ∀ w ∈ u_ws RX13 TX13 205, w ∈ rTs := fun _ h => List.mem_append_right _ (List.mem_append_right _ (List.mem_append_right _ (List.mem_append_right _ (List.mem_append_right _ (List.mem_append_right _ (List.mem_append_right _ (List.mem_append_right _ (List.mem_append_right _ (List.mem_append_right _ (List.mem_append_right _ (List.mem_append_right _ (List.mem_append_right _ (List.mem_append_right _ (List.mem_append_right _ (List.mem_append_right _ (h))))))))))))))))
theorem kc15 : vwCl[15]? = some (RX13, TX13, 205) := rfl
set_option maxRecDepth 100000 in
theorem kw0 : Cond.code ⟨"java/lang/Object", "<init>", "()V"⟩ object_method_1_code 1 (Option.none : Option FieldType) ∈ rTs := List.mem_append_left _ (rBm0 (List.mem_of_getElem? (i := 0) rfl))
set_option maxRecDepth 100000 in
theorem kw1 : Cond.methodLink "NativeWorks$Names" 3 ⟨"java/lang/Object", "<init>", "()V"⟩ ∈ rTs := List.mem_append_left _ (rBm0 (List.mem_of_getElem? (i := 1) rfl))
set_option maxRecDepth 100000 in
theorem kw2 : Cond.instanceMethod ⟨"java/lang/Object", "<init>", "()V"⟩ ∈ rTs := List.mem_append_left _ (rBm0 (List.mem_of_getElem? (i := 2) rfl))
set_option maxRecDepth 100000 in
theorem kw3 : Cond.arrayClass FieldType.byte ∈ rTs := List.mem_append_left _ (rBm0 (List.mem_of_getElem? (i := 3) rfl))
set_option maxRecDepth 100000 in
theorem kw4 : Cond.fieldLink "NativeWorks$Names" 9 "NativeWorks$Names" "letters" "[B" ∈ rTs := List.mem_append_left _ (rBm0 (List.mem_of_getElem? (i := 4) rfl))
set_option maxRecDepth 100000 in
theorem kw5 : Cond.arrayClass FieldType.int ∈ rTs := List.mem_append_left _ (rBm0 (List.mem_of_getElem? (i := 5) rfl))
set_option maxRecDepth 100000 in
theorem kw6 : Cond.fieldLink "NativeWorks$Names" 15 "NativeWorks$Names" "from" "[I" ∈ rTs := List.mem_append_left _ (rBm0 (List.mem_of_getElem? (i := 6) rfl))
set_option maxRecDepth 100000 in
theorem kw7 : Cond.fieldLink "NativeWorks$Names" 19 "NativeWorks$Names" "olde\x72" "[I" ∈ rTs := List.mem_append_left _ (rBm0 (List.mem_of_getElem? (i := 7) rfl))
set_option maxRecDepth 100000 in
theorem kw8 : Cond.fieldLink "NativeWorks$Names" 22 "NativeWorks$Names" "slot" "[I" ∈ rTs := List.mem_append_left _ (rBm0 (List.mem_of_getElem? (i := 8) rfl))
set_option maxRecDepth 100000 in
theorem kw9 : Cond.fieldLink "NativeWorks$Names" 25 "NativeWorks$Names" "newest" "[I" ∈ rTs := List.mem_append_left _ (rBm0 (List.mem_of_getElem? (i := 9) rfl))
set_option maxRecDepth 100000 in
theorem kw10 : Cond.code ⟨"java/util/Arrays", "fill", "([II)V"⟩ prog_38_method_103_code 4 (Option.none : Option FieldType) ∈ rTs := List.mem_append_left _ (rBm0 (List.mem_of_getElem? (i := 10) rfl))
set_option maxRecDepth 100000 in
theorem kw11 : Cond.methodLink "NativeWorks$Names" 28 ⟨"java/util/Arrays", "fill", "([II)V"⟩ ∈ rTs := List.mem_append_left _ (rBm0 (List.mem_of_getElem? (i := 11) rfl))
set_option maxRecDepth 100000 in
theorem kw12 : Cond.static ⟨"java/util/Arrays", "fill", "([II)V"⟩ ∈ rTs := List.mem_append_left _ (rBm0 (List.mem_of_getElem? (i := 12) rfl))
set_option maxRecDepth 100000 in
theorem kw13 : Cond.initialized "java/util/Arrays" ∈ rTs := List.mem_append_left _ (rBm0 (List.mem_of_getElem? (i := 13) rfl))
set_option maxRecDepth 100000 in
theorem kw14 : Cond.fieldLink "NativeWorks$Names" 34 "NativeWorks$Names" "count" "I" ∈ rTs := List.mem_append_left _ (rBm0 (List.mem_of_getElem? (i := 14) rfl))
set_option maxRecDepth 100000 in
theorem kw15 : Cond.methodLink "NativeWorks$Units" 3 ⟨"java/lang/Object", "<init>", "()V"⟩ ∈ rTs := List.mem_append_left _ (rBm0 (List.mem_of_getElem? (i := 15) rfl))
set_option maxRecDepth 100000 in
theorem kw16 : Cond.classLink "NativeWorks$Units" 9 "NativeWorks$Names" ∈ rTs := List.mem_append_left _ (rBm0 (List.mem_of_getElem? (i := 16) rfl))
set_option maxRecDepth 100000 in
theorem kw17 : Cond.instantiable "NativeWorks$Names" 6 ∈ rTs := List.mem_append_left _ (rBm0 (List.mem_of_getElem? (i := 17) rfl))
set_option maxRecDepth 100000 in
theorem kw18 : Cond.initialized "NativeWorks$Names" ∈ rTs := List.mem_append_left _ (rBm0 (List.mem_of_getElem? (i := 18) rfl))
set_option maxRecDepth 100000 in
theorem kw19 : Cond.constant "NativeWorks$Units" 13 (nI 129024) ∈ rTs := List.mem_append_left _ (rBm0 (List.mem_of_getElem? (i := 19) (by decide +kernel)))
set_option maxRecDepth 100000 in
theorem kw20 : Cond.code ⟨"NativeWorks$Names", "<init>", "(II)V"⟩ prog_9_method_1_code 3 (Option.none : Option FieldType) ∈ rTs := List.mem_append_left _ (rBm0 (List.mem_of_getElem? (i := 20) rfl))
set_option maxRecDepth 100000 in
theorem kw21 : Cond.methodLink "NativeWorks$Units" 14 ⟨"NativeWorks$Names", "<init>", "(II)V"⟩ ∈ rTs := List.mem_append_left _ (rBm0 (List.mem_of_getElem? (i := 21) rfl))
set_option maxRecDepth 100000 in
theorem kw22 : Cond.instanceMethod ⟨"NativeWorks$Names", "<init>", "(II)V"⟩ ∈ rTs := List.mem_append_left _ (rBm0 (List.mem_of_getElem? (i := 22) rfl))
set_option maxRecDepth 100000 in
theorem kw23 : Cond.fieldLink "NativeWorks$Units" 17 "NativeWorks$Units" "names" "LNativeWorks$Names;" ∈ rTs := List.mem_append_left _ (rBm0 (List.mem_of_getElem? (i := 23) rfl))
set_option maxRecDepth 100000 in
theorem kw24 : Cond.classLink "NativeWorks$Units" 21 "[[I" ∈ rTs := List.mem_append_left _ (rBm0 (List.mem_of_getElem? (i := 24) rfl))
set_option maxRecDepth 100000 in
theorem kw25 : Cond.fieldLink "NativeWorks$Units" 23 "NativeWorks$Units" "symbols" "[[I" ∈ rTs := List.mem_append_left _ (rBm0 (List.mem_of_getElem? (i := 25) rfl))
set_option maxRecDepth 100000 in
theorem kw26 : Cond.arrayClass FieldType.long ∈ rTs := List.mem_append_left _ (rBm0 (List.mem_of_getElem? (i := 26) rfl))
set_option maxRecDepth 100000 in
theorem kw27 : Cond.fieldLink "NativeWorks$Units" 26 "NativeWorks$Units" "constants" "[J" ∈ rTs := List.mem_append_left _ (rBm0 (List.mem_of_getElem? (i := 27) rfl))
set_option maxRecDepth 100000 in
theorem kw28 : Cond.fieldLink "NativeWorks$Units" 30 "NativeWorks$Units" "labels" "[I" ∈ rTs := List.mem_append_left _ (rBm0 (List.mem_of_getElem? (i := 28) rfl))
set_option maxRecDepth 100000 in
theorem kw29 : Cond.fieldLink "NativeWorks$Units" 34 "NativeWorks$Units" "statements" "[[I" ∈ rTs := List.mem_append_left _ (rBm0 (List.mem_of_getElem? (i := 29) rfl))
set_option maxRecDepth 100000 in
theorem kw30 : Cond.fieldLink "NativeWorks$Units" 37 "NativeWorks$Units" "waits" "[[I" ∈ rTs := List.mem_append_left _ (rBm0 (List.mem_of_getElem? (i := 30) rfl))
set_option maxRecDepth 100000 in
theorem kw31 : Cond.fieldLink "NativeWorks$Units" 40 "NativeWorks$Units" "waitNumbers" "[J" ∈ rTs := List.mem_append_left _ (rBm0 (List.mem_of_getElem? (i := 31) rfl))
set_option maxRecDepth 100000 in
theorem kw32 : Cond.constant "NativeWorks$Units" 43 (nI 131072) ∈ rTs := List.mem_append_left _ (rBm0 (List.mem_of_getElem? (i := 32) (by decide +kernel)))
set_option maxRecDepth 100000 in
theorem kw33 : Cond.fieldLink "NativeWorks$Units" 44 "NativeWorks$Units" "put" "[B" ∈ rTs := List.mem_append_left _ (rBm0 (List.mem_of_getElem? (i := 33) rfl))
set_option maxRecDepth 100000 in
theorem kw34 : Cond.fieldLink "NativeWorks$Units" 48 "NativeWorks$Units" "bytes" "[B" ∈ rTs := List.mem_append_left _ (rBm0 (List.mem_of_getElem? (i := 34) rfl))
set_option maxRecDepth 100000 in
theorem kw35 : Cond.fieldLink "NativeWorks$Units" 51 "NativeWorks$Units" "rows" "[[I" ∈ rTs := List.mem_append_left _ (rBm0 (List.mem_of_getElem? (i := 35) rfl))
set_option maxRecDepth 100000 in
theorem kw36 : Cond.fieldLink "NativeWorks$Units" 54 "NativeWorks$Units" "ends" "[I" ∈ rTs := List.mem_append_left _ (rBm0 (List.mem_of_getElem? (i := 36) rfl))
set_option maxRecDepth 100000 in
theorem kw37 : Cond.fieldLink "java/lang/String" 38 "java/lang/String" "COMPACT_STRINGS" "Z" ∈ rTs := List.mem_append_left _ (rBm0 (List.mem_of_getElem? (i := 37) rfl))
set_option maxRecDepth 100000 in
theorem kw38 : Cond.fieldLink "java/lang/String" 15 "java/lang/String" "code\x72" "B" ∈ rTs := List.mem_append_left _ (rBm0 (List.mem_of_getElem? (i := 38) rfl))
set_option maxRecDepth 100000 in
theorem kw39 : Cond.fieldLink "java/lang/String" 9 "java/lang/String" "value" "[B" ∈ rTs := List.mem_append_left _ (rBm0 (List.mem_of_getElem? (i := 39) rfl))
set_option maxRecDepth 100000 in
theorem kw40 : Cond.code ⟨"java/lang/String", "code\x72", "()B"⟩ prog_30_method_152_code 1 (Option.some FieldType.byte) ∈ rTs := List.mem_append_left _ (rBm0 (List.mem_of_getElem? (i := 40) rfl))
set_option maxRecDepth 100000 in
theorem kw41 : Cond.methodLink "java/lang/String" 335 ⟨"java/lang/String", "code\x72", "()B"⟩ ∈ rTs := List.mem_append_left _ (rBm0 (List.mem_of_getElem? (i := 41) rfl))
set_option maxRecDepth 100000 in
theorem kw42 : Cond.instanceMethod ⟨"java/lang/String", "code\x72", "()B"⟩ ∈ rTs := List.mem_append_left _ (rBm0 (List.mem_of_getElem? (i := 42) rfl))
set_option maxRecDepth 100000 in
theorem kw43 : Cond.selects "java/lang/String" ⟨"java/lang/String", "code\x72", "()B"⟩ ⟨"java/lang/String", "code\x72", "()B"⟩ ∈ rTs := List.mem_append_left _ (rBm0 (List.mem_of_getElem? (i := 43) rfl))
set_option maxRecDepth 100000 in
theorem kw44 : Cond.initialized "java/lang/String" ∈ rTs := List.mem_append_left _ (rBm0 (List.mem_of_getElem? (i := 44) rfl))
set_option maxRecDepth 100000 in
theorem kw45 : Cond.fieldLink "java/lang/String" 1053 "jdk/internal/util/Preconditions" "SIOOBE_FORMATTER" "Ljava/util/function/BiFunction;" ∈ rTs := List.mem_append_left _ (rBm0 (List.mem_of_getElem? (i := 45) rfl))
set_option maxRecDepth 100000 in
theorem kw46 : Cond.code ⟨"jdk/internal/util/Preconditions", "checkIndex", "(IILjava/util/function/BiFunction;)I"⟩ prog_41_method_11_code 3 (Option.some FieldType.int) ∈ rTs := List.mem_append_left _ (rBm0 (List.mem_of_getElem? (i := 46) rfl))
set_option maxRecDepth 100000 in
theorem kw47 : Cond.methodLink "java/lang/String" 1059 ⟨"jdk/internal/util/Preconditions", "checkIndex", "(IILjava/util/function/BiFunction;)I"⟩ ∈ rTs := List.mem_append_left _ (rBm0 (List.mem_of_getElem? (i := 47) rfl))
set_option maxRecDepth 100000 in
theorem kw48 : Cond.static ⟨"jdk/internal/util/Preconditions", "checkIndex", "(IILjava/util/function/BiFunction;)I"⟩ ∈ rTs := List.mem_append_left _ (rBm1 (List.mem_of_getElem? (i := 0) rfl))
set_option maxRecDepth 100000 in
theorem kw49 : Cond.initialized "jdk/internal/util/Preconditions" ∈ rTs := List.mem_append_left _ (rBm1 (List.mem_of_getElem? (i := 1) rfl))
set_option maxRecDepth 100000 in
theorem kw50 : Cond.code ⟨"java/lang/String", "checkIndex", "(II)V"⟩ prog_30_method_155_code 2 (Option.none : Option FieldType) ∈ rTs := List.mem_append_left _ (rBm1 (List.mem_of_getElem? (i := 2) rfl))
set_option maxRecDepth 100000 in
theorem kw51 : Cond.methodLink "java/lang/StringLatin1" 9 ⟨"java/lang/String", "checkIndex", "(II)V"⟩ ∈ rTs := List.mem_append_left _ (rBm1 (List.mem_of_getElem? (i := 3) rfl))
set_option maxRecDepth 100000 in
theorem kw52 : Cond.static ⟨"java/lang/String", "checkIndex", "(II)V"⟩ ∈ rTs := List.mem_append_left _ (rBm1 (List.mem_of_getElem? (i := 4) rfl))
set_option maxRecDepth 100000 in
theorem kw53 : Cond.code ⟨"java/lang/String", "isLatin1", "()Z"⟩ prog_30_method_154_code 1 (Option.some FieldType.boolean) ∈ rTs := List.mem_append_left _ (rBm1 (List.mem_of_getElem? (i := 5) rfl))
set_option maxRecDepth 100000 in
theorem kw54 : Cond.methodLink "java/lang/String" 492 ⟨"java/lang/String", "isLatin1", "()Z"⟩ ∈ rTs := List.mem_append_left _ (rBm1 (List.mem_of_getElem? (i := 6) rfl))
set_option maxRecDepth 100000 in
theorem kw55 : Cond.instanceMethod ⟨"java/lang/String", "isLatin1", "()Z"⟩ ∈ rTs := List.mem_append_left _ (rBm1 (List.mem_of_getElem? (i := 7) rfl))
set_option maxRecDepth 100000 in
theorem kw56 : Cond.selects "java/lang/String" ⟨"java/lang/String", "isLatin1", "()Z"⟩ ⟨"java/lang/String", "isLatin1", "()Z"⟩ ∈ rTs := List.mem_append_left _ (rBm1 (List.mem_of_getElem? (i := 8) rfl))
set_option maxRecDepth 100000 in
theorem kw57 : Cond.code ⟨"java/lang/StringLatin1", "charAt", "([BI)C"⟩ prog_32_method_2_code 2 (Option.some FieldType.char) ∈ rTs := List.mem_append_left _ (rBm1 (List.mem_of_getElem? (i := 9) rfl))
set_option maxRecDepth 100000 in
theorem kw58 : Cond.methodLink "java/lang/String" 495 ⟨"java/lang/StringLatin1", "charAt", "([BI)C"⟩ ∈ rTs := List.mem_append_left _ (rBm1 (List.mem_of_getElem? (i := 10) rfl))
set_option maxRecDepth 100000 in
theorem kw59 : Cond.static ⟨"java/lang/StringLatin1", "charAt", "([BI)C"⟩ ∈ rTs := List.mem_append_left _ (rBm1 (List.mem_of_getElem? (i := 11) rfl))
set_option maxRecDepth 100000 in
theorem kw60 : Cond.initialized "java/lang/StringLatin1" ∈ rTs := List.mem_append_left _ (rBm1 (List.mem_of_getElem? (i := 12) rfl))
set_option maxRecDepth 100000 in
theorem kw61 : Cond.methodLink "NativeWorks$Names" 38 ⟨"java/lang/System", "arraycopy", "(Ljava/lang/Object;ILjava/lang/Object;II)V"⟩ ∈ rTs := List.mem_append_left _ (rBm1 (List.mem_of_getElem? (i := 13) rfl))
set_option maxRecDepth 100000 in
theorem kw62 : Cond.native ⟨"java/lang/System", "arraycopy", "(Ljava/lang/Object;ILjava/lang/Object;II)V"⟩ ∈ rTs := List.mem_append_left _ (rBm1 (List.mem_of_getElem? (i := 14) rfl))
set_option maxRecDepth 100000 in
theorem kw63 : Cond.static ⟨"java/lang/System", "arraycopy", "(Ljava/lang/Object;ILjava/lang/Object;II)V"⟩ ∈ rTs := List.mem_append_left _ (rBm1 (List.mem_of_getElem? (i := 15) rfl))
set_option maxRecDepth 100000 in
theorem kw64 : Cond.initialized "java/lang/System" ∈ rTs := List.mem_append_left _ (rBm1 (List.mem_of_getElem? (i := 16) rfl))
set_option maxRecDepth 100000 in
theorem kw65 : Cond.code ⟨"java/lang/String", "length", "()I"⟩ prog_30_method_54_code 1 (Option.some FieldType.int) ∈ rTs := List.mem_append_left _ (rBm1 (List.mem_of_getElem? (i := 17) rfl))
set_option maxRecDepth 100000 in
theorem kw66 : Cond.methodLink "NativeWorks$Line" 76 ⟨"java/lang/String", "length", "()I"⟩ ∈ rTs := List.mem_append_left _ (rBm1 (List.mem_of_getElem? (i := 18) rfl))
set_option maxRecDepth 100000 in
theorem kw67 : Cond.instanceMethod ⟨"java/lang/String", "length", "()I"⟩ ∈ rTs := List.mem_append_left _ (rBm1 (List.mem_of_getElem? (i := 19) rfl))
set_option maxRecDepth 100000 in
theorem kw68 : Cond.selects "java/lang/String" ⟨"java/lang/String", "length", "()I"⟩ ⟨"java/lang/String", "length", "()I"⟩ ∈ rTs := List.mem_append_left _ (rBm1 (List.mem_of_getElem? (i := 20) rfl))
set_option maxRecDepth 100000 in
theorem kw69 : Cond.fieldLink "NativeWorks$Line" 11 "NativeWorks$Line" "text" "[B" ∈ rTs := List.mem_append_left _ (rBm1 (List.mem_of_getElem? (i := 21) rfl))
set_option maxRecDepth 100000 in
theorem kw70 : Cond.code ⟨"java/lang/String", "charAt", "(I)C"⟩ prog_30_method_56_code 2 (Option.some FieldType.char) ∈ rTs := List.mem_append_left _ (rBm1 (List.mem_of_getElem? (i := 22) rfl))
set_option maxRecDepth 100000 in
theorem kw71 : Cond.methodLink "NativeWorks$Line" 82 ⟨"java/lang/String", "charAt", "(I)C"⟩ ∈ rTs := List.mem_append_left _ (rBm1 (List.mem_of_getElem? (i := 23) rfl))
set_option maxRecDepth 100000 in
theorem kw72 : Cond.instanceMethod ⟨"java/lang/String", "charAt", "(I)C"⟩ ∈ rTs := List.mem_append_left _ (rBm1 (List.mem_of_getElem? (i := 24) rfl))
set_option maxRecDepth 100000 in
theorem kw73 : Cond.selects "java/lang/String" ⟨"java/lang/String", "charAt", "(I)C"⟩ ⟨"java/lang/String", "charAt", "(I)C"⟩ ∈ rTs := List.mem_append_left _ (rBm1 (List.mem_of_getElem? (i := 25) rfl))
set_option maxRecDepth 100000 in
theorem kw74 : Cond.fieldLink "NativeWorks$Line" 20 "NativeWorks$Line" "words" "LNativeWorks$Names;" ∈ rTs := List.mem_append_left _ (rBm1 (List.mem_of_getElem? (i := 26) rfl))
set_option maxRecDepth 100000 in
theorem kw75 : Cond.code ⟨"NativeWorks$Names", "add", "([BII)I"⟩ prog_9_method_3_code 6 (Option.some FieldType.int) ∈ rTs := List.mem_append_left _ (rBm1 (List.mem_of_getElem? (i := 27) rfl))
set_option maxRecDepth 100000 in
theorem kw76 : Cond.methodLink "NativeWorks$Line" 86 ⟨"NativeWorks$Names", "add", "([BII)I"⟩ ∈ rTs := List.mem_append_left _ (rBm1 (List.mem_of_getElem? (i := 28) rfl))
set_option maxRecDepth 100000 in
theorem kw77 : Cond.instanceMethod ⟨"NativeWorks$Names", "add", "([BII)I"⟩ ∈ rTs := List.mem_append_left _ (rBm1 (List.mem_of_getElem? (i := 29) rfl))
set_option maxRecDepth 100000 in
theorem kw78 : Cond.selects "NativeWorks$Names" ⟨"NativeWorks$Names", "add", "([BII)I"⟩ ⟨"NativeWorks$Names", "add", "([BII)I"⟩ ∈ rTs := List.mem_append_left _ (rBm1 (List.mem_of_getElem? (i := 30) rfl))
set_option maxRecDepth 100000 in
theorem kw79 : Cond.methodLink "NativeWorks$Line" 3 ⟨"java/lang/Object", "<init>", "()V"⟩ ∈ rTs := List.mem_append_left _ (rBm1 (List.mem_of_getElem? (i := 31) rfl))
set_option maxRecDepth 100000 in
theorem kw80 : Cond.classLink "NativeWorks$Line" 15 "NativeWorks$Names" ∈ rTs := List.mem_append_left _ (rBm1 (List.mem_of_getElem? (i := 32) rfl))
set_option maxRecDepth 100000 in
theorem kw81 : Cond.methodLink "NativeWorks$Line" 17 ⟨"NativeWorks$Names", "<init>", "(II)V"⟩ ∈ rTs := List.mem_append_left _ (rBm1 (List.mem_of_getElem? (i := 33) rfl))
set_option maxRecDepth 100000 in
theorem kw82 : Cond.fieldLink "NativeWorks$Line" 24 "NativeWorks$Line" "kind" "[I" ∈ rTs := List.mem_append_left _ (rBm1 (List.mem_of_getElem? (i := 34) rfl))
set_option maxRecDepth 100000 in
theorem kw83 : Cond.fieldLink "NativeWorks$Line" 28 "NativeWorks$Line" "value" "[J" ∈ rTs := List.mem_append_left _ (rBm1 (List.mem_of_getElem? (i := 35) rfl))
set_option maxRecDepth 100000 in
theorem kw84 : Cond.fieldLink "NativeWorks$Line" 32 "NativeWorks$Line" "from" "[I" ∈ rTs := List.mem_append_left _ (rBm1 (List.mem_of_getElem? (i := 36) rfl))
set_option maxRecDepth 100000 in
theorem kw85 : Cond.fieldLink "NativeWorks$Line" 35 "NativeWorks$Line" "to" "[I" ∈ rTs := List.mem_append_left _ (rBm1 (List.mem_of_getElem? (i := 37) rfl))
set_option maxRecDepth 100000 in
theorem kw86 : Cond.code ⟨"NativeWorks$Line", "teach", "(Ljava/lang/String;)V"⟩ prog_5_method_2_code 4 (Option.none : Option FieldType) ∈ rTs := List.mem_append_left _ (rBm1 (List.mem_of_getElem? (i := 38) rfl))
set_option maxRecDepth 100000 in
theorem kw87 : Cond.methodLink "NativeWorks$Line" 40 ⟨"NativeWorks$Line", "teach", "(Ljava/lang/String;)V"⟩ ∈ rTs := List.mem_append_left _ (rBm1 (List.mem_of_getElem? (i := 39) rfl))
set_option maxRecDepth 100000 in
theorem kw88 : Cond.instanceMethod ⟨"NativeWorks$Line", "teach", "(Ljava/lang/String;)V"⟩ ∈ rTs := List.mem_append_left _ (rBm1 (List.mem_of_getElem? (i := 40) rfl))
set_option maxRecDepth 100000 in
theorem kw89 : Cond.selects "NativeWorks$Line" ⟨"NativeWorks$Line", "teach", "(Ljava/lang/String;)V"⟩ ⟨"NativeWorks$Line", "teach", "(Ljava/lang/String;)V"⟩ ∈ rTs := List.mem_append_left _ (rBm1 (List.mem_of_getElem? (i := 41) rfl))
set_option maxRecDepth 100000 in
theorem kw90 : Cond.initialized "NativeWorks$Line" ∈ rTs := List.mem_append_left _ (rBm1 (List.mem_of_getElem? (i := 42) rfl))
set_option maxRecDepth 100000 in
theorem kw91 : Cond.methodLink "NativeWorks$Source" 3 ⟨"java/lang/Object", "<init>", "()V"⟩ ∈ rTs := List.mem_append_left _ (rBm1 (List.mem_of_getElem? (i := 43) rfl))
set_option maxRecDepth 100000 in
theorem kw92 : Cond.fieldLink "NativeWorks$Source" 9 "NativeWorks$Source" "bytes" "[B" ∈ rTs := List.mem_append_left _ (rBm1 (List.mem_of_getElem? (i := 44) rfl))
set_option maxRecDepth 100000 in
theorem kw93 : Cond.fieldLink "NativeWorks$Source" 15 "NativeWorks$Source" "words" "LNativeWorks$Names;" ∈ rTs := List.mem_append_left _ (rBm1 (List.mem_of_getElem? (i := 45) rfl))
set_option maxRecDepth 100000 in
theorem kw94 : Cond.constant "NativeWorks$Source" 19 (nI 65538) ∈ rTs := List.mem_append_left _ (rBm1 (List.mem_of_getElem? (i := 46) (by decide +kernel)))
set_option maxRecDepth 100000 in
theorem kw95 : Cond.fieldLink "NativeWorks$Source" 20 "NativeWorks$Source" "lineAt" "[I" ∈ rTs := List.mem_append_left _ (rBm1 (List.mem_of_getElem? (i := 47) rfl))
set_option maxRecDepth 100000 in
theorem kw96 : Cond.constant "NativeWorks$Source" 24 (nI 65537) ∈ rTs := List.mem_append_left _ (rBm2 (List.mem_of_getElem? (i := 0) (by decide +kernel)))
set_option maxRecDepth 100000 in
theorem kw97 : Cond.fieldLink "NativeWorks$Source" 25 "NativeWorks$Source" "sorts" "[B" ∈ rTs := List.mem_append_left _ (rBm2 (List.mem_of_getElem? (i := 1) rfl))
set_option maxRecDepth 100000 in
theorem kw98 : Cond.fieldLink "NativeWorks$Source" 28 "NativeWorks$Source" "ifEnds" "[I" ∈ rTs := List.mem_append_left _ (rBm2 (List.mem_of_getElem? (i := 2) rfl))
set_option maxRecDepth 100000 in
theorem kw99 : Cond.fieldLink "NativeWorks$Source" 31 "NativeWorks$Source" "elses" "[I" ∈ rTs := List.mem_append_left _ (rBm2 (List.mem_of_getElem? (i := 3) rfl))
set_option maxRecDepth 100000 in
theorem kw100 : Cond.fieldLink "NativeWorks$Source" 34 "NativeWorks$Source" "reptEnds" "[I" ∈ rTs := List.mem_append_left _ (rBm2 (List.mem_of_getElem? (i := 4) rfl))
set_option maxRecDepth 100000 in
theorem kw101 : Cond.classLink "NativeWorks$Source" 37 "NativeWorks$Names" ∈ rTs := List.mem_append_left _ (rBm2 (List.mem_of_getElem? (i := 5) rfl))
set_option maxRecDepth 100000 in
theorem kw102 : Cond.constant "NativeWorks$Source" 39 (nI 65536) ∈ rTs := List.mem_append_left _ (rBm2 (List.mem_of_getElem? (i := 6) (by decide +kernel)))
set_option maxRecDepth 100000 in
theorem kw103 : Cond.methodLink "NativeWorks$Source" 40 ⟨"NativeWorks$Names", "<init>", "(II)V"⟩ ∈ rTs := List.mem_append_left _ (rBm2 (List.mem_of_getElem? (i := 7) rfl))
set_option maxRecDepth 100000 in
theorem kw104 : Cond.fieldLink "NativeWorks$Source" 43 "NativeWorks$Source" "macros" "LNativeWorks$Names;" ∈ rTs := List.mem_append_left _ (rBm2 (List.mem_of_getElem? (i := 8) rfl))
set_option maxRecDepth 100000 in
theorem kw105 : Cond.fieldLink "NativeWorks$Source" 46 "NativeWorks$Source" "bodyFrom" "[I" ∈ rTs := List.mem_append_left _ (rBm2 (List.mem_of_getElem? (i := 9) rfl))
set_option maxRecDepth 100000 in
theorem kw106 : Cond.fieldLink "NativeWorks$Source" 49 "NativeWorks$Source" "bodyTo" "[I" ∈ rTs := List.mem_append_left _ (rBm2 (List.mem_of_getElem? (i := 10) rfl))
set_option maxRecDepth 100000 in
theorem kw107 : Cond.fieldLink "NativeWorks$Source" 52 "NativeWorks$Source" "firstParamete\x72" "[I" ∈ rTs := List.mem_append_left _ (rBm2 (List.mem_of_getElem? (i := 11) rfl))
set_option maxRecDepth 100000 in
theorem kw108 : Cond.constant "NativeWorks$Source" 55 (nI 32768) ∈ rTs := List.mem_append_left _ (rBm2 (List.mem_of_getElem? (i := 12) (by decide +kernel)))
set_option maxRecDepth 100000 in
theorem kw109 : Cond.fieldLink "NativeWorks$Source" 56 "NativeWorks$Source" "parameterFrom" "[I" ∈ rTs := List.mem_append_left _ (rBm2 (List.mem_of_getElem? (i := 13) rfl))
set_option maxRecDepth 100000 in
theorem kw110 : Cond.fieldLink "NativeWorks$Source" 59 "NativeWorks$Source" "parameterTo" "[I" ∈ rTs := List.mem_append_left _ (rBm2 (List.mem_of_getElem? (i := 14) rfl))
set_option maxRecDepth 100000 in
theorem kw111 : Cond.fieldLink "NativeWorks$Source" 62 "NativeWorks$Source" "lines" "I" ∈ rTs := List.mem_append_left _ (rBm2 (List.mem_of_getElem? (i := 15) rfl))
set_option maxRecDepth 100000 in
theorem kw112 : Cond.methodLink "NativeWorks$Reade\x72" 3 ⟨"java/lang/Object", "<init>", "()V"⟩ ∈ rTs := List.mem_append_left _ (rBm2 (List.mem_of_getElem? (i := 16) rfl))
set_option maxRecDepth 100000 in
theorem kw113 : Cond.fieldLink "NativeWorks$Reade\x72" 9 "NativeWorks$Reade\x72" "source" "LNativeWorks$Source;" ∈ rTs := List.mem_append_left _ (rBm2 (List.mem_of_getElem? (i := 17) rfl))
set_option maxRecDepth 100000 in
theorem kw114 : Cond.fieldLink "NativeWorks$Reade\x72" 15 "NativeWorks$Reade\x72" "line" "LNativeWorks$Line;" ∈ rTs := List.mem_append_left _ (rBm2 (List.mem_of_getElem? (i := 18) rfl))
set_option maxRecDepth 100000 in
theorem kw115 : Cond.fieldLink "NativeWorks$Reade\x72" 19 "NativeWorks$Reade\x72" "first" "[I" ∈ rTs := List.mem_append_left _ (rBm2 (List.mem_of_getElem? (i := 19) rfl))
set_option maxRecDepth 100000 in
theorem kw116 : Cond.fieldLink "NativeWorks$Reade\x72" 23 "NativeWorks$Reade\x72" "end" "[I" ∈ rTs := List.mem_append_left _ (rBm2 (List.mem_of_getElem? (i := 20) rfl))
set_option maxRecDepth 100000 in
theorem kw117 : Cond.fieldLink "NativeWorks$Reade\x72" 26 "NativeWorks$Reade\x72" "next" "[I" ∈ rTs := List.mem_append_left _ (rBm2 (List.mem_of_getElem? (i := 21) rfl))
set_option maxRecDepth 100000 in
theorem kw118 : Cond.fieldLink "NativeWorks$Reade\x72" 29 "NativeWorks$Reade\x72" "left" "[I" ∈ rTs := List.mem_append_left _ (rBm2 (List.mem_of_getElem? (i := 22) rfl))
set_option maxRecDepth 100000 in
theorem kw119 : Cond.fieldLink "NativeWorks$Reade\x72" 32 "NativeWorks$Reade\x72" "make\x72" "[I" ∈ rTs := List.mem_append_left _ (rBm2 (List.mem_of_getElem? (i := 23) rfl))
set_option maxRecDepth 100000 in
theorem kw120 : Cond.fieldLink "NativeWorks$Reade\x72" 35 "NativeWorks$Reade\x72" "ifsBelow" "[I" ∈ rTs := List.mem_append_left _ (rBm2 (List.mem_of_getElem? (i := 24) rfl))
set_option maxRecDepth 100000 in
theorem kw121 : Cond.fieldLink "NativeWorks$Reade\x72" 38 "NativeWorks$Reade\x72" "macro" "[I" ∈ rTs := List.mem_append_left _ (rBm2 (List.mem_of_getElem? (i := 25) rfl))
set_option maxRecDepth 100000 in
theorem kw122 : Cond.fieldLink "NativeWorks$Reade\x72" 41 "NativeWorks$Reade\x72" "made" "[I" ∈ rTs := List.mem_append_left _ (rBm2 (List.mem_of_getElem? (i := 26) rfl))
set_option maxRecDepth 100000 in
theorem kw123 : Cond.fieldLink "NativeWorks$Reade\x72" 46 "NativeWorks$Reade\x72" "arguments" "[B" ∈ rTs := List.mem_append_left _ (rBm2 (List.mem_of_getElem? (i := 27) rfl))
set_option maxRecDepth 100000 in
theorem kw124 : Cond.fieldLink "NativeWorks$Reade\x72" 50 "NativeWorks$Reade\x72" "argumentFrom" "[I" ∈ rTs := List.mem_append_left _ (rBm2 (List.mem_of_getElem? (i := 28) rfl))
set_option maxRecDepth 100000 in
theorem kw125 : Cond.fieldLink "NativeWorks$Reade\x72" 53 "NativeWorks$Reade\x72" "argumentTo" "[I" ∈ rTs := List.mem_append_left _ (rBm2 (List.mem_of_getElem? (i := 29) rfl))
set_option maxRecDepth 100000 in
theorem kw126 : Cond.arrayClass FieldType.boolean ∈ rTs := List.mem_append_left _ (rBm2 (List.mem_of_getElem? (i := 30) rfl))
set_option maxRecDepth 100000 in
theorem kw127 : Cond.fieldLink "NativeWorks$Reade\x72" 56 "NativeWorks$Reade\x72" "elseRead" "[Z" ∈ rTs := List.mem_append_left _ (rBm2 (List.mem_of_getElem? (i := 31) rfl))
set_option maxRecDepth 100000 in
theorem kw128 : Cond.methodLink "NativeWorks$Expression" 3 ⟨"java/lang/Object", "<init>", "()V"⟩ ∈ rTs := List.mem_append_left _ (rBm2 (List.mem_of_getElem? (i := 32) rfl))
set_option maxRecDepth 100000 in
theorem kw129 : Cond.fieldLink "NativeWorks$Expression" 9 "NativeWorks$Expression" "line" "LNativeWorks$Line;" ∈ rTs := List.mem_append_left _ (rBm2 (List.mem_of_getElem? (i := 33) rfl))
set_option maxRecDepth 100000 in
theorem kw130 : Cond.fieldLink "NativeWorks$Expression" 15 "NativeWorks$Expression" "units" "LNativeWorks$Units;" ∈ rTs := List.mem_append_left _ (rBm2 (List.mem_of_getElem? (i := 34) rfl))
set_option maxRecDepth 100000 in
theorem kw131 : Cond.fieldLink "NativeWorks$Expression" 21 "NativeWorks$Expression" "numbe\x72" "[J" ∈ rTs := List.mem_append_left _ (rBm2 (List.mem_of_getElem? (i := 35) rfl))
set_option maxRecDepth 100000 in
theorem kw132 : Cond.fieldLink "NativeWorks$Expression" 25 "NativeWorks$Expression" "plus" "[I" ∈ rTs := List.mem_append_left _ (rBm2 (List.mem_of_getElem? (i := 36) rfl))
set_option maxRecDepth 100000 in
theorem kw133 : Cond.fieldLink "NativeWorks$Expression" 29 "NativeWorks$Expression" "minus" "[I" ∈ rTs := List.mem_append_left _ (rBm2 (List.mem_of_getElem? (i := 37) rfl))
set_option maxRecDepth 100000 in
theorem kw134 : Cond.fieldLink "NativeWorks$Expression" 32 "NativeWorks$Expression" "signs" "[I" ∈ rTs := List.mem_append_left _ (rBm2 (List.mem_of_getElem? (i := 38) rfl))
set_option maxRecDepth 100000 in
theorem kw135 : Cond.fieldLink "NativeWorks$Expression" 35 "NativeWorks$Expression" "name" "[B" ∈ rTs := List.mem_append_left _ (rBm2 (List.mem_of_getElem? (i := 39) rfl))
set_option maxRecDepth 100000 in
theorem kw136 : Cond.fieldLink "NativeWorks$Expression" 39 "NativeWorks$Expression" "latest" "[B" ∈ rTs := List.mem_append_left _ (rBm2 (List.mem_of_getElem? (i := 40) rfl))
set_option maxRecDepth 100000 in
theorem kw137 : Cond.fieldLink "NativeWorks$Instruction" 18 "NativeWorks$Instruction" "rows" "[I" ∈ rTs := List.mem_append_left _ (rBm2 (List.mem_of_getElem? (i := 41) rfl))
set_option maxRecDepth 100000 in
theorem kw138 : Cond.fieldLink "NativeWorks$Instruction" 53 "NativeWorks$Instruction" "L_AT" "[I" ∈ rTs := List.mem_append_left _ (rBm2 (List.mem_of_getElem? (i := 42) rfl))
set_option maxRecDepth 100000 in
theorem kw139 : Cond.code ⟨"NativeWorks$Instruction", "isConditional", "(I)Z"⟩ prog_4_method_3_code 1 (Option.some FieldType.boolean) ∈ rTs := List.mem_append_left _ (rBm2 (List.mem_of_getElem? (i := 43) rfl))
set_option maxRecDepth 100000 in
theorem kw140 : Cond.methodLink "NativeWorks$Instruction" 56 ⟨"NativeWorks$Instruction", "isConditional", "(I)Z"⟩ ∈ rTs := List.mem_append_left _ (rBm2 (List.mem_of_getElem? (i := 44) rfl))
set_option maxRecDepth 100000 in
theorem kw141 : Cond.static ⟨"NativeWorks$Instruction", "isConditional", "(I)Z"⟩ ∈ rTs := List.mem_append_left _ (rBm2 (List.mem_of_getElem? (i := 45) rfl))
set_option maxRecDepth 100000 in
theorem kw142 : Cond.initialized "NativeWorks$Instruction" ∈ rTs := List.mem_append_left _ (rBm2 (List.mem_of_getElem? (i := 46) rfl))
set_option maxRecDepth 100000 in
theorem kw143 : Cond.fieldLink "NativeWorks$Instruction" 24 "NativeWorks$Instruction" "rowAt" "[I" ∈ rTs := List.mem_append_left _ (rBm2 (List.mem_of_getElem? (i := 47) rfl))
set_option maxRecDepth 100000 in
theorem kw144 : Cond.methodLink "NativeWorks$Instruction" 3 ⟨"java/lang/Object", "<init>", "()V"⟩ ∈ rTs := List.mem_append_left _ (rBm3 (List.mem_of_getElem? (i := 0) rfl))
set_option maxRecDepth 100000 in
theorem kw145 : Cond.fieldLink "NativeWorks$Instruction" 9 "NativeWorks$Instruction" "ARITHMETIC" "[I" ∈ rTs := List.mem_append_left _ (rBm3 (List.mem_of_getElem? (i := 1) rfl))
set_option maxRecDepth 100000 in
theorem kw146 : Cond.fieldLink "NativeWorks$Instruction" 15 "NativeWorks$Instruction" "TABLE" "[I" ∈ rTs := List.mem_append_left _ (rBm3 (List.mem_of_getElem? (i := 2) rfl))
set_option maxRecDepth 100000 in
theorem kw147 : Cond.fieldLink "NativeWorks$Instruction" 21 "NativeWorks$Instruction" "firstRow" "[I" ∈ rTs := List.mem_append_left _ (rBm3 (List.mem_of_getElem? (i := 3) rfl))
set_option maxRecDepth 100000 in
theorem kw148 : Cond.fieldLink "NativeWorks$Instruction" 27 "NativeWorks$Instruction" "kind" "[I" ∈ rTs := List.mem_append_left _ (rBm3 (List.mem_of_getElem? (i := 4) rfl))
set_option maxRecDepth 100000 in
theorem kw149 : Cond.fieldLink "NativeWorks$Instruction" 30 "NativeWorks$Instruction" "reg" "[I" ∈ rTs := List.mem_append_left _ (rBm3 (List.mem_of_getElem? (i := 5) rfl))
set_option maxRecDepth 100000 in
theorem kw150 : Cond.fieldLink "NativeWorks$Instruction" 33 "NativeWorks$Instruction" "bytes" "[B" ∈ rTs := List.mem_append_left _ (rBm3 (List.mem_of_getElem? (i := 6) rfl))
set_option maxRecDepth 100000 in
theorem kw151 : Cond.methodLink "NativeWorks$Instruction" 37 ⟨"java/util/Arrays", "fill", "([II)V"⟩ ∈ rTs := List.mem_append_left _ (rBm3 (List.mem_of_getElem? (i := 7) rfl))
set_option maxRecDepth 100000 in
theorem kw152 : Cond.methodLink "NativeWorks$Instruction" 43 ⟨"java/lang/System", "arraycopy", "(Ljava/lang/Object;ILjava/lang/Object;II)V"⟩ ∈ rTs := List.mem_append_left _ (rBm3 (List.mem_of_getElem? (i := 8) rfl))
set_option maxRecDepth 100000 in
theorem kw153 : Cond.code ⟨"NativeWorks$Instruction", "ente\x72", "(I)V"⟩ prog_4_method_2_code 8 (Option.none : Option FieldType) ∈ rTs := List.mem_append_left _ (rBm3 (List.mem_of_getElem? (i := 9) rfl))
set_option maxRecDepth 100000 in
theorem kw154 : Cond.methodLink "NativeWorks$Instruction" 49 ⟨"NativeWorks$Instruction", "ente\x72", "(I)V"⟩ ∈ rTs := List.mem_append_left _ (rBm3 (List.mem_of_getElem? (i := 10) rfl))
set_option maxRecDepth 100000 in
theorem kw155 : Cond.instanceMethod ⟨"NativeWorks$Instruction", "ente\x72", "(I)V"⟩ ∈ rTs := List.mem_append_left _ (rBm3 (List.mem_of_getElem? (i := 11) rfl))
set_option maxRecDepth 100000 in
theorem kw156 : Cond.selects "NativeWorks$Instruction" ⟨"NativeWorks$Instruction", "ente\x72", "(I)V"⟩ ⟨"NativeWorks$Instruction", "ente\x72", "(I)V"⟩ ∈ rTs := List.mem_append_left _ (rBm3 (List.mem_of_getElem? (i := 12) rfl))
set_option maxRecDepth 100000 in
theorem kw157 : Cond.methodLink "NativeWorks$Assemble\x72" 3 ⟨"java/lang/Object", "<init>", "()V"⟩ ∈ rTs := List.mem_append_left _ (rBm3 (List.mem_of_getElem? (i := 13) rfl))
set_option maxRecDepth 100000 in
theorem kw158 : Cond.classLink "NativeWorks$Assemble\x72" 9 "NativeWorks$Line" ∈ rTs := List.mem_append_left _ (rBm3 (List.mem_of_getElem? (i := 14) rfl))
set_option maxRecDepth 100000 in
theorem kw159 : Cond.instantiable "NativeWorks$Line" 10 ∈ rTs := List.mem_append_left _ (rBm3 (List.mem_of_getElem? (i := 15) rfl))
set_option maxRecDepth 100000 in
theorem kw160 : Cond.code ⟨"NativeWorks$Line", "<init>", "()V"⟩ prog_5_method_1_code 1 (Option.none : Option FieldType) ∈ rTs := List.mem_append_left _ (rBm3 (List.mem_of_getElem? (i := 16) rfl))
set_option maxRecDepth 100000 in
theorem kw161 : Cond.methodLink "NativeWorks$Assemble\x72" 11 ⟨"NativeWorks$Line", "<init>", "()V"⟩ ∈ rTs := List.mem_append_left _ (rBm3 (List.mem_of_getElem? (i := 17) rfl))
set_option maxRecDepth 100000 in
theorem kw162 : Cond.instanceMethod ⟨"NativeWorks$Line", "<init>", "()V"⟩ ∈ rTs := List.mem_append_left _ (rBm3 (List.mem_of_getElem? (i := 18) rfl))
set_option maxRecDepth 100000 in
theorem kw163 : Cond.fieldLink "NativeWorks$Assemble\x72" 12 "NativeWorks$Assemble\x72" "line" "LNativeWorks$Line;" ∈ rTs := List.mem_append_left _ (rBm3 (List.mem_of_getElem? (i := 19) rfl))
set_option maxRecDepth 100000 in
theorem kw164 : Cond.fieldLink "NativeWorks$Assemble\x72" 18 "NativeWorks$Assemble\x72" "units" "LNativeWorks$Units;" ∈ rTs := List.mem_append_left _ (rBm3 (List.mem_of_getElem? (i := 20) rfl))
set_option maxRecDepth 100000 in
theorem kw165 : Cond.classLink "NativeWorks$Assemble\x72" 22 "NativeWorks$Reade\x72" ∈ rTs := List.mem_append_left _ (rBm3 (List.mem_of_getElem? (i := 21) rfl))
set_option maxRecDepth 100000 in
theorem kw166 : Cond.instantiable "NativeWorks$Reade\x72" 20 ∈ rTs := List.mem_append_left _ (rBm3 (List.mem_of_getElem? (i := 22) rfl))
set_option maxRecDepth 100000 in
theorem kw167 : Cond.initialized "NativeWorks$Reade\x72" ∈ rTs := List.mem_append_left _ (rBm3 (List.mem_of_getElem? (i := 23) rfl))
set_option maxRecDepth 100000 in
theorem kw168 : Cond.classLink "NativeWorks$Assemble\x72" 24 "NativeWorks$Source" ∈ rTs := List.mem_append_left _ (rBm3 (List.mem_of_getElem? (i := 24) rfl))
set_option maxRecDepth 100000 in
theorem kw169 : Cond.instantiable "NativeWorks$Source" 14 ∈ rTs := List.mem_append_left _ (rBm3 (List.mem_of_getElem? (i := 25) rfl))
set_option maxRecDepth 100000 in
theorem kw170 : Cond.initialized "NativeWorks$Source" ∈ rTs := List.mem_append_left _ (rBm3 (List.mem_of_getElem? (i := 26) rfl))
set_option maxRecDepth 100000 in
theorem kw171 : Cond.fieldLink "NativeWorks$Assemble\x72" 26 "NativeWorks$Line" "words" "LNativeWorks$Names;" ∈ rTs := List.mem_append_left _ (rBm3 (List.mem_of_getElem? (i := 27) rfl))
set_option maxRecDepth 100000 in
theorem kw172 : Cond.code ⟨"NativeWorks$Source", "<init>", "([BLNativeWorks$Names;)V"⟩ prog_11_method_1_code 3 (Option.none : Option FieldType) ∈ rTs := List.mem_append_left _ (rBm3 (List.mem_of_getElem? (i := 28) rfl))
set_option maxRecDepth 100000 in
theorem kw173 : Cond.methodLink "NativeWorks$Assemble\x72" 30 ⟨"NativeWorks$Source", "<init>", "([BLNativeWorks$Names;)V"⟩ ∈ rTs := List.mem_append_left _ (rBm3 (List.mem_of_getElem? (i := 29) rfl))
set_option maxRecDepth 100000 in
theorem kw174 : Cond.instanceMethod ⟨"NativeWorks$Source", "<init>", "([BLNativeWorks$Names;)V"⟩ ∈ rTs := List.mem_append_left _ (rBm3 (List.mem_of_getElem? (i := 30) rfl))
set_option maxRecDepth 100000 in
theorem kw175 : Cond.code ⟨"NativeWorks$Reade\x72", "<init>", "(LNativeWorks$Source;LNativeWorks$Line;)V"⟩ prog_10_method_1_code 3 (Option.none : Option FieldType) ∈ rTs := List.mem_append_left _ (rBm3 (List.mem_of_getElem? (i := 31) rfl))
set_option maxRecDepth 100000 in
theorem kw176 : Cond.methodLink "NativeWorks$Assemble\x72" 33 ⟨"NativeWorks$Reade\x72", "<init>", "(LNativeWorks$Source;LNativeWorks$Line;)V"⟩ ∈ rTs := List.mem_append_left _ (rBm3 (List.mem_of_getElem? (i := 32) rfl))
set_option maxRecDepth 100000 in
theorem kw177 : Cond.instanceMethod ⟨"NativeWorks$Reade\x72", "<init>", "(LNativeWorks$Source;LNativeWorks$Line;)V"⟩ ∈ rTs := List.mem_append_left _ (rBm3 (List.mem_of_getElem? (i := 33) rfl))
set_option maxRecDepth 100000 in
theorem kw178 : Cond.fieldLink "NativeWorks$Assemble\x72" 36 "NativeWorks$Assemble\x72" "reade\x72" "LNativeWorks$Reader;" ∈ rTs := List.mem_append_left _ (rBm3 (List.mem_of_getElem? (i := 34) rfl))
set_option maxRecDepth 100000 in
theorem kw179 : Cond.classLink "NativeWorks$Assemble\x72" 40 "NativeWorks$Expression" ∈ rTs := List.mem_append_left _ (rBm3 (List.mem_of_getElem? (i := 35) rfl))
set_option maxRecDepth 100000 in
theorem kw180 : Cond.instantiable "NativeWorks$Expression" 11 ∈ rTs := List.mem_append_left _ (rBm3 (List.mem_of_getElem? (i := 36) rfl))
set_option maxRecDepth 100000 in
theorem kw181 : Cond.initialized "NativeWorks$Expression" ∈ rTs := List.mem_append_left _ (rBm3 (List.mem_of_getElem? (i := 37) rfl))
set_option maxRecDepth 100000 in
theorem kw182 : Cond.code ⟨"NativeWorks$Expression", "<init>", "(LNativeWorks$Line;LNativeWorks$Units;)V"⟩ prog_3_method_1_code 3 (Option.none : Option FieldType) ∈ rTs := List.mem_append_left _ (rBm3 (List.mem_of_getElem? (i := 38) rfl))
set_option maxRecDepth 100000 in
theorem kw183 : Cond.methodLink "NativeWorks$Assemble\x72" 42 ⟨"NativeWorks$Expression", "<init>", "(LNativeWorks$Line;LNativeWorks$Units;)V"⟩ ∈ rTs := List.mem_append_left _ (rBm3 (List.mem_of_getElem? (i := 39) rfl))
set_option maxRecDepth 100000 in
theorem kw184 : Cond.instanceMethod ⟨"NativeWorks$Expression", "<init>", "(LNativeWorks$Line;LNativeWorks$Units;)V"⟩ ∈ rTs := List.mem_append_left _ (rBm3 (List.mem_of_getElem? (i := 40) rfl))
set_option maxRecDepth 100000 in
theorem kw185 : Cond.fieldLink "NativeWorks$Assemble\x72" 45 "NativeWorks$Assemble\x72" "expression" "LNativeWorks$Expression;" ∈ rTs := List.mem_append_left _ (rBm3 (List.mem_of_getElem? (i := 41) rfl))
set_option maxRecDepth 100000 in
theorem kw186 : Cond.classLink "NativeWorks$Assemble\x72" 49 "NativeWorks$Instruction" ∈ rTs := List.mem_append_left _ (rBm3 (List.mem_of_getElem? (i := 42) rfl))
set_option maxRecDepth 100000 in
theorem kw187 : Cond.instantiable "NativeWorks$Instruction" 21 ∈ rTs := List.mem_append_left _ (rBm3 (List.mem_of_getElem? (i := 43) rfl))
set_option maxRecDepth 100000 in
theorem kw188 : Cond.code ⟨"NativeWorks$Instruction", "<init>", "()V"⟩ prog_4_method_1_code 6 (Option.none : Option FieldType) ∈ rTs := List.mem_append_left _ (rBm3 (List.mem_of_getElem? (i := 44) rfl))
set_option maxRecDepth 100000 in
theorem kw189 : Cond.methodLink "NativeWorks$Assemble\x72" 51 ⟨"NativeWorks$Instruction", "<init>", "()V"⟩ ∈ rTs := List.mem_append_left _ (rBm3 (List.mem_of_getElem? (i := 45) rfl))
set_option maxRecDepth 100000 in
theorem kw190 : Cond.instanceMethod ⟨"NativeWorks$Instruction", "<init>", "()V"⟩ ∈ rTs := List.mem_append_left _ (rBm3 (List.mem_of_getElem? (i := 46) rfl))
set_option maxRecDepth 100000 in
theorem kw191 : Cond.fieldLink "NativeWorks$Assemble\x72" 52 "NativeWorks$Assemble\x72" "instruction" "LNativeWorks$Instruction;" ∈ rTs := List.mem_append_left _ (rBm3 (List.mem_of_getElem? (i := 47) rfl))
set_option maxRecDepth 100000 in
theorem kw192 : Cond.fieldLink "NativeWorks$Assemble\x72" 56 "NativeWorks$Assemble\x72" "told" "[I" ∈ rTs := List.mem_append_left _ (rBm4 (List.mem_of_getElem? (i := 0) rfl))
set_option maxRecDepth 100000 in
theorem kw193 : Cond.methodLink "NativeWorks$Linke\x72" 3 ⟨"java/lang/Object", "<init>", "()V"⟩ ∈ rTs := List.mem_append_left _ (rBm4 (List.mem_of_getElem? (i := 1) rfl))
set_option maxRecDepth 100000 in
theorem kw194 : Cond.fieldLink "NativeWorks$Linke\x72" 9 "NativeWorks$Linke\x72" "units" "LNativeWorks$Units;" ∈ rTs := List.mem_append_left _ (rBm4 (List.mem_of_getElem? (i := 2) rfl))
set_option maxRecDepth 100000 in
theorem kw195 : Cond.fieldLink "NativeWorks$Linke\x72" 17 "NativeWorks$Linke\x72" "taken" "[Z" ∈ rTs := List.mem_append_left _ (rBm4 (List.mem_of_getElem? (i := 3) rfl))
set_option maxRecDepth 100000 in
theorem kw196 : Cond.fieldLink "NativeWorks$Linke\x72" 21 "NativeWorks$Linke\x72" "needed" "[Z" ∈ rTs := List.mem_append_left _ (rBm4 (List.mem_of_getElem? (i := 4) rfl))
set_option maxRecDepth 100000 in
theorem kw197 : Cond.fieldLink "NativeWorks$Linke\x72" 24 "NativeWorks$Linke\x72" "places" "[I" ∈ rTs := List.mem_append_left _ (rBm4 (List.mem_of_getElem? (i := 5) rfl))
set_option maxRecDepth 100000 in
theorem kw198 : Cond.fieldLink "NativeWorks$Linke\x72" 28 "NativeWorks$Linke\x72" "stands" "[I" ∈ rTs := List.mem_append_left _ (rBm4 (List.mem_of_getElem? (i := 6) rfl))
set_option maxRecDepth 100000 in
theorem kw199 : Cond.fieldLink "NativeWorks$Linke\x72" 31 "NativeWorks$Linke\x72" "from" "[I" ∈ rTs := List.mem_append_left _ (rBm4 (List.mem_of_getElem? (i := 7) rfl))
set_option maxRecDepth 100000 in
theorem kw200 : Cond.fieldLink "NativeWorks$Linke\x72" 34 "NativeWorks$Linke\x72" "to" "[I" ∈ rTs := List.mem_append_left _ (rBm4 (List.mem_of_getElem? (i := 8) rfl))
set_option maxRecDepth 100000 in
theorem kw201 : Cond.constant "NativeWorks$Linke\x72" 37 (nI 131072) ∈ rTs := List.mem_append_left _ (rBm4 (List.mem_of_getElem? (i := 9) (by decide +kernel)))
set_option maxRecDepth 100000 in
theorem kw202 : Cond.fieldLink "NativeWorks$Linke\x72" 38 "NativeWorks$Linke\x72" "bytes" "[B" ∈ rTs := List.mem_append_left _ (rBm4 (List.mem_of_getElem? (i := 10) rfl))
set_option maxRecDepth 100000 in
theorem kw203 : Cond.fieldLink "NativeWorks$Linke\x72" 42 "NativeWorks$Linke\x72" "origins" "[I" ∈ rTs := List.mem_append_left _ (rBm4 (List.mem_of_getElem? (i := 11) rfl))
set_option maxRecDepth 100000 in
theorem kw204 : Cond.classLink "NativeWorks$Linke\x72" 45 "NativeWorks$Names" ∈ rTs := List.mem_append_left _ (rBm4 (List.mem_of_getElem? (i := 12) rfl))
set_option maxRecDepth 100000 in
theorem kw205 : Cond.constant "NativeWorks$Linke\x72" 47 (nI 129024) ∈ rTs := List.mem_append_left _ (rBm4 (List.mem_of_getElem? (i := 13) (by decide +kernel)))
set_option maxRecDepth 100000 in
theorem kw206 : Cond.methodLink "NativeWorks$Linke\x72" 48 ⟨"NativeWorks$Names", "<init>", "(II)V"⟩ ∈ rTs := List.mem_append_left _ (rBm4 (List.mem_of_getElem? (i := 14) rfl))
set_option maxRecDepth 100000 in
theorem kw207 : Cond.fieldLink "NativeWorks$Linke\x72" 51 "NativeWorks$Linke\x72" "names" "LNativeWorks$Names;" ∈ rTs := List.mem_append_left _ (rBm4 (List.mem_of_getElem? (i := 15) rfl))
set_option maxRecDepth 100000 in
theorem kw208 : Cond.fieldLink "NativeWorks$Linke\x72" 55 "NativeWorks$Linke\x72" "addresses" "[J" ∈ rTs := List.mem_append_left _ (rBm4 (List.mem_of_getElem? (i := 16) rfl))
set_option maxRecDepth 100000 in
theorem kw209 : Cond.methodLink "NativeWorks$Linke\x72" 59 ⟨"java/util/Arrays", "fill", "([II)V"⟩ ∈ rTs := List.mem_append_left _ (rBm4 (List.mem_of_getElem? (i := 17) rfl))
set_option maxRecDepth 100000 in
theorem kw210 : Cond.methodLink "NativeWorks$Memory" 3 ⟨"java/lang/Object", "<init>", "()V"⟩ ∈ rTs := List.mem_append_left _ (rBm4 (List.mem_of_getElem? (i := 18) rfl))
set_option maxRecDepth 100000 in
theorem kw211 : Cond.constant "NativeWorks$Memory" 13 (nI 196608) ∈ rTs := List.mem_append_left _ (rBm4 (List.mem_of_getElem? (i := 19) (by decide +kernel)))
set_option maxRecDepth 100000 in
theorem kw212 : Cond.fieldLink "NativeWorks$Memory" 14 "NativeWorks$Memory" "low" "[B" ∈ rTs := List.mem_append_left _ (rBm4 (List.mem_of_getElem? (i := 20) rfl))
set_option maxRecDepth 100000 in
theorem kw213 : Cond.constant "NativeWorks$Memory" 18 (nI 65536) ∈ rTs := List.mem_append_left _ (rBm4 (List.mem_of_getElem? (i := 21) (by decide +kernel)))
set_option maxRecDepth 100000 in
theorem kw214 : Cond.fieldLink "NativeWorks$Memory" 19 "NativeWorks$Memory" "stack" "[B" ∈ rTs := List.mem_append_left _ (rBm4 (List.mem_of_getElem? (i := 22) rfl))
set_option maxRecDepth 100000 in
theorem kw215 : Cond.constant "NativeWorks$Memory" 22 (nI 131072) ∈ rTs := List.mem_append_left _ (rBm4 (List.mem_of_getElem? (i := 23) (by decide +kernel)))
set_option maxRecDepth 100000 in
theorem kw216 : Cond.fieldLink "NativeWorks$Memory" 23 "NativeWorks$Memory" "begins" "[Z" ∈ rTs := List.mem_append_left _ (rBm4 (List.mem_of_getElem? (i := 24) rfl))
set_option maxRecDepth 100000 in
theorem kw217 : Cond.fieldLink "NativeWorks$Memory" 27 "NativeWorks$Memory" "loaded" "Z" ∈ rTs := List.mem_append_left _ (rBm4 (List.mem_of_getElem? (i := 25) rfl))
set_option maxRecDepth 100000 in
theorem kw218 : Cond.constantLong "NativeWorks$Memory" 31 (lN 4194304) ∈ rTs := List.mem_append_left _ (rBm4 (List.mem_of_getElem? (i := 26) (by decide +kernel)))
set_option maxRecDepth 100000 in
theorem kw219 : Cond.fieldLink "NativeWorks$Memory" 33 "NativeWorks$Memory" "heap" "J" ∈ rTs := List.mem_append_left _ (rBm4 (List.mem_of_getElem? (i := 27) rfl))
set_option maxRecDepth 100000 in
theorem kw220 : Cond.fieldLink "NativeWorks$Memory" 37 "NativeWorks$Memory" "end" "J" ∈ rTs := List.mem_append_left _ (rBm4 (List.mem_of_getElem? (i := 28) rfl))
set_option maxRecDepth 100000 in
theorem kw221 : Cond.methodLink "NativeWorks$Machine" 3 ⟨"java/lang/Object", "<init>", "()V"⟩ ∈ rTs := List.mem_append_left _ (rBm4 (List.mem_of_getElem? (i := 29) rfl))
set_option maxRecDepth 100000 in
theorem kw222 : Cond.classLink "NativeWorks$Machine" 9 "NativeWorks$Memory" ∈ rTs := List.mem_append_left _ (rBm4 (List.mem_of_getElem? (i := 30) rfl))
set_option maxRecDepth 100000 in
theorem kw223 : Cond.instantiable "NativeWorks$Memory" 12 ∈ rTs := List.mem_append_left _ (rBm4 (List.mem_of_getElem? (i := 31) rfl))
set_option maxRecDepth 100000 in
theorem kw224 : Cond.initialized "NativeWorks$Memory" ∈ rTs := List.mem_append_left _ (rBm4 (List.mem_of_getElem? (i := 32) rfl))
set_option maxRecDepth 100000 in
theorem kw225 : Cond.code ⟨"NativeWorks$Memory", "<init>", "()V"⟩ prog_8_method_1_code 1 (Option.none : Option FieldType) ∈ rTs := List.mem_append_left _ (rBm4 (List.mem_of_getElem? (i := 33) rfl))
set_option maxRecDepth 100000 in
theorem kw226 : Cond.methodLink "NativeWorks$Machine" 11 ⟨"NativeWorks$Memory", "<init>", "()V"⟩ ∈ rTs := List.mem_append_left _ (rBm4 (List.mem_of_getElem? (i := 34) rfl))
set_option maxRecDepth 100000 in
theorem kw227 : Cond.instanceMethod ⟨"NativeWorks$Memory", "<init>", "()V"⟩ ∈ rTs := List.mem_append_left _ (rBm4 (List.mem_of_getElem? (i := 35) rfl))
set_option maxRecDepth 100000 in
theorem kw228 : Cond.fieldLink "NativeWorks$Machine" 12 "NativeWorks$Machine" "memory" "LNativeWorks$Memory;" ∈ rTs := List.mem_append_left _ (rBm4 (List.mem_of_getElem? (i := 36) rfl))
set_option maxRecDepth 100000 in
theorem kw229 : Cond.classLink "NativeWorks$Machine" 18 "NativeWorks$Instruction" ∈ rTs := List.mem_append_left _ (rBm4 (List.mem_of_getElem? (i := 37) rfl))
set_option maxRecDepth 100000 in
theorem kw230 : Cond.methodLink "NativeWorks$Machine" 20 ⟨"NativeWorks$Instruction", "<init>", "()V"⟩ ∈ rTs := List.mem_append_left _ (rBm4 (List.mem_of_getElem? (i := 38) rfl))
set_option maxRecDepth 100000 in
theorem kw231 : Cond.fieldLink "NativeWorks$Machine" 21 "NativeWorks$Machine" "it" "LNativeWorks$Instruction;" ∈ rTs := List.mem_append_left _ (rBm4 (List.mem_of_getElem? (i := 39) rfl))
set_option maxRecDepth 100000 in
theorem kw232 : Cond.fieldLink "NativeWorks$Machine" 25 "NativeWorks$Machine" "\x72" "[J" ∈ rTs := List.mem_append_left _ (rBm4 (List.mem_of_getElem? (i := 40) rfl))
set_option maxRecDepth 100000 in
theorem kw233 : Cond.constant "NativeWorks$Machine" 29 (nI 65536) ∈ rTs := List.mem_append_left _ (rBm4 (List.mem_of_getElem? (i := 41) (by decide +kernel)))
set_option maxRecDepth 100000 in
theorem kw234 : Cond.fieldLink "NativeWorks$Machine" 30 "NativeWorks$Machine" "input" "[B" ∈ rTs := List.mem_append_left _ (rBm4 (List.mem_of_getElem? (i := 42) rfl))
set_option maxRecDepth 100000 in
theorem kw235 : Cond.fieldLink "NativeWorks$Machine" 34 "NativeWorks$Machine" "output" "[B" ∈ rTs := List.mem_append_left _ (rBm4 (List.mem_of_getElem? (i := 43) rfl))
set_option maxRecDepth 100000 in
theorem kw236 : Cond.fieldLink "NativeWorks$Machine" 37 "NativeWorks$Machine" "stops" "[J" ∈ rTs := List.mem_append_left _ (rBm4 (List.mem_of_getElem? (i := 44) rfl))
set_option maxRecDepth 100000 in
theorem kw237 : Cond.methodLink "NativeWorks" 1 ⟨"java/lang/Object", "<init>", "()V"⟩ ∈ rTs := List.mem_append_left _ (rBm4 (List.mem_of_getElem? (i := 45) rfl))
set_option maxRecDepth 100000 in
theorem kw238 : Cond.constant "NativeWorks" 9 (nI 65536) ∈ rTs := List.mem_append_left _ (rBm4 (List.mem_of_getElem? (i := 46) (by decide +kernel)))
set_option maxRecDepth 100000 in
theorem kw239 : Cond.classLink "NativeWorks" 10 "NativeWorks$Units" ∈ rTs := List.mem_append_left _ (rBm4 (List.mem_of_getElem? (i := 47) rfl))
set_option maxRecDepth 100000 in
theorem kw240 : Cond.instantiable "NativeWorks$Units" 19 ∈ rTs := List.mem_append_left _ (rBm5 (List.mem_of_getElem? (i := 0) rfl))
set_option maxRecDepth 100000 in
theorem kw241 : Cond.initialized "NativeWorks$Units" ∈ rTs := List.mem_append_left _ (rBm5 (List.mem_of_getElem? (i := 1) rfl))
set_option maxRecDepth 100000 in
theorem kw242 : Cond.code ⟨"NativeWorks$Units", "<init>", "()V"⟩ prog_12_method_1_code 1 (Option.none : Option FieldType) ∈ rTs := List.mem_append_left _ (rBm5 (List.mem_of_getElem? (i := 2) rfl))
set_option maxRecDepth 100000 in
theorem kw243 : Cond.methodLink "NativeWorks" 12 ⟨"NativeWorks$Units", "<init>", "()V"⟩ ∈ rTs := List.mem_append_left _ (rBm5 (List.mem_of_getElem? (i := 3) rfl))
set_option maxRecDepth 100000 in
theorem kw244 : Cond.instanceMethod ⟨"NativeWorks$Units", "<init>", "()V"⟩ ∈ rTs := List.mem_append_left _ (rBm5 (List.mem_of_getElem? (i := 4) rfl))
set_option maxRecDepth 100000 in
theorem kw245 : Cond.fieldLink "NativeWorks" 13 "NativeWorks" "tape" "[B" ∈ rTs := List.mem_append_left _ (rBm5 (List.mem_of_getElem? (i := 5) rfl))
set_option maxRecDepth 100000 in
theorem kw246 : Cond.fieldLink "NativeWorks" 17 "NativeWorks" "units" "LNativeWorks$Units;" ∈ rTs := List.mem_append_left _ (rBm5 (List.mem_of_getElem? (i := 6) rfl))
set_option maxRecDepth 100000 in
theorem kw247 : Cond.classLink "NativeWorks" 21 "NativeWorks$Assemble\x72" ∈ rTs := List.mem_append_left _ (rBm5 (List.mem_of_getElem? (i := 7) rfl))
set_option maxRecDepth 100000 in
theorem kw248 : Cond.instantiable "NativeWorks$Assemble\x72" 15 ∈ rTs := List.mem_append_left _ (rBm5 (List.mem_of_getElem? (i := 8) rfl))
set_option maxRecDepth 100000 in
theorem kw249 : Cond.initialized "NativeWorks$Assemble\x72" ∈ rTs := List.mem_append_left _ (rBm5 (List.mem_of_getElem? (i := 9) rfl))
set_option maxRecDepth 100000 in
theorem kw250 : Cond.code ⟨"NativeWorks$Assemble\x72", "<init>", "([BLNativeWorks$Units;)V"⟩ prog_2_method_1_code 4 (Option.none : Option FieldType) ∈ rTs := List.mem_append_left _ (rBm5 (List.mem_of_getElem? (i := 10) rfl))
set_option maxRecDepth 100000 in
theorem kw251 : Cond.methodLink "NativeWorks" 23 ⟨"NativeWorks$Assemble\x72", "<init>", "([BLNativeWorks$Units;)V"⟩ ∈ rTs := List.mem_append_left _ (rBm5 (List.mem_of_getElem? (i := 11) rfl))
set_option maxRecDepth 100000 in
theorem kw252 : Cond.instanceMethod ⟨"NativeWorks$Assemble\x72", "<init>", "([BLNativeWorks$Units;)V"⟩ ∈ rTs := List.mem_append_left _ (rBm5 (List.mem_of_getElem? (i := 12) rfl))
set_option maxRecDepth 100000 in
theorem kw253 : Cond.fieldLink "NativeWorks" 26 "NativeWorks" "assemble\x72" "LNativeWorks$Assembler;" ∈ rTs := List.mem_append_left _ (rBm5 (List.mem_of_getElem? (i := 13) rfl))
set_option maxRecDepth 100000 in
theorem kw254 : Cond.classLink "NativeWorks" 30 "NativeWorks$Linke\x72" ∈ rTs := List.mem_append_left _ (rBm5 (List.mem_of_getElem? (i := 14) rfl))
set_option maxRecDepth 100000 in
theorem kw255 : Cond.instantiable "NativeWorks$Linke\x72" 18 ∈ rTs := List.mem_append_left _ (rBm5 (List.mem_of_getElem? (i := 15) rfl))
set_option maxRecDepth 100000 in
theorem kw256 : Cond.initialized "NativeWorks$Linke\x72" ∈ rTs := List.mem_append_left _ (rBm5 (List.mem_of_getElem? (i := 16) rfl))
set_option maxRecDepth 100000 in
theorem kw257 : Cond.code ⟨"NativeWorks$Linke\x72", "<init>", "(LNativeWorks$Units;)V"⟩ prog_6_method_1_code 2 (Option.none : Option FieldType) ∈ rTs := List.mem_append_left _ (rBm5 (List.mem_of_getElem? (i := 17) rfl))
set_option maxRecDepth 100000 in
theorem kw258 : Cond.methodLink "NativeWorks" 32 ⟨"NativeWorks$Linke\x72", "<init>", "(LNativeWorks$Units;)V"⟩ ∈ rTs := List.mem_append_left _ (rBm5 (List.mem_of_getElem? (i := 18) rfl))
set_option maxRecDepth 100000 in
theorem kw259 : Cond.instanceMethod ⟨"NativeWorks$Linke\x72", "<init>", "(LNativeWorks$Units;)V"⟩ ∈ rTs := List.mem_append_left _ (rBm5 (List.mem_of_getElem? (i := 19) rfl))
set_option maxRecDepth 100000 in
theorem kw260 : Cond.fieldLink "NativeWorks" 35 "NativeWorks" "linke\x72" "LNativeWorks$Linker;" ∈ rTs := List.mem_append_left _ (rBm5 (List.mem_of_getElem? (i := 20) rfl))
set_option maxRecDepth 100000 in
theorem kw261 : Cond.classLink "NativeWorks" 39 "NativeWorks$Machine" ∈ rTs := List.mem_append_left _ (rBm5 (List.mem_of_getElem? (i := 21) rfl))
set_option maxRecDepth 100000 in
theorem kw262 : Cond.instantiable "NativeWorks$Machine" 17 ∈ rTs := List.mem_append_left _ (rBm5 (List.mem_of_getElem? (i := 22) rfl))
set_option maxRecDepth 100000 in
theorem kw263 : Cond.initialized "NativeWorks$Machine" ∈ rTs := List.mem_append_left _ (rBm5 (List.mem_of_getElem? (i := 23) rfl))
set_option maxRecDepth 100000 in
theorem kw264 : Cond.code ⟨"NativeWorks$Machine", "<init>", "()V"⟩ prog_7_method_1_code 1 (Option.none : Option FieldType) ∈ rTs := List.mem_append_left _ (rBm5 (List.mem_of_getElem? (i := 24) rfl))
set_option maxRecDepth 100000 in
theorem kw265 : Cond.methodLink "NativeWorks" 41 ⟨"NativeWorks$Machine", "<init>", "()V"⟩ ∈ rTs := List.mem_append_left _ (rBm5 (List.mem_of_getElem? (i := 25) rfl))
set_option maxRecDepth 100000 in
theorem kw266 : Cond.instanceMethod ⟨"NativeWorks$Machine", "<init>", "()V"⟩ ∈ rTs := List.mem_append_left _ (rBm5 (List.mem_of_getElem? (i := 26) rfl))
set_option maxRecDepth 100000 in
theorem kw267 : Cond.fieldLink "NativeWorks" 42 "NativeWorks" "machine" "LNativeWorks$Machine;" ∈ rTs := List.mem_append_left _ (rBm5 (List.mem_of_getElem? (i := 27) rfl))
set_option maxRecDepth 100000 in
theorem kw268 : Cond.fieldLink "NativeWorks" 46 "NativeWorks" "fed" "I" ∈ rTs := List.mem_append_left _ (rBm5 (List.mem_of_getElem? (i := 28) rfl))
set_option maxRecDepth 100000 in
theorem kw269 : Cond.fieldLink "NativeWorks" 50 "NativeWorks" "faultKind" "I" ∈ rTs := List.mem_append_left _ (rBm5 (List.mem_of_getElem? (i := 29) rfl))
set_option maxRecDepth 100000 in
theorem kw270 : Cond.fieldLink "NativeWorks" 53 "NativeWorks" "faultLine" "I" ∈ rTs := List.mem_append_left _ (rBm5 (List.mem_of_getElem? (i := 30) rfl))
set_option maxRecDepth 100000 in
theorem kw271 : Cond.fieldLink "NativeWorks" 56 "NativeWorks" "faultUnit" "I" ∈ rTs := List.mem_append_left _ (rBm5 (List.mem_of_getElem? (i := 31) rfl))
set_option maxRecDepth 100000 in
theorem kw272 : Cond.methodLink "NativeWorksModel$Code" 3 ⟨"java/lang/Object", "<init>", "()V"⟩ ∈ rTs := List.mem_append_left _ (rBm5 (List.mem_of_getElem? (i := 32) rfl))
set_option maxRecDepth 100000 in
theorem kw273 : Cond.fieldLink "NativeWorksModel$Code" 9 "NativeWorksModel$Code" "address" "[I" ∈ rTs := List.mem_append_left _ (rBm5 (List.mem_of_getElem? (i := 33) rfl))
set_option maxRecDepth 100000 in
theorem kw274 : Cond.fieldLink "NativeWorksModel$Code" 15 "NativeWorksModel$Code" "where" "[I" ∈ rTs := List.mem_append_left _ (rBm5 (List.mem_of_getElem? (i := 34) rfl))
set_option maxRecDepth 100000 in
theorem kw275 : Cond.fieldLink "NativeWorksModel$Code" 18 "NativeWorksModel$Code" "shape" "[J" ∈ rTs := List.mem_append_left _ (rBm5 (List.mem_of_getElem? (i := 35) rfl))
set_option maxRecDepth 100000 in
theorem kw276 : Cond.fieldLink "NativeWorksModel$Code" 22 "NativeWorksModel$Code" "displacement" "[J" ∈ rTs := List.mem_append_left _ (rBm5 (List.mem_of_getElem? (i := 36) rfl))
set_option maxRecDepth 100000 in
theorem kw277 : Cond.fieldLink "NativeWorksModel$Code" 25 "NativeWorksModel$Code" "numbe\x72" "[J" ∈ rTs := List.mem_append_left _ (rBm5 (List.mem_of_getElem? (i := 37) rfl))
set_option maxRecDepth 100000 in
theorem kw278 : Cond.code ⟨"jdk/internal/util/Preconditions", "checkFromToIndex", "(IIILjava/util/function/BiFunction;)I"⟩ prog_41_method_12_code 4 (Option.some FieldType.int) ∈ rTs := List.mem_append_left _ (rBm5 (List.mem_of_getElem? (i := 38) rfl))
set_option maxRecDepth 100000 in
theorem kw279 : Cond.methodLink "java/lang/String" 1062 ⟨"jdk/internal/util/Preconditions", "checkFromToIndex", "(IIILjava/util/function/BiFunction;)I"⟩ ∈ rTs := List.mem_append_left _ (rBm5 (List.mem_of_getElem? (i := 39) rfl))
set_option maxRecDepth 100000 in
theorem kw280 : Cond.static ⟨"jdk/internal/util/Preconditions", "checkFromToIndex", "(IIILjava/util/function/BiFunction;)I"⟩ ∈ rTs := List.mem_append_left _ (rBm5 (List.mem_of_getElem? (i := 40) rfl))
set_option maxRecDepth 100000 in
theorem kw281 : Cond.code ⟨"java/util/Arrays", "checkLength", "(II)V"⟩ prog_38_method_131_code 2 (Option.none : Option FieldType) ∈ rTs := List.mem_append_left _ (rBm5 (List.mem_of_getElem? (i := 41) rfl))
set_option maxRecDepth 100000 in
theorem kw282 : Cond.methodLink "java/util/Arrays" 343 ⟨"java/util/Arrays", "checkLength", "(II)V"⟩ ∈ rTs := List.mem_append_left _ (rBm5 (List.mem_of_getElem? (i := 42) rfl))
set_option maxRecDepth 100000 in
theorem kw283 : Cond.static ⟨"java/util/Arrays", "checkLength", "(II)V"⟩ ∈ rTs := List.mem_append_left _ (rBm5 (List.mem_of_getElem? (i := 43) rfl))
set_option maxRecDepth 100000 in
theorem kw284 : Cond.methodLink "java/util/Arrays" 304 ⟨"java/lang/Math", "min", "(II)I"⟩ ∈ rTs := List.mem_append_left _ (rBm5 (List.mem_of_getElem? (i := 44) rfl))
set_option maxRecDepth 100000 in
theorem kw285 : Cond.static ⟨"java/lang/Math", "min", "(II)I"⟩ ∈ rTs := List.mem_append_left _ (rBm5 (List.mem_of_getElem? (i := 45) rfl))
set_option maxRecDepth 100000 in
theorem kw286 : Cond.initialized "java/lang/Math" ∈ rTs := List.mem_append_left _ (rBm5 (List.mem_of_getElem? (i := 46) rfl))
set_option maxRecDepth 100000 in
theorem kw287 : Cond.code ⟨"java/lang/Math", "min", "(II)I"⟩ prog_27_method_69_code 2 (Option.some FieldType.int) ∈ rTs := List.mem_append_left _ (rBm5 (List.mem_of_getElem? (i := 47) rfl))
set_option maxRecDepth 100000 in
theorem kw288 : Cond.methodLink "java/util/Arrays" 150 ⟨"java/lang/System", "arraycopy", "(Ljava/lang/Object;ILjava/lang/Object;II)V"⟩ ∈ rTs := List.mem_append_left _ (rBm6 (List.mem_of_getElem? (i := 0) rfl))
set_option maxRecDepth 100000 in
theorem kw289 : Cond.code ⟨"java/util/Arrays", "copyOfRangeByte", "([BII)[B"⟩ prog_38_method_133_code 5 (Option.some (FieldType.array FieldType.byte)) ∈ rTs := List.mem_append_left _ (rBm6 (List.mem_of_getElem? (i := 1) rfl))
set_option maxRecDepth 100000 in
theorem kw290 : Cond.methodLink "java/util/Arrays" 339 ⟨"java/util/Arrays", "copyOfRangeByte", "([BII)[B"⟩ ∈ rTs := List.mem_append_left _ (rBm6 (List.mem_of_getElem? (i := 2) rfl))
set_option maxRecDepth 100000 in
theorem kw291 : Cond.static ⟨"java/util/Arrays", "copyOfRangeByte", "([BII)[B"⟩ ∈ rTs := List.mem_append_left _ (rBm6 (List.mem_of_getElem? (i := 3) rfl))
set_option maxRecDepth 100000 in
theorem kw292 : Cond.methodLink "java/lang/String" 1 ⟨"java/lang/Object", "<init>", "()V"⟩ ∈ rTs := List.mem_append_left _ (rBm6 (List.mem_of_getElem? (i := 4) rfl))
set_option maxRecDepth 100000 in
theorem kw293 : Cond.classLink "java/lang/StringLatin1" 1 "java/lang/String" ∈ rTs := List.mem_append_left _ (rBm6 (List.mem_of_getElem? (i := 5) rfl))
set_option maxRecDepth 100000 in
theorem kw294 : Cond.instantiable "java/lang/String" 4 ∈ rTs := List.mem_append_left _ (rBm6 (List.mem_of_getElem? (i := 6) rfl))
set_option maxRecDepth 100000 in
theorem kw295 : Cond.code ⟨"java/util/Arrays", "copyOfRange", "([BII)[B"⟩ prog_38_method_132_code 3 (Option.some (FieldType.array FieldType.byte)) ∈ rTs := List.mem_append_left _ (rBm6 (List.mem_of_getElem? (i := 7) rfl))
set_option maxRecDepth 100000 in
theorem kw296 : Cond.methodLink "java/lang/StringLatin1" 232 ⟨"java/util/Arrays", "copyOfRange", "([BII)[B"⟩ ∈ rTs := List.mem_append_left _ (rBm6 (List.mem_of_getElem? (i := 8) rfl))
set_option maxRecDepth 100000 in
theorem kw297 : Cond.static ⟨"java/util/Arrays", "copyOfRange", "([BII)[B"⟩ ∈ rTs := List.mem_append_left _ (rBm6 (List.mem_of_getElem? (i := 9) rfl))
set_option maxRecDepth 100000 in
theorem kw298 : Cond.code ⟨"java/lang/String", "<init>", "([BB)V"⟩ prog_30_method_151_code 3 (Option.none : Option FieldType) ∈ rTs := List.mem_append_left _ (rBm6 (List.mem_of_getElem? (i := 10) rfl))
set_option maxRecDepth 100000 in
theorem kw299 : Cond.methodLink "java/lang/StringLatin1" 112 ⟨"java/lang/String", "<init>", "([BB)V"⟩ ∈ rTs := List.mem_append_left _ (rBm6 (List.mem_of_getElem? (i := 11) rfl))
set_option maxRecDepth 100000 in
theorem kw300 : Cond.instanceMethod ⟨"java/lang/String", "<init>", "([BB)V"⟩ ∈ rTs := List.mem_append_left _ (rBm6 (List.mem_of_getElem? (i := 12) rfl))
set_option maxRecDepth 100000 in
theorem kw301 : Cond.methodLink "java/lang/String" 505 ⟨"java/lang/String", "length", "()I"⟩ ∈ rTs := List.mem_append_left _ (rBm6 (List.mem_of_getElem? (i := 13) rfl))
set_option maxRecDepth 100000 in
theorem kw302 : Cond.code ⟨"java/lang/String", "checkBoundsBeginEnd", "(III)V"⟩ prog_30_method_158_code 3 (Option.none : Option FieldType) ∈ rTs := List.mem_append_left _ (rBm6 (List.mem_of_getElem? (i := 14) rfl))
set_option maxRecDepth 100000 in
theorem kw303 : Cond.methodLink "java/lang/String" 521 ⟨"java/lang/String", "checkBoundsBeginEnd", "(III)V"⟩ ∈ rTs := List.mem_append_left _ (rBm6 (List.mem_of_getElem? (i := 15) rfl))
set_option maxRecDepth 100000 in
theorem kw304 : Cond.static ⟨"java/lang/String", "checkBoundsBeginEnd", "(III)V"⟩ ∈ rTs := List.mem_append_left _ (rBm6 (List.mem_of_getElem? (i := 16) rfl))
set_option maxRecDepth 100000 in
theorem kw305 : Cond.code ⟨"java/lang/StringLatin1", "newString", "([BII)Ljava/lang/String;"⟩ prog_32_method_47_code 3 (Option.some (FieldType.object "java/lang/String")) ∈ rTs := List.mem_append_left _ (rBm6 (List.mem_of_getElem? (i := 17) rfl))
set_option maxRecDepth 100000 in
theorem kw306 : Cond.methodLink "java/lang/String" 685 ⟨"java/lang/StringLatin1", "newString", "([BII)Ljava/lang/String;"⟩ ∈ rTs := List.mem_append_left _ (rBm6 (List.mem_of_getElem? (i := 18) rfl))
set_option maxRecDepth 100000 in
theorem kw307 : Cond.static ⟨"java/lang/StringLatin1", "newString", "([BII)Ljava/lang/String;"⟩ ∈ rTs := List.mem_append_left _ (rBm6 (List.mem_of_getElem? (i := 19) rfl))
set_option maxRecDepth 100000 in
theorem kw308 : Cond.methodLink "NativeWorksModel" 469 ⟨"java/lang/String", "length", "()I"⟩ ∈ rTs := List.mem_append_left _ (rBm6 (List.mem_of_getElem? (i := 20) rfl))
set_option maxRecDepth 100000 in
theorem kw309 : Cond.methodLink "NativeWorksModel" 475 ⟨"java/lang/String", "charAt", "(I)C"⟩ ∈ rTs := List.mem_append_left _ (rBm6 (List.mem_of_getElem? (i := 21) rfl))
set_option maxRecDepth 100000 in
theorem kw310 : Cond.fieldLink "NativeWorksModel" 14 "NativeWorksModel" "wordName" "[J" ∈ rTs := List.mem_append_left _ (rBm6 (List.mem_of_getElem? (i := 22) rfl))
set_option maxRecDepth 100000 in
theorem kw311 : Cond.fieldLink "NativeWorksModel" 483 "NativeWorksModel" "words" "I" ∈ rTs := List.mem_append_left _ (rBm6 (List.mem_of_getElem? (i := 23) rfl))
set_option maxRecDepth 100000 in
theorem kw312 : Cond.code ⟨"NativeWorksModel", "pack", "(Ljava/lang/String;)J"⟩ prog_14_method_2_code 4 (Option.some FieldType.long) ∈ rTs := List.mem_append_left _ (rBm6 (List.mem_of_getElem? (i := 24) rfl))
set_option maxRecDepth 100000 in
theorem kw313 : Cond.methodLink "NativeWorksModel" 419 ⟨"NativeWorksModel", "pack", "(Ljava/lang/String;)J"⟩ ∈ rTs := List.mem_append_left _ (rBm6 (List.mem_of_getElem? (i := 25) rfl))
set_option maxRecDepth 100000 in
theorem kw314 : Cond.static ⟨"NativeWorksModel", "pack", "(Ljava/lang/String;)J"⟩ ∈ rTs := List.mem_append_left _ (rBm6 (List.mem_of_getElem? (i := 26) rfl))
set_option maxRecDepth 100000 in
theorem kw315 : Cond.initialized "NativeWorksModel" ∈ rTs := List.mem_append_left _ (rBm6 (List.mem_of_getElem? (i := 27) rfl))
set_option maxRecDepth 100000 in
theorem kw316 : Cond.fieldLink "NativeWorksModel" 21 "NativeWorksModel" "wordCode" "[I" ∈ rTs := List.mem_append_left _ (rBm6 (List.mem_of_getElem? (i := 28) rfl))
set_option maxRecDepth 100000 in
theorem kw317 : Cond.code ⟨"java/lang/String", "substring", "(II)Ljava/lang/String;"⟩ prog_30_method_92_code 5 (Option.some (FieldType.object "java/lang/String")) ∈ rTs := List.mem_append_left _ (rBm6 (List.mem_of_getElem? (i := 29) rfl))
set_option maxRecDepth 100000 in
theorem kw318 : Cond.methodLink "NativeWorksModel" 479 ⟨"java/lang/String", "substring", "(II)Ljava/lang/String;"⟩ ∈ rTs := List.mem_append_left _ (rBm6 (List.mem_of_getElem? (i := 30) rfl))
set_option maxRecDepth 100000 in
theorem kw319 : Cond.instanceMethod ⟨"java/lang/String", "substring", "(II)Ljava/lang/String;"⟩ ∈ rTs := List.mem_append_left _ (rBm6 (List.mem_of_getElem? (i := 31) rfl))
set_option maxRecDepth 100000 in
theorem kw320 : Cond.selects "java/lang/String" ⟨"java/lang/String", "substring", "(II)Ljava/lang/String;"⟩ ⟨"java/lang/String", "substring", "(II)Ljava/lang/String;"⟩ ∈ rTs := List.mem_append_left _ (rBm6 (List.mem_of_getElem? (i := 32) rfl))
set_option maxRecDepth 100000 in
theorem kw321 : Cond.code ⟨"NativeWorksModel", "word", "(Ljava/lang/String;I)V"⟩ prog_14_method_4_code 3 (Option.none : Option FieldType) ∈ rTs := List.mem_append_left _ (rBm6 (List.mem_of_getElem? (i := 33) rfl))
set_option maxRecDepth 100000 in
theorem kw322 : Cond.methodLink "NativeWorksModel" 370 ⟨"NativeWorksModel", "word", "(Ljava/lang/String;I)V"⟩ ∈ rTs := List.mem_append_left _ (rBm6 (List.mem_of_getElem? (i := 34) rfl))
set_option maxRecDepth 100000 in
theorem kw323 : Cond.instanceMethod ⟨"NativeWorksModel", "word", "(Ljava/lang/String;I)V"⟩ ∈ rTs := List.mem_append_left _ (rBm6 (List.mem_of_getElem? (i := 35) rfl))
set_option maxRecDepth 100000 in
theorem kw324 : Cond.selects "NativeWorksModel" ⟨"NativeWorksModel", "word", "(Ljava/lang/String;I)V"⟩ ⟨"NativeWorksModel", "word", "(Ljava/lang/String;I)V"⟩ ∈ rTs := List.mem_append_left _ (rBm6 (List.mem_of_getElem? (i := 36) rfl))
set_option maxRecDepth 100000 in
theorem kw325 : Cond.methodLink "java/lang/AbstractStringBuilde\x72" 3 ⟨"java/lang/Object", "<init>", "()V"⟩ ∈ rTs := List.mem_append_left _ (rBm6 (List.mem_of_getElem? (i := 37) rfl))
set_option maxRecDepth 100000 in
theorem kw326 : Cond.fieldLink "java/lang/AbstractStringBuilde\x72" 18 "java/lang/String" "COMPACT_STRINGS" "Z" ∈ rTs := List.mem_append_left _ (rBm6 (List.mem_of_getElem? (i := 38) rfl))
set_option maxRecDepth 100000 in
theorem kw327 : Cond.fieldLink "java/lang/AbstractStringBuilde\x72" 15 "java/lang/AbstractStringBuilde\x72" "value" "[B" ∈ rTs := List.mem_append_left _ (rBm6 (List.mem_of_getElem? (i := 39) rfl))
set_option maxRecDepth 100000 in
theorem kw328 : Cond.fieldLink "java/lang/AbstractStringBuilde\x72" 22 "java/lang/AbstractStringBuilde\x72" "code\x72" "B" ∈ rTs := List.mem_append_left _ (rBm6 (List.mem_of_getElem? (i := 40) rfl))
set_option maxRecDepth 100000 in
theorem kw329 : Cond.code ⟨"java/lang/AbstractStringBuilde\x72", "<init>", "(I)V"⟩ prog_17_method_2_code 2 (Option.none : Option FieldType) ∈ rTs := List.mem_append_left _ (rBm6 (List.mem_of_getElem? (i := 41) rfl))
set_option maxRecDepth 100000 in
theorem kw330 : Cond.methodLink "java/lang/StringBuilde\x72" 1 ⟨"java/lang/AbstractStringBuilde\x72", "<init>", "(I)V"⟩ ∈ rTs := List.mem_append_left _ (rBm6 (List.mem_of_getElem? (i := 42) rfl))
set_option maxRecDepth 100000 in
theorem kw331 : Cond.instanceMethod ⟨"java/lang/AbstractStringBuilde\x72", "<init>", "(I)V"⟩ ∈ rTs := List.mem_append_left _ (rBm6 (List.mem_of_getElem? (i := 43) rfl))
set_option maxRecDepth 100000 in
theorem kw332 : Cond.initialized "java/lang/AbstractStringBuilde\x72" ∈ rTs := List.mem_append_left _ (rBm6 (List.mem_of_getElem? (i := 44) rfl))
set_option maxRecDepth 100000 in
theorem kw333 : Cond.methodLink "java/lang/AbstractStringBuilde\x72" 40 ⟨"java/lang/String", "code\x72", "()B"⟩ ∈ rTs := List.mem_append_left _ (rBm6 (List.mem_of_getElem? (i := 45) rfl))
set_option maxRecDepth 100000 in
theorem kw334 : Cond.methodLink "java/lang/String" 212 ⟨"java/lang/System", "arraycopy", "(Ljava/lang/Object;ILjava/lang/Object;II)V"⟩ ∈ rTs := List.mem_append_left _ (rBm6 (List.mem_of_getElem? (i := 46) rfl))
set_option maxRecDepth 100000 in
theorem kw335 : Cond.code ⟨"java/lang/AbstractStringBuilde\x72", "inflateIfNeededFo\x72", "(Ljava/lang/String;)V"⟩ prog_17_method_71_code 2 (Option.none : Option FieldType) ∈ rTs := List.mem_append_left _ (rBm6 (List.mem_of_getElem? (i := 47) rfl))
set_option maxRecDepth 100000 in
theorem kw336 : Cond.methodLink "java/lang/AbstractStringBuilde\x72" 397 ⟨"java/lang/AbstractStringBuilde\x72", "inflateIfNeededFo\x72", "(Ljava/lang/String;)V"⟩ ∈ rTs := List.mem_append_left _ (rBm7 (List.mem_of_getElem? (i := 0) rfl))
set_option maxRecDepth 100000 in
theorem kw337 : Cond.sameMethod "java/lang/AbstractStringBuilde\x72" "java/lang/AbstractStringBuilde\x72" "inflateIfNeededFo\x72" "(Ljava/lang/String;)V" ∈ rTs := List.mem_append_left _ (rBm7 (List.mem_of_getElem? (i := 1) rfl))
set_option maxRecDepth 100000 in
theorem kw338 : Cond.selects "java/lang/StringBuilde\x72" ⟨"java/lang/AbstractStringBuilde\x72", "inflateIfNeededFo\x72", "(Ljava/lang/String;)V"⟩ ⟨"java/lang/AbstractStringBuilde\x72", "inflateIfNeededFo\x72", "(Ljava/lang/String;)V"⟩ ∈ rTs := List.mem_append_left _ (rBm7 (List.mem_of_getElem? (i := 2) rfl))
set_option maxRecDepth 100000 in
theorem kw339 : Cond.instanceMethod ⟨"java/lang/AbstractStringBuilde\x72", "inflateIfNeededFo\x72", "(Ljava/lang/String;)V"⟩ ∈ rTs := List.mem_append_left _ (rBm7 (List.mem_of_getElem? (i := 3) rfl))
set_option maxRecDepth 100000 in
theorem kw340 : Cond.code ⟨"java/lang/String", "getBytes", "([BIB)V"⟩ prog_30_method_147_code 4 (Option.none : Option FieldType) ∈ rTs := List.mem_append_left _ (rBm7 (List.mem_of_getElem? (i := 4) rfl))
set_option maxRecDepth 100000 in
theorem kw341 : Cond.methodLink "java/lang/AbstractStringBuilde\x72" 399 ⟨"java/lang/String", "getBytes", "([BIB)V"⟩ ∈ rTs := List.mem_append_left _ (rBm7 (List.mem_of_getElem? (i := 5) rfl))
set_option maxRecDepth 100000 in
theorem kw342 : Cond.instanceMethod ⟨"java/lang/String", "getBytes", "([BIB)V"⟩ ∈ rTs := List.mem_append_left _ (rBm7 (List.mem_of_getElem? (i := 6) rfl))
set_option maxRecDepth 100000 in
theorem kw343 : Cond.selects "java/lang/String" ⟨"java/lang/String", "getBytes", "([BIB)V"⟩ ⟨"java/lang/String", "getBytes", "([BIB)V"⟩ ∈ rTs := List.mem_append_left _ (rBm7 (List.mem_of_getElem? (i := 7) rfl))
set_option maxRecDepth 100000 in
theorem kw344 : Cond.methodLink "java/lang/AbstractStringBuilde\x72" 32 ⟨"java/lang/String", "length", "()I"⟩ ∈ rTs := List.mem_append_left _ (rBm7 (List.mem_of_getElem? (i := 8) rfl))
set_option maxRecDepth 100000 in
theorem kw345 : Cond.fieldLink "java/lang/AbstractStringBuilde\x72" 79 "java/lang/AbstractStringBuilde\x72" "count" "I" ∈ rTs := List.mem_append_left _ (rBm7 (List.mem_of_getElem? (i := 9) rfl))
set_option maxRecDepth 100000 in
theorem kw346 : Cond.code ⟨"java/lang/AbstractStringBuilde\x72", "ensureCapacityInternal", "(I)V"⟩ prog_17_method_9_code 3 (Option.none : Option FieldType) ∈ rTs := List.mem_append_left _ (rBm7 (List.mem_of_getElem? (i := 10) rfl))
set_option maxRecDepth 100000 in
theorem kw347 : Cond.methodLink "java/lang/AbstractStringBuilde\x72" 100 ⟨"java/lang/AbstractStringBuilde\x72", "ensureCapacityInternal", "(I)V"⟩ ∈ rTs := List.mem_append_left _ (rBm7 (List.mem_of_getElem? (i := 11) rfl))
set_option maxRecDepth 100000 in
theorem kw348 : Cond.sameMethod "java/lang/AbstractStringBuilde\x72" "java/lang/AbstractStringBuilde\x72" "ensureCapacityInternal" "(I)V" ∈ rTs := List.mem_append_left _ (rBm7 (List.mem_of_getElem? (i := 12) rfl))
set_option maxRecDepth 100000 in
theorem kw349 : Cond.selects "java/lang/StringBuilde\x72" ⟨"java/lang/AbstractStringBuilde\x72", "ensureCapacityInternal", "(I)V"⟩ ⟨"java/lang/AbstractStringBuilde\x72", "ensureCapacityInternal", "(I)V"⟩ ∈ rTs := List.mem_append_left _ (rBm7 (List.mem_of_getElem? (i := 13) rfl))
set_option maxRecDepth 100000 in
theorem kw350 : Cond.instanceMethod ⟨"java/lang/AbstractStringBuilde\x72", "ensureCapacityInternal", "(I)V"⟩ ∈ rTs := List.mem_append_left _ (rBm7 (List.mem_of_getElem? (i := 14) rfl))
set_option maxRecDepth 100000 in
theorem kw351 : Cond.code ⟨"java/lang/AbstractStringBuilde\x72", "putStringAt", "(ILjava/lang/String;)V"⟩ prog_17_method_73_code 3 (Option.none : Option FieldType) ∈ rTs := List.mem_append_left _ (rBm7 (List.mem_of_getElem? (i := 15) rfl))
set_option maxRecDepth 100000 in
theorem kw352 : Cond.methodLink "java/lang/AbstractStringBuilde\x72" 208 ⟨"java/lang/AbstractStringBuilde\x72", "putStringAt", "(ILjava/lang/String;)V"⟩ ∈ rTs := List.mem_append_left _ (rBm7 (List.mem_of_getElem? (i := 16) rfl))
set_option maxRecDepth 100000 in
theorem kw353 : Cond.sameMethod "java/lang/AbstractStringBuilde\x72" "java/lang/AbstractStringBuilde\x72" "putStringAt" "(ILjava/lang/String;)V" ∈ rTs := List.mem_append_left _ (rBm7 (List.mem_of_getElem? (i := 17) rfl))
set_option maxRecDepth 100000 in
theorem kw354 : Cond.selects "java/lang/StringBuilde\x72" ⟨"java/lang/AbstractStringBuilde\x72", "putStringAt", "(ILjava/lang/String;)V"⟩ ⟨"java/lang/AbstractStringBuilde\x72", "putStringAt", "(ILjava/lang/String;)V"⟩ ∈ rTs := List.mem_append_left _ (rBm7 (List.mem_of_getElem? (i := 18) rfl))
set_option maxRecDepth 100000 in
theorem kw355 : Cond.instanceMethod ⟨"java/lang/AbstractStringBuilde\x72", "putStringAt", "(ILjava/lang/String;)V"⟩ ∈ rTs := List.mem_append_left _ (rBm7 (List.mem_of_getElem? (i := 19) rfl))
set_option maxRecDepth 100000 in
theorem kw356 : Cond.code ⟨"java/lang/AbstractStringBuilde\x72", "append", "(Ljava/lang/String;)Ljava/lang/AbstractStringBuilder;"⟩ prog_17_method_22_code 3 (Option.some (FieldType.object "java/lang/AbstractStringBuilde\x72")) ∈ rTs := List.mem_append_left _ (rBm7 (List.mem_of_getElem? (i := 20) rfl))
set_option maxRecDepth 100000 in
theorem kw357 : Cond.methodLink "java/lang/StringBuilde\x72" 29 ⟨"java/lang/AbstractStringBuilde\x72", "append", "(Ljava/lang/String;)Ljava/lang/AbstractStringBuilder;"⟩ ∈ rTs := List.mem_append_left _ (rBm7 (List.mem_of_getElem? (i := 21) rfl))
set_option maxRecDepth 100000 in
theorem kw358 : Cond.sameMethod "java/lang/AbstractStringBuilde\x72" "java/lang/AbstractStringBuilde\x72" "append" "(Ljava/lang/String;)Ljava/lang/AbstractStringBuilder;" ∈ rTs := List.mem_append_left _ (rBm7 (List.mem_of_getElem? (i := 22) rfl))
set_option maxRecDepth 100000 in
theorem kw359 : Cond.superclass "java/lang/StringBuilde\x72" "java/lang/AbstractStringBuilde\x72" ∈ rTs := List.mem_append_left _ (rBm7 (List.mem_of_getElem? (i := 23) rfl))
set_option maxRecDepth 100000 in
theorem kw360 : Cond.instanceMethod ⟨"java/lang/AbstractStringBuilde\x72", "append", "(Ljava/lang/String;)Ljava/lang/AbstractStringBuilder;"⟩ ∈ rTs := List.mem_append_left _ (rBm7 (List.mem_of_getElem? (i := 24) rfl))
set_option maxRecDepth 100000 in
theorem kw361 : Cond.code ⟨"java/lang/AbstractStringBuilde\x72", "length", "()I"⟩ prog_17_method_6_code 1 (Option.some FieldType.int) ∈ rTs := List.mem_append_left _ (rBm7 (List.mem_of_getElem? (i := 25) rfl))
set_option maxRecDepth 100000 in
theorem kw362 : Cond.methodLink "java/lang/StringBuilde\x72" 343 ⟨"java/lang/AbstractStringBuilde\x72", "length", "()I"⟩ ∈ rTs := List.mem_append_left _ (rBm7 (List.mem_of_getElem? (i := 26) rfl))
set_option maxRecDepth 100000 in
theorem kw363 : Cond.sameMethod "java/lang/AbstractStringBuilde\x72" "java/lang/AbstractStringBuilde\x72" "length" "()I" ∈ rTs := List.mem_append_left _ (rBm7 (List.mem_of_getElem? (i := 27) rfl))
set_option maxRecDepth 100000 in
theorem kw364 : Cond.instanceMethod ⟨"java/lang/AbstractStringBuilde\x72", "length", "()I"⟩ ∈ rTs := List.mem_append_left _ (rBm7 (List.mem_of_getElem? (i := 28) rfl))
set_option maxRecDepth 100000 in
theorem kw365 : Cond.code ⟨"java/lang/AbstractStringBuilde\x72", "getValue", "()[B"⟩ prog_17_method_64_code 1 (Option.some (FieldType.array FieldType.byte)) ∈ rTs := List.mem_append_left _ (rBm7 (List.mem_of_getElem? (i := 29) rfl))
set_option maxRecDepth 100000 in
theorem kw366 : Cond.methodLink "java/lang/String" 552 ⟨"java/lang/AbstractStringBuilde\x72", "getValue", "()[B"⟩ ∈ rTs := List.mem_append_left _ (rBm7 (List.mem_of_getElem? (i := 30) rfl))
set_option maxRecDepth 100000 in
theorem kw367 : Cond.sameMethod "java/lang/AbstractStringBuilde\x72" "java/lang/AbstractStringBuilde\x72" "getValue" "()[B" ∈ rTs := List.mem_append_left _ (rBm7 (List.mem_of_getElem? (i := 31) rfl))
set_option maxRecDepth 100000 in
theorem kw368 : Cond.selects "java/lang/StringBuilde\x72" ⟨"java/lang/AbstractStringBuilde\x72", "getValue", "()[B"⟩ ⟨"java/lang/AbstractStringBuilde\x72", "getValue", "()[B"⟩ ∈ rTs := List.mem_append_left _ (rBm7 (List.mem_of_getElem? (i := 32) rfl))
set_option maxRecDepth 100000 in
theorem kw369 : Cond.instanceMethod ⟨"java/lang/AbstractStringBuilde\x72", "getValue", "()[B"⟩ ∈ rTs := List.mem_append_left _ (rBm7 (List.mem_of_getElem? (i := 33) rfl))
set_option maxRecDepth 100000 in
theorem kw370 : Cond.code ⟨"java/lang/StringBuilde\x72", "length", "()I"⟩ prog_31_method_93_code 1 (Option.some FieldType.int) ∈ rTs := List.mem_append_left _ (rBm7 (List.mem_of_getElem? (i := 34) rfl))
set_option maxRecDepth 100000 in
theorem kw371 : Cond.methodLink "java/lang/String" 549 ⟨"java/lang/AbstractStringBuilde\x72", "length", "()I"⟩ ∈ rTs := List.mem_append_left _ (rBm7 (List.mem_of_getElem? (i := 35) rfl))
set_option maxRecDepth 100000 in
theorem kw372 : Cond.selects "java/lang/StringBuilde\x72" ⟨"java/lang/AbstractStringBuilde\x72", "length", "()I"⟩ ⟨"java/lang/StringBuilde\x72", "length", "()I"⟩ ∈ rTs := List.mem_append_left _ (rBm7 (List.mem_of_getElem? (i := 36) rfl))
set_option maxRecDepth 100000 in
theorem kw373 : Cond.instanceMethod ⟨"java/lang/StringBuilde\x72", "length", "()I"⟩ ∈ rTs := List.mem_append_left _ (rBm7 (List.mem_of_getElem? (i := 37) rfl))
set_option maxRecDepth 100000 in
theorem kw374 : Cond.initialized "java/lang/StringBuilde\x72" ∈ rTs := List.mem_append_left _ (rBm7 (List.mem_of_getElem? (i := 38) rfl))
set_option maxRecDepth 100000 in
theorem kw375 : Cond.code ⟨"java/lang/AbstractStringBuilde\x72", "isLatin1", "()Z"⟩ prog_17_method_68_code 1 (Option.some FieldType.boolean) ∈ rTs := List.mem_append_left _ (rBm7 (List.mem_of_getElem? (i := 39) rfl))
set_option maxRecDepth 100000 in
theorem kw376 : Cond.methodLink "java/lang/String" 1047 ⟨"java/lang/AbstractStringBuilde\x72", "isLatin1", "()Z"⟩ ∈ rTs := List.mem_append_left _ (rBm7 (List.mem_of_getElem? (i := 40) rfl))
set_option maxRecDepth 100000 in
theorem kw377 : Cond.sameMethod "java/lang/AbstractStringBuilde\x72" "java/lang/AbstractStringBuilde\x72" "isLatin1" "()Z" ∈ rTs := List.mem_append_left _ (rBm7 (List.mem_of_getElem? (i := 41) rfl))
set_option maxRecDepth 100000 in
theorem kw378 : Cond.selects "java/lang/StringBuilde\x72" ⟨"java/lang/AbstractStringBuilde\x72", "isLatin1", "()Z"⟩ ⟨"java/lang/AbstractStringBuilde\x72", "isLatin1", "()Z"⟩ ∈ rTs := List.mem_append_left _ (rBm7 (List.mem_of_getElem? (i := 42) rfl))
set_option maxRecDepth 100000 in
theorem kw379 : Cond.instanceMethod ⟨"java/lang/AbstractStringBuilde\x72", "isLatin1", "()Z"⟩ ∈ rTs := List.mem_append_left _ (rBm7 (List.mem_of_getElem? (i := 43) rfl))
set_option maxRecDepth 100000 in
theorem kw380 : Cond.methodLink "java/lang/String" 54 ⟨"java/util/Arrays", "copyOfRange", "([BII)[B"⟩ ∈ rTs := List.mem_append_left _ (rBm7 (List.mem_of_getElem? (i := 44) rfl))
set_option maxRecDepth 100000 in
theorem kw381 : Cond.code ⟨"java/lang/String", "<init>", "(Ljava/lang/AbstractStringBuilder;Ljava/lang/Void;)V"⟩ prog_30_method_150_code 5 (Option.none : Option FieldType) ∈ rTs := List.mem_append_left _ (rBm7 (List.mem_of_getElem? (i := 45) rfl))
set_option maxRecDepth 100000 in
theorem kw382 : Cond.methodLink "java/lang/String" 489 ⟨"java/lang/String", "<init>", "(Ljava/lang/AbstractStringBuilder;Ljava/lang/Void;)V"⟩ ∈ rTs := List.mem_append_left _ (rBm7 (List.mem_of_getElem? (i := 46) rfl))
set_option maxRecDepth 100000 in
theorem kw383 : Cond.instanceMethod ⟨"java/lang/String", "<init>", "(Ljava/lang/AbstractStringBuilder;Ljava/lang/Void;)V"⟩ ∈ rTs := List.mem_append_left _ (rBm7 (List.mem_of_getElem? (i := 47) rfl))
set_option maxRecDepth 100000 in
theorem kw384 : Cond.classLink "java/lang/StringBuilde\x72" 18 "java/lang/String" ∈ rTs := List.mem_append_left _ (rBm8 (List.mem_of_getElem? (i := 0) rfl))
set_option maxRecDepth 100000 in
theorem kw385 : Cond.code ⟨"java/lang/String", "<init>", "(Ljava/lang/StringBuilder;)V"⟩ prog_30_method_53_code 2 (Option.none : Option FieldType) ∈ rTs := List.mem_append_left _ (rBm8 (List.mem_of_getElem? (i := 1) rfl))
set_option maxRecDepth 100000 in
theorem kw386 : Cond.methodLink "java/lang/StringBuilde\x72" 137 ⟨"java/lang/String", "<init>", "(Ljava/lang/StringBuilder;)V"⟩ ∈ rTs := List.mem_append_left _ (rBm8 (List.mem_of_getElem? (i := 2) rfl))
set_option maxRecDepth 100000 in
theorem kw387 : Cond.instanceMethod ⟨"java/lang/String", "<init>", "(Ljava/lang/StringBuilder;)V"⟩ ∈ rTs := List.mem_append_left _ (rBm8 (List.mem_of_getElem? (i := 3) rfl))
set_option maxRecDepth 100000 in
theorem kw388 : Cond.classLink "NativeWorksModel" 530 "java/lang/StringBuilde\x72" ∈ rTs := List.mem_append_left _ (rBm8 (List.mem_of_getElem? (i := 4) rfl))
set_option maxRecDepth 100000 in
theorem kw389 : Cond.instantiable "java/lang/StringBuilde\x72" 4 ∈ rTs := List.mem_append_left _ (rBm8 (List.mem_of_getElem? (i := 5) rfl))
set_option maxRecDepth 100000 in
theorem kw390 : Cond.code ⟨"java/lang/StringBuilde\x72", "<init>", "()V"⟩ prog_31_method_1_code 1 (Option.none : Option FieldType) ∈ rTs := List.mem_append_left _ (rBm8 (List.mem_of_getElem? (i := 6) rfl))
set_option maxRecDepth 100000 in
theorem kw391 : Cond.methodLink "NativeWorksModel" 532 ⟨"java/lang/StringBuilde\x72", "<init>", "()V"⟩ ∈ rTs := List.mem_append_left _ (rBm8 (List.mem_of_getElem? (i := 7) rfl))
set_option maxRecDepth 100000 in
theorem kw392 : Cond.instanceMethod ⟨"java/lang/StringBuilde\x72", "<init>", "()V"⟩ ∈ rTs := List.mem_append_left _ (rBm8 (List.mem_of_getElem? (i := 8) rfl))
set_option maxRecDepth 100000 in
theorem kw393 : Cond.code ⟨"java/lang/StringBuilde\x72", "append", "(Ljava/lang/String;)Ljava/lang/StringBuilder;"⟩ prog_31_method_7_code 2 (Option.some (FieldType.object "java/lang/StringBuilde\x72")) ∈ rTs := List.mem_append_left _ (rBm8 (List.mem_of_getElem? (i := 9) rfl))
set_option maxRecDepth 100000 in
theorem kw394 : Cond.methodLink "NativeWorksModel" 533 ⟨"java/lang/StringBuilde\x72", "append", "(Ljava/lang/String;)Ljava/lang/StringBuilder;"⟩ ∈ rTs := List.mem_append_left _ (rBm8 (List.mem_of_getElem? (i := 10) rfl))
set_option maxRecDepth 100000 in
theorem kw395 : Cond.instanceMethod ⟨"java/lang/StringBuilde\x72", "append", "(Ljava/lang/String;)Ljava/lang/StringBuilder;"⟩ ∈ rTs := List.mem_append_left _ (rBm8 (List.mem_of_getElem? (i := 11) rfl))
set_option maxRecDepth 100000 in
theorem kw396 : Cond.selects "java/lang/StringBuilde\x72" ⟨"java/lang/StringBuilde\x72", "append", "(Ljava/lang/String;)Ljava/lang/StringBuilder;"⟩ ⟨"java/lang/StringBuilde\x72", "append", "(Ljava/lang/String;)Ljava/lang/StringBuilder;"⟩ ∈ rTs := List.mem_append_left _ (rBm8 (List.mem_of_getElem? (i := 12) rfl))
set_option maxRecDepth 100000 in
theorem kw397 : Cond.code ⟨"java/lang/StringBuilde\x72", "toString", "()Ljava/lang/String;"⟩ prog_31_method_42_code 1 (Option.some (FieldType.object "java/lang/String")) ∈ rTs := List.mem_append_left _ (rBm8 (List.mem_of_getElem? (i := 13) rfl))
set_option maxRecDepth 100000 in
theorem kw398 : Cond.methodLink "NativeWorksModel" 537 ⟨"java/lang/StringBuilde\x72", "toString", "()Ljava/lang/String;"⟩ ∈ rTs := List.mem_append_left _ (rBm8 (List.mem_of_getElem? (i := 14) rfl))
set_option maxRecDepth 100000 in
theorem kw399 : Cond.instanceMethod ⟨"java/lang/StringBuilde\x72", "toString", "()Ljava/lang/String;"⟩ ∈ rTs := List.mem_append_left _ (rBm8 (List.mem_of_getElem? (i := 15) rfl))
set_option maxRecDepth 100000 in
theorem kw400 : Cond.selects "java/lang/StringBuilde\x72" ⟨"java/lang/StringBuilde\x72", "toString", "()Ljava/lang/String;"⟩ ⟨"java/lang/StringBuilde\x72", "toString", "()Ljava/lang/String;"⟩ ∈ rTs := List.mem_append_left _ (rBm8 (List.mem_of_getElem? (i := 16) rfl))
set_option maxRecDepth 100000 in
theorem kw401 : Cond.classLink "NativeWorksModel" 470 "java/lang/String" ∈ rTs := List.mem_append_left _ (rBm8 (List.mem_of_getElem? (i := 17) rfl))
set_option maxRecDepth 100000 in
theorem kw402 : Cond.code ⟨"NativeWorksModel", "joined", "(Ljava/lang/String;Ljava/lang/String;)Ljava/lang/String;"⟩ prog_14_method_6_code 2 (Option.some (FieldType.object "java/lang/String")) ∈ rTs := List.mem_append_left _ (rBm8 (List.mem_of_getElem? (i := 18) rfl))
set_option maxRecDepth 100000 in
theorem kw403 : Cond.methodLink "NativeWorksModel" 526 ⟨"NativeWorksModel", "joined", "(Ljava/lang/String;Ljava/lang/String;)Ljava/lang/String;"⟩ ∈ rTs := List.mem_append_left _ (rBm8 (List.mem_of_getElem? (i := 19) rfl))
set_option maxRecDepth 100000 in
theorem kw404 : Cond.static ⟨"NativeWorksModel", "joined", "(Ljava/lang/String;Ljava/lang/String;)Ljava/lang/String;"⟩ ∈ rTs := List.mem_append_left _ (rBm8 (List.mem_of_getElem? (i := 20) rfl))
set_option maxRecDepth 100000 in
theorem kw405 : Cond.fieldLink "NativeWorksModel" 18 "NativeWorksModel" "registerName" "[J" ∈ rTs := List.mem_append_left _ (rBm8 (List.mem_of_getElem? (i := 21) rfl))
set_option maxRecDepth 100000 in
theorem kw406 : Cond.fieldLink "NativeWorksModel" 605 "NativeWorksModel" "registers" "I" ∈ rTs := List.mem_append_left _ (rBm8 (List.mem_of_getElem? (i := 22) rfl))
set_option maxRecDepth 100000 in
theorem kw407 : Cond.fieldLink "NativeWorksModel" 25 "NativeWorksModel" "registerCode" "[I" ∈ rTs := List.mem_append_left _ (rBm8 (List.mem_of_getElem? (i := 23) rfl))
set_option maxRecDepth 100000 in
theorem kw408 : Cond.fieldLink "java/lang/Intege\x72" 83 "java/lang/Intege\x72" "DigitOnes" "[B" ∈ rTs := List.mem_append_left _ (rBm8 (List.mem_of_getElem? (i := 24) rfl))
set_option maxRecDepth 100000 in
theorem kw409 : Cond.fieldLink "java/lang/Intege\x72" 87 "java/lang/Intege\x72" "DigitTens" "[B" ∈ rTs := List.mem_append_left _ (rBm8 (List.mem_of_getElem? (i := 25) rfl))
set_option maxRecDepth 100000 in
theorem kw410 : Cond.code ⟨"java/lang/Intege\x72", "stringSize", "(I)I"⟩ prog_25_method_13_code 4 (Option.some FieldType.int) ∈ rTs := List.mem_append_left _ (rBm8 (List.mem_of_getElem? (i := 26) rfl))
set_option maxRecDepth 100000 in
theorem kw411 : Cond.methodLink "java/lang/AbstractStringBuilde\x72" 245 ⟨"java/lang/Intege\x72", "stringSize", "(I)I"⟩ ∈ rTs := List.mem_append_left _ (rBm8 (List.mem_of_getElem? (i := 27) rfl))
set_option maxRecDepth 100000 in
theorem kw412 : Cond.static ⟨"java/lang/Intege\x72", "stringSize", "(I)I"⟩ ∈ rTs := List.mem_append_left _ (rBm8 (List.mem_of_getElem? (i := 28) rfl))
set_option maxRecDepth 100000 in
theorem kw413 : Cond.initialized "java/lang/Intege\x72" ∈ rTs := List.mem_append_left _ (rBm8 (List.mem_of_getElem? (i := 29) rfl))
set_option maxRecDepth 100000 in
theorem kw414 : Cond.methodLink "java/lang/AbstractStringBuilde\x72" 83 ⟨"java/lang/AbstractStringBuilde\x72", "isLatin1", "()Z"⟩ ∈ rTs := List.mem_append_left _ (rBm8 (List.mem_of_getElem? (i := 30) rfl))
set_option maxRecDepth 100000 in
theorem kw415 : Cond.code ⟨"java/lang/Intege\x72", "getChars", "(II[B)I"⟩ prog_25_method_12_code 7 (Option.some FieldType.int) ∈ rTs := List.mem_append_left _ (rBm8 (List.mem_of_getElem? (i := 31) rfl))
set_option maxRecDepth 100000 in
theorem kw416 : Cond.methodLink "java/lang/AbstractStringBuilde\x72" 248 ⟨"java/lang/Intege\x72", "getChars", "(II[B)I"⟩ ∈ rTs := List.mem_append_left _ (rBm8 (List.mem_of_getElem? (i := 32) rfl))
set_option maxRecDepth 100000 in
theorem kw417 : Cond.static ⟨"java/lang/Intege\x72", "getChars", "(II[B)I"⟩ ∈ rTs := List.mem_append_left _ (rBm8 (List.mem_of_getElem? (i := 33) rfl))
set_option maxRecDepth 100000 in
theorem kw418 : Cond.code ⟨"java/lang/AbstractStringBuilde\x72", "append", "(I)Ljava/lang/AbstractStringBuilder;"⟩ prog_17_method_32_code 4 (Option.some (FieldType.object "java/lang/AbstractStringBuilde\x72")) ∈ rTs := List.mem_append_left _ (rBm8 (List.mem_of_getElem? (i := 34) rfl))
set_option maxRecDepth 100000 in
theorem kw419 : Cond.methodLink "java/lang/StringBuilde\x72" 53 ⟨"java/lang/AbstractStringBuilde\x72", "append", "(I)Ljava/lang/AbstractStringBuilder;"⟩ ∈ rTs := List.mem_append_left _ (rBm8 (List.mem_of_getElem? (i := 35) rfl))
set_option maxRecDepth 100000 in
theorem kw420 : Cond.sameMethod "java/lang/AbstractStringBuilde\x72" "java/lang/AbstractStringBuilde\x72" "append" "(I)Ljava/lang/AbstractStringBuilder;" ∈ rTs := List.mem_append_left _ (rBm8 (List.mem_of_getElem? (i := 36) rfl))
set_option maxRecDepth 100000 in
theorem kw421 : Cond.instanceMethod ⟨"java/lang/AbstractStringBuilde\x72", "append", "(I)Ljava/lang/AbstractStringBuilder;"⟩ ∈ rTs := List.mem_append_left _ (rBm8 (List.mem_of_getElem? (i := 37) rfl))
set_option maxRecDepth 100000 in
theorem kw422 : Cond.code ⟨"java/lang/StringBuilde\x72", "append", "(I)Ljava/lang/StringBuilder;"⟩ prog_31_method_15_code 2 (Option.some (FieldType.object "java/lang/StringBuilde\x72")) ∈ rTs := List.mem_append_left _ (rBm8 (List.mem_of_getElem? (i := 38) rfl))
set_option maxRecDepth 100000 in
theorem kw423 : Cond.methodLink "NativeWorksModel" 543 ⟨"java/lang/StringBuilde\x72", "append", "(I)Ljava/lang/StringBuilder;"⟩ ∈ rTs := List.mem_append_left _ (rBm8 (List.mem_of_getElem? (i := 39) rfl))
set_option maxRecDepth 100000 in
theorem kw424 : Cond.instanceMethod ⟨"java/lang/StringBuilde\x72", "append", "(I)Ljava/lang/StringBuilder;"⟩ ∈ rTs := List.mem_append_left _ (rBm8 (List.mem_of_getElem? (i := 40) rfl))
set_option maxRecDepth 100000 in
theorem kw425 : Cond.selects "java/lang/StringBuilde\x72" ⟨"java/lang/StringBuilde\x72", "append", "(I)Ljava/lang/StringBuilder;"⟩ ⟨"java/lang/StringBuilde\x72", "append", "(I)Ljava/lang/StringBuilder;"⟩ ∈ rTs := List.mem_append_left _ (rBm8 (List.mem_of_getElem? (i := 41) rfl))
set_option maxRecDepth 100000 in
theorem kw426 : Cond.code ⟨"NativeWorksModel", "registerNamed", "(Ljava/lang/String;I)V"⟩ prog_14_method_9_code 3 (Option.none : Option FieldType) ∈ rTs := List.mem_append_left _ (rBm8 (List.mem_of_getElem? (i := 42) rfl))
set_option maxRecDepth 100000 in
theorem kw427 : Cond.methodLink "NativeWorksModel" 594 ⟨"NativeWorksModel", "registerNamed", "(Ljava/lang/String;I)V"⟩ ∈ rTs := List.mem_append_left _ (rBm8 (List.mem_of_getElem? (i := 43) rfl))
set_option maxRecDepth 100000 in
theorem kw428 : Cond.instanceMethod ⟨"NativeWorksModel", "registerNamed", "(Ljava/lang/String;I)V"⟩ ∈ rTs := List.mem_append_left _ (rBm8 (List.mem_of_getElem? (i := 44) rfl))
set_option maxRecDepth 100000 in
theorem kw429 : Cond.selects "NativeWorksModel" ⟨"NativeWorksModel", "registerNamed", "(Ljava/lang/String;I)V"⟩ ⟨"NativeWorksModel", "registerNamed", "(Ljava/lang/String;I)V"⟩ ∈ rTs := List.mem_append_left _ (rBm8 (List.mem_of_getElem? (i := 45) rfl))
set_option maxRecDepth 100000 in
theorem kw430 : Cond.code ⟨"NativeWorksModel", "numbered", "(ILjava/lang/String;)Ljava/lang/String;"⟩ prog_14_method_7_code 2 (Option.some (FieldType.object "java/lang/String")) ∈ rTs := List.mem_append_left _ (rBm8 (List.mem_of_getElem? (i := 46) rfl))
set_option maxRecDepth 100000 in
theorem kw431 : Cond.methodLink "NativeWorksModel" 599 ⟨"NativeWorksModel", "numbered", "(ILjava/lang/String;)Ljava/lang/String;"⟩ ∈ rTs := List.mem_append_left _ (rBm8 (List.mem_of_getElem? (i := 47) rfl))
set_option maxRecDepth 100000 in
theorem kw432 : Cond.static ⟨"NativeWorksModel", "numbered", "(ILjava/lang/String;)Ljava/lang/String;"⟩ ∈ rTs := List.mem_append_left _ (rBm9 (List.mem_of_getElem? (i := 0) rfl))
set_option maxRecDepth 100000 in
theorem kw433 : Cond.fieldLink "NativeWorksModel" 258 "NativeWorksModel" "rowOp" "[I" ∈ rTs := List.mem_append_left _ (rBm9 (List.mem_of_getElem? (i := 1) rfl))
set_option maxRecDepth 100000 in
theorem kw434 : Cond.fieldLink "NativeWorksModel" 1075 "NativeWorksModel" "rows" "I" ∈ rTs := List.mem_append_left _ (rBm9 (List.mem_of_getElem? (i := 2) rfl))
set_option maxRecDepth 100000 in
theorem kw435 : Cond.fieldLink "NativeWorksModel" 261 "NativeWorksModel" "rowSizes" "[I" ∈ rTs := List.mem_append_left _ (rBm9 (List.mem_of_getElem? (i := 3) rfl))
set_option maxRecDepth 100000 in
theorem kw436 : Cond.fieldLink "NativeWorksModel" 264 "NativeWorksModel" "rowPattern" "[I" ∈ rTs := List.mem_append_left _ (rBm9 (List.mem_of_getElem? (i := 4) rfl))
set_option maxRecDepth 100000 in
theorem kw437 : Cond.fieldLink "NativeWorksModel" 267 "NativeWorksModel" "rowLead" "[I" ∈ rTs := List.mem_append_left _ (rBm9 (List.mem_of_getElem? (i := 5) rfl))
set_option maxRecDepth 100000 in
theorem kw438 : Cond.fieldLink "NativeWorksModel" 270 "NativeWorksModel" "rowCode" "[I" ∈ rTs := List.mem_append_left _ (rBm9 (List.mem_of_getElem? (i := 6) rfl))
set_option maxRecDepth 100000 in
theorem kw439 : Cond.fieldLink "NativeWorksModel" 273 "NativeWorksModel" "rowTell" "[I" ∈ rTs := List.mem_append_left _ (rBm9 (List.mem_of_getElem? (i := 7) rfl))
set_option maxRecDepth 100000 in
theorem kw440 : Cond.fieldLink "NativeWorksModel" 276 "NativeWorksModel" "rowNumbe\x72" "[I" ∈ rTs := List.mem_append_left _ (rBm9 (List.mem_of_getElem? (i := 8) rfl))
set_option maxRecDepth 100000 in
theorem kw441 : Cond.code ⟨"NativeWorksModel", "row", "(IIIIIII)V"⟩ prog_14_method_102_code 8 (Option.none : Option FieldType) ∈ rTs := List.mem_append_left _ (rBm9 (List.mem_of_getElem? (i := 9) rfl))
set_option maxRecDepth 100000 in
theorem kw442 : Cond.methodLink "NativeWorksModel" 1103 ⟨"NativeWorksModel", "row", "(IIIIIII)V"⟩ ∈ rTs := List.mem_append_left _ (rBm9 (List.mem_of_getElem? (i := 10) rfl))
set_option maxRecDepth 100000 in
theorem kw443 : Cond.instanceMethod ⟨"NativeWorksModel", "row", "(IIIIIII)V"⟩ ∈ rTs := List.mem_append_left _ (rBm9 (List.mem_of_getElem? (i := 11) rfl))
set_option maxRecDepth 100000 in
theorem kw444 : Cond.selects "NativeWorksModel" ⟨"NativeWorksModel", "row", "(IIIIIII)V"⟩ ⟨"NativeWorksModel", "row", "(IIIIIII)V"⟩ ∈ rTs := List.mem_append_left _ (rBm9 (List.mem_of_getElem? (i := 12) rfl))
set_option maxRecDepth 100000 in
theorem kw445 : Cond.code ⟨"NativeWorksModel", "fillRest", "()V"⟩ prog_14_method_104_code 2 (Option.none : Option FieldType) ∈ rTs := List.mem_append_left _ (rBm9 (List.mem_of_getElem? (i := 13) rfl))
set_option maxRecDepth 100000 in
theorem kw446 : Cond.methodLink "NativeWorksModel" 1107 ⟨"NativeWorksModel", "fillRest", "()V"⟩ ∈ rTs := List.mem_append_left _ (rBm9 (List.mem_of_getElem? (i := 14) rfl))
set_option maxRecDepth 100000 in
theorem kw447 : Cond.instanceMethod ⟨"NativeWorksModel", "fillRest", "()V"⟩ ∈ rTs := List.mem_append_left _ (rBm9 (List.mem_of_getElem? (i := 15) rfl))
set_option maxRecDepth 100000 in
theorem kw448 : Cond.selects "NativeWorksModel" ⟨"NativeWorksModel", "fillRest", "()V"⟩ ⟨"NativeWorksModel", "fillRest", "()V"⟩ ∈ rTs := List.mem_append_left _ (rBm9 (List.mem_of_getElem? (i := 16) rfl))
set_option maxRecDepth 100000 in
theorem kw449 : Cond.methodLink "NativeWorksModel" 1 ⟨"java/lang/Object", "<init>", "()V"⟩ ∈ rTs := List.mem_append_left _ (rBm9 (List.mem_of_getElem? (i := 17) rfl))
set_option maxRecDepth 100000 in
theorem kw450 : Cond.constant "NativeWorksModel" 9 (nI 65536) ∈ rTs := List.mem_append_left _ (rBm9 (List.mem_of_getElem? (i := 18) (by decide +kernel)))
set_option maxRecDepth 100000 in
theorem kw451 : Cond.fieldLink "NativeWorksModel" 10 "NativeWorksModel" "tape" "[B" ∈ rTs := List.mem_append_left _ (rBm9 (List.mem_of_getElem? (i := 19) rfl))
set_option maxRecDepth 100000 in
theorem kw452 : Cond.fieldLink "NativeWorksModel" 28 "NativeWorksModel" "symbolUnit" "[I" ∈ rTs := List.mem_append_left _ (rBm9 (List.mem_of_getElem? (i := 20) rfl))
set_option maxRecDepth 100000 in
theorem kw453 : Cond.fieldLink "NativeWorksModel" 31 "NativeWorksModel" "isLibrary" "[Z" ∈ rTs := List.mem_append_left _ (rBm9 (List.mem_of_getElem? (i := 21) rfl))
set_option maxRecDepth 100000 in
theorem kw454 : Cond.fieldLink "NativeWorksModel" 35 "NativeWorksModel" "firstItem" "[I" ∈ rTs := List.mem_append_left _ (rBm9 (List.mem_of_getElem? (i := 22) rfl))
set_option maxRecDepth 100000 in
theorem kw455 : Cond.fieldLink "NativeWorksModel" 38 "NativeWorksModel" "firstSymbol" "[I" ∈ rTs := List.mem_append_left _ (rBm9 (List.mem_of_getElem? (i := 23) rfl))
set_option maxRecDepth 100000 in
theorem kw456 : Cond.fieldLink "NativeWorksModel" 41 "NativeWorksModel" "firstWait" "[I" ∈ rTs := List.mem_append_left _ (rBm9 (List.mem_of_getElem? (i := 24) rfl))
set_option maxRecDepth 100000 in
theorem kw457 : Cond.fieldLink "NativeWorksModel" 44 "NativeWorksModel" "sectionSize" "[I" ∈ rTs := List.mem_append_left _ (rBm9 (List.mem_of_getElem? (i := 25) rfl))
set_option maxRecDepth 100000 in
theorem kw458 : Cond.fieldLink "NativeWorksModel" 47 "NativeWorksModel" "kept" "[Z" ∈ rTs := List.mem_append_left _ (rBm9 (List.mem_of_getElem? (i := 26) rfl))
set_option maxRecDepth 100000 in
theorem kw459 : Cond.fieldLink "NativeWorksModel" 50 "NativeWorksModel" "faultUnit" "I" ∈ rTs := List.mem_append_left _ (rBm9 (List.mem_of_getElem? (i := 27) rfl))
set_option maxRecDepth 100000 in
theorem kw460 : Cond.constant "NativeWorksModel" 54 (nI 129024) ∈ rTs := List.mem_append_left _ (rBm9 (List.mem_of_getElem? (i := 28) (by decide +kernel)))
set_option maxRecDepth 100000 in
theorem kw461 : Cond.fieldLink "NativeWorksModel" 55 "NativeWorksModel" "pool" "[B" ∈ rTs := List.mem_append_left _ (rBm9 (List.mem_of_getElem? (i := 29) rfl))
set_option maxRecDepth 100000 in
theorem kw462 : Cond.fieldLink "NativeWorksModel" 58 "NativeWorksModel" "nameAt" "[I" ∈ rTs := List.mem_append_left _ (rBm9 (List.mem_of_getElem? (i := 30) rfl))
set_option maxRecDepth 100000 in
theorem kw463 : Cond.fieldLink "NativeWorksModel" 61 "NativeWorksModel" "nameLength" "[I" ∈ rTs := List.mem_append_left _ (rBm9 (List.mem_of_getElem? (i := 31) rfl))
set_option maxRecDepth 100000 in
theorem kw464 : Cond.fieldLink "NativeWorksModel" 64 "NativeWorksModel" "nameSum" "[J" ∈ rTs := List.mem_append_left _ (rBm9 (List.mem_of_getElem? (i := 32) rfl))
set_option maxRecDepth 100000 in
theorem kw465 : Cond.fieldLink "NativeWorksModel" 67 "NativeWorksModel" "labelItem" "[I" ∈ rTs := List.mem_append_left _ (rBm9 (List.mem_of_getElem? (i := 33) rfl))
set_option maxRecDepth 100000 in
theorem kw466 : Cond.fieldLink "NativeWorksModel" 70 "NativeWorksModel" "isConstant" "[Z" ∈ rTs := List.mem_append_left _ (rBm9 (List.mem_of_getElem? (i := 34) rfl))
set_option maxRecDepth 100000 in
theorem kw467 : Cond.fieldLink "NativeWorksModel" 73 "NativeWorksModel" "isUsed" "[Z" ∈ rTs := List.mem_append_left _ (rBm9 (List.mem_of_getElem? (i := 35) rfl))
set_option maxRecDepth 100000 in
theorem kw468 : Cond.fieldLink "NativeWorksModel" 76 "NativeWorksModel" "isGlobal" "[Z" ∈ rTs := List.mem_append_left _ (rBm9 (List.mem_of_getElem? (i := 36) rfl))
set_option maxRecDepth 100000 in
theorem kw469 : Cond.fieldLink "NativeWorksModel" 79 "NativeWorksModel" "isWeak" "[Z" ∈ rTs := List.mem_append_left _ (rBm9 (List.mem_of_getElem? (i := 37) rfl))
set_option maxRecDepth 100000 in
theorem kw470 : Cond.fieldLink "NativeWorksModel" 82 "NativeWorksModel" "constant" "[J" ∈ rTs := List.mem_append_left _ (rBm9 (List.mem_of_getElem? (i := 38) rfl))
set_option maxRecDepth 100000 in
theorem kw471 : Cond.fieldLink "NativeWorksModel" 85 "NativeWorksModel" "itemKind" "[B" ∈ rTs := List.mem_append_left _ (rBm9 (List.mem_of_getElem? (i := 39) rfl))
set_option maxRecDepth 100000 in
theorem kw472 : Cond.fieldLink "NativeWorksModel" 88 "NativeWorksModel" "itemSection" "[B" ∈ rTs := List.mem_append_left _ (rBm9 (List.mem_of_getElem? (i := 40) rfl))
set_option maxRecDepth 100000 in
theorem kw473 : Cond.fieldLink "NativeWorksModel" 91 "NativeWorksModel" "itemLine" "[I" ∈ rTs := List.mem_append_left _ (rBm9 (List.mem_of_getElem? (i := 41) rfl))
set_option maxRecDepth 100000 in
theorem kw474 : Cond.fieldLink "NativeWorksModel" 94 "NativeWorksModel" "itemSize" "[I" ∈ rTs := List.mem_append_left _ (rBm9 (List.mem_of_getElem? (i := 42) rfl))
set_option maxRecDepth 100000 in
theorem kw475 : Cond.fieldLink "NativeWorksModel" 97 "NativeWorksModel" "itemOffset" "[I" ∈ rTs := List.mem_append_left _ (rBm9 (List.mem_of_getElem? (i := 43) rfl))
set_option maxRecDepth 100000 in
theorem kw476 : Cond.fieldLink "NativeWorksModel" 100 "NativeWorksModel" "itemData" "[I" ∈ rTs := List.mem_append_left _ (rBm9 (List.mem_of_getElem? (i := 44) rfl))
set_option maxRecDepth 100000 in
theorem kw477 : Cond.fieldLink "NativeWorksModel" 103 "NativeWorksModel" "itemShape" "[J" ∈ rTs := List.mem_append_left _ (rBm9 (List.mem_of_getElem? (i := 45) rfl))
set_option maxRecDepth 100000 in
theorem kw478 : Cond.fieldLink "NativeWorksModel" 106 "NativeWorksModel" "itemDisplacement" "[I" ∈ rTs := List.mem_append_left _ (rBm9 (List.mem_of_getElem? (i := 46) rfl))
set_option maxRecDepth 100000 in
theorem kw479 : Cond.fieldLink "NativeWorksModel" 109 "NativeWorksModel" "itemNumbe\x72" "[J" ∈ rTs := List.mem_append_left _ (rBm9 (List.mem_of_getElem? (i := 47) rfl))
set_option maxRecDepth 100000 in
theorem kw480 : Cond.constant "NativeWorksModel" 112 (nI 132172) ∈ rTs := List.mem_append_left _ (rBm10 (List.mem_of_getElem? (i := 0) (by decide +kernel)))
set_option maxRecDepth 100000 in
theorem kw481 : Cond.fieldLink "NativeWorksModel" 113 "NativeWorksModel" "data" "[B" ∈ rTs := List.mem_append_left _ (rBm10 (List.mem_of_getElem? (i := 1) rfl))
set_option maxRecDepth 100000 in
theorem kw482 : Cond.fieldLink "NativeWorksModel" 116 "NativeWorksModel" "waitItem" "[I" ∈ rTs := List.mem_append_left _ (rBm10 (List.mem_of_getElem? (i := 2) rfl))
set_option maxRecDepth 100000 in
theorem kw483 : Cond.fieldLink "NativeWorksModel" 119 "NativeWorksModel" "waitAt" "[I" ∈ rTs := List.mem_append_left _ (rBm10 (List.mem_of_getElem? (i := 3) rfl))
set_option maxRecDepth 100000 in
theorem kw484 : Cond.fieldLink "NativeWorksModel" 122 "NativeWorksModel" "waitPlus" "[I" ∈ rTs := List.mem_append_left _ (rBm10 (List.mem_of_getElem? (i := 4) rfl))
set_option maxRecDepth 100000 in
theorem kw485 : Cond.fieldLink "NativeWorksModel" 125 "NativeWorksModel" "waitMinus" "[I" ∈ rTs := List.mem_append_left _ (rBm10 (List.mem_of_getElem? (i := 5) rfl))
set_option maxRecDepth 100000 in
theorem kw486 : Cond.fieldLink "NativeWorksModel" 128 "NativeWorksModel" "waitSize" "[B" ∈ rTs := List.mem_append_left _ (rBm10 (List.mem_of_getElem? (i := 6) rfl))
set_option maxRecDepth 100000 in
theorem kw487 : Cond.fieldLink "NativeWorksModel" 131 "NativeWorksModel" "waitWhat" "[B" ∈ rTs := List.mem_append_left _ (rBm10 (List.mem_of_getElem? (i := 7) rfl))
set_option maxRecDepth 100000 in
theorem kw488 : Cond.fieldLink "NativeWorksModel" 134 "NativeWorksModel" "waitConstant" "[J" ∈ rTs := List.mem_append_left _ (rBm10 (List.mem_of_getElem? (i := 8) rfl))
set_option maxRecDepth 100000 in
theorem kw489 : Cond.fieldLink "NativeWorksModel" 137 "NativeWorksModel" "line" "[B" ∈ rTs := List.mem_append_left _ (rBm10 (List.mem_of_getElem? (i := 9) rfl))
set_option maxRecDepth 100000 in
theorem kw490 : Cond.fieldLink "NativeWorksModel" 140 "NativeWorksModel" "frameKind" "[I" ∈ rTs := List.mem_append_left _ (rBm10 (List.mem_of_getElem? (i := 10) rfl))
set_option maxRecDepth 100000 in
theorem kw491 : Cond.fieldLink "NativeWorksModel" 143 "NativeWorksModel" "frameStop" "[I" ∈ rTs := List.mem_append_left _ (rBm10 (List.mem_of_getElem? (i := 11) rfl))
set_option maxRecDepth 100000 in
theorem kw492 : Cond.fieldLink "NativeWorksModel" 146 "NativeWorksModel" "frameStopLine" "[I" ∈ rTs := List.mem_append_left _ (rBm10 (List.mem_of_getElem? (i := 12) rfl))
set_option maxRecDepth 100000 in
theorem kw493 : Cond.fieldLink "NativeWorksModel" 149 "NativeWorksModel" "frameBody" "[I" ∈ rTs := List.mem_append_left _ (rBm10 (List.mem_of_getElem? (i := 13) rfl))
set_option maxRecDepth 100000 in
theorem kw494 : Cond.fieldLink "NativeWorksModel" 152 "NativeWorksModel" "frameBodyLine" "[I" ∈ rTs := List.mem_append_left _ (rBm10 (List.mem_of_getElem? (i := 14) rfl))
set_option maxRecDepth 100000 in
theorem kw495 : Cond.fieldLink "NativeWorksModel" 155 "NativeWorksModel" "frameLeft" "[I" ∈ rTs := List.mem_append_left _ (rBm10 (List.mem_of_getElem? (i := 15) rfl))
set_option maxRecDepth 100000 in
theorem kw496 : Cond.fieldLink "NativeWorksModel" 158 "NativeWorksModel" "frameOwn" "[I" ∈ rTs := List.mem_append_left _ (rBm10 (List.mem_of_getElem? (i := 16) rfl))
set_option maxRecDepth 100000 in
theorem kw497 : Cond.fieldLink "NativeWorksModel" 161 "NativeWorksModel" "frameMacro" "[I" ∈ rTs := List.mem_append_left _ (rBm10 (List.mem_of_getElem? (i := 17) rfl))
set_option maxRecDepth 100000 in
theorem kw498 : Cond.fieldLink "NativeWorksModel" 164 "NativeWorksModel" "frameNumbe\x72" "[I" ∈ rTs := List.mem_append_left _ (rBm10 (List.mem_of_getElem? (i := 18) rfl))
set_option maxRecDepth 100000 in
theorem kw499 : Cond.fieldLink "NativeWorksModel" 167 "NativeWorksModel" "frameElse" "[Z" ∈ rTs := List.mem_append_left _ (rBm10 (List.mem_of_getElem? (i := 19) rfl))
set_option maxRecDepth 100000 in
theorem kw500 : Cond.classLink "NativeWorksModel" 170 "[[B" ∈ rTs := List.mem_append_left _ (rBm10 (List.mem_of_getElem? (i := 20) rfl))
set_option maxRecDepth 100000 in
theorem kw501 : Cond.fieldLink "NativeWorksModel" 172 "NativeWorksModel" "argument" "[[B" ∈ rTs := List.mem_append_left _ (rBm10 (List.mem_of_getElem? (i := 21) rfl))
set_option maxRecDepth 100000 in
theorem kw502 : Cond.classLink "NativeWorksModel" 175 "[[I" ∈ rTs := List.mem_append_left _ (rBm10 (List.mem_of_getElem? (i := 22) rfl))
set_option maxRecDepth 100000 in
theorem kw503 : Cond.fieldLink "NativeWorksModel" 177 "NativeWorksModel" "argumentAt" "[[I" ∈ rTs := List.mem_append_left _ (rBm10 (List.mem_of_getElem? (i := 23) rfl))
set_option maxRecDepth 100000 in
theorem kw504 : Cond.fieldLink "NativeWorksModel" 180 "NativeWorksModel" "arguments" "[I" ∈ rTs := List.mem_append_left _ (rBm10 (List.mem_of_getElem? (i := 24) rfl))
set_option maxRecDepth 100000 in
theorem kw505 : Cond.fieldLink "NativeWorksModel" 183 "NativeWorksModel" "macroName" "[I" ∈ rTs := List.mem_append_left _ (rBm10 (List.mem_of_getElem? (i := 25) rfl))
set_option maxRecDepth 100000 in
theorem kw506 : Cond.fieldLink "NativeWorksModel" 186 "NativeWorksModel" "macroLength" "[I" ∈ rTs := List.mem_append_left _ (rBm10 (List.mem_of_getElem? (i := 26) rfl))
set_option maxRecDepth 100000 in
theorem kw507 : Cond.fieldLink "NativeWorksModel" 189 "NativeWorksModel" "macroParameters" "[I" ∈ rTs := List.mem_append_left _ (rBm10 (List.mem_of_getElem? (i := 27) rfl))
set_option maxRecDepth 100000 in
theorem kw508 : Cond.fieldLink "NativeWorksModel" 192 "NativeWorksModel" "macroBody" "[I" ∈ rTs := List.mem_append_left _ (rBm10 (List.mem_of_getElem? (i := 28) rfl))
set_option maxRecDepth 100000 in
theorem kw509 : Cond.fieldLink "NativeWorksModel" 195 "NativeWorksModel" "macroBodyLine" "[I" ∈ rTs := List.mem_append_left _ (rBm10 (List.mem_of_getElem? (i := 29) rfl))
set_option maxRecDepth 100000 in
theorem kw510 : Cond.fieldLink "NativeWorksModel" 198 "NativeWorksModel" "macroEnd" "[I" ∈ rTs := List.mem_append_left _ (rBm10 (List.mem_of_getElem? (i := 30) rfl))
set_option maxRecDepth 100000 in
theorem kw511 : Cond.fieldLink "NativeWorksModel" 201 "NativeWorksModel" "macroEndLine" "[I" ∈ rTs := List.mem_append_left _ (rBm10 (List.mem_of_getElem? (i := 31) rfl))
set_option maxRecDepth 100000 in
theorem kw512 : Cond.fieldLink "NativeWorksModel" 204 "NativeWorksModel" "token" "[I" ∈ rTs := List.mem_append_left _ (rBm10 (List.mem_of_getElem? (i := 32) rfl))
set_option maxRecDepth 100000 in
theorem kw513 : Cond.fieldLink "NativeWorksModel" 207 "NativeWorksModel" "tokenStart" "[I" ∈ rTs := List.mem_append_left _ (rBm10 (List.mem_of_getElem? (i := 33) rfl))
set_option maxRecDepth 100000 in
theorem kw514 : Cond.fieldLink "NativeWorksModel" 210 "NativeWorksModel" "tokenLength" "[I" ∈ rTs := List.mem_append_left _ (rBm10 (List.mem_of_getElem? (i := 34) rfl))
set_option maxRecDepth 100000 in
theorem kw515 : Cond.fieldLink "NativeWorksModel" 213 "NativeWorksModel" "tokenValue" "[J" ∈ rTs := List.mem_append_left _ (rBm10 (List.mem_of_getElem? (i := 35) rfl))
set_option maxRecDepth 100000 in
theorem kw516 : Cond.fieldLink "NativeWorksModel" 216 "NativeWorksModel" "name" "[B" ∈ rTs := List.mem_append_left _ (rBm10 (List.mem_of_getElem? (i := 36) rfl))
set_option maxRecDepth 100000 in
theorem kw517 : Cond.fieldLink "NativeWorksModel" 219 "NativeWorksModel" "value" "[J" ∈ rTs := List.mem_append_left _ (rBm10 (List.mem_of_getElem? (i := 37) rfl))
set_option maxRecDepth 100000 in
theorem kw518 : Cond.fieldLink "NativeWorksModel" 222 "NativeWorksModel" "plus" "[I" ∈ rTs := List.mem_append_left _ (rBm10 (List.mem_of_getElem? (i := 38) rfl))
set_option maxRecDepth 100000 in
theorem kw519 : Cond.fieldLink "NativeWorksModel" 225 "NativeWorksModel" "minus" "[I" ∈ rTs := List.mem_append_left _ (rBm10 (List.mem_of_getElem? (i := 39) rfl))
set_option maxRecDepth 100000 in
theorem kw520 : Cond.fieldLink "NativeWorksModel" 228 "NativeWorksModel" "operato\x72" "[I" ∈ rTs := List.mem_append_left _ (rBm10 (List.mem_of_getElem? (i := 40) rfl))
set_option maxRecDepth 100000 in
theorem kw521 : Cond.fieldLink "NativeWorksModel" 231 "NativeWorksModel" "piece" "[I" ∈ rTs := List.mem_append_left _ (rBm10 (List.mem_of_getElem? (i := 41) rfl))
set_option maxRecDepth 100000 in
theorem kw522 : Cond.fieldLink "NativeWorksModel" 234 "NativeWorksModel" "spanPlus" "[I" ∈ rTs := List.mem_append_left _ (rBm10 (List.mem_of_getElem? (i := 42) rfl))
set_option maxRecDepth 100000 in
theorem kw523 : Cond.fieldLink "NativeWorksModel" 237 "NativeWorksModel" "spanMinus" "[I" ∈ rTs := List.mem_append_left _ (rBm10 (List.mem_of_getElem? (i := 43) rfl))
set_option maxRecDepth 100000 in
theorem kw524 : Cond.fieldLink "NativeWorksModel" 240 "NativeWorksModel" "spanLine" "[I" ∈ rTs := List.mem_append_left _ (rBm10 (List.mem_of_getElem? (i := 44) rfl))
set_option maxRecDepth 100000 in
theorem kw525 : Cond.fieldLink "NativeWorksModel" 243 "NativeWorksModel" "kind" "[I" ∈ rTs := List.mem_append_left _ (rBm10 (List.mem_of_getElem? (i := 45) rfl))
set_option maxRecDepth 100000 in
theorem kw526 : Cond.fieldLink "NativeWorksModel" 246 "NativeWorksModel" "registe\x72" "[I" ∈ rTs := List.mem_append_left _ (rBm10 (List.mem_of_getElem? (i := 46) rfl))
set_option maxRecDepth 100000 in
theorem kw527 : Cond.fieldLink "NativeWorksModel" 249 "NativeWorksModel" "told" "[I" ∈ rTs := List.mem_append_left _ (rBm10 (List.mem_of_getElem? (i := 47) rfl))
set_option maxRecDepth 100000 in
theorem kw528 : Cond.fieldLink "NativeWorksModel" 252 "NativeWorksModel" "from" "[I" ∈ rTs := List.mem_append_left _ (rBm11 (List.mem_of_getElem? (i := 0) rfl))
set_option maxRecDepth 100000 in
theorem kw529 : Cond.fieldLink "NativeWorksModel" 255 "NativeWorksModel" "to" "[I" ∈ rTs := List.mem_append_left _ (rBm11 (List.mem_of_getElem? (i := 1) rfl))
set_option maxRecDepth 100000 in
theorem kw530 : Cond.fieldLink "NativeWorksModel" 279 "NativeWorksModel" "best" "[B" ∈ rTs := List.mem_append_left _ (rBm11 (List.mem_of_getElem? (i := 2) rfl))
set_option maxRecDepth 100000 in
theorem kw531 : Cond.fieldLink "NativeWorksModel" 282 "NativeWorksModel" "trial" "[B" ∈ rTs := List.mem_append_left _ (rBm11 (List.mem_of_getElem? (i := 3) rfl))
set_option maxRecDepth 100000 in
theorem kw532 : Cond.fieldLink "NativeWorksModel" 285 "NativeWorksModel" "termRegiste\x72" "[I" ∈ rTs := List.mem_append_left _ (rBm11 (List.mem_of_getElem? (i := 4) rfl))
set_option maxRecDepth 100000 in
theorem kw533 : Cond.fieldLink "NativeWorksModel" 288 "NativeWorksModel" "termScale" "[I" ∈ rTs := List.mem_append_left _ (rBm11 (List.mem_of_getElem? (i := 5) rfl))
set_option maxRecDepth 100000 in
theorem kw534 : Cond.classLink "NativeWorksModel" 291 "NativeWorksModel$Code" ∈ rTs := List.mem_append_left _ (rBm11 (List.mem_of_getElem? (i := 6) rfl))
set_option maxRecDepth 100000 in
theorem kw535 : Cond.instantiable "NativeWorksModel$Code" 13 ∈ rTs := List.mem_append_left _ (rBm11 (List.mem_of_getElem? (i := 7) rfl))
set_option maxRecDepth 100000 in
theorem kw536 : Cond.initialized "NativeWorksModel$Code" ∈ rTs := List.mem_append_left _ (rBm11 (List.mem_of_getElem? (i := 8) rfl))
set_option maxRecDepth 100000 in
theorem kw537 : Cond.code ⟨"NativeWorksModel$Code", "<init>", "()V"⟩ prog_15_method_1_code 1 (Option.none : Option FieldType) ∈ rTs := List.mem_append_left _ (rBm11 (List.mem_of_getElem? (i := 9) rfl))
set_option maxRecDepth 100000 in
theorem kw538 : Cond.instanceMethod ⟨"NativeWorksModel$Code", "<init>", "()V"⟩ ∈ rTs := List.mem_append_left _ (rBm11 (List.mem_of_getElem? (i := 10) rfl))
set_option maxRecDepth 100000 in
theorem kw539 : Cond.fieldLink "NativeWorksModel" 294 "NativeWorksModel" "image" "LNativeWorksModel$Code;" ∈ rTs := List.mem_append_left _ (rBm11 (List.mem_of_getElem? (i := 11) rfl))
set_option maxRecDepth 100000 in
theorem kw540 : Cond.fieldLink "NativeWorksModel" 298 "NativeWorksModel" "code" "LNativeWorksModel$Code;" ∈ rTs := List.mem_append_left _ (rBm11 (List.mem_of_getElem? (i := 12) rfl))
set_option maxRecDepth 100000 in
theorem kw541 : Cond.constant "NativeWorksModel" 301 (nI 131072) ∈ rTs := List.mem_append_left _ (rBm11 (List.mem_of_getElem? (i := 13) (by decide +kernel)))
set_option maxRecDepth 100000 in
theorem kw542 : Cond.fieldLink "NativeWorksModel" 302 "NativeWorksModel" "imageBytes" "[B" ∈ rTs := List.mem_append_left _ (rBm11 (List.mem_of_getElem? (i := 14) rfl))
set_option maxRecDepth 100000 in
theorem kw543 : Cond.fieldLink "NativeWorksModel" 305 "NativeWorksModel" "taken" "[Z" ∈ rTs := List.mem_append_left _ (rBm11 (List.mem_of_getElem? (i := 15) rfl))
set_option maxRecDepth 100000 in
theorem kw544 : Cond.fieldLink "NativeWorksModel" 308 "NativeWorksModel" "needed" "[Z" ∈ rTs := List.mem_append_left _ (rBm11 (List.mem_of_getElem? (i := 16) rfl))
set_option maxRecDepth 100000 in
theorem kw545 : Cond.fieldLink "NativeWorksModel" 311 "NativeWorksModel" "addressOf" "[I" ∈ rTs := List.mem_append_left _ (rBm11 (List.mem_of_getElem? (i := 17) rfl))
set_option maxRecDepth 100000 in
theorem kw546 : Cond.fieldLink "NativeWorksModel" 314 "NativeWorksModel" "imagePool" "[B" ∈ rTs := List.mem_append_left _ (rBm11 (List.mem_of_getElem? (i := 18) rfl))
set_option maxRecDepth 100000 in
theorem kw547 : Cond.fieldLink "NativeWorksModel" 317 "NativeWorksModel" "imageNameAt" "[I" ∈ rTs := List.mem_append_left _ (rBm11 (List.mem_of_getElem? (i := 19) rfl))
set_option maxRecDepth 100000 in
theorem kw548 : Cond.fieldLink "NativeWorksModel" 320 "NativeWorksModel" "imageNameLength" "[I" ∈ rTs := List.mem_append_left _ (rBm11 (List.mem_of_getElem? (i := 20) rfl))
set_option maxRecDepth 100000 in
theorem kw549 : Cond.fieldLink "NativeWorksModel" 323 "NativeWorksModel" "imageNameAddress" "[I" ∈ rTs := List.mem_append_left _ (rBm11 (List.mem_of_getElem? (i := 21) rfl))
set_option maxRecDepth 100000 in
theorem kw550 : Cond.fieldLink "NativeWorksModel" 326 "NativeWorksModel" "memory" "[B" ∈ rTs := List.mem_append_left _ (rBm11 (List.mem_of_getElem? (i := 22) rfl))
set_option maxRecDepth 100000 in
theorem kw551 : Cond.fieldLink "NativeWorksModel" 329 "NativeWorksModel" "heap" "[B" ∈ rTs := List.mem_append_left _ (rBm11 (List.mem_of_getElem? (i := 23) rfl))
set_option maxRecDepth 100000 in
theorem kw552 : Cond.fieldLink "NativeWorksModel" 332 "NativeWorksModel" "stack" "[B" ∈ rTs := List.mem_append_left _ (rBm11 (List.mem_of_getElem? (i := 24) rfl))
set_option maxRecDepth 100000 in
theorem kw553 : Cond.fieldLink "NativeWorksModel" 335 "NativeWorksModel" "given" "[B" ∈ rTs := List.mem_append_left _ (rBm11 (List.mem_of_getElem? (i := 25) rfl))
set_option maxRecDepth 100000 in
theorem kw554 : Cond.fieldLink "NativeWorksModel" 338 "NativeWorksModel" "shown" "[B" ∈ rTs := List.mem_append_left _ (rBm11 (List.mem_of_getElem? (i := 26) rfl))
set_option maxRecDepth 100000 in
theorem kw555 : Cond.fieldLink "NativeWorksModel" 341 "NativeWorksModel" "registers0" "[J" ∈ rTs := List.mem_append_left _ (rBm11 (List.mem_of_getElem? (i := 27) rfl))
set_option maxRecDepth 100000 in
theorem kw556 : Cond.fieldLink "NativeWorksModel" 344 "NativeWorksModel" "kept0" "[J" ∈ rTs := List.mem_append_left _ (rBm11 (List.mem_of_getElem? (i := 28) rfl))
set_option maxRecDepth 100000 in
theorem kw557 : Cond.fieldLink "NativeWorksModel" 347 "NativeWorksModel" "places" "[J" ∈ rTs := List.mem_append_left _ (rBm11 (List.mem_of_getElem? (i := 29) rfl))
set_option maxRecDepth 100000 in
theorem kw558 : Cond.code ⟨"NativeWorksModel", "wordsOf", "(Ljava/lang/String;I)V"⟩ prog_14_method_3_code 6 (Option.none : Option FieldType) ∈ rTs := List.mem_append_left _ (rBm11 (List.mem_of_getElem? (i := 30) rfl))
set_option maxRecDepth 100000 in
theorem kw559 : Cond.methodLink "NativeWorksModel" 352 ⟨"NativeWorksModel", "wordsOf", "(Ljava/lang/String;I)V"⟩ ∈ rTs := List.mem_append_left _ (rBm11 (List.mem_of_getElem? (i := 31) rfl))
set_option maxRecDepth 100000 in
theorem kw560 : Cond.instanceMethod ⟨"NativeWorksModel", "wordsOf", "(Ljava/lang/String;I)V"⟩ ∈ rTs := List.mem_append_left _ (rBm11 (List.mem_of_getElem? (i := 32) rfl))
set_option maxRecDepth 100000 in
theorem kw561 : Cond.selects "NativeWorksModel" ⟨"NativeWorksModel", "wordsOf", "(Ljava/lang/String;I)V"⟩ ⟨"NativeWorksModel", "wordsOf", "(Ljava/lang/String;I)V"⟩ ∈ rTs := List.mem_append_left _ (rBm11 (List.mem_of_getElem? (i := 33) rfl))
set_option maxRecDepth 100000 in
theorem kw562 : Cond.code ⟨"NativeWorksModel", "conditions", "(Ljava/lang/String;I)V"⟩ prog_14_method_5_code 5 (Option.none : Option FieldType) ∈ rTs := List.mem_append_left _ (rBm11 (List.mem_of_getElem? (i := 34) rfl))
set_option maxRecDepth 100000 in
theorem kw563 : Cond.methodLink "NativeWorksModel" 360 ⟨"NativeWorksModel", "conditions", "(Ljava/lang/String;I)V"⟩ ∈ rTs := List.mem_append_left _ (rBm11 (List.mem_of_getElem? (i := 35) rfl))
set_option maxRecDepth 100000 in
theorem kw564 : Cond.instanceMethod ⟨"NativeWorksModel", "conditions", "(Ljava/lang/String;I)V"⟩ ∈ rTs := List.mem_append_left _ (rBm11 (List.mem_of_getElem? (i := 36) rfl))
set_option maxRecDepth 100000 in
theorem kw565 : Cond.selects "NativeWorksModel" ⟨"NativeWorksModel", "conditions", "(Ljava/lang/String;I)V"⟩ ⟨"NativeWorksModel", "conditions", "(Ljava/lang/String;I)V"⟩ ∈ rTs := List.mem_append_left _ (rBm11 (List.mem_of_getElem? (i := 37) rfl))
set_option maxRecDepth 100000 in
theorem kw566 : Cond.constant "NativeWorksModel" 369 (nI 262181) ∈ rTs := List.mem_append_left _ (rBm11 (List.mem_of_getElem? (i := 38) (by decide +kernel)))
set_option maxRecDepth 100000 in
theorem kw567 : Cond.constant "NativeWorksModel" 375 (nI 524325) ∈ rTs := List.mem_append_left _ (rBm11 (List.mem_of_getElem? (i := 39) (by decide +kernel)))
set_option maxRecDepth 100000 in
theorem kw568 : Cond.constant "NativeWorksModel" 378 (nI 262182) ∈ rTs := List.mem_append_left _ (rBm11 (List.mem_of_getElem? (i := 40) (by decide +kernel)))
set_option maxRecDepth 100000 in
theorem kw569 : Cond.constant "NativeWorksModel" 381 (nI 524326) ∈ rTs := List.mem_append_left _ (rBm11 (List.mem_of_getElem? (i := 41) (by decide +kernel)))
set_option maxRecDepth 100000 in
theorem kw570 : Cond.constant "NativeWorksModel" 386 (nI 65586) ∈ rTs := List.mem_append_left _ (rBm11 (List.mem_of_getElem? (i := 42) (by decide +kernel)))
set_option maxRecDepth 100000 in
theorem kw571 : Cond.constant "NativeWorksModel" 389 (nI 262194) ∈ rTs := List.mem_append_left _ (rBm11 (List.mem_of_getElem? (i := 43) (by decide +kernel)))
set_option maxRecDepth 100000 in
theorem kw572 : Cond.constant "NativeWorksModel" 392 (nI 524338) ∈ rTs := List.mem_append_left _ (rBm11 (List.mem_of_getElem? (i := 44) (by decide +kernel)))
set_option maxRecDepth 100000 in
theorem kw573 : Cond.constant "NativeWorksModel" 395 (nI 65587) ∈ rTs := List.mem_append_left _ (rBm11 (List.mem_of_getElem? (i := 45) (by decide +kernel)))
set_option maxRecDepth 100000 in
theorem kw574 : Cond.constant "NativeWorksModel" 398 (nI 262195) ∈ rTs := List.mem_append_left _ (rBm11 (List.mem_of_getElem? (i := 46) (by decide +kernel)))
set_option maxRecDepth 100000 in
theorem kw575 : Cond.constant "NativeWorksModel" 401 (nI 524339) ∈ rTs := List.mem_append_left _ (rBm11 (List.mem_of_getElem? (i := 47) (by decide +kernel)))
set_option maxRecDepth 100000 in
theorem kw576 : Cond.code ⟨"NativeWorksModel", "registerNames", "()V"⟩ prog_14_method_8_code 5 (Option.none : Option FieldType) ∈ rTs := List.mem_append_left _ (rBm12 (List.mem_of_getElem? (i := 0) rfl))
set_option maxRecDepth 100000 in
theorem kw577 : Cond.methodLink "NativeWorksModel" 414 ⟨"NativeWorksModel", "registerNames", "()V"⟩ ∈ rTs := List.mem_append_left _ (rBm12 (List.mem_of_getElem? (i := 1) rfl))
set_option maxRecDepth 100000 in
theorem kw578 : Cond.instanceMethod ⟨"NativeWorksModel", "registerNames", "()V"⟩ ∈ rTs := List.mem_append_left _ (rBm12 (List.mem_of_getElem? (i := 2) rfl))
set_option maxRecDepth 100000 in
theorem kw579 : Cond.selects "NativeWorksModel" ⟨"NativeWorksModel", "registerNames", "()V"⟩ ⟨"NativeWorksModel", "registerNames", "()V"⟩ ∈ rTs := List.mem_append_left _ (rBm12 (List.mem_of_getElem? (i := 3) rfl))
set_option maxRecDepth 100000 in
theorem kw580 : Cond.fieldLink "NativeWorksModel" 423 "NativeWorksModel" "textWord" "J" ∈ rTs := List.mem_append_left _ (rBm12 (List.mem_of_getElem? (i := 4) rfl))
set_option maxRecDepth 100000 in
theorem kw581 : Cond.fieldLink "NativeWorksModel" 429 "NativeWorksModel" "rodataWord" "J" ∈ rTs := List.mem_append_left _ (rBm12 (List.mem_of_getElem? (i := 5) rfl))
set_option maxRecDepth 100000 in
theorem kw582 : Cond.fieldLink "NativeWorksModel" 433 "NativeWorksModel" "dataWord" "J" ∈ rTs := List.mem_append_left _ (rBm12 (List.mem_of_getElem? (i := 6) rfl))
set_option maxRecDepth 100000 in
theorem kw583 : Cond.fieldLink "NativeWorksModel" 438 "NativeWorksModel" "bssWord" "J" ∈ rTs := List.mem_append_left _ (rBm12 (List.mem_of_getElem? (i := 7) rfl))
set_option maxRecDepth 100000 in
theorem kw584 : Cond.fieldLink "NativeWorksModel" 441 "NativeWorksModel" "byteWord" "J" ∈ rTs := List.mem_append_left _ (rBm12 (List.mem_of_getElem? (i := 8) rfl))
set_option maxRecDepth 100000 in
theorem kw585 : Cond.fieldLink "NativeWorksModel" 444 "NativeWorksModel" "dwordWord" "J" ∈ rTs := List.mem_append_left _ (rBm12 (List.mem_of_getElem? (i := 9) rfl))
set_option maxRecDepth 100000 in
theorem kw586 : Cond.fieldLink "NativeWorksModel" 447 "NativeWorksModel" "qwordWord" "J" ∈ rTs := List.mem_append_left _ (rBm12 (List.mem_of_getElem? (i := 10) rfl))
set_option maxRecDepth 100000 in
theorem kw587 : Cond.fieldLink "NativeWorksModel" 450 "NativeWorksModel" "relWord" "J" ∈ rTs := List.mem_append_left _ (rBm12 (List.mem_of_getElem? (i := 11) rfl))
set_option maxRecDepth 100000 in
theorem kw588 : Cond.fieldLink "NativeWorksModel" 453 "NativeWorksModel" "equWord" "J" ∈ rTs := List.mem_append_left _ (rBm12 (List.mem_of_getElem? (i := 12) rfl))
set_option maxRecDepth 100000 in
theorem kw589 : Cond.fieldLink "NativeWorksModel" 458 "NativeWorksModel" "repWord" "J" ∈ rTs := List.mem_append_left _ (rBm12 (List.mem_of_getElem? (i := 13) rfl))
set_option maxRecDepth 100000 in
theorem kw590 : Cond.fieldLink "NativeWorksModel" 463 "NativeWorksModel" "startWord" "J" ∈ rTs := List.mem_append_left _ (rBm12 (List.mem_of_getElem? (i := 14) rfl))
set_option maxRecDepth 100000 in
theorem kw591 : Cond.code ⟨"NativeWorksModel", "fillTable", "()V"⟩ prog_14_method_103_code 3 (Option.none : Option FieldType) ∈ rTs := List.mem_append_left _ (rBm12 (List.mem_of_getElem? (i := 15) rfl))
set_option maxRecDepth 100000 in
theorem kw592 : Cond.methodLink "NativeWorksModel" 466 ⟨"NativeWorksModel", "fillTable", "()V"⟩ ∈ rTs := List.mem_append_left _ (rBm12 (List.mem_of_getElem? (i := 16) rfl))
set_option maxRecDepth 100000 in
theorem kw593 : Cond.instanceMethod ⟨"NativeWorksModel", "fillTable", "()V"⟩ ∈ rTs := List.mem_append_left _ (rBm12 (List.mem_of_getElem? (i := 17) rfl))
set_option maxRecDepth 100000 in
theorem kw594 : Cond.selects "NativeWorksModel" ⟨"NativeWorksModel", "fillTable", "()V"⟩ ⟨"NativeWorksModel", "fillTable", "()V"⟩ ∈ rTs := List.mem_append_left _ (rBm12 (List.mem_of_getElem? (i := 18) rfl))
set_option maxRecDepth 100000 in
theorem kw595 : Cond.code ⟨"NativeWorks", "append", "(I)V"⟩ prog_1_method_21_code 3 (Option.none : Option FieldType) ∈ rTs := List.mem_append_left _ (rBm12 (List.mem_of_getElem? (i := 19) rfl))
set_option maxRecDepth 100000 in
theorem kw596 : Cond.methodLink "NativeWorks" 59 ⟨"NativeWorks", "append", "(I)V"⟩ ∈ rTs := List.mem_append_left _ (rBm12 (List.mem_of_getElem? (i := 20) rfl))
set_option maxRecDepth 100000 in
theorem kw597 : Cond.instanceMethod ⟨"NativeWorks", "append", "(I)V"⟩ ∈ rTs := List.mem_append_left _ (rBm12 (List.mem_of_getElem? (i := 21) rfl))
set_option maxRecDepth 100000 in
theorem kw598 : Cond.selects "NativeWorks" ⟨"NativeWorks", "append", "(I)V"⟩ ⟨"NativeWorks", "append", "(I)V"⟩ ∈ rTs := List.mem_append_left _ (rBm12 (List.mem_of_getElem? (i := 22) rfl))
set_option maxRecDepth 100000 in
theorem kw599 : Cond.initialized "NativeWorks" ∈ rTs := List.mem_append_left _ (rBm12 (List.mem_of_getElem? (i := 23) rfl))
set_option maxRecDepth 100000 in
theorem kw600 : Cond.methodLink "NativeWorks" 224 ⟨"java/lang/Math", "min", "(II)I"⟩ ∈ rTs := List.mem_append_left _ (rBm12 (List.mem_of_getElem? (i := 24) rfl))
set_option maxRecDepth 100000 in
theorem kw601 : Cond.methodLink "NativeWorks" 230 ⟨"java/lang/Math", "max", "(II)I"⟩ ∈ rTs := List.mem_append_left _ (rBm12 (List.mem_of_getElem? (i := 25) rfl))
set_option maxRecDepth 100000 in
theorem kw602 : Cond.static ⟨"java/lang/Math", "max", "(II)I"⟩ ∈ rTs := List.mem_append_left _ (rBm12 (List.mem_of_getElem? (i := 26) rfl))
set_option maxRecDepth 100000 in
theorem kw603 : Cond.code ⟨"java/lang/Math", "max", "(II)I"⟩ prog_27_method_65_code 2 (Option.some FieldType.int) ∈ rTs := List.mem_append_left _ (rBm12 (List.mem_of_getElem? (i := 27) rfl))
set_option maxRecDepth 100000 in
theorem kw604 : Cond.fieldLink "NativeWorks$Units" 57 "NativeWorks$Units" "count" "I" ∈ rTs := List.mem_append_left _ (rBm12 (List.mem_of_getElem? (i := 28) rfl))
set_option maxRecDepth 100000 in
theorem kw605 : Cond.methodLink "NativeWorks$Units" 77 ⟨"java/util/Arrays", "fill", "([II)V"⟩ ∈ rTs := List.mem_append_left _ (rBm12 (List.mem_of_getElem? (i := 29) rfl))
set_option maxRecDepth 100000 in
theorem kw606 : Cond.fieldLink "NativeWorks$Units" 83 "NativeWorks$Names" "count" "I" ∈ rTs := List.mem_append_left _ (rBm12 (List.mem_of_getElem? (i := 30) rfl))
set_option maxRecDepth 100000 in
theorem kw607 : Cond.fieldLink "NativeWorks$Units" 65 "NativeWorks$Units" "statementCount" "I" ∈ rTs := List.mem_append_left _ (rBm12 (List.mem_of_getElem? (i := 31) rfl))
set_option maxRecDepth 100000 in
theorem kw608 : Cond.fieldLink "NativeWorks$Units" 68 "NativeWorks$Units" "waitCount" "I" ∈ rTs := List.mem_append_left _ (rBm12 (List.mem_of_getElem? (i := 32) rfl))
set_option maxRecDepth 100000 in
theorem kw609 : Cond.fieldLink "NativeWorks$Units" 84 "NativeWorks$Units" "symbolsFrom" "I" ∈ rTs := List.mem_append_left _ (rBm12 (List.mem_of_getElem? (i := 33) rfl))
set_option maxRecDepth 100000 in
theorem kw610 : Cond.fieldLink "NativeWorks$Units" 87 "NativeWorks$Units" "labelCount" "I" ∈ rTs := List.mem_append_left _ (rBm12 (List.mem_of_getElem? (i := 34) rfl))
set_option maxRecDepth 100000 in
theorem kw611 : Cond.fieldLink "NativeWorks$Units" 90 "NativeWorks$Units" "putCount" "I" ∈ rTs := List.mem_append_left _ (rBm12 (List.mem_of_getElem? (i := 35) rfl))
set_option maxRecDepth 100000 in
theorem kw612 : Cond.code ⟨"NativeWorks$Names", "cut", "(I)V"⟩ prog_9_method_4_code 2 (Option.none : Option FieldType) ∈ rTs := List.mem_append_left _ (rBm12 (List.mem_of_getElem? (i := 36) rfl))
set_option maxRecDepth 100000 in
theorem kw613 : Cond.methodLink "NativeWorks$Source" 66 ⟨"NativeWorks$Names", "cut", "(I)V"⟩ ∈ rTs := List.mem_append_left _ (rBm12 (List.mem_of_getElem? (i := 37) rfl))
set_option maxRecDepth 100000 in
theorem kw614 : Cond.instanceMethod ⟨"NativeWorks$Names", "cut", "(I)V"⟩ ∈ rTs := List.mem_append_left _ (rBm12 (List.mem_of_getElem? (i := 38) rfl))
set_option maxRecDepth 100000 in
theorem kw615 : Cond.selects "NativeWorks$Names" ⟨"NativeWorks$Names", "cut", "(I)V"⟩ ⟨"NativeWorks$Names", "cut", "(I)V"⟩ ∈ rTs := List.mem_append_left _ (rBm12 (List.mem_of_getElem? (i := 39) rfl))
set_option maxRecDepth 100000 in
theorem kw616 : Cond.code ⟨"NativeWorks$Source", "match", "()V"⟩ prog_11_method_4_code 5 (Option.none : Option FieldType) ∈ rTs := List.mem_append_left _ (rBm12 (List.mem_of_getElem? (i := 40) rfl))
set_option maxRecDepth 100000 in
theorem kw617 : Cond.methodLink "NativeWorks$Source" 74 ⟨"NativeWorks$Source", "match", "()V"⟩ ∈ rTs := List.mem_append_left _ (rBm12 (List.mem_of_getElem? (i := 41) rfl))
set_option maxRecDepth 100000 in
theorem kw618 : Cond.instanceMethod ⟨"NativeWorks$Source", "match", "()V"⟩ ∈ rTs := List.mem_append_left _ (rBm12 (List.mem_of_getElem? (i := 42) rfl))
set_option maxRecDepth 100000 in
theorem kw619 : Cond.selects "NativeWorks$Source" ⟨"NativeWorks$Source", "match", "()V"⟩ ⟨"NativeWorks$Source", "match", "()V"⟩ ∈ rTs := List.mem_append_left _ (rBm12 (List.mem_of_getElem? (i := 43) rfl))
set_option maxRecDepth 100000 in
theorem kw620 : Cond.code ⟨"NativeWorks$Source", "split", "(I)V"⟩ prog_11_method_2_code 3 (Option.none : Option FieldType) ∈ rTs := List.mem_append_left _ (rBm12 (List.mem_of_getElem? (i := 44) rfl))
set_option maxRecDepth 100000 in
theorem kw621 : Cond.methodLink "NativeWorks$Reade\x72" 60 ⟨"NativeWorks$Source", "split", "(I)V"⟩ ∈ rTs := List.mem_append_left _ (rBm12 (List.mem_of_getElem? (i := 45) rfl))
set_option maxRecDepth 100000 in
theorem kw622 : Cond.instanceMethod ⟨"NativeWorks$Source", "split", "(I)V"⟩ ∈ rTs := List.mem_append_left _ (rBm12 (List.mem_of_getElem? (i := 46) rfl))
set_option maxRecDepth 100000 in
theorem kw623 : Cond.selects "NativeWorks$Source" ⟨"NativeWorks$Source", "split", "(I)V"⟩ ⟨"NativeWorks$Source", "split", "(I)V"⟩ ∈ rTs := List.mem_append_left _ (rBm12 (List.mem_of_getElem? (i := 47) rfl))
set_option maxRecDepth 100000 in
theorem kw624 : Cond.fieldLink "NativeWorks$Reade\x72" 66 "NativeWorks$Reade\x72" "depth" "I" ∈ rTs := List.mem_append_left _ (rBm13 (List.mem_of_getElem? (i := 0) rfl))
set_option maxRecDepth 100000 in
theorem kw625 : Cond.fieldLink "NativeWorks$Reade\x72" 70 "NativeWorks$Source" "lines" "I" ∈ rTs := List.mem_append_left _ (rBm13 (List.mem_of_getElem? (i := 1) rfl))
set_option maxRecDepth 100000 in
theorem kw626 : Cond.fieldLink "NativeWorks$Reade\x72" 73 "NativeWorks$Reade\x72" "ifs" "I" ∈ rTs := List.mem_append_left _ (rBm13 (List.mem_of_getElem? (i := 2) rfl))
set_option maxRecDepth 100000 in
theorem kw627 : Cond.fieldLink "NativeWorks$Reade\x72" 76 "NativeWorks$Reade\x72" "told" "I" ∈ rTs := List.mem_append_left _ (rBm13 (List.mem_of_getElem? (i := 3) rfl))
set_option maxRecDepth 100000 in
theorem kw628 : Cond.fieldLink "NativeWorks$Reade\x72" 79 "NativeWorks$Reade\x72" "read" "I" ∈ rTs := List.mem_append_left _ (rBm13 (List.mem_of_getElem? (i := 4) rfl))
set_option maxRecDepth 100000 in
theorem kw629 : Cond.fieldLink "NativeWorks$Reade\x72" 82 "NativeWorks$Reade\x72" "used" "I" ∈ rTs := List.mem_append_left _ (rBm13 (List.mem_of_getElem? (i := 5) rfl))
set_option maxRecDepth 100000 in
theorem kw630 : Cond.fieldLink "NativeWorks$Reade\x72" 85 "NativeWorks$Reade\x72" "unended" "Z" ∈ rTs := List.mem_append_left _ (rBm13 (List.mem_of_getElem? (i := 6) rfl))
set_option maxRecDepth 100000 in
theorem kw631 : Cond.constant "NativeWorks$Reade\x72" 89 (nI 1000000) ∈ rTs := List.mem_append_left _ (rBm13 (List.mem_of_getElem? (i := 7) (by decide +kernel)))
set_option maxRecDepth 100000 in
theorem kw632 : Cond.code ⟨"NativeWorks$Units", "place", "()V"⟩ prog_12_method_17_code 5 (Option.none : Option FieldType) ∈ rTs := List.mem_append_left _ (rBm13 (List.mem_of_getElem? (i := 8) rfl))
set_option maxRecDepth 100000 in
theorem kw633 : Cond.methodLink "NativeWorks$Units" 103 ⟨"NativeWorks$Units", "place", "()V"⟩ ∈ rTs := List.mem_append_left _ (rBm13 (List.mem_of_getElem? (i := 9) rfl))
set_option maxRecDepth 100000 in
theorem kw634 : Cond.instanceMethod ⟨"NativeWorks$Units", "place", "()V"⟩ ∈ rTs := List.mem_append_left _ (rBm13 (List.mem_of_getElem? (i := 10) rfl))
set_option maxRecDepth 100000 in
theorem kw635 : Cond.selects "NativeWorks$Units" ⟨"NativeWorks$Units", "place", "()V"⟩ ⟨"NativeWorks$Units", "place", "()V"⟩ ∈ rTs := List.mem_append_left _ (rBm13 (List.mem_of_getElem? (i := 11) rfl))
set_option maxRecDepth 100000 in
theorem kw636 : Cond.code ⟨"NativeWorks$Units", "lengthen", "()Z"⟩ prog_12_method_18_code 6 (Option.some FieldType.boolean) ∈ rTs := List.mem_append_left _ (rBm13 (List.mem_of_getElem? (i := 12) rfl))
set_option maxRecDepth 100000 in
theorem kw637 : Cond.methodLink "NativeWorks$Units" 106 ⟨"NativeWorks$Units", "lengthen", "()Z"⟩ ∈ rTs := List.mem_append_left _ (rBm13 (List.mem_of_getElem? (i := 13) rfl))
set_option maxRecDepth 100000 in
theorem kw638 : Cond.instanceMethod ⟨"NativeWorks$Units", "lengthen", "()Z"⟩ ∈ rTs := List.mem_append_left _ (rBm13 (List.mem_of_getElem? (i := 14) rfl))
set_option maxRecDepth 100000 in
theorem kw639 : Cond.selects "NativeWorks$Units" ⟨"NativeWorks$Units", "lengthen", "()Z"⟩ ⟨"NativeWorks$Units", "lengthen", "()Z"⟩ ∈ rTs := List.mem_append_left _ (rBm13 (List.mem_of_getElem? (i := 15) rfl))
set_option maxRecDepth 100000 in
theorem kw640 : Cond.code ⟨"NativeWorks$Units", "settleWaits", "()V"⟩ prog_12_method_20_code 4 (Option.none : Option FieldType) ∈ rTs := List.mem_append_left _ (rBm13 (List.mem_of_getElem? (i := 16) rfl))
set_option maxRecDepth 100000 in
theorem kw641 : Cond.methodLink "NativeWorks$Units" 110 ⟨"NativeWorks$Units", "settleWaits", "()V"⟩ ∈ rTs := List.mem_append_left _ (rBm13 (List.mem_of_getElem? (i := 17) rfl))
set_option maxRecDepth 100000 in
theorem kw642 : Cond.instanceMethod ⟨"NativeWorks$Units", "settleWaits", "()V"⟩ ∈ rTs := List.mem_append_left _ (rBm13 (List.mem_of_getElem? (i := 18) rfl))
set_option maxRecDepth 100000 in
theorem kw643 : Cond.selects "NativeWorks$Units" ⟨"NativeWorks$Units", "settleWaits", "()V"⟩ ⟨"NativeWorks$Units", "settleWaits", "()V"⟩ ∈ rTs := List.mem_append_left _ (rBm13 (List.mem_of_getElem? (i := 19) rfl))
set_option maxRecDepth 100000 in
theorem kw644 : Cond.code ⟨"java/util/Arrays", "rangeCheck", "(III)V"⟩ prog_38_method_30_code 3 (Option.none : Option FieldType) ∈ rTs := List.mem_append_left _ (rBm13 (List.mem_of_getElem? (i := 20) rfl))
set_option maxRecDepth 100000 in
theorem kw645 : Cond.methodLink "java/util/Arrays" 13 ⟨"java/util/Arrays", "rangeCheck", "(III)V"⟩ ∈ rTs := List.mem_append_left _ (rBm13 (List.mem_of_getElem? (i := 21) rfl))
set_option maxRecDepth 100000 in
theorem kw646 : Cond.static ⟨"java/util/Arrays", "rangeCheck", "(III)V"⟩ ∈ rTs := List.mem_append_left _ (rBm13 (List.mem_of_getElem? (i := 22) rfl))
set_option maxRecDepth 100000 in
theorem kw647 : Cond.fieldLink "NativeWorks$Units" 71 "NativeWorks$Units" "byteCount" "I" ∈ rTs := List.mem_append_left _ (rBm13 (List.mem_of_getElem? (i := 23) rfl))
set_option maxRecDepth 100000 in
theorem kw648 : Cond.code ⟨"java/util/Arrays", "fill", "([BIIB)V"⟩ prog_38_method_110_code 5 (Option.none : Option FieldType) ∈ rTs := List.mem_append_left _ (rBm13 (List.mem_of_getElem? (i := 24) rfl))
set_option maxRecDepth 100000 in
theorem kw649 : Cond.methodLink "NativeWorks$Units" 125 ⟨"java/util/Arrays", "fill", "([BIIB)V"⟩ ∈ rTs := List.mem_append_left _ (rBm13 (List.mem_of_getElem? (i := 25) rfl))
set_option maxRecDepth 100000 in
theorem kw650 : Cond.static ⟨"java/util/Arrays", "fill", "([BIIB)V"⟩ ∈ rTs := List.mem_append_left _ (rBm13 (List.mem_of_getElem? (i := 26) rfl))
set_option maxRecDepth 100000 in
theorem kw651 : Cond.fieldLink "NativeWorks$Assemble\x72" 122 "NativeWorks$Reade\x72" "source" "LNativeWorks$Source;" ∈ rTs := List.mem_append_left _ (rBm13 (List.mem_of_getElem? (i := 27) rfl))
set_option maxRecDepth 100000 in
theorem kw652 : Cond.fieldLink "NativeWorks$Assemble\x72" 126 "NativeWorks$Source" "lines" "I" ∈ rTs := List.mem_append_left _ (rBm13 (List.mem_of_getElem? (i := 28) rfl))
set_option maxRecDepth 100000 in
theorem kw653 : Cond.fieldLink "NativeWorks$Assemble\x72" 129 "NativeWorks$Reade\x72" "unended" "Z" ∈ rTs := List.mem_append_left _ (rBm13 (List.mem_of_getElem? (i := 29) rfl))
set_option maxRecDepth 100000 in
theorem kw654 : Cond.fieldLink "NativeWorks$Assemble\x72" 133 "NativeWorks$Reade\x72" "ifs" "I" ∈ rTs := List.mem_append_left _ (rBm13 (List.mem_of_getElem? (i := 30) rfl))
set_option maxRecDepth 100000 in
theorem kw655 : Cond.code ⟨"NativeWorks$Units", "brokenSpan", "()I"⟩ prog_12_method_12_code 5 (Option.some FieldType.int) ∈ rTs := List.mem_append_left _ (rBm13 (List.mem_of_getElem? (i := 31) rfl))
set_option maxRecDepth 100000 in
theorem kw656 : Cond.methodLink "NativeWorks$Assemble\x72" 136 ⟨"NativeWorks$Units", "brokenSpan", "()I"⟩ ∈ rTs := List.mem_append_left _ (rBm13 (List.mem_of_getElem? (i := 32) rfl))
set_option maxRecDepth 100000 in
theorem kw657 : Cond.instanceMethod ⟨"NativeWorks$Units", "brokenSpan", "()I"⟩ ∈ rTs := List.mem_append_left _ (rBm13 (List.mem_of_getElem? (i := 33) rfl))
set_option maxRecDepth 100000 in
theorem kw658 : Cond.selects "NativeWorks$Units" ⟨"NativeWorks$Units", "brokenSpan", "()I"⟩ ⟨"NativeWorks$Units", "brokenSpan", "()I"⟩ ∈ rTs := List.mem_append_left _ (rBm13 (List.mem_of_getElem? (i := 34) rfl))
set_option maxRecDepth 100000 in
theorem kw659 : Cond.code ⟨"NativeWorks$Units", "layOut", "()V"⟩ prog_12_method_15_code 3 (Option.none : Option FieldType) ∈ rTs := List.mem_append_left _ (rBm13 (List.mem_of_getElem? (i := 35) rfl))
set_option maxRecDepth 100000 in
theorem kw660 : Cond.methodLink "NativeWorks$Assemble\x72" 139 ⟨"NativeWorks$Units", "layOut", "()V"⟩ ∈ rTs := List.mem_append_left _ (rBm13 (List.mem_of_getElem? (i := 36) rfl))
set_option maxRecDepth 100000 in
theorem kw661 : Cond.instanceMethod ⟨"NativeWorks$Units", "layOut", "()V"⟩ ∈ rTs := List.mem_append_left _ (rBm13 (List.mem_of_getElem? (i := 37) rfl))
set_option maxRecDepth 100000 in
theorem kw662 : Cond.selects "NativeWorks$Units" ⟨"NativeWorks$Units", "layOut", "()V"⟩ ⟨"NativeWorks$Units", "layOut", "()V"⟩ ∈ rTs := List.mem_append_left _ (rBm13 (List.mem_of_getElem? (i := 38) rfl))
set_option maxRecDepth 100000 in
theorem kw663 : Cond.code ⟨"NativeWorks$Units", "overlong", "()I"⟩ prog_12_method_21_code 2 (Option.some FieldType.int) ∈ rTs := List.mem_append_left _ (rBm13 (List.mem_of_getElem? (i := 39) rfl))
set_option maxRecDepth 100000 in
theorem kw664 : Cond.methodLink "NativeWorks$Assemble\x72" 142 ⟨"NativeWorks$Units", "overlong", "()I"⟩ ∈ rTs := List.mem_append_left _ (rBm13 (List.mem_of_getElem? (i := 40) rfl))
set_option maxRecDepth 100000 in
theorem kw665 : Cond.instanceMethod ⟨"NativeWorks$Units", "overlong", "()I"⟩ ∈ rTs := List.mem_append_left _ (rBm13 (List.mem_of_getElem? (i := 41) rfl))
set_option maxRecDepth 100000 in
theorem kw666 : Cond.selects "NativeWorks$Units" ⟨"NativeWorks$Units", "overlong", "()I"⟩ ⟨"NativeWorks$Units", "overlong", "()I"⟩ ∈ rTs := List.mem_append_left _ (rBm13 (List.mem_of_getElem? (i := 42) rfl))
set_option maxRecDepth 100000 in
theorem kw667 : Cond.code ⟨"NativeWorks$Units", "write", "()Z"⟩ prog_12_method_22_code 5 (Option.some FieldType.boolean) ∈ rTs := List.mem_append_left _ (rBm13 (List.mem_of_getElem? (i := 43) rfl))
set_option maxRecDepth 100000 in
theorem kw668 : Cond.methodLink "NativeWorks$Assemble\x72" 145 ⟨"NativeWorks$Units", "write", "()Z"⟩ ∈ rTs := List.mem_append_left _ (rBm13 (List.mem_of_getElem? (i := 44) rfl))
set_option maxRecDepth 100000 in
theorem kw669 : Cond.instanceMethod ⟨"NativeWorks$Units", "write", "()Z"⟩ ∈ rTs := List.mem_append_left _ (rBm13 (List.mem_of_getElem? (i := 45) rfl))
set_option maxRecDepth 100000 in
theorem kw670 : Cond.selects "NativeWorks$Units" ⟨"NativeWorks$Units", "write", "()Z"⟩ ⟨"NativeWorks$Units", "write", "()Z"⟩ ∈ rTs := List.mem_append_left _ (rBm13 (List.mem_of_getElem? (i := 46) rfl))
set_option maxRecDepth 100000 in
theorem kw671 : Cond.code ⟨"NativeWorks$Units", "keepAll", "()V"⟩ prog_12_method_6_code 2 (Option.none : Option FieldType) ∈ rTs := List.mem_append_left _ (rBm13 (List.mem_of_getElem? (i := 47) rfl))
set_option maxRecDepth 100000 in
theorem kw672 : Cond.methodLink "NativeWorks$Assemble\x72" 148 ⟨"NativeWorks$Units", "keepAll", "()V"⟩ ∈ rTs := List.mem_append_left _ (rBm14 (List.mem_of_getElem? (i := 0) rfl))
set_option maxRecDepth 100000 in
theorem kw673 : Cond.instanceMethod ⟨"NativeWorks$Units", "keepAll", "()V"⟩ ∈ rTs := List.mem_append_left _ (rBm14 (List.mem_of_getElem? (i := 1) rfl))
set_option maxRecDepth 100000 in
theorem kw674 : Cond.selects "NativeWorks$Units" ⟨"NativeWorks$Units", "keepAll", "()V"⟩ ⟨"NativeWorks$Units", "keepAll", "()V"⟩ ∈ rTs := List.mem_append_left _ (rBm14 (List.mem_of_getElem? (i := 2) rfl))
set_option maxRecDepth 100000 in
theorem kw675 : Cond.code ⟨"NativeWorks$Units", "begin", "(Z)V"⟩ prog_12_method_4_code 3 (Option.none : Option FieldType) ∈ rTs := List.mem_append_left _ (rBm14 (List.mem_of_getElem? (i := 3) rfl))
set_option maxRecDepth 100000 in
theorem kw676 : Cond.methodLink "NativeWorks$Assemble\x72" 60 ⟨"NativeWorks$Units", "begin", "(Z)V"⟩ ∈ rTs := List.mem_append_left _ (rBm14 (List.mem_of_getElem? (i := 4) rfl))
set_option maxRecDepth 100000 in
theorem kw677 : Cond.instanceMethod ⟨"NativeWorks$Units", "begin", "(Z)V"⟩ ∈ rTs := List.mem_append_left _ (rBm14 (List.mem_of_getElem? (i := 5) rfl))
set_option maxRecDepth 100000 in
theorem kw678 : Cond.selects "NativeWorks$Units" ⟨"NativeWorks$Units", "begin", "(Z)V"⟩ ⟨"NativeWorks$Units", "begin", "(Z)V"⟩ ∈ rTs := List.mem_append_left _ (rBm14 (List.mem_of_getElem? (i := 6) rfl))
set_option maxRecDepth 100000 in
theorem kw679 : Cond.code ⟨"NativeWorks$Reade\x72", "open", "(I)V"⟩ prog_10_method_2_code 2 (Option.none : Option FieldType) ∈ rTs := List.mem_append_left _ (rBm14 (List.mem_of_getElem? (i := 7) rfl))
set_option maxRecDepth 100000 in
theorem kw680 : Cond.methodLink "NativeWorks$Assemble\x72" 66 ⟨"NativeWorks$Reade\x72", "open", "(I)V"⟩ ∈ rTs := List.mem_append_left _ (rBm14 (List.mem_of_getElem? (i := 8) rfl))
set_option maxRecDepth 100000 in
theorem kw681 : Cond.instanceMethod ⟨"NativeWorks$Reade\x72", "open", "(I)V"⟩ ∈ rTs := List.mem_append_left _ (rBm14 (List.mem_of_getElem? (i := 9) rfl))
set_option maxRecDepth 100000 in
theorem kw682 : Cond.selects "NativeWorks$Reade\x72" ⟨"NativeWorks$Reade\x72", "open", "(I)V"⟩ ⟨"NativeWorks$Reade\x72", "open", "(I)V"⟩ ∈ rTs := List.mem_append_left _ (rBm14 (List.mem_of_getElem? (i := 10) rfl))
set_option maxRecDepth 100000 in
theorem kw683 : Cond.fieldLink "NativeWorks$Assemble\x72" 70 "NativeWorks$Expression" "latestLength" "I" ∈ rTs := List.mem_append_left _ (rBm14 (List.mem_of_getElem? (i := 11) rfl))
set_option maxRecDepth 100000 in
theorem kw684 : Cond.fieldLink "NativeWorks$Assemble\x72" 74 "NativeWorks$Assemble\x72" "section" "I" ∈ rTs := List.mem_append_left _ (rBm14 (List.mem_of_getElem? (i := 12) rfl))
set_option maxRecDepth 100000 in
theorem kw685 : Cond.constant "NativeWorks$Assemble\x72" 77 (nI 65536) ∈ rTs := List.mem_append_left _ (rBm14 (List.mem_of_getElem? (i := 13) (by decide +kernel)))
set_option maxRecDepth 100000 in
theorem kw686 : Cond.code ⟨"NativeWorks$Reade\x72", "advance", "()Z"⟩ prog_10_method_3_code 2 (Option.some FieldType.boolean) ∈ rTs := List.mem_append_left _ (rBm14 (List.mem_of_getElem? (i := 14) rfl))
set_option maxRecDepth 100000 in
theorem kw687 : Cond.methodLink "NativeWorks$Assemble\x72" 78 ⟨"NativeWorks$Reade\x72", "advance", "()Z"⟩ ∈ rTs := List.mem_append_left _ (rBm14 (List.mem_of_getElem? (i := 15) rfl))
set_option maxRecDepth 100000 in
theorem kw688 : Cond.instanceMethod ⟨"NativeWorks$Reade\x72", "advance", "()Z"⟩ ∈ rTs := List.mem_append_left _ (rBm14 (List.mem_of_getElem? (i := 16) rfl))
set_option maxRecDepth 100000 in
theorem kw689 : Cond.selects "NativeWorks$Reade\x72" ⟨"NativeWorks$Reade\x72", "advance", "()Z"⟩ ⟨"NativeWorks$Reade\x72", "advance", "()Z"⟩ ∈ rTs := List.mem_append_left _ (rBm14 (List.mem_of_getElem? (i := 17) rfl))
set_option maxRecDepth 100000 in
theorem kw690 : Cond.code ⟨"NativeWorks$Assemble\x72", "finish", "()I"⟩ prog_2_method_4_code 4 (Option.some FieldType.int) ∈ rTs := List.mem_append_left _ (rBm14 (List.mem_of_getElem? (i := 18) rfl))
set_option maxRecDepth 100000 in
theorem kw691 : Cond.methodLink "NativeWorks$Assemble\x72" 113 ⟨"NativeWorks$Assemble\x72", "finish", "()I"⟩ ∈ rTs := List.mem_append_left _ (rBm14 (List.mem_of_getElem? (i := 19) rfl))
set_option maxRecDepth 100000 in
theorem kw692 : Cond.instanceMethod ⟨"NativeWorks$Assemble\x72", "finish", "()I"⟩ ∈ rTs := List.mem_append_left _ (rBm14 (List.mem_of_getElem? (i := 20) rfl))
set_option maxRecDepth 100000 in
theorem kw693 : Cond.selects "NativeWorks$Assemble\x72" ⟨"NativeWorks$Assemble\x72", "finish", "()I"⟩ ⟨"NativeWorks$Assemble\x72", "finish", "()I"⟩ ∈ rTs := List.mem_append_left _ (rBm14 (List.mem_of_getElem? (i := 21) rfl))
set_option maxRecDepth 100000 in
theorem kw694 : Cond.code ⟨"NativeWorks", "emptied", "(I)I"⟩ prog_1_method_22_code 3 (Option.some FieldType.int) ∈ rTs := List.mem_append_left _ (rBm14 (List.mem_of_getElem? (i := 22) rfl))
set_option maxRecDepth 100000 in
theorem kw695 : Cond.methodLink "NativeWorks" 63 ⟨"NativeWorks", "emptied", "(I)I"⟩ ∈ rTs := List.mem_append_left _ (rBm14 (List.mem_of_getElem? (i := 23) rfl))
set_option maxRecDepth 100000 in
theorem kw696 : Cond.instanceMethod ⟨"NativeWorks", "emptied", "(I)I"⟩ ∈ rTs := List.mem_append_left _ (rBm14 (List.mem_of_getElem? (i := 24) rfl))
set_option maxRecDepth 100000 in
theorem kw697 : Cond.selects "NativeWorks" ⟨"NativeWorks", "emptied", "(I)I"⟩ ⟨"NativeWorks", "emptied", "(I)I"⟩ ∈ rTs := List.mem_append_left _ (rBm14 (List.mem_of_getElem? (i := 25) rfl))
set_option maxRecDepth 100000 in
theorem kw698 : Cond.fieldLink "NativeWorks" 67 "NativeWorks$Units" "count" "I" ∈ rTs := List.mem_append_left _ (rBm14 (List.mem_of_getElem? (i := 26) rfl))
set_option maxRecDepth 100000 in
theorem kw699 : Cond.code ⟨"NativeWorks$Assemble\x72", "assemble", "(IZ)I"⟩ prog_2_method_2_code 4 (Option.some FieldType.int) ∈ rTs := List.mem_append_left _ (rBm14 (List.mem_of_getElem? (i := 27) rfl))
set_option maxRecDepth 100000 in
theorem kw700 : Cond.methodLink "NativeWorks" 81 ⟨"NativeWorks$Assemble\x72", "assemble", "(IZ)I"⟩ ∈ rTs := List.mem_append_left _ (rBm14 (List.mem_of_getElem? (i := 28) rfl))
set_option maxRecDepth 100000 in
theorem kw701 : Cond.instanceMethod ⟨"NativeWorks$Assemble\x72", "assemble", "(IZ)I"⟩ ∈ rTs := List.mem_append_left _ (rBm14 (List.mem_of_getElem? (i := 29) rfl))
set_option maxRecDepth 100000 in
theorem kw702 : Cond.selects "NativeWorks$Assemble\x72" ⟨"NativeWorks$Assemble\x72", "assemble", "(IZ)I"⟩ ⟨"NativeWorks$Assemble\x72", "assemble", "(IZ)I"⟩ ∈ rTs := List.mem_append_left _ (rBm14 (List.mem_of_getElem? (i := 30) rfl))
set_option maxRecDepth 100000 in
theorem kw703 : Cond.code ⟨"NativeWorks", "tell", "(III)V"⟩ prog_1_method_23_code 4 (Option.none : Option FieldType) ∈ rTs := List.mem_append_left _ (rBm14 (List.mem_of_getElem? (i := 31) rfl))
set_option maxRecDepth 100000 in
theorem kw704 : Cond.methodLink "NativeWorks" 70 ⟨"NativeWorks", "tell", "(III)V"⟩ ∈ rTs := List.mem_append_left _ (rBm14 (List.mem_of_getElem? (i := 32) rfl))
set_option maxRecDepth 100000 in
theorem kw705 : Cond.instanceMethod ⟨"NativeWorks", "tell", "(III)V"⟩ ∈ rTs := List.mem_append_left _ (rBm14 (List.mem_of_getElem? (i := 33) rfl))
set_option maxRecDepth 100000 in
theorem kw706 : Cond.selects "NativeWorks" ⟨"NativeWorks", "tell", "(III)V"⟩ ⟨"NativeWorks", "tell", "(III)V"⟩ ∈ rTs := List.mem_append_left _ (rBm14 (List.mem_of_getElem? (i := 34) rfl))
set_option maxRecDepth 100000 in
theorem kw707 : Cond.methodLink "NativeWorks$Units" 61 ⟨"NativeWorks$Names", "cut", "(I)V"⟩ ∈ rTs := List.mem_append_left _ (rBm14 (List.mem_of_getElem? (i := 35) rfl))
set_option maxRecDepth 100000 in
theorem kw708 : Cond.fieldLink "NativeWorks$Units" 74 "NativeWorks$Units" "counted" "I" ∈ rTs := List.mem_append_left _ (rBm14 (List.mem_of_getElem? (i := 36) rfl))
set_option maxRecDepth 100000 in
theorem kw709 : Cond.code ⟨"NativeWorks$Units", "empty", "()V"⟩ prog_12_method_3_code 1 (Option.none : Option FieldType) ∈ rTs := List.mem_append_left _ (rBm14 (List.mem_of_getElem? (i := 37) rfl))
set_option maxRecDepth 100000 in
theorem kw710 : Cond.methodLink "NativeWorks" 88 ⟨"NativeWorks$Units", "empty", "()V"⟩ ∈ rTs := List.mem_append_left _ (rBm14 (List.mem_of_getElem? (i := 38) rfl))
set_option maxRecDepth 100000 in
theorem kw711 : Cond.instanceMethod ⟨"NativeWorks$Units", "empty", "()V"⟩ ∈ rTs := List.mem_append_left _ (rBm14 (List.mem_of_getElem? (i := 39) rfl))
set_option maxRecDepth 100000 in
theorem kw712 : Cond.selects "NativeWorks$Units" ⟨"NativeWorks$Units", "empty", "()V"⟩ ⟨"NativeWorks$Units", "empty", "()V"⟩ ∈ rTs := List.mem_append_left _ (rBm14 (List.mem_of_getElem? (i := 40) rfl))
set_option maxRecDepth 100000 in
theorem kw713 : Cond.code ⟨"NativeWorks$Units", "has", "(II)Z"⟩ prog_12_method_2_code 3 (Option.some FieldType.boolean) ∈ rTs := List.mem_append_left _ (rBm14 (List.mem_of_getElem? (i := 41) rfl))
set_option maxRecDepth 100000 in
theorem kw714 : Cond.methodLink "NativeWorks" 91 ⟨"NativeWorks$Units", "has", "(II)Z"⟩ ∈ rTs := List.mem_append_left _ (rBm14 (List.mem_of_getElem? (i := 42) rfl))
set_option maxRecDepth 100000 in
theorem kw715 : Cond.instanceMethod ⟨"NativeWorks$Units", "has", "(II)Z"⟩ ∈ rTs := List.mem_append_left _ (rBm14 (List.mem_of_getElem? (i := 43) rfl))
set_option maxRecDepth 100000 in
theorem kw716 : Cond.selects "NativeWorks$Units" ⟨"NativeWorks$Units", "has", "(II)Z"⟩ ⟨"NativeWorks$Units", "has", "(II)Z"⟩ ∈ rTs := List.mem_append_left _ (rBm14 (List.mem_of_getElem? (i := 44) rfl))
set_option maxRecDepth 100000 in
theorem kw717 : Cond.fieldLink "NativeWorks$Linke\x72" 133 "NativeWorks$Linke\x72" "faultKind" "I" ∈ rTs := List.mem_append_left _ (rBm14 (List.mem_of_getElem? (i := 45) rfl))
set_option maxRecDepth 100000 in
theorem kw718 : Cond.fieldLink "NativeWorks$Linke\x72" 136 "NativeWorks$Linke\x72" "faultLine" "I" ∈ rTs := List.mem_append_left _ (rBm14 (List.mem_of_getElem? (i := 46) rfl))
set_option maxRecDepth 100000 in
theorem kw719 : Cond.fieldLink "NativeWorks$Linke\x72" 139 "NativeWorks$Linke\x72" "faultUnit" "I" ∈ rTs := List.mem_append_left _ (rBm14 (List.mem_of_getElem? (i := 47) rfl))
set_option maxRecDepth 100000 in
theorem kw720 : Cond.fieldLink "NativeWorks$Linke\x72" 154 "NativeWorks$Units" "count" "I" ∈ rTs := List.mem_append_left _ (rBm15 (List.mem_of_getElem? (i := 0) rfl))
set_option maxRecDepth 100000 in
theorem kw721 : Cond.code ⟨"NativeWorks$Linke\x72", "tell", "(III)V"⟩ prog_6_method_3_code 4 (Option.none : Option FieldType) ∈ rTs := List.mem_append_left _ (rBm15 (List.mem_of_getElem? (i := 1) rfl))
set_option maxRecDepth 100000 in
theorem kw722 : Cond.methodLink "NativeWorks$Linke\x72" 65 ⟨"NativeWorks$Linke\x72", "tell", "(III)V"⟩ ∈ rTs := List.mem_append_left _ (rBm15 (List.mem_of_getElem? (i := 2) rfl))
set_option maxRecDepth 100000 in
theorem kw723 : Cond.instanceMethod ⟨"NativeWorks$Linke\x72", "tell", "(III)V"⟩ ∈ rTs := List.mem_append_left _ (rBm15 (List.mem_of_getElem? (i := 3) rfl))
set_option maxRecDepth 100000 in
theorem kw724 : Cond.selects "NativeWorks$Linke\x72" ⟨"NativeWorks$Linke\x72", "tell", "(III)V"⟩ ⟨"NativeWorks$Linke\x72", "tell", "(III)V"⟩ ∈ rTs := List.mem_append_left _ (rBm15 (List.mem_of_getElem? (i := 4) rfl))
set_option maxRecDepth 100000 in
theorem kw725 : Cond.code ⟨"NativeWorks$Linke\x72", "takeUnits", "()V"⟩ prog_6_method_9_code 3 (Option.none : Option FieldType) ∈ rTs := List.mem_append_left _ (rBm15 (List.mem_of_getElem? (i := 5) rfl))
set_option maxRecDepth 100000 in
theorem kw726 : Cond.methodLink "NativeWorks$Linke\x72" 69 ⟨"NativeWorks$Linke\x72", "takeUnits", "()V"⟩ ∈ rTs := List.mem_append_left _ (rBm15 (List.mem_of_getElem? (i := 6) rfl))
set_option maxRecDepth 100000 in
theorem kw727 : Cond.instanceMethod ⟨"NativeWorks$Linke\x72", "takeUnits", "()V"⟩ ∈ rTs := List.mem_append_left _ (rBm15 (List.mem_of_getElem? (i := 7) rfl))
set_option maxRecDepth 100000 in
theorem kw728 : Cond.selects "NativeWorks$Linke\x72" ⟨"NativeWorks$Linke\x72", "takeUnits", "()V"⟩ ⟨"NativeWorks$Linke\x72", "takeUnits", "()V"⟩ ∈ rTs := List.mem_append_left _ (rBm15 (List.mem_of_getElem? (i := 8) rfl))
set_option maxRecDepth 100000 in
theorem kw729 : Cond.fieldLink "NativeWorks$Linke\x72" 72 "NativeWorks$Units" "names" "LNativeWorks$Names;" ∈ rTs := List.mem_append_left _ (rBm15 (List.mem_of_getElem? (i := 9) rfl))
set_option maxRecDepth 100000 in
theorem kw730 : Cond.fieldLink "NativeWorks$Linke\x72" 73 "NativeWorks$Linke\x72" "START" "[B" ∈ rTs := List.mem_append_left _ (rBm15 (List.mem_of_getElem? (i := 10) rfl))
set_option maxRecDepth 100000 in
theorem kw731 : Cond.fieldLink "NativeWorks$Linke\x72" 76 "NativeWorks$Names" "count" "I" ∈ rTs := List.mem_append_left _ (rBm15 (List.mem_of_getElem? (i := 11) rfl))
set_option maxRecDepth 100000 in
theorem kw732 : Cond.code ⟨"NativeWorks$Names", "find", "([BIII)I"⟩ prog_9_method_2_code 9 (Option.some FieldType.int) ∈ rTs := List.mem_append_left _ (rBm15 (List.mem_of_getElem? (i := 12) rfl))
set_option maxRecDepth 100000 in
theorem kw733 : Cond.methodLink "NativeWorks$Linke\x72" 80 ⟨"NativeWorks$Names", "find", "([BIII)I"⟩ ∈ rTs := List.mem_append_left _ (rBm15 (List.mem_of_getElem? (i := 13) rfl))
set_option maxRecDepth 100000 in
theorem kw734 : Cond.instanceMethod ⟨"NativeWorks$Names", "find", "([BIII)I"⟩ ∈ rTs := List.mem_append_left _ (rBm15 (List.mem_of_getElem? (i := 14) rfl))
set_option maxRecDepth 100000 in
theorem kw735 : Cond.selects "NativeWorks$Names" ⟨"NativeWorks$Names", "find", "([BIII)I"⟩ ⟨"NativeWorks$Names", "find", "([BIII)I"⟩ ∈ rTs := List.mem_append_left _ (rBm15 (List.mem_of_getElem? (i := 15) rfl))
set_option maxRecDepth 100000 in
theorem kw736 : Cond.code ⟨"NativeWorks$Linke\x72", "make", "()Z"⟩ prog_6_method_2_code 4 (Option.some FieldType.boolean) ∈ rTs := List.mem_append_left _ (rBm15 (List.mem_of_getElem? (i := 16) rfl))
set_option maxRecDepth 100000 in
theorem kw737 : Cond.methodLink "NativeWorks" 102 ⟨"NativeWorks$Linke\x72", "make", "()Z"⟩ ∈ rTs := List.mem_append_left _ (rBm15 (List.mem_of_getElem? (i := 17) rfl))
set_option maxRecDepth 100000 in
theorem kw738 : Cond.instanceMethod ⟨"NativeWorks$Linke\x72", "make", "()Z"⟩ ∈ rTs := List.mem_append_left _ (rBm15 (List.mem_of_getElem? (i := 18) rfl))
set_option maxRecDepth 100000 in
theorem kw739 : Cond.selects "NativeWorks$Linke\x72" ⟨"NativeWorks$Linke\x72", "make", "()Z"⟩ ⟨"NativeWorks$Linke\x72", "make", "()Z"⟩ ∈ rTs := List.mem_append_left _ (rBm15 (List.mem_of_getElem? (i := 19) rfl))
set_option maxRecDepth 100000 in
theorem kw740 : Cond.fieldLink "NativeWorks" 106 "NativeWorks$Linke\x72" "faultKind" "I" ∈ rTs := List.mem_append_left _ (rBm15 (List.mem_of_getElem? (i := 20) rfl))
set_option maxRecDepth 100000 in
theorem kw741 : Cond.fieldLink "NativeWorks" 107 "NativeWorks$Linke\x72" "faultLine" "I" ∈ rTs := List.mem_append_left _ (rBm15 (List.mem_of_getElem? (i := 21) rfl))
set_option maxRecDepth 100000 in
theorem kw742 : Cond.fieldLink "NativeWorks" 108 "NativeWorks$Linke\x72" "faultUnit" "I" ∈ rTs := List.mem_append_left _ (rBm15 (List.mem_of_getElem? (i := 22) rfl))
set_option maxRecDepth 100000 in
theorem kw743 : Cond.classLink "NativeWorks" 109 "java/lang/IllegalStateException" ∈ rTs := List.mem_append_left _ (rBm15 (List.mem_of_getElem? (i := 23) rfl))
set_option maxRecDepth 100000 in
theorem kw744 : Cond.initialized "java/lang/IllegalStateException" ∈ rTs := List.mem_append_left _ (rBm15 (List.mem_of_getElem? (i := 24) rfl))
set_option maxRecDepth 100000 in
theorem kw745 : Cond.fieldLink "NativeWorks" 117 "NativeWorks$Linke\x72" "names" "LNativeWorks$Names;" ∈ rTs := List.mem_append_left _ (rBm15 (List.mem_of_getElem? (i := 25) rfl))
set_option maxRecDepth 100000 in
theorem kw746 : Cond.fieldLink "NativeWorks" 121 "NativeWorks$Names" "count" "I" ∈ rTs := List.mem_append_left _ (rBm15 (List.mem_of_getElem? (i := 26) rfl))
set_option maxRecDepth 100000 in
theorem kw747 : Cond.methodLink "NativeWorks" 124 ⟨"NativeWorks$Names", "find", "([BIII)I"⟩ ∈ rTs := List.mem_append_left _ (rBm15 (List.mem_of_getElem? (i := 27) rfl))
set_option maxRecDepth 100000 in
theorem kw748 : Cond.classLink "NativeWorks" 128 "java/util/NoSuchElementException" ∈ rTs := List.mem_append_left _ (rBm15 (List.mem_of_getElem? (i := 28) rfl))
set_option maxRecDepth 100000 in
theorem kw749 : Cond.initialized "java/util/NoSuchElementException" ∈ rTs := List.mem_append_left _ (rBm15 (List.mem_of_getElem? (i := 29) rfl))
set_option maxRecDepth 100000 in
theorem kw750 : Cond.fieldLink "NativeWorks" 137 "NativeWorks$Linke\x72" "made" "Z" ∈ rTs := List.mem_append_left _ (rBm15 (List.mem_of_getElem? (i := 30) rfl))
set_option maxRecDepth 100000 in
theorem kw751 : Cond.fieldLink "NativeWorks$Machine" 64 "NativeWorks$Machine" "waiting" "I" ∈ rTs := List.mem_append_left _ (rBm15 (List.mem_of_getElem? (i := 31) rfl))
set_option maxRecDepth 100000 in
theorem kw752 : Cond.methodLink "NativeWorks$Machine" 79 ⟨"java/lang/Math", "min", "(II)I"⟩ ∈ rTs := List.mem_append_left _ (rBm15 (List.mem_of_getElem? (i := 32) rfl))
set_option maxRecDepth 100000 in
theorem kw753 : Cond.methodLink "NativeWorks$Machine" 85 ⟨"java/lang/System", "arraycopy", "(Ljava/lang/Object;ILjava/lang/Object;II)V"⟩ ∈ rTs := List.mem_append_left _ (rBm15 (List.mem_of_getElem? (i := 33) rfl))
set_option maxRecDepth 100000 in
theorem kw754 : Cond.code ⟨"NativeWorks$Machine", "take", "([BI)I"⟩ prog_7_method_4_code 4 (Option.some FieldType.int) ∈ rTs := List.mem_append_left _ (rBm15 (List.mem_of_getElem? (i := 34) rfl))
set_option maxRecDepth 100000 in
theorem kw755 : Cond.methodLink "NativeWorks" 150 ⟨"NativeWorks$Machine", "take", "([BI)I"⟩ ∈ rTs := List.mem_append_left _ (rBm15 (List.mem_of_getElem? (i := 35) rfl))
set_option maxRecDepth 100000 in
theorem kw756 : Cond.instanceMethod ⟨"NativeWorks$Machine", "take", "([BI)I"⟩ ∈ rTs := List.mem_append_left _ (rBm15 (List.mem_of_getElem? (i := 36) rfl))
set_option maxRecDepth 100000 in
theorem kw757 : Cond.selects "NativeWorks$Machine" ⟨"NativeWorks$Machine", "take", "([BI)I"⟩ ⟨"NativeWorks$Machine", "take", "([BI)I"⟩ ∈ rTs := List.mem_append_left _ (rBm15 (List.mem_of_getElem? (i := 37) rfl))
set_option maxRecDepth 100000 in
theorem kw758 : Cond.classLink "NativeWorks" 74 "java/lang/IllegalArgumentException" ∈ rTs := List.mem_append_left _ (rBm15 (List.mem_of_getElem? (i := 38) rfl))
set_option maxRecDepth 100000 in
theorem kw759 : Cond.initialized "java/lang/IllegalArgumentException" ∈ rTs := List.mem_append_left _ (rBm15 (List.mem_of_getElem? (i := 39) rfl))
set_option maxRecDepth 100000 in
theorem kw760 : Cond.fieldLink "NativeWorks" 156 "NativeWorks$Machine" "memory" "LNativeWorks$Memory;" ∈ rTs := List.mem_append_left _ (rBm15 (List.mem_of_getElem? (i := 40) rfl))
set_option maxRecDepth 100000 in
theorem kw761 : Cond.fieldLink "NativeWorks" 160 "NativeWorks$Memory" "loaded" "Z" ∈ rTs := List.mem_append_left _ (rBm15 (List.mem_of_getElem? (i := 41) rfl))
set_option maxRecDepth 100000 in
theorem kw762 : Cond.fieldLink "NativeWorks" 165 "NativeWorks$Machine" "stop" "I" ∈ rTs := List.mem_append_left _ (rBm15 (List.mem_of_getElem? (i := 42) rfl))
set_option maxRecDepth 100000 in
theorem kw763 : Cond.fieldLink "NativeWorks" 173 "NativeWorks$Machine" "stopValue" "J" ∈ rTs := List.mem_append_left _ (rBm15 (List.mem_of_getElem? (i := 43) rfl))
set_option maxRecDepth 100000 in
theorem kw764 : Cond.fieldLink "NativeWorks$Machine" 61 "NativeWorks$Machine" "flags" "I" ∈ rTs := List.mem_append_left _ (rBm15 (List.mem_of_getElem? (i := 44) rfl))
set_option maxRecDepth 100000 in
theorem kw765 : Cond.fieldLink "NativeWorks" 177 "NativeWorks$Machine" "\x72" "[J" ∈ rTs := List.mem_append_left _ (rBm15 (List.mem_of_getElem? (i := 45) rfl))
set_option maxRecDepth 100000 in
theorem kw766 : Cond.fieldLink "NativeWorks" 180 "NativeWorks$Machine" "ip" "J" ∈ rTs := List.mem_append_left _ (rBm15 (List.mem_of_getElem? (i := 46) rfl))
set_option maxRecDepth 100000 in
theorem kw767 : Cond.code ⟨"NativeWorks$Machine", "told", "()I"⟩ prog_7_method_3_code 1 (Option.some FieldType.int) ∈ rTs := List.mem_append_left _ (rBm15 (List.mem_of_getElem? (i := 47) rfl))
set_option maxRecDepth 100000 in
theorem kw768 : Cond.methodLink "NativeWorks" 183 ⟨"NativeWorks$Machine", "told", "()I"⟩ ∈ rTs := List.mem_append_left _ (rBm16 (List.mem_of_getElem? (i := 0) rfl))
set_option maxRecDepth 100000 in
theorem kw769 : Cond.instanceMethod ⟨"NativeWorks$Machine", "told", "()I"⟩ ∈ rTs := List.mem_append_left _ (rBm16 (List.mem_of_getElem? (i := 1) rfl))
set_option maxRecDepth 100000 in
theorem kw770 : Cond.selects "NativeWorks$Machine" ⟨"NativeWorks$Machine", "told", "()I"⟩ ⟨"NativeWorks$Machine", "told", "()I"⟩ ∈ rTs := List.mem_append_left _ (rBm16 (List.mem_of_getElem? (i := 2) rfl))
set_option maxRecDepth 100000 in
theorem kw771 : Cond.fieldLink "NativeWorks" 187 "NativeWorks$Memory" "end" "J" ∈ rTs := List.mem_append_left _ (rBm16 (List.mem_of_getElem? (i := 3) rfl))
set_option maxRecDepth 100000 in
theorem kw772 : Cond.fieldLink "NativeWorks" 190 "NativeWorks$Machine" "steps" "I" ∈ rTs := List.mem_append_left _ (rBm16 (List.mem_of_getElem? (i := 4) rfl))
set_option maxRecDepth 100000 in
theorem kw773 : Cond.code ⟨"NativeWorks$Memory", "may", "(JJZ)Z"⟩ prog_8_method_4_code 13 (Option.some FieldType.boolean) ∈ rTs := List.mem_append_left _ (rBm16 (List.mem_of_getElem? (i := 5) rfl))
set_option maxRecDepth 100000 in
theorem kw774 : Cond.methodLink "NativeWorks" 193 ⟨"NativeWorks$Memory", "may", "(JJZ)Z"⟩ ∈ rTs := List.mem_append_left _ (rBm16 (List.mem_of_getElem? (i := 6) rfl))
set_option maxRecDepth 100000 in
theorem kw775 : Cond.instanceMethod ⟨"NativeWorks$Memory", "may", "(JJZ)Z"⟩ ∈ rTs := List.mem_append_left _ (rBm16 (List.mem_of_getElem? (i := 7) rfl))
set_option maxRecDepth 100000 in
theorem kw776 : Cond.selects "NativeWorks$Memory" ⟨"NativeWorks$Memory", "may", "(JJZ)Z"⟩ ⟨"NativeWorks$Memory", "may", "(JJZ)Z"⟩ ∈ rTs := List.mem_append_left _ (rBm16 (List.mem_of_getElem? (i := 8) rfl))
set_option maxRecDepth 100000 in
theorem kw777 : Cond.fieldLink "NativeWorks$Machine" 91 "NativeWorks$Machine" "stopCount" "I" ∈ rTs := List.mem_append_left _ (rBm16 (List.mem_of_getElem? (i := 9) rfl))
set_option maxRecDepth 100000 in
theorem kw778 : Cond.code ⟨"NativeWorks$Machine", "stopPlace", "(J)I"⟩ prog_7_method_5_code 4 (Option.some FieldType.int) ∈ rTs := List.mem_append_left _ (rBm16 (List.mem_of_getElem? (i := 10) rfl))
set_option maxRecDepth 100000 in
theorem kw779 : Cond.methodLink "NativeWorks$Machine" 94 ⟨"NativeWorks$Machine", "stopPlace", "(J)I"⟩ ∈ rTs := List.mem_append_left _ (rBm16 (List.mem_of_getElem? (i := 11) rfl))
set_option maxRecDepth 100000 in
theorem kw780 : Cond.instanceMethod ⟨"NativeWorks$Machine", "stopPlace", "(J)I"⟩ ∈ rTs := List.mem_append_left _ (rBm16 (List.mem_of_getElem? (i := 12) rfl))
set_option maxRecDepth 100000 in
theorem kw781 : Cond.selects "NativeWorks$Machine" ⟨"NativeWorks$Machine", "stopPlace", "(J)I"⟩ ⟨"NativeWorks$Machine", "stopPlace", "(J)I"⟩ ∈ rTs := List.mem_append_left _ (rBm16 (List.mem_of_getElem? (i := 13) rfl))
set_option maxRecDepth 100000 in
theorem kw782 : Cond.code ⟨"NativeWorks$Machine", "addPlace", "(J)Z"⟩ prog_7_method_6_code 3 (Option.some FieldType.boolean) ∈ rTs := List.mem_append_left _ (rBm16 (List.mem_of_getElem? (i := 14) rfl))
set_option maxRecDepth 100000 in
theorem kw783 : Cond.methodLink "NativeWorks" 205 ⟨"NativeWorks$Machine", "addPlace", "(J)Z"⟩ ∈ rTs := List.mem_append_left _ (rBm16 (List.mem_of_getElem? (i := 15) rfl))
set_option maxRecDepth 100000 in
theorem kw784 : Cond.instanceMethod ⟨"NativeWorks$Machine", "addPlace", "(J)Z"⟩ ∈ rTs := List.mem_append_left _ (rBm16 (List.mem_of_getElem? (i := 16) rfl))
set_option maxRecDepth 100000 in
theorem kw785 : Cond.selects "NativeWorks$Machine" ⟨"NativeWorks$Machine", "addPlace", "(J)Z"⟩ ⟨"NativeWorks$Machine", "addPlace", "(J)Z"⟩ ∈ rTs := List.mem_append_left _ (rBm16 (List.mem_of_getElem? (i := 17) rfl))
set_option maxRecDepth 100000 in
theorem kw786 : Cond.code ⟨"NativeWorks$Machine", "dropPlace", "(J)Z"⟩ prog_7_method_7_code 4 (Option.some FieldType.boolean) ∈ rTs := List.mem_append_left _ (rBm16 (List.mem_of_getElem? (i := 18) rfl))
set_option maxRecDepth 100000 in
theorem kw787 : Cond.methodLink "NativeWorks" 209 ⟨"NativeWorks$Machine", "dropPlace", "(J)Z"⟩ ∈ rTs := List.mem_append_left _ (rBm16 (List.mem_of_getElem? (i := 19) rfl))
set_option maxRecDepth 100000 in
theorem kw788 : Cond.instanceMethod ⟨"NativeWorks$Machine", "dropPlace", "(J)Z"⟩ ∈ rTs := List.mem_append_left _ (rBm16 (List.mem_of_getElem? (i := 20) rfl))
set_option maxRecDepth 100000 in
theorem kw789 : Cond.selects "NativeWorks$Machine" ⟨"NativeWorks$Machine", "dropPlace", "(J)Z"⟩ ⟨"NativeWorks$Machine", "dropPlace", "(J)Z"⟩ ∈ rTs := List.mem_append_left _ (rBm16 (List.mem_of_getElem? (i := 21) rfl))
set_option maxRecDepth 100000 in
theorem kw790 : Cond.fieldLink "NativeWorks" 212 "NativeWorks$Machine" "written" "I" ∈ rTs := List.mem_append_left _ (rBm16 (List.mem_of_getElem? (i := 22) rfl))
set_option maxRecDepth 100000 in
theorem kw791 : Cond.constantLong "NativeWorks" 218 (lN 4194304) ∈ rTs := List.mem_append_left _ (rBm16 (List.mem_of_getElem? (i := 23) (by decide +kernel)))
set_option maxRecDepth 100000 in
theorem kw792 : Cond.fieldLink "NativeWorks" 220 "NativeWorks$Linke\x72" "origins" "[I" ∈ rTs := List.mem_append_left _ (rBm16 (List.mem_of_getElem? (i := 24) rfl))
set_option maxRecDepth 100000 in
theorem kw793 : Cond.fieldLink "NativeWorksModel" 608 "NativeWorksModel" "thrown" "I" ∈ rTs := List.mem_append_left _ (rBm16 (List.mem_of_getElem? (i := 25) rfl))
set_option maxRecDepth 100000 in
theorem kw794 : Cond.fieldLink "NativeWorksModel" 611 "NativeWorksModel" "taped" "I" ∈ rTs := List.mem_append_left _ (rBm16 (List.mem_of_getElem? (i := 26) rfl))
set_option maxRecDepth 100000 in
theorem kw795 : Cond.fieldLink "NativeWorksModel" 629 "NativeWorksModel" "frames" "I" ∈ rTs := List.mem_append_left _ (rBm16 (List.mem_of_getElem? (i := 27) rfl))
set_option maxRecDepth 100000 in
theorem kw796 : Cond.code ⟨"NativeWorksModel", "reade\x72", "()I"⟩ prog_14_method_26_code 2 (Option.some FieldType.int) ∈ rTs := List.mem_append_left _ (rBm16 (List.mem_of_getElem? (i := 28) rfl))
set_option maxRecDepth 100000 in
theorem kw797 : Cond.methodLink "NativeWorksModel" 672 ⟨"NativeWorksModel", "reade\x72", "()I"⟩ ∈ rTs := List.mem_append_left _ (rBm16 (List.mem_of_getElem? (i := 29) rfl))
set_option maxRecDepth 100000 in
theorem kw798 : Cond.instanceMethod ⟨"NativeWorksModel", "reade\x72", "()I"⟩ ∈ rTs := List.mem_append_left _ (rBm16 (List.mem_of_getElem? (i := 30) rfl))
set_option maxRecDepth 100000 in
theorem kw799 : Cond.selects "NativeWorksModel" ⟨"NativeWorksModel", "reade\x72", "()I"⟩ ⟨"NativeWorksModel", "reade\x72", "()I"⟩ ∈ rTs := List.mem_append_left _ (rBm16 (List.mem_of_getElem? (i := 31) rfl))
set_option maxRecDepth 100000 in
theorem kw800 : Cond.fieldLink "NativeWorksModel" 632 "NativeWorksModel" "bad" "I" ∈ rTs := List.mem_append_left _ (rBm16 (List.mem_of_getElem? (i := 32) rfl))
set_option maxRecDepth 100000 in
theorem kw801 : Cond.fieldLink "NativeWorksModel" 675 "NativeWorksModel" "at" "I" ∈ rTs := List.mem_append_left _ (rBm16 (List.mem_of_getElem? (i := 33) rfl))
set_option maxRecDepth 100000 in
theorem kw802 : Cond.fieldLink "NativeWorksModel" 649 "NativeWorksModel" "sourceEnd" "I" ∈ rTs := List.mem_append_left _ (rBm16 (List.mem_of_getElem? (i := 34) rfl))
set_option maxRecDepth 100000 in
theorem kw803 : Cond.fieldLink "NativeWorksModel" 739 "NativeWorksModel" "unit" "I" ∈ rTs := List.mem_append_left _ (rBm16 (List.mem_of_getElem? (i := 35) rfl))
set_option maxRecDepth 100000 in
theorem kw804 : Cond.fieldLink "NativeWorksModel" 791 "NativeWorksModel" "items" "I" ∈ rTs := List.mem_append_left _ (rBm16 (List.mem_of_getElem? (i := 36) rfl))
set_option maxRecDepth 100000 in
theorem kw805 : Cond.fieldLink "NativeWorksModel" 842 "NativeWorksModel" "waits" "I" ∈ rTs := List.mem_append_left _ (rBm16 (List.mem_of_getElem? (i := 37) rfl))
set_option maxRecDepth 100000 in
theorem kw806 : Cond.code ⟨"NativeWorksModel", "layOut", "()V"⟩ prog_14_method_115_code 9 (Option.none : Option FieldType) ∈ rTs := List.mem_append_left _ (rBm16 (List.mem_of_getElem? (i := 38) rfl))
set_option maxRecDepth 100000 in
theorem kw807 : Cond.methodLink "NativeWorksModel" 1143 ⟨"NativeWorksModel", "layOut", "()V"⟩ ∈ rTs := List.mem_append_left _ (rBm16 (List.mem_of_getElem? (i := 39) rfl))
set_option maxRecDepth 100000 in
theorem kw808 : Cond.instanceMethod ⟨"NativeWorksModel", "layOut", "()V"⟩ ∈ rTs := List.mem_append_left _ (rBm16 (List.mem_of_getElem? (i := 40) rfl))
set_option maxRecDepth 100000 in
theorem kw809 : Cond.selects "NativeWorksModel" ⟨"NativeWorksModel", "layOut", "()V"⟩ ⟨"NativeWorksModel", "layOut", "()V"⟩ ∈ rTs := List.mem_append_left _ (rBm16 (List.mem_of_getElem? (i := 41) rfl))
set_option maxRecDepth 100000 in
theorem kw810 : Cond.fieldLink "NativeWorksModel" 967 "NativeWorksModel" "notEnded" "Z" ∈ rTs := List.mem_append_left _ (rBm16 (List.mem_of_getElem? (i := 42) rfl))
set_option maxRecDepth 100000 in
theorem kw811 : Cond.fieldLink "NativeWorksModel" 848 "NativeWorksModel" "spans" "I" ∈ rTs := List.mem_append_left _ (rBm16 (List.mem_of_getElem? (i := 43) rfl))
set_option maxRecDepth 100000 in
theorem kw812 : Cond.code ⟨"NativeWorksModel", "shorten", "()V"⟩ prog_14_method_118_code 6 (Option.none : Option FieldType) ∈ rTs := List.mem_append_left _ (rBm16 (List.mem_of_getElem? (i := 44) rfl))
set_option maxRecDepth 100000 in
theorem kw813 : Cond.methodLink "NativeWorksModel" 1156 ⟨"NativeWorksModel", "shorten", "()V"⟩ ∈ rTs := List.mem_append_left _ (rBm16 (List.mem_of_getElem? (i := 45) rfl))
set_option maxRecDepth 100000 in
theorem kw814 : Cond.instanceMethod ⟨"NativeWorksModel", "shorten", "()V"⟩ ∈ rTs := List.mem_append_left _ (rBm16 (List.mem_of_getElem? (i := 46) rfl))
set_option maxRecDepth 100000 in
theorem kw815 : Cond.selects "NativeWorksModel" ⟨"NativeWorksModel", "shorten", "()V"⟩ ⟨"NativeWorksModel", "shorten", "()V"⟩ ∈ rTs := List.mem_append_left _ (rBm16 (List.mem_of_getElem? (i := 47) rfl))
set_option maxRecDepth 100000 in
theorem kw816 : Cond.code ⟨"NativeWorksModel", "used", "(I)I"⟩ prog_14_method_13_code 2 (Option.some FieldType.int) ∈ rTs := List.mem_append_left _ (rBm17 (List.mem_of_getElem? (i := 0) rfl))
set_option maxRecDepth 100000 in
theorem kw817 : Cond.methodLink "NativeWorksModel" 1159 ⟨"NativeWorksModel", "used", "(I)I"⟩ ∈ rTs := List.mem_append_left _ (rBm17 (List.mem_of_getElem? (i := 1) rfl))
set_option maxRecDepth 100000 in
theorem kw818 : Cond.instanceMethod ⟨"NativeWorksModel", "used", "(I)I"⟩ ∈ rTs := List.mem_append_left _ (rBm17 (List.mem_of_getElem? (i := 2) rfl))
set_option maxRecDepth 100000 in
theorem kw819 : Cond.selects "NativeWorksModel" ⟨"NativeWorksModel", "used", "(I)I"⟩ ⟨"NativeWorksModel", "used", "(I)I"⟩ ∈ rTs := List.mem_append_left _ (rBm17 (List.mem_of_getElem? (i := 3) rfl))
set_option maxRecDepth 100000 in
theorem kw820 : Cond.fieldLink "NativeWorksModel" 1162 "NativeWorksModel" "units" "I" ∈ rTs := List.mem_append_left _ (rBm17 (List.mem_of_getElem? (i := 4) rfl))
set_option maxRecDepth 100000 in
theorem kw821 : Cond.fieldLink "NativeWorksModel" 742 "NativeWorksModel" "symbols" "I" ∈ rTs := List.mem_append_left _ (rBm17 (List.mem_of_getElem? (i := 5) rfl))
set_option maxRecDepth 100000 in
theorem kw822 : Cond.fieldLink "NativeWorksModel" 751 "NativeWorksModel" "pooled" "I" ∈ rTs := List.mem_append_left _ (rBm17 (List.mem_of_getElem? (i := 6) rfl))
set_option maxRecDepth 100000 in
theorem kw823 : Cond.fieldLink "NativeWorksModel" 785 "NativeWorksModel" "datas" "I" ∈ rTs := List.mem_append_left _ (rBm17 (List.mem_of_getElem? (i := 7) rfl))
set_option maxRecDepth 100000 in
theorem kw824 : Cond.fieldLink "NativeWorksModel" 845 "NativeWorksModel" "plain" "I" ∈ rTs := List.mem_append_left _ (rBm17 (List.mem_of_getElem? (i := 8) rfl))
set_option maxRecDepth 100000 in
theorem kw825 : Cond.fieldLink "NativeWorksModel" 839 "NativeWorksModel" "statements" "I" ∈ rTs := List.mem_append_left _ (rBm17 (List.mem_of_getElem? (i := 9) rfl))
set_option maxRecDepth 100000 in
theorem kw826 : Cond.fieldLink "NativeWorksModel" 626 "NativeWorksModel" "lineNumbe\x72" "I" ∈ rTs := List.mem_append_left _ (rBm17 (List.mem_of_getElem? (i := 10) rfl))
set_option maxRecDepth 100000 in
theorem kw827 : Cond.fieldLink "NativeWorksModel" 851 "NativeWorksModel" "linesRead" "I" ∈ rTs := List.mem_append_left _ (rBm17 (List.mem_of_getElem? (i := 11) rfl))
set_option maxRecDepth 100000 in
theorem kw828 : Cond.fieldLink "NativeWorksModel" 970 "NativeWorksModel" "macrosRead" "I" ∈ rTs := List.mem_append_left _ (rBm17 (List.mem_of_getElem? (i := 12) rfl))
set_option maxRecDepth 100000 in
theorem kw829 : Cond.fieldLink "NativeWorksModel" 763 "NativeWorksModel" "macros" "I" ∈ rTs := List.mem_append_left _ (rBm17 (List.mem_of_getElem? (i := 13) rfl))
set_option maxRecDepth 100000 in
theorem kw830 : Cond.fieldLink "NativeWorksModel" 782 "NativeWorksModel" "section" "I" ∈ rTs := List.mem_append_left _ (rBm17 (List.mem_of_getElem? (i := 14) rfl))
set_option maxRecDepth 100000 in
theorem kw831 : Cond.fieldLink "NativeWorksModel" 736 "NativeWorksModel" "latest" "I" ∈ rTs := List.mem_append_left _ (rBm17 (List.mem_of_getElem? (i := 15) rfl))
set_option maxRecDepth 100000 in
theorem kw832 : Cond.fieldLink "NativeWorksModel" 754 "NativeWorksModel" "full" "Z" ∈ rTs := List.mem_append_left _ (rBm17 (List.mem_of_getElem? (i := 16) rfl))
set_option maxRecDepth 100000 in
theorem kw833 : Cond.code ⟨"NativeWorksModel", "nextLine", "()Z"⟩ prog_14_method_28_code 2 (Option.some FieldType.boolean) ∈ rTs := List.mem_append_left _ (rBm17 (List.mem_of_getElem? (i := 17) rfl))
set_option maxRecDepth 100000 in
theorem kw834 : Cond.methodLink "NativeWorksModel" 1165 ⟨"NativeWorksModel", "nextLine", "()Z"⟩ ∈ rTs := List.mem_append_left _ (rBm17 (List.mem_of_getElem? (i := 18) rfl))
set_option maxRecDepth 100000 in
theorem kw835 : Cond.instanceMethod ⟨"NativeWorksModel", "nextLine", "()Z"⟩ ∈ rTs := List.mem_append_left _ (rBm17 (List.mem_of_getElem? (i := 19) rfl))
set_option maxRecDepth 100000 in
theorem kw836 : Cond.selects "NativeWorksModel" ⟨"NativeWorksModel", "nextLine", "()Z"⟩ ⟨"NativeWorksModel", "nextLine", "()Z"⟩ ∈ rTs := List.mem_append_left _ (rBm17 (List.mem_of_getElem? (i := 20) rfl))
set_option maxRecDepth 100000 in
theorem kw837 : Cond.code ⟨"NativeWorksModel", "finish", "()V"⟩ prog_14_method_120_code 4 (Option.none : Option FieldType) ∈ rTs := List.mem_append_left _ (rBm17 (List.mem_of_getElem? (i := 21) rfl))
set_option maxRecDepth 100000 in
theorem kw838 : Cond.methodLink "NativeWorksModel" 1171 ⟨"NativeWorksModel", "finish", "()V"⟩ ∈ rTs := List.mem_append_left _ (rBm17 (List.mem_of_getElem? (i := 22) rfl))
set_option maxRecDepth 100000 in
theorem kw839 : Cond.instanceMethod ⟨"NativeWorksModel", "finish", "()V"⟩ ∈ rTs := List.mem_append_left _ (rBm17 (List.mem_of_getElem? (i := 23) rfl))
set_option maxRecDepth 100000 in
theorem kw840 : Cond.selects "NativeWorksModel" ⟨"NativeWorksModel", "finish", "()V"⟩ ⟨"NativeWorksModel", "finish", "()V"⟩ ∈ rTs := List.mem_append_left _ (rBm17 (List.mem_of_getElem? (i := 24) rfl))
set_option maxRecDepth 100000 in
theorem kw841 : Cond.fieldLink "NativeWorksModel" 1174 "NativeWorksModel" "faultKind" "I" ∈ rTs := List.mem_append_left _ (rBm17 (List.mem_of_getElem? (i := 25) rfl))
set_option maxRecDepth 100000 in
theorem kw842 : Cond.fieldLink "NativeWorksModel" 1177 "NativeWorksModel" "faultLine" "I" ∈ rTs := List.mem_append_left _ (rBm17 (List.mem_of_getElem? (i := 26) rfl))
set_option maxRecDepth 100000 in
theorem kw843 : Cond.code ⟨"NativeWorksModel", "give", "(II)I"⟩ prog_14_method_10_code 3 (Option.some FieldType.int) ∈ rTs := List.mem_append_left _ (rBm17 (List.mem_of_getElem? (i := 27) rfl))
set_option maxRecDepth 100000 in
theorem kw844 : Cond.methodLink "NativeWorksModel" 1180 ⟨"NativeWorksModel", "give", "(II)I"⟩ ∈ rTs := List.mem_append_left _ (rBm17 (List.mem_of_getElem? (i := 28) rfl))
set_option maxRecDepth 100000 in
theorem kw845 : Cond.instanceMethod ⟨"NativeWorksModel", "give", "(II)I"⟩ ∈ rTs := List.mem_append_left _ (rBm17 (List.mem_of_getElem? (i := 29) rfl))
set_option maxRecDepth 100000 in
theorem kw846 : Cond.selects "NativeWorksModel" ⟨"NativeWorksModel", "give", "(II)I"⟩ ⟨"NativeWorksModel", "give", "(II)I"⟩ ∈ rTs := List.mem_append_left _ (rBm17 (List.mem_of_getElem? (i := 30) rfl))
set_option maxRecDepth 100000 in
theorem kw847 : Cond.fieldLink "NativeWorksModel" 733 "NativeWorksModel" "nameSize" "I" ∈ rTs := List.mem_append_left _ (rBm17 (List.mem_of_getElem? (i := 31) rfl))
set_option maxRecDepth 100000 in
theorem kw848 : Cond.code ⟨"NativeWorksModel", "takeUnits", "()V"⟩ prog_14_method_133_code 3 (Option.none : Option FieldType) ∈ rTs := List.mem_append_left _ (rBm17 (List.mem_of_getElem? (i := 32) rfl))
set_option maxRecDepth 100000 in
theorem kw849 : Cond.methodLink "NativeWorksModel" 1225 ⟨"NativeWorksModel", "takeUnits", "()V"⟩ ∈ rTs := List.mem_append_left _ (rBm17 (List.mem_of_getElem? (i := 33) rfl))
set_option maxRecDepth 100000 in
theorem kw850 : Cond.instanceMethod ⟨"NativeWorksModel", "takeUnits", "()V"⟩ ∈ rTs := List.mem_append_left _ (rBm17 (List.mem_of_getElem? (i := 34) rfl))
set_option maxRecDepth 100000 in
theorem kw851 : Cond.selects "NativeWorksModel" ⟨"NativeWorksModel", "takeUnits", "()V"⟩ ⟨"NativeWorksModel", "takeUnits", "()V"⟩ ∈ rTs := List.mem_append_left _ (rBm17 (List.mem_of_getElem? (i := 35) rfl))
set_option maxRecDepth 100000 in
theorem kw852 : Cond.code ⟨"NativeWorksModel", "startSymbol", "()I"⟩ prog_14_method_143_code 2 (Option.some FieldType.int) ∈ rTs := List.mem_append_left _ (rBm17 (List.mem_of_getElem? (i := 36) rfl))
set_option maxRecDepth 100000 in
theorem kw853 : Cond.methodLink "NativeWorksModel" 1228 ⟨"NativeWorksModel", "startSymbol", "()I"⟩ ∈ rTs := List.mem_append_left _ (rBm17 (List.mem_of_getElem? (i := 37) rfl))
set_option maxRecDepth 100000 in
theorem kw854 : Cond.instanceMethod ⟨"NativeWorksModel", "startSymbol", "()I"⟩ ∈ rTs := List.mem_append_left _ (rBm17 (List.mem_of_getElem? (i := 38) rfl))
set_option maxRecDepth 100000 in
theorem kw855 : Cond.selects "NativeWorksModel" ⟨"NativeWorksModel", "startSymbol", "()I"⟩ ⟨"NativeWorksModel", "startSymbol", "()I"⟩ ∈ rTs := List.mem_append_left _ (rBm17 (List.mem_of_getElem? (i := 39) rfl))
set_option maxRecDepth 100000 in
theorem kw856 : Cond.code ⟨"NativeWorksModel", "linkFault", "(III)V"⟩ prog_14_method_142_code 4 (Option.none : Option FieldType) ∈ rTs := List.mem_append_left _ (rBm17 (List.mem_of_getElem? (i := 40) rfl))
set_option maxRecDepth 100000 in
theorem kw857 : Cond.methodLink "NativeWorksModel" 1222 ⟨"NativeWorksModel", "linkFault", "(III)V"⟩ ∈ rTs := List.mem_append_left _ (rBm17 (List.mem_of_getElem? (i := 41) rfl))
set_option maxRecDepth 100000 in
theorem kw858 : Cond.instanceMethod ⟨"NativeWorksModel", "linkFault", "(III)V"⟩ ∈ rTs := List.mem_append_left _ (rBm17 (List.mem_of_getElem? (i := 42) rfl))
set_option maxRecDepth 100000 in
theorem kw859 : Cond.selects "NativeWorksModel" ⟨"NativeWorksModel", "linkFault", "(III)V"⟩ ⟨"NativeWorksModel", "linkFault", "(III)V"⟩ ∈ rTs := List.mem_append_left _ (rBm17 (List.mem_of_getElem? (i := 43) rfl))
set_option maxRecDepth 100000 in
theorem kw860 : Cond.fieldLink "NativeWorksModel" 1296 "NativeWorksModel" "imageNames" "I" ∈ rTs := List.mem_append_left _ (rBm17 (List.mem_of_getElem? (i := 44) rfl))
set_option maxRecDepth 100000 in
theorem kw861 : Cond.fieldLink "NativeWorksModel" 1248 "NativeWorksModel" "hasImage" "Z" ∈ rTs := List.mem_append_left _ (rBm17 (List.mem_of_getElem? (i := 45) rfl))
set_option maxRecDepth 100000 in
theorem kw862 : Cond.fieldLink "NativeWorksModel" 1472 "NativeWorksModel" "givenSize" "I" ∈ rTs := List.mem_append_left _ (rBm17 (List.mem_of_getElem? (i := 46) rfl))
set_option maxRecDepth 100000 in
theorem kw863 : Cond.fieldLink "NativeWorksModel" 1302 "NativeWorksModel" "loaded" "Z" ∈ rTs := List.mem_append_left _ (rBm17 (List.mem_of_getElem? (i := 47) rfl))
set_option maxRecDepth 100000 in
theorem kw864 : Cond.fieldLink "NativeWorksModel" 1535 "NativeWorksModel" "stopKind" "I" ∈ rTs := List.mem_append_left _ (rBm18 (List.mem_of_getElem? (i := 0) rfl))
set_option maxRecDepth 100000 in
theorem kw865 : Cond.fieldLink "NativeWorksModel" 1538 "NativeWorksModel" "stopValue" "J" ∈ rTs := List.mem_append_left _ (rBm18 (List.mem_of_getElem? (i := 1) rfl))
set_option maxRecDepth 100000 in
theorem kw866 : Cond.constantLong "NativeWorksModel" 973 (lN 2) ∈ rTs := List.mem_append_left _ (rBm18 (List.mem_of_getElem? (i := 2) (by decide +kernel)))
set_option maxRecDepth 100000 in
theorem kw867 : Cond.fieldLink "NativeWorksModel" 1381 "NativeWorksModel" "carry" "Z" ∈ rTs := List.mem_append_left _ (rBm18 (List.mem_of_getElem? (i := 3) rfl))
set_option maxRecDepth 100000 in
theorem kw868 : Cond.fieldLink "NativeWorksModel" 1378 "NativeWorksModel" "parity" "Z" ∈ rTs := List.mem_append_left _ (rBm18 (List.mem_of_getElem? (i := 4) rfl))
set_option maxRecDepth 100000 in
theorem kw869 : Cond.fieldLink "NativeWorksModel" 1366 "NativeWorksModel" "zero" "Z" ∈ rTs := List.mem_append_left _ (rBm18 (List.mem_of_getElem? (i := 5) rfl))
set_option maxRecDepth 100000 in
theorem kw870 : Cond.fieldLink "NativeWorksModel" 1372 "NativeWorksModel" "negative" "Z" ∈ rTs := List.mem_append_left _ (rBm18 (List.mem_of_getElem? (i := 6) rfl))
set_option maxRecDepth 100000 in
theorem kw871 : Cond.fieldLink "NativeWorksModel" 1384 "NativeWorksModel" "ove\x72" "Z" ∈ rTs := List.mem_append_left _ (rBm18 (List.mem_of_getElem? (i := 7) rfl))
set_option maxRecDepth 100000 in
theorem kw872 : Cond.constantLong "NativeWorksModel" 1213 (lN 4194304) ∈ rTs := List.mem_append_left _ (rBm18 (List.mem_of_getElem? (i := 8) (by decide +kernel)))
set_option maxRecDepth 100000 in
theorem kw873 : Cond.fieldLink "NativeWorksModel" 1444 "NativeWorksModel" "ip" "J" ∈ rTs := List.mem_append_left _ (rBm18 (List.mem_of_getElem? (i := 9) rfl))
set_option maxRecDepth 100000 in
theorem kw874 : Cond.code ⟨"NativeWorksModel", "flags", "()J"⟩ prog_14_method_171_code 1 (Option.some FieldType.long) ∈ rTs := List.mem_append_left _ (rBm18 (List.mem_of_getElem? (i := 10) rfl))
set_option maxRecDepth 100000 in
theorem kw875 : Cond.methodLink "NativeWorksModel" 1469 ⟨"NativeWorksModel", "flags", "()J"⟩ ∈ rTs := List.mem_append_left _ (rBm18 (List.mem_of_getElem? (i := 11) rfl))
set_option maxRecDepth 100000 in
theorem kw876 : Cond.instanceMethod ⟨"NativeWorksModel", "flags", "()J"⟩ ∈ rTs := List.mem_append_left _ (rBm18 (List.mem_of_getElem? (i := 12) rfl))
set_option maxRecDepth 100000 in
theorem kw877 : Cond.selects "NativeWorksModel" ⟨"NativeWorksModel", "flags", "()J"⟩ ⟨"NativeWorksModel", "flags", "()J"⟩ ∈ rTs := List.mem_append_left _ (rBm18 (List.mem_of_getElem? (i := 13) rfl))
set_option maxRecDepth 100000 in
theorem kw878 : Cond.code ⟨"NativeWorksModel", "heapBegin", "()J"⟩ prog_14_method_151_code 1 (Option.some FieldType.long) ∈ rTs := List.mem_append_left _ (rBm18 (List.mem_of_getElem? (i := 14) rfl))
set_option maxRecDepth 100000 in
theorem kw879 : Cond.methodLink "NativeWorksModel" 1305 ⟨"NativeWorksModel", "heapBegin", "()J"⟩ ∈ rTs := List.mem_append_left _ (rBm18 (List.mem_of_getElem? (i := 15) rfl))
set_option maxRecDepth 100000 in
theorem kw880 : Cond.instanceMethod ⟨"NativeWorksModel", "heapBegin", "()J"⟩ ∈ rTs := List.mem_append_left _ (rBm18 (List.mem_of_getElem? (i := 16) rfl))
set_option maxRecDepth 100000 in
theorem kw881 : Cond.selects "NativeWorksModel" ⟨"NativeWorksModel", "heapBegin", "()J"⟩ ⟨"NativeWorksModel", "heapBegin", "()J"⟩ ∈ rTs := List.mem_append_left _ (rBm18 (List.mem_of_getElem? (i := 17) rfl))
set_option maxRecDepth 100000 in
theorem kw882 : Cond.fieldLink "NativeWorksModel" 1309 "NativeWorksModel" "heapSize" "I" ∈ rTs := List.mem_append_left _ (rBm18 (List.mem_of_getElem? (i := 18) rfl))
set_option maxRecDepth 100000 in
theorem kw883 : Cond.fieldLink "NativeWorksModel" 1544 "NativeWorksModel" "stepsDone" "J" ∈ rTs := List.mem_append_left _ (rBm18 (List.mem_of_getElem? (i := 19) rfl))
set_option maxRecDepth 100000 in
theorem kw884 : Cond.code ⟨"NativeWorksModel", "find", "(JZ)I"⟩ prog_14_method_152_code 10 (Option.some FieldType.int) ∈ rTs := List.mem_append_left _ (rBm18 (List.mem_of_getElem? (i := 20) rfl))
set_option maxRecDepth 100000 in
theorem kw885 : Cond.methodLink "NativeWorksModel" 1321 ⟨"NativeWorksModel", "find", "(JZ)I"⟩ ∈ rTs := List.mem_append_left _ (rBm18 (List.mem_of_getElem? (i := 21) rfl))
set_option maxRecDepth 100000 in
theorem kw886 : Cond.instanceMethod ⟨"NativeWorksModel", "find", "(JZ)I"⟩ ∈ rTs := List.mem_append_left _ (rBm18 (List.mem_of_getElem? (i := 22) rfl))
set_option maxRecDepth 100000 in
theorem kw887 : Cond.selects "NativeWorksModel" ⟨"NativeWorksModel", "find", "(JZ)I"⟩ ⟨"NativeWorksModel", "find", "(JZ)I"⟩ ∈ rTs := List.mem_append_left _ (rBm18 (List.mem_of_getElem? (i := 23) rfl))
set_option maxRecDepth 100000 in
theorem kw888 : Cond.fieldLink "NativeWorksModel" 1556 "NativeWorksModel" "placesMany" "I" ∈ rTs := List.mem_append_left _ (rBm18 (List.mem_of_getElem? (i := 24) rfl))
set_option maxRecDepth 100000 in
theorem kw889 : Cond.code ⟨"NativeWorksModel", "isPlace", "(J)Z"⟩ prog_14_method_196_code 4 (Option.some FieldType.boolean) ∈ rTs := List.mem_append_left _ (rBm18 (List.mem_of_getElem? (i := 25) rfl))
set_option maxRecDepth 100000 in
theorem kw890 : Cond.methodLink "NativeWorksModel" 1559 ⟨"NativeWorksModel", "isPlace", "(J)Z"⟩ ∈ rTs := List.mem_append_left _ (rBm18 (List.mem_of_getElem? (i := 26) rfl))
set_option maxRecDepth 100000 in
theorem kw891 : Cond.instanceMethod ⟨"NativeWorksModel", "isPlace", "(J)Z"⟩ ∈ rTs := List.mem_append_left _ (rBm18 (List.mem_of_getElem? (i := 27) rfl))
set_option maxRecDepth 100000 in
theorem kw892 : Cond.selects "NativeWorksModel" ⟨"NativeWorksModel", "isPlace", "(J)Z"⟩ ⟨"NativeWorksModel", "isPlace", "(J)Z"⟩ ∈ rTs := List.mem_append_left _ (rBm18 (List.mem_of_getElem? (i := 28) rfl))
set_option maxRecDepth 100000 in
theorem kw893 : Cond.fieldLink "NativeWorksModel" 1481 "NativeWorksModel" "shownSize" "I" ∈ rTs := List.mem_append_left _ (rBm18 (List.mem_of_getElem? (i := 29) rfl))
set_option maxRecDepth 100000 in
theorem kw894 : Cond.initialized "java/lang/Throwable" ∈ rTs := List.mem_append_left _ (rBm18 (List.mem_of_getElem? (i := 30) rfl))
set_option maxRecDepth 100000 in
theorem kw895 : Cond.superclass "java/lang/Throwable" "java/lang/Object" ∈ rTs := List.mem_append_left _ (rBm18 (List.mem_of_getElem? (i := 31) rfl))
set_option maxRecDepth 100000 in
theorem kw896 : Cond.instanceMethod ⟨"java/lang/Throwable", "fillInStackTrace", "()Ljava/lang/Throwable;"⟩ ∈ rTs := List.mem_append_left _ (rBm18 (List.mem_of_getElem? (i := 32) rfl))
set_option maxRecDepth 100000 in
theorem kw897 : Cond.codeSync ⟨"java/lang/Throwable", "fillInStackTrace", "()Ljava/lang/Throwable;"⟩ prog_35_method_18_code 1 (Option.some (FieldType.object "java/lang/Throwable")) ∈ rTs := List.mem_append_left _ (rBm18 (List.mem_of_getElem? (i := 33) rfl))
set_option maxRecDepth 100000 in
theorem kw898 : Cond.instanceMethod ⟨"java/lang/Throwable", "fillInStackTrace", "(I)Ljava/lang/Throwable;"⟩ ∈ rTs := List.mem_append_left _ (rBm18 (List.mem_of_getElem? (i := 34) rfl))
set_option maxRecDepth 100000 in
theorem kw899 : Cond.native ⟨"java/lang/Throwable", "fillInStackTrace", "(I)Ljava/lang/Throwable;"⟩ ∈ rTs := List.mem_append_left _ (rBm18 (List.mem_of_getElem? (i := 35) rfl))
set_option maxRecDepth 100000 in
theorem kw900 : Cond.instanceMethod ⟨"java/lang/Throwable", "<init>", "()V"⟩ ∈ rTs := List.mem_append_left _ (rBm18 (List.mem_of_getElem? (i := 36) rfl))
set_option maxRecDepth 100000 in
theorem kw901 : Cond.code ⟨"java/lang/Throwable", "<init>", "()V"⟩ prog_35_method_1_code 1 (Option.none : Option FieldType) ∈ rTs := List.mem_append_left _ (rBm18 (List.mem_of_getElem? (i := 37) rfl))
set_option maxRecDepth 100000 in
theorem kw902 : Cond.methodLink "java/lang/Throwable" 1 ⟨"java/lang/Object", "<init>", "()V"⟩ ∈ rTs := List.mem_append_left _ (rBm18 (List.mem_of_getElem? (i := 38) rfl))
set_option maxRecDepth 100000 in
theorem kw903 : Cond.methodLink "java/lang/Throwable" 27 ⟨"java/lang/Throwable", "fillInStackTrace", "()Ljava/lang/Throwable;"⟩ ∈ rTs := List.mem_append_left _ (rBm18 (List.mem_of_getElem? (i := 39) rfl))
set_option maxRecDepth 100000 in
theorem kw904 : Cond.methodLink "java/lang/Throwable" 202 ⟨"java/lang/Throwable", "fillInStackTrace", "(I)Ljava/lang/Throwable;"⟩ ∈ rTs := List.mem_append_left _ (rBm18 (List.mem_of_getElem? (i := 40) rfl))
set_option maxRecDepth 100000 in
theorem kw905 : Cond.fieldLink "java/lang/Throwable" 7 "java/lang/Throwable" "cause" "Ljava/lang/Throwable;" ∈ rTs := List.mem_append_left _ (rBm18 (List.mem_of_getElem? (i := 41) rfl))
set_option maxRecDepth 100000 in
theorem kw906 : Cond.lays "java/lang/Throwable" "java/lang/Throwable" "cause" "Ljava/lang/Throwable;" ∈ rTs := List.mem_append_left _ (rBm18 (List.mem_of_getElem? (i := 42) rfl))
set_option maxRecDepth 100000 in
theorem kw907 : Cond.fieldLink "java/lang/Throwable" 17 "java/lang/Throwable" "stackTrace" "[Ljava/lang/StackTraceElement;" ∈ rTs := List.mem_append_left _ (rBm18 (List.mem_of_getElem? (i := 43) rfl))
set_option maxRecDepth 100000 in
theorem kw908 : Cond.lays "java/lang/Throwable" "java/lang/Throwable" "stackTrace" "[Ljava/lang/StackTraceElement;" ∈ rTs := List.mem_append_left _ (rBm18 (List.mem_of_getElem? (i := 44) rfl))
set_option maxRecDepth 100000 in
theorem kw909 : Cond.fieldLink "java/lang/Throwable" 24 "java/lang/Throwable" "suppressedExceptions" "Ljava/util/List;" ∈ rTs := List.mem_append_left _ (rBm18 (List.mem_of_getElem? (i := 45) rfl))
set_option maxRecDepth 100000 in
theorem kw910 : Cond.lays "java/lang/Throwable" "java/lang/Throwable" "suppressedExceptions" "Ljava/util/List;" ∈ rTs := List.mem_append_left _ (rBm18 (List.mem_of_getElem? (i := 46) rfl))
set_option maxRecDepth 100000 in
theorem kw911 : Cond.fieldLink "java/lang/Throwable" 13 "java/lang/Throwable" "UNASSIGNED_STACK" "[Ljava/lang/StackTraceElement;" ∈ rTs := List.mem_append_left _ (rBm18 (List.mem_of_getElem? (i := 47) rfl))
set_option maxRecDepth 100000 in
theorem kw912 : Cond.fieldLink "java/lang/Throwable" 20 "java/lang/Throwable" "SUPPRESSED_SENTINEL" "Ljava/util/List;" ∈ rTs := List.mem_append_left _ (rBm19 (List.mem_of_getElem? (i := 0) rfl))
set_option maxRecDepth 100000 in
theorem kw913 : Cond.lays "java/lang/Throwable" "java/lang/Throwable" "detailMessage" "Ljava/lang/String;" ∈ rTs := List.mem_append_left _ (rBm19 (List.mem_of_getElem? (i := 1) rfl))
set_option maxRecDepth 100000 in
theorem kw914 : Cond.instanceMethod ⟨"java/lang/Throwable", "<init>", "(Ljava/lang/String;)V"⟩ ∈ rTs := List.mem_append_left _ (rBm19 (List.mem_of_getElem? (i := 2) rfl))
set_option maxRecDepth 100000 in
theorem kw915 : Cond.code ⟨"java/lang/Throwable", "<init>", "(Ljava/lang/String;)V"⟩ prog_35_method_2_code 2 (Option.none : Option FieldType) ∈ rTs := List.mem_append_left _ (rBm19 (List.mem_of_getElem? (i := 3) rfl))
set_option maxRecDepth 100000 in
theorem kw916 : Cond.fieldLink "java/lang/Throwable" 31 "java/lang/Throwable" "detailMessage" "Ljava/lang/String;" ∈ rTs := List.mem_append_left _ (rBm19 (List.mem_of_getElem? (i := 4) rfl))
set_option maxRecDepth 100000 in
theorem kw917 : Cond.instanceMethod ⟨"java/lang/IllegalStateException", "<init>", "(Ljava/lang/String;)V"⟩ ∈ rTs := List.mem_append_left _ (rBm19 (List.mem_of_getElem? (i := 5) rfl))
set_option maxRecDepth 100000 in
theorem kw918 : Cond.code ⟨"java/lang/IllegalStateException", "<init>", "(Ljava/lang/String;)V"⟩ prog_24_method_2_code 2 (Option.none : Option FieldType) ∈ rTs := List.mem_append_left _ (rBm19 (List.mem_of_getElem? (i := 6) rfl))
set_option maxRecDepth 100000 in
theorem kw919 : Cond.methodLink "java/lang/IllegalStateException" 7 ⟨"java/lang/RuntimeException", "<init>", "(Ljava/lang/String;)V"⟩ ∈ rTs := List.mem_append_left _ (rBm19 (List.mem_of_getElem? (i := 7) rfl))
set_option maxRecDepth 100000 in
theorem kw920 : Cond.instanceMethod ⟨"java/lang/RuntimeException", "<init>", "(Ljava/lang/String;)V"⟩ ∈ rTs := List.mem_append_left _ (rBm19 (List.mem_of_getElem? (i := 8) rfl))
set_option maxRecDepth 100000 in
theorem kw921 : Cond.code ⟨"java/lang/RuntimeException", "<init>", "(Ljava/lang/String;)V"⟩ prog_29_method_2_code 2 (Option.none : Option FieldType) ∈ rTs := List.mem_append_left _ (rBm19 (List.mem_of_getElem? (i := 9) rfl))
set_option maxRecDepth 100000 in
theorem kw922 : Cond.methodLink "java/lang/RuntimeException" 7 ⟨"java/lang/Exception", "<init>", "(Ljava/lang/String;)V"⟩ ∈ rTs := List.mem_append_left _ (rBm19 (List.mem_of_getElem? (i := 10) rfl))
set_option maxRecDepth 100000 in
theorem kw923 : Cond.instanceMethod ⟨"java/lang/Exception", "<init>", "(Ljava/lang/String;)V"⟩ ∈ rTs := List.mem_append_left _ (rBm19 (List.mem_of_getElem? (i := 11) rfl))
set_option maxRecDepth 100000 in
theorem kw924 : Cond.code ⟨"java/lang/Exception", "<init>", "(Ljava/lang/String;)V"⟩ prog_22_method_2_code 2 (Option.none : Option FieldType) ∈ rTs := List.mem_append_left _ (rBm19 (List.mem_of_getElem? (i := 12) rfl))
set_option maxRecDepth 100000 in
theorem kw925 : Cond.methodLink "java/lang/Exception" 7 ⟨"java/lang/Throwable", "<init>", "(Ljava/lang/String;)V"⟩ ∈ rTs := List.mem_append_left _ (rBm19 (List.mem_of_getElem? (i := 13) rfl))
set_option maxRecDepth 100000 in
theorem kw926 : Cond.methodLink "NativeWorks" 113 ⟨"java/lang/IllegalStateException", "<init>", "(Ljava/lang/String;)V"⟩ ∈ rTs := List.mem_append_left _ (rBm19 (List.mem_of_getElem? (i := 14) rfl))
set_option maxRecDepth 100000 in
theorem kw927 : Cond.instantiable "java/lang/IllegalStateException" 6 ∈ rTs := List.mem_append_left _ (rBm19 (List.mem_of_getElem? (i := 15) rfl))
set_option maxRecDepth 100000 in
theorem kw928 : Cond.selects "java/lang/IllegalStateException" ⟨"java/lang/Throwable", "fillInStackTrace", "(I)Ljava/lang/Throwable;"⟩ ⟨"java/lang/Throwable", "fillInStackTrace", "(I)Ljava/lang/Throwable;"⟩ ∈ rTs := List.mem_append_left _ (rBm19 (List.mem_of_getElem? (i := 16) rfl))
set_option maxRecDepth 100000 in
theorem kw929 : Cond.selects "java/lang/IllegalStateException" ⟨"java/lang/Throwable", "fillInStackTrace", "()Ljava/lang/Throwable;"⟩ ⟨"java/lang/Throwable", "fillInStackTrace", "()Ljava/lang/Throwable;"⟩ ∈ rTs := List.mem_append_left _ (rBm19 (List.mem_of_getElem? (i := 17) rfl))
set_option maxRecDepth 100000 in
theorem kw930 : Cond.lays "java/lang/IllegalStateException" "java/lang/Throwable" "cause" "Ljava/lang/Throwable;" ∈ rTs := List.mem_append_left _ (rBm19 (List.mem_of_getElem? (i := 18) rfl))
set_option maxRecDepth 100000 in
theorem kw931 : Cond.lays "java/lang/IllegalStateException" "java/lang/Throwable" "stackTrace" "[Ljava/lang/StackTraceElement;" ∈ rTs := List.mem_append_left _ (rBm19 (List.mem_of_getElem? (i := 19) rfl))
set_option maxRecDepth 100000 in
theorem kw932 : Cond.lays "java/lang/IllegalStateException" "java/lang/Throwable" "suppressedExceptions" "Ljava/util/List;" ∈ rTs := List.mem_append_left _ (rBm19 (List.mem_of_getElem? (i := 20) rfl))
set_option maxRecDepth 100000 in
theorem kw933 : Cond.lays "java/lang/IllegalStateException" "java/lang/Throwable" "detailMessage" "Ljava/lang/String;" ∈ rTs := List.mem_append_left _ (rBm19 (List.mem_of_getElem? (i := 21) rfl))
set_option maxRecDepth 100000 in
theorem kw934 : Cond.fieldLink "java/lang/Throwable" 198 "java/lang/Throwable" "backtrace" "Ljava/lang/Object;" ∈ rTs := List.mem_append_left _ (rBm19 (List.mem_of_getElem? (i := 22) rfl))
set_option maxRecDepth 100000 in
theorem kw935 : Cond.lays "java/lang/Throwable" "java/lang/Throwable" "backtrace" "Ljava/lang/Object;" ∈ rTs := List.mem_append_left _ (rBm19 (List.mem_of_getElem? (i := 23) rfl))
set_option maxRecDepth 100000 in
theorem kw936 : Cond.lays "java/lang/IllegalStateException" "java/lang/Throwable" "backtrace" "Ljava/lang/Object;" ∈ rTs := List.mem_append_left _ (rBm19 (List.mem_of_getElem? (i := 24) rfl))
set_option maxRecDepth 100000 in
theorem kw937 : Cond.instanceMethod ⟨"java/util/NoSuchElementException", "<init>", "(Ljava/lang/String;)V"⟩ ∈ rTs := List.mem_append_left _ (rBm19 (List.mem_of_getElem? (i := 25) rfl))
set_option maxRecDepth 100000 in
theorem kw938 : Cond.code ⟨"java/util/NoSuchElementException", "<init>", "(Ljava/lang/String;)V"⟩ prog_39_method_4_code 2 (Option.none : Option FieldType) ∈ rTs := List.mem_append_left _ (rBm19 (List.mem_of_getElem? (i := 26) rfl))
set_option maxRecDepth 100000 in
theorem kw939 : Cond.methodLink "java/util/NoSuchElementException" 13 ⟨"java/lang/RuntimeException", "<init>", "(Ljava/lang/String;)V"⟩ ∈ rTs := List.mem_append_left _ (rBm19 (List.mem_of_getElem? (i := 27) rfl))
set_option maxRecDepth 100000 in
theorem kw940 : Cond.methodLink "NativeWorks" 132 ⟨"java/util/NoSuchElementException", "<init>", "(Ljava/lang/String;)V"⟩ ∈ rTs := List.mem_append_left _ (rBm19 (List.mem_of_getElem? (i := 28) rfl))
set_option maxRecDepth 100000 in
theorem kw941 : Cond.instantiable "java/util/NoSuchElementException" 6 ∈ rTs := List.mem_append_left _ (rBm19 (List.mem_of_getElem? (i := 29) rfl))
set_option maxRecDepth 100000 in
theorem kw942 : Cond.selects "java/util/NoSuchElementException" ⟨"java/lang/Throwable", "fillInStackTrace", "(I)Ljava/lang/Throwable;"⟩ ⟨"java/lang/Throwable", "fillInStackTrace", "(I)Ljava/lang/Throwable;"⟩ ∈ rTs := List.mem_append_left _ (rBm19 (List.mem_of_getElem? (i := 30) rfl))
set_option maxRecDepth 100000 in
theorem kw943 : Cond.selects "java/util/NoSuchElementException" ⟨"java/lang/Throwable", "fillInStackTrace", "()Ljava/lang/Throwable;"⟩ ⟨"java/lang/Throwable", "fillInStackTrace", "()Ljava/lang/Throwable;"⟩ ∈ rTs := List.mem_append_left _ (rBm19 (List.mem_of_getElem? (i := 31) rfl))
set_option maxRecDepth 100000 in
theorem kw944 : Cond.lays "java/util/NoSuchElementException" "java/lang/Throwable" "cause" "Ljava/lang/Throwable;" ∈ rTs := List.mem_append_left _ (rBm19 (List.mem_of_getElem? (i := 32) rfl))
set_option maxRecDepth 100000 in
theorem kw945 : Cond.lays "java/util/NoSuchElementException" "java/lang/Throwable" "stackTrace" "[Ljava/lang/StackTraceElement;" ∈ rTs := List.mem_append_left _ (rBm19 (List.mem_of_getElem? (i := 33) rfl))
set_option maxRecDepth 100000 in
theorem kw946 : Cond.lays "java/util/NoSuchElementException" "java/lang/Throwable" "suppressedExceptions" "Ljava/util/List;" ∈ rTs := List.mem_append_left _ (rBm19 (List.mem_of_getElem? (i := 34) rfl))
set_option maxRecDepth 100000 in
theorem kw947 : Cond.lays "java/util/NoSuchElementException" "java/lang/Throwable" "detailMessage" "Ljava/lang/String;" ∈ rTs := List.mem_append_left _ (rBm19 (List.mem_of_getElem? (i := 35) rfl))
set_option maxRecDepth 100000 in
theorem kw948 : Cond.lays "java/util/NoSuchElementException" "java/lang/Throwable" "backtrace" "Ljava/lang/Object;" ∈ rTs := List.mem_append_left _ (rBm19 (List.mem_of_getElem? (i := 36) rfl))
set_option maxRecDepth 100000 in
theorem kw949 : Cond.instanceMethod ⟨"java/lang/IllegalArgumentException", "<init>", "(Ljava/lang/String;)V"⟩ ∈ rTs := List.mem_append_left _ (rBm19 (List.mem_of_getElem? (i := 37) rfl))
set_option maxRecDepth 100000 in
theorem kw950 : Cond.code ⟨"java/lang/IllegalArgumentException", "<init>", "(Ljava/lang/String;)V"⟩ prog_23_method_2_code 2 (Option.none : Option FieldType) ∈ rTs := List.mem_append_left _ (rBm19 (List.mem_of_getElem? (i := 38) rfl))
set_option maxRecDepth 100000 in
theorem kw951 : Cond.methodLink "java/lang/IllegalArgumentException" 7 ⟨"java/lang/RuntimeException", "<init>", "(Ljava/lang/String;)V"⟩ ∈ rTs := List.mem_append_left _ (rBm19 (List.mem_of_getElem? (i := 39) rfl))
set_option maxRecDepth 100000 in
theorem kw952 : Cond.methodLink "NativeWorks" 78 ⟨"java/lang/IllegalArgumentException", "<init>", "(Ljava/lang/String;)V"⟩ ∈ rTs := List.mem_append_left _ (rBm19 (List.mem_of_getElem? (i := 40) rfl))
set_option maxRecDepth 100000 in
theorem kw953 : Cond.instantiable "java/lang/IllegalArgumentException" 6 ∈ rTs := List.mem_append_left _ (rBm19 (List.mem_of_getElem? (i := 41) rfl))
set_option maxRecDepth 100000 in
theorem kw954 : Cond.selects "java/lang/IllegalArgumentException" ⟨"java/lang/Throwable", "fillInStackTrace", "(I)Ljava/lang/Throwable;"⟩ ⟨"java/lang/Throwable", "fillInStackTrace", "(I)Ljava/lang/Throwable;"⟩ ∈ rTs := List.mem_append_left _ (rBm19 (List.mem_of_getElem? (i := 42) rfl))
set_option maxRecDepth 100000 in
theorem kw955 : Cond.selects "java/lang/IllegalArgumentException" ⟨"java/lang/Throwable", "fillInStackTrace", "()Ljava/lang/Throwable;"⟩ ⟨"java/lang/Throwable", "fillInStackTrace", "()Ljava/lang/Throwable;"⟩ ∈ rTs := List.mem_append_left _ (rBm19 (List.mem_of_getElem? (i := 43) rfl))
set_option maxRecDepth 100000 in
theorem kw956 : Cond.lays "java/lang/IllegalArgumentException" "java/lang/Throwable" "cause" "Ljava/lang/Throwable;" ∈ rTs := List.mem_append_left _ (rBm19 (List.mem_of_getElem? (i := 44) rfl))
set_option maxRecDepth 100000 in
theorem kw957 : Cond.lays "java/lang/IllegalArgumentException" "java/lang/Throwable" "stackTrace" "[Ljava/lang/StackTraceElement;" ∈ rTs := List.mem_append_left _ (rBm19 (List.mem_of_getElem? (i := 45) rfl))
set_option maxRecDepth 100000 in
theorem kw958 : Cond.lays "java/lang/IllegalArgumentException" "java/lang/Throwable" "suppressedExceptions" "Ljava/util/List;" ∈ rTs := List.mem_append_left _ (rBm19 (List.mem_of_getElem? (i := 46) rfl))
set_option maxRecDepth 100000 in
theorem kw959 : Cond.lays "java/lang/IllegalArgumentException" "java/lang/Throwable" "detailMessage" "Ljava/lang/String;" ∈ rTs := List.mem_append_left _ (rBm19 (List.mem_of_getElem? (i := 47) rfl))
set_option maxRecDepth 100000 in
theorem kw960 : Cond.lays "java/lang/IllegalArgumentException" "java/lang/Throwable" "backtrace" "Ljava/lang/Object;" ∈ rTs := List.mem_append_left _ (rBm20 (List.mem_of_getElem? (i := 0) rfl))
set_option maxRecDepth 100000 in
theorem kw961 : Cond.methodLink "NativeWorksLaw" 7 ⟨"NativeWorks", "unit", "(IZ)I"⟩ ∈ rTs := List.mem_append_left _ (rBm20 (List.mem_of_getElem? (i := 1) rfl))
set_option maxRecDepth 100000 in
theorem kw962 : Cond.instanceMethod ⟨"NativeWorks", "unit", "(IZ)I"⟩ ∈ rTs := List.mem_append_left _ (rBm20 (List.mem_of_getElem? (i := 2) rfl))
set_option maxRecDepth 100000 in
theorem kw963 : Cond.code ⟨"NativeWorks", "unit", "(IZ)I"⟩ prog_1_method_3_code 6 (Option.some FieldType.int) ∈ rTs := List.mem_append_left _ (rBm20 (List.mem_of_getElem? (i := 3) rfl))
set_option maxRecDepth 100000 in
theorem kw964 : Cond.selects "NativeWorks" ⟨"NativeWorks", "unit", "(IZ)I"⟩ ⟨"NativeWorks", "unit", "(IZ)I"⟩ ∈ rTs := List.mem_append_left _ (rBm20 (List.mem_of_getElem? (i := 4) rfl))
set_option maxRecDepth 100000 in
theorem kw965 : Cond.methodLink "NativeWorksLaw" 15 ⟨"NativeWorks", "link", "()I"⟩ ∈ rTs := List.mem_append_left _ (rBm20 (List.mem_of_getElem? (i := 5) rfl))
set_option maxRecDepth 100000 in
theorem kw966 : Cond.instanceMethod ⟨"NativeWorks", "link", "()I"⟩ ∈ rTs := List.mem_append_left _ (rBm20 (List.mem_of_getElem? (i := 6) rfl))
set_option maxRecDepth 100000 in
theorem kw967 : Cond.code ⟨"NativeWorks", "link", "()I"⟩ prog_1_method_8_code 2 (Option.some FieldType.int) ∈ rTs := List.mem_append_left _ (rBm20 (List.mem_of_getElem? (i := 7) rfl))
set_option maxRecDepth 100000 in
theorem kw968 : Cond.selects "NativeWorks" ⟨"NativeWorks", "link", "()I"⟩ ⟨"NativeWorks", "link", "()I"⟩ ∈ rTs := List.mem_append_left _ (rBm20 (List.mem_of_getElem? (i := 8) rfl))
set_option maxRecDepth 100000 in
theorem kw969 : Cond.methodLink "NativeWorksLaw" 21 ⟨"NativeWorks", "symbol", "(I)J"⟩ ∈ rTs := List.mem_append_left _ (rBm20 (List.mem_of_getElem? (i := 9) rfl))
set_option maxRecDepth 100000 in
theorem kw970 : Cond.instanceMethod ⟨"NativeWorks", "symbol", "(I)J"⟩ ∈ rTs := List.mem_append_left _ (rBm20 (List.mem_of_getElem? (i := 10) rfl))
set_option maxRecDepth 100000 in
theorem kw971 : Cond.code ⟨"NativeWorks", "symbol", "(I)J"⟩ prog_1_method_9_code 4 (Option.some FieldType.long) ∈ rTs := List.mem_append_left _ (rBm20 (List.mem_of_getElem? (i := 11) rfl))
set_option maxRecDepth 100000 in
theorem kw972 : Cond.selects "NativeWorks" ⟨"NativeWorks", "symbol", "(I)J"⟩ ⟨"NativeWorks", "symbol", "(I)J"⟩ ∈ rTs := List.mem_append_left _ (rBm20 (List.mem_of_getElem? (i := 12) rfl))
set_option maxRecDepth 100000 in
theorem kw973 : Cond.methodLink "NativeWorksLaw" 27 ⟨"NativeWorks", "load", "()J"⟩ ∈ rTs := List.mem_append_left _ (rBm20 (List.mem_of_getElem? (i := 13) rfl))
set_option maxRecDepth 100000 in
theorem kw974 : Cond.instanceMethod ⟨"NativeWorks", "load", "()J"⟩ ∈ rTs := List.mem_append_left _ (rBm20 (List.mem_of_getElem? (i := 14) rfl))
set_option maxRecDepth 100000 in
theorem kw975 : Cond.code ⟨"NativeWorks", "load", "()J"⟩ prog_1_method_10_code 1 (Option.some FieldType.long) ∈ rTs := List.mem_append_left _ (rBm20 (List.mem_of_getElem? (i := 15) rfl))
set_option maxRecDepth 100000 in
theorem kw976 : Cond.selects "NativeWorks" ⟨"NativeWorks", "load", "()J"⟩ ⟨"NativeWorks", "load", "()J"⟩ ∈ rTs := List.mem_append_left _ (rBm20 (List.mem_of_getElem? (i := 16) rfl))
set_option maxRecDepth 100000 in
theorem kw977 : Cond.methodLink "NativeWorksLaw" 31 ⟨"NativeWorks", "run", "(I)I"⟩ ∈ rTs := List.mem_append_left _ (rBm20 (List.mem_of_getElem? (i := 17) rfl))
set_option maxRecDepth 100000 in
theorem kw978 : Cond.instanceMethod ⟨"NativeWorks", "run", "(I)I"⟩ ∈ rTs := List.mem_append_left _ (rBm20 (List.mem_of_getElem? (i := 18) rfl))
set_option maxRecDepth 100000 in
theorem kw979 : Cond.code ⟨"NativeWorks", "run", "(I)I"⟩ prog_1_method_12_code 2 (Option.some FieldType.int) ∈ rTs := List.mem_append_left _ (rBm20 (List.mem_of_getElem? (i := 19) rfl))
set_option maxRecDepth 100000 in
theorem kw980 : Cond.selects "NativeWorks" ⟨"NativeWorks", "run", "(I)I"⟩ ⟨"NativeWorks", "run", "(I)I"⟩ ∈ rTs := List.mem_append_left _ (rBm20 (List.mem_of_getElem? (i := 20) rfl))
set_option maxRecDepth 100000 in
theorem kw981 : Cond.classLink "NativeWorksLaw" 8 "NativeWorks" ∈ rTs := List.mem_append_left _ (rBm20 (List.mem_of_getElem? (i := 21) rfl))
set_option maxRecDepth 100000 in
theorem kw982 : Cond.instantiable "NativeWorks" 9 ∈ rTs := List.mem_append_left _ (rBm20 (List.mem_of_getElem? (i := 22) rfl))
set_option maxRecDepth 100000 in
theorem kw983 : Cond.methodLink "NativeWorksLaw" 35 ⟨"NativeWorks", "<init>", "()V"⟩ ∈ rTs := List.mem_append_left _ (rBm20 (List.mem_of_getElem? (i := 23) rfl))
set_option maxRecDepth 100000 in
theorem kw984 : Cond.instanceMethod ⟨"NativeWorks", "<init>", "()V"⟩ ∈ rTs := List.mem_append_left _ (rBm20 (List.mem_of_getElem? (i := 24) rfl))
set_option maxRecDepth 100000 in
theorem kw985 : Cond.code ⟨"NativeWorks", "<init>", "()V"⟩ prog_1_method_1_code 3 (Option.none : Option FieldType) ∈ rTs := List.mem_append_left _ (rBm20 (List.mem_of_getElem? (i := 25) rfl))
set_option maxRecDepth 100000 in
theorem kw986 : Cond.classLink "NativeWorksLaw" 36 "NativeWorksModel" ∈ rTs := List.mem_append_left _ (rBm20 (List.mem_of_getElem? (i := 26) rfl))
set_option maxRecDepth 100000 in
theorem kw987 : Cond.instantiable "NativeWorksModel" 205 ∈ rTs := List.mem_append_left _ (rBm20 (List.mem_of_getElem? (i := 27) rfl))
set_option maxRecDepth 100000 in
theorem kw988 : Cond.methodLink "NativeWorksLaw" 38 ⟨"NativeWorksModel", "<init>", "()V"⟩ ∈ rTs := List.mem_append_left _ (rBm20 (List.mem_of_getElem? (i := 28) rfl))
set_option maxRecDepth 100000 in
theorem kw989 : Cond.instanceMethod ⟨"NativeWorksModel", "<init>", "()V"⟩ ∈ rTs := List.mem_append_left _ (rBm20 (List.mem_of_getElem? (i := 29) rfl))
set_option maxRecDepth 100000 in
theorem kw990 : Cond.code ⟨"NativeWorksModel", "<init>", "()V"⟩ prog_14_method_1_code 2 (Option.none : Option FieldType) ∈ rTs := List.mem_append_left _ (rBm20 (List.mem_of_getElem? (i := 30) rfl))
set_option maxRecDepth 100000 in
theorem kw991 : Cond.methodLink "NativeWorksLaw" 39 ⟨"NativeWorks", "feed", "(IIIII)I"⟩ ∈ rTs := List.mem_append_left _ (rBm20 (List.mem_of_getElem? (i := 31) rfl))
set_option maxRecDepth 100000 in
theorem kw992 : Cond.instanceMethod ⟨"NativeWorks", "feed", "(IIIII)I"⟩ ∈ rTs := List.mem_append_left _ (rBm20 (List.mem_of_getElem? (i := 32) rfl))
set_option maxRecDepth 100000 in
theorem kw993 : Cond.code ⟨"NativeWorks", "feed", "(IIIII)I"⟩ prog_1_method_2_code 6 (Option.some FieldType.int) ∈ rTs := List.mem_append_left _ (rBm20 (List.mem_of_getElem? (i := 33) rfl))
set_option maxRecDepth 100000 in
theorem kw994 : Cond.selects "NativeWorks" ⟨"NativeWorks", "feed", "(IIIII)I"⟩ ⟨"NativeWorks", "feed", "(IIIII)I"⟩ ∈ rTs := List.mem_append_left _ (rBm20 (List.mem_of_getElem? (i := 34) rfl))
set_option maxRecDepth 100000 in
theorem kw995 : Cond.methodLink "NativeWorksLaw" 43 ⟨"NativeWorksModel", "feed", "(IIIII)I"⟩ ∈ rTs := List.mem_append_left _ (rBm20 (List.mem_of_getElem? (i := 35) rfl))
set_option maxRecDepth 100000 in
theorem kw996 : Cond.instanceMethod ⟨"NativeWorksModel", "feed", "(IIIII)I"⟩ ∈ rTs := List.mem_append_left _ (rBm20 (List.mem_of_getElem? (i := 36) rfl))
set_option maxRecDepth 100000 in
theorem kw997 : Cond.code ⟨"NativeWorksModel", "feed", "(IIIII)I"⟩ prog_14_method_12_code 8 (Option.some FieldType.int) ∈ rTs := List.mem_append_left _ (rBm20 (List.mem_of_getElem? (i := 37) rfl))
set_option maxRecDepth 100000 in
theorem kw998 : Cond.selects "NativeWorksModel" ⟨"NativeWorksModel", "feed", "(IIIII)I"⟩ ⟨"NativeWorksModel", "feed", "(IIIII)I"⟩ ∈ rTs := List.mem_append_left _ (rBm20 (List.mem_of_getElem? (i := 38) rfl))
set_option maxRecDepth 100000 in
theorem kw999 : Cond.methodLink "NativeWorksLaw" 44 ⟨"NativeWorksLaw", "unit", "(LNativeWorks;IZ[J)I"⟩ ∈ rTs := List.mem_append_left _ (rBm20 (List.mem_of_getElem? (i := 39) rfl))
set_option maxRecDepth 100000 in
theorem kw1000 : Cond.static ⟨"NativeWorksLaw", "unit", "(LNativeWorks;IZ[J)I"⟩ ∈ rTs := List.mem_append_left _ (rBm20 (List.mem_of_getElem? (i := 40) rfl))
set_option maxRecDepth 100000 in
theorem kw1001 : Cond.initialized "NativeWorksLaw" ∈ rTs := List.mem_append_left _ (rBm20 (List.mem_of_getElem? (i := 41) rfl))
set_option maxRecDepth 100000 in
theorem kw1002 : Cond.codeWith ⟨"NativeWorksLaw", "unit", "(LNativeWorks;IZ[J)I"⟩ method_3_code 5 (Option.some FieldType.int) [(0, 10, 13, 13)] ∈ rTs := List.mem_append_left _ (rBm20 (List.mem_of_getElem? (i := 42) rfl))
set_option maxRecDepth 100000 in
theorem kw1003 : Cond.methodLink "NativeWorksLaw" 49 ⟨"NativeWorksModel", "unit", "(IZ)I"⟩ ∈ rTs := List.mem_append_left _ (rBm20 (List.mem_of_getElem? (i := 43) rfl))
set_option maxRecDepth 100000 in
theorem kw1004 : Cond.instanceMethod ⟨"NativeWorksModel", "unit", "(IZ)I"⟩ ∈ rTs := List.mem_append_left _ (rBm20 (List.mem_of_getElem? (i := 44) rfl))
set_option maxRecDepth 100000 in
theorem kw1005 : Cond.code ⟨"NativeWorksModel", "unit", "(IZ)I"⟩ prog_14_method_121_code 11 (Option.some FieldType.int) ∈ rTs := List.mem_append_left _ (rBm20 (List.mem_of_getElem? (i := 45) rfl))
set_option maxRecDepth 100000 in
theorem kw1006 : Cond.selects "NativeWorksModel" ⟨"NativeWorksModel", "unit", "(IZ)I"⟩ ⟨"NativeWorksModel", "unit", "(IZ)I"⟩ ∈ rTs := List.mem_append_left _ (rBm20 (List.mem_of_getElem? (i := 46) rfl))
set_option maxRecDepth 100000 in
theorem kw1007 : Cond.methodLink "NativeWorksLaw" 50 ⟨"NativeWorks", "clea\x72", "()V"⟩ ∈ rTs := List.mem_append_left _ (rBm20 (List.mem_of_getElem? (i := 47) rfl))
set_option maxRecDepth 100000 in
theorem kw1008 : Cond.instanceMethod ⟨"NativeWorks", "clea\x72", "()V"⟩ ∈ rTs := List.mem_append_left _ (rBm21 (List.mem_of_getElem? (i := 0) rfl))
set_option maxRecDepth 100000 in
theorem kw1009 : Cond.code ⟨"NativeWorks", "clea\x72", "()V"⟩ prog_1_method_4_code 1 (Option.none : Option FieldType) ∈ rTs := List.mem_append_left _ (rBm21 (List.mem_of_getElem? (i := 1) rfl))
set_option maxRecDepth 100000 in
theorem kw1010 : Cond.selects "NativeWorks" ⟨"NativeWorks", "clea\x72", "()V"⟩ ⟨"NativeWorks", "clea\x72", "()V"⟩ ∈ rTs := List.mem_append_left _ (rBm21 (List.mem_of_getElem? (i := 2) rfl))
set_option maxRecDepth 100000 in
theorem kw1011 : Cond.methodLink "NativeWorksLaw" 53 ⟨"NativeWorksModel", "clea\x72", "()V"⟩ ∈ rTs := List.mem_append_left _ (rBm21 (List.mem_of_getElem? (i := 3) rfl))
set_option maxRecDepth 100000 in
theorem kw1012 : Cond.instanceMethod ⟨"NativeWorksModel", "clea\x72", "()V"⟩ ∈ rTs := List.mem_append_left _ (rBm21 (List.mem_of_getElem? (i := 4) rfl))
set_option maxRecDepth 100000 in
theorem kw1013 : Cond.code ⟨"NativeWorksModel", "clea\x72", "()V"⟩ prog_14_method_122_code 1 (Option.none : Option FieldType) ∈ rTs := List.mem_append_left _ (rBm21 (List.mem_of_getElem? (i := 5) rfl))
set_option maxRecDepth 100000 in
theorem kw1014 : Cond.selects "NativeWorksModel" ⟨"NativeWorksModel", "clea\x72", "()V"⟩ ⟨"NativeWorksModel", "clea\x72", "()V"⟩ ∈ rTs := List.mem_append_left _ (rBm21 (List.mem_of_getElem? (i := 6) rfl))
set_option maxRecDepth 100000 in
theorem kw1015 : Cond.methodLink "NativeWorksLaw" 54 ⟨"NativeWorks", "fault", "(I)I"⟩ ∈ rTs := List.mem_append_left _ (rBm21 (List.mem_of_getElem? (i := 7) rfl))
set_option maxRecDepth 100000 in
theorem kw1016 : Cond.instanceMethod ⟨"NativeWorks", "fault", "(I)I"⟩ ∈ rTs := List.mem_append_left _ (rBm21 (List.mem_of_getElem? (i := 8) rfl))
set_option maxRecDepth 100000 in
theorem kw1017 : Cond.code ⟨"NativeWorks", "fault", "(I)I"⟩ prog_1_method_5_code 2 (Option.some FieldType.int) ∈ rTs := List.mem_append_left _ (rBm21 (List.mem_of_getElem? (i := 9) rfl))
set_option maxRecDepth 100000 in
theorem kw1018 : Cond.selects "NativeWorks" ⟨"NativeWorks", "fault", "(I)I"⟩ ⟨"NativeWorks", "fault", "(I)I"⟩ ∈ rTs := List.mem_append_left _ (rBm21 (List.mem_of_getElem? (i := 10) rfl))
set_option maxRecDepth 100000 in
theorem kw1019 : Cond.methodLink "NativeWorksLaw" 57 ⟨"NativeWorksModel", "fault", "(I)I"⟩ ∈ rTs := List.mem_append_left _ (rBm21 (List.mem_of_getElem? (i := 11) rfl))
set_option maxRecDepth 100000 in
theorem kw1020 : Cond.instanceMethod ⟨"NativeWorksModel", "fault", "(I)I"⟩ ∈ rTs := List.mem_append_left _ (rBm21 (List.mem_of_getElem? (i := 12) rfl))
set_option maxRecDepth 100000 in
theorem kw1021 : Cond.code ⟨"NativeWorksModel", "fault", "(I)I"⟩ prog_14_method_123_code 2 (Option.some FieldType.int) ∈ rTs := List.mem_append_left _ (rBm21 (List.mem_of_getElem? (i := 13) rfl))
set_option maxRecDepth 100000 in
theorem kw1022 : Cond.selects "NativeWorksModel" ⟨"NativeWorksModel", "fault", "(I)I"⟩ ⟨"NativeWorksModel", "fault", "(I)I"⟩ ∈ rTs := List.mem_append_left _ (rBm21 (List.mem_of_getElem? (i := 14) rfl))
set_option maxRecDepth 100000 in
theorem kw1023 : Cond.methodLink "NativeWorksLaw" 58 ⟨"NativeWorks", "size", "(II)I"⟩ ∈ rTs := List.mem_append_left _ (rBm21 (List.mem_of_getElem? (i := 15) rfl))
set_option maxRecDepth 100000 in
theorem kw1024 : Cond.instanceMethod ⟨"NativeWorks", "size", "(II)I"⟩ ∈ rTs := List.mem_append_left _ (rBm21 (List.mem_of_getElem? (i := 16) rfl))
set_option maxRecDepth 100000 in
theorem kw1025 : Cond.code ⟨"NativeWorks", "size", "(II)I"⟩ prog_1_method_6_code 3 (Option.some FieldType.int) ∈ rTs := List.mem_append_left _ (rBm21 (List.mem_of_getElem? (i := 17) rfl))
set_option maxRecDepth 100000 in
theorem kw1026 : Cond.selects "NativeWorks" ⟨"NativeWorks", "size", "(II)I"⟩ ⟨"NativeWorks", "size", "(II)I"⟩ ∈ rTs := List.mem_append_left _ (rBm21 (List.mem_of_getElem? (i := 18) rfl))
set_option maxRecDepth 100000 in
theorem kw1027 : Cond.methodLink "NativeWorksLaw" 62 ⟨"NativeWorksModel", "size", "(II)I"⟩ ∈ rTs := List.mem_append_left _ (rBm21 (List.mem_of_getElem? (i := 19) rfl))
set_option maxRecDepth 100000 in
theorem kw1028 : Cond.instanceMethod ⟨"NativeWorksModel", "size", "(II)I"⟩ ∈ rTs := List.mem_append_left _ (rBm21 (List.mem_of_getElem? (i := 20) rfl))
set_option maxRecDepth 100000 in
theorem kw1029 : Cond.code ⟨"NativeWorksModel", "size", "(II)I"⟩ prog_14_method_124_code 3 (Option.some FieldType.int) ∈ rTs := List.mem_append_left _ (rBm21 (List.mem_of_getElem? (i := 21) rfl))
set_option maxRecDepth 100000 in
theorem kw1030 : Cond.selects "NativeWorksModel" ⟨"NativeWorksModel", "size", "(II)I"⟩ ⟨"NativeWorksModel", "size", "(II)I"⟩ ∈ rTs := List.mem_append_left _ (rBm21 (List.mem_of_getElem? (i := 22) rfl))
set_option maxRecDepth 100000 in
theorem kw1031 : Cond.methodLink "NativeWorksLaw" 63 ⟨"NativeWorks", "octet", "(III)I"⟩ ∈ rTs := List.mem_append_left _ (rBm21 (List.mem_of_getElem? (i := 23) rfl))
set_option maxRecDepth 100000 in
theorem kw1032 : Cond.instanceMethod ⟨"NativeWorks", "octet", "(III)I"⟩ ∈ rTs := List.mem_append_left _ (rBm21 (List.mem_of_getElem? (i := 24) rfl))
set_option maxRecDepth 100000 in
theorem kw1033 : Cond.code ⟨"NativeWorks", "octet", "(III)I"⟩ prog_1_method_7_code 4 (Option.some FieldType.int) ∈ rTs := List.mem_append_left _ (rBm21 (List.mem_of_getElem? (i := 25) rfl))
set_option maxRecDepth 100000 in
theorem kw1034 : Cond.selects "NativeWorks" ⟨"NativeWorks", "octet", "(III)I"⟩ ⟨"NativeWorks", "octet", "(III)I"⟩ ∈ rTs := List.mem_append_left _ (rBm21 (List.mem_of_getElem? (i := 26) rfl))
set_option maxRecDepth 100000 in
theorem kw1035 : Cond.methodLink "NativeWorksLaw" 67 ⟨"NativeWorksModel", "octet", "(III)I"⟩ ∈ rTs := List.mem_append_left _ (rBm21 (List.mem_of_getElem? (i := 27) rfl))
set_option maxRecDepth 100000 in
theorem kw1036 : Cond.instanceMethod ⟨"NativeWorksModel", "octet", "(III)I"⟩ ∈ rTs := List.mem_append_left _ (rBm21 (List.mem_of_getElem? (i := 28) rfl))
set_option maxRecDepth 100000 in
theorem kw1037 : Cond.code ⟨"NativeWorksModel", "octet", "(III)I"⟩ prog_14_method_126_code 5 (Option.some FieldType.int) ∈ rTs := List.mem_append_left _ (rBm21 (List.mem_of_getElem? (i := 29) rfl))
set_option maxRecDepth 100000 in
theorem kw1038 : Cond.selects "NativeWorksModel" ⟨"NativeWorksModel", "octet", "(III)I"⟩ ⟨"NativeWorksModel", "octet", "(III)I"⟩ ∈ rTs := List.mem_append_left _ (rBm21 (List.mem_of_getElem? (i := 30) rfl))
set_option maxRecDepth 100000 in
theorem kw1039 : Cond.methodLink "NativeWorksLaw" 68 ⟨"NativeWorksLaw", "link", "(LNativeWorks;[J)I"⟩ ∈ rTs := List.mem_append_left _ (rBm21 (List.mem_of_getElem? (i := 31) rfl))
set_option maxRecDepth 100000 in
theorem kw1040 : Cond.static ⟨"NativeWorksLaw", "link", "(LNativeWorks;[J)I"⟩ ∈ rTs := List.mem_append_left _ (rBm21 (List.mem_of_getElem? (i := 32) rfl))
set_option maxRecDepth 100000 in
theorem kw1041 : Cond.codeWith ⟨"NativeWorksLaw", "link", "(LNativeWorks;[J)I"⟩ method_4_code 3 (Option.some FieldType.int) [(0, 8, 11, 19)] ∈ rTs := List.mem_append_left _ (rBm21 (List.mem_of_getElem? (i := 33) rfl))
set_option maxRecDepth 100000 in
theorem kw1042 : Cond.methodLink "NativeWorksLaw" 71 ⟨"NativeWorksModel", "link", "()I"⟩ ∈ rTs := List.mem_append_left _ (rBm21 (List.mem_of_getElem? (i := 34) rfl))
set_option maxRecDepth 100000 in
theorem kw1043 : Cond.instanceMethod ⟨"NativeWorksModel", "link", "()I"⟩ ∈ rTs := List.mem_append_left _ (rBm21 (List.mem_of_getElem? (i := 35) rfl))
set_option maxRecDepth 100000 in
theorem kw1044 : Cond.code ⟨"NativeWorksModel", "link", "()I"⟩ prog_14_method_145_code 9 (Option.some FieldType.int) ∈ rTs := List.mem_append_left _ (rBm21 (List.mem_of_getElem? (i := 36) rfl))
set_option maxRecDepth 100000 in
theorem kw1045 : Cond.selects "NativeWorksModel" ⟨"NativeWorksModel", "link", "()I"⟩ ⟨"NativeWorksModel", "link", "()I"⟩ ∈ rTs := List.mem_append_left _ (rBm21 (List.mem_of_getElem? (i := 37) rfl))
set_option maxRecDepth 100000 in
theorem kw1046 : Cond.methodLink "NativeWorksLaw" 72 ⟨"NativeWorksLaw", "symbol", "(LNativeWorks;I[J)I"⟩ ∈ rTs := List.mem_append_left _ (rBm21 (List.mem_of_getElem? (i := 38) rfl))
set_option maxRecDepth 100000 in
theorem kw1047 : Cond.static ⟨"NativeWorksLaw", "symbol", "(LNativeWorks;I[J)I"⟩ ∈ rTs := List.mem_append_left _ (rBm21 (List.mem_of_getElem? (i := 39) rfl))
set_option maxRecDepth 100000 in
theorem kw1048 : Cond.codeWith ⟨"NativeWorksLaw", "symbol", "(LNativeWorks;I[J)I"⟩ method_5_code 4 (Option.some FieldType.int) [(0, 8, 11, 25)] ∈ rTs := List.mem_append_left _ (rBm21 (List.mem_of_getElem? (i := 40) rfl))
set_option maxRecDepth 100000 in
theorem kw1049 : Cond.methodLink "NativeWorksLaw" 75 ⟨"NativeWorksModel", "symbol", "(I)J"⟩ ∈ rTs := List.mem_append_left _ (rBm21 (List.mem_of_getElem? (i := 41) rfl))
set_option maxRecDepth 100000 in
theorem kw1050 : Cond.instanceMethod ⟨"NativeWorksModel", "symbol", "(I)J"⟩ ∈ rTs := List.mem_append_left _ (rBm21 (List.mem_of_getElem? (i := 42) rfl))
set_option maxRecDepth 100000 in
theorem kw1051 : Cond.code ⟨"NativeWorksModel", "symbol", "(I)J"⟩ prog_14_method_149_code 6 (Option.some FieldType.long) ∈ rTs := List.mem_append_left _ (rBm21 (List.mem_of_getElem? (i := 43) rfl))
set_option maxRecDepth 100000 in
theorem kw1052 : Cond.selects "NativeWorksModel" ⟨"NativeWorksModel", "symbol", "(I)J"⟩ ⟨"NativeWorksModel", "symbol", "(I)J"⟩ ∈ rTs := List.mem_append_left _ (rBm21 (List.mem_of_getElem? (i := 44) rfl))
set_option maxRecDepth 100000 in
theorem kw1053 : Cond.methodLink "NativeWorksLaw" 76 ⟨"NativeWorksLaw", "load", "(LNativeWorks;[J)I"⟩ ∈ rTs := List.mem_append_left _ (rBm21 (List.mem_of_getElem? (i := 45) rfl))
set_option maxRecDepth 100000 in
theorem kw1054 : Cond.static ⟨"NativeWorksLaw", "load", "(LNativeWorks;[J)I"⟩ ∈ rTs := List.mem_append_left _ (rBm21 (List.mem_of_getElem? (i := 46) rfl))
set_option maxRecDepth 100000 in
theorem kw1055 : Cond.codeWith ⟨"NativeWorksLaw", "load", "(LNativeWorks;[J)I"⟩ method_6_code 3 (Option.some FieldType.int) [(0, 7, 10, 19)] ∈ rTs := List.mem_append_left _ (rBm21 (List.mem_of_getElem? (i := 47) rfl))
set_option maxRecDepth 100000 in
theorem kw1056 : Cond.methodLink "NativeWorksLaw" 78 ⟨"NativeWorksModel", "load", "()J"⟩ ∈ rTs := List.mem_append_left _ (rBm22 (List.mem_of_getElem? (i := 0) rfl))
set_option maxRecDepth 100000 in
theorem kw1057 : Cond.instanceMethod ⟨"NativeWorksModel", "load", "()J"⟩ ∈ rTs := List.mem_append_left _ (rBm22 (List.mem_of_getElem? (i := 1) rfl))
set_option maxRecDepth 100000 in
theorem kw1058 : Cond.code ⟨"NativeWorksModel", "load", "()J"⟩ prog_14_method_194_code 2 (Option.some FieldType.long) ∈ rTs := List.mem_append_left _ (rBm22 (List.mem_of_getElem? (i := 2) rfl))
set_option maxRecDepth 100000 in
theorem kw1059 : Cond.selects "NativeWorksModel" ⟨"NativeWorksModel", "load", "()J"⟩ ⟨"NativeWorksModel", "load", "()J"⟩ ∈ rTs := List.mem_append_left _ (rBm22 (List.mem_of_getElem? (i := 3) rfl))
set_option maxRecDepth 100000 in
theorem kw1060 : Cond.methodLink "NativeWorksLaw" 79 ⟨"NativeWorks", "input", "(I)I"⟩ ∈ rTs := List.mem_append_left _ (rBm22 (List.mem_of_getElem? (i := 4) rfl))
set_option maxRecDepth 100000 in
theorem kw1061 : Cond.instanceMethod ⟨"NativeWorks", "input", "(I)I"⟩ ∈ rTs := List.mem_append_left _ (rBm22 (List.mem_of_getElem? (i := 5) rfl))
set_option maxRecDepth 100000 in
theorem kw1062 : Cond.code ⟨"NativeWorks", "input", "(I)I"⟩ prog_1_method_11_code 2 (Option.some FieldType.int) ∈ rTs := List.mem_append_left _ (rBm22 (List.mem_of_getElem? (i := 6) rfl))
set_option maxRecDepth 100000 in
theorem kw1063 : Cond.selects "NativeWorks" ⟨"NativeWorks", "input", "(I)I"⟩ ⟨"NativeWorks", "input", "(I)I"⟩ ∈ rTs := List.mem_append_left _ (rBm22 (List.mem_of_getElem? (i := 7) rfl))
set_option maxRecDepth 100000 in
theorem kw1064 : Cond.methodLink "NativeWorksLaw" 82 ⟨"NativeWorksModel", "input", "(I)I"⟩ ∈ rTs := List.mem_append_left _ (rBm22 (List.mem_of_getElem? (i := 8) rfl))
set_option maxRecDepth 100000 in
theorem kw1065 : Cond.instanceMethod ⟨"NativeWorksModel", "input", "(I)I"⟩ ∈ rTs := List.mem_append_left _ (rBm22 (List.mem_of_getElem? (i := 9) rfl))
set_option maxRecDepth 100000 in
theorem kw1066 : Cond.code ⟨"NativeWorksModel", "input", "(I)I"⟩ prog_14_method_195_code 4 (Option.some FieldType.int) ∈ rTs := List.mem_append_left _ (rBm22 (List.mem_of_getElem? (i := 10) rfl))
set_option maxRecDepth 100000 in
theorem kw1067 : Cond.selects "NativeWorksModel" ⟨"NativeWorksModel", "input", "(I)I"⟩ ⟨"NativeWorksModel", "input", "(I)I"⟩ ∈ rTs := List.mem_append_left _ (rBm22 (List.mem_of_getElem? (i := 11) rfl))
set_option maxRecDepth 100000 in
theorem kw1068 : Cond.methodLink "NativeWorksLaw" 83 ⟨"NativeWorksLaw", "run", "(LNativeWorks;I[J)I"⟩ ∈ rTs := List.mem_append_left _ (rBm22 (List.mem_of_getElem? (i := 12) rfl))
set_option maxRecDepth 100000 in
theorem kw1069 : Cond.static ⟨"NativeWorksLaw", "run", "(LNativeWorks;I[J)I"⟩ ∈ rTs := List.mem_append_left _ (rBm22 (List.mem_of_getElem? (i := 13) rfl))
set_option maxRecDepth 100000 in
theorem kw1070 : Cond.codeWith ⟨"NativeWorksLaw", "run", "(LNativeWorks;I[J)I"⟩ method_7_code 4 (Option.some FieldType.int) [(0, 9, 12, 13), (0, 9, 15, 19)] ∈ rTs := List.mem_append_left _ (rBm22 (List.mem_of_getElem? (i := 14) rfl))
set_option maxRecDepth 100000 in
theorem kw1071 : Cond.methodLink "NativeWorksLaw" 85 ⟨"NativeWorksModel", "run", "(I)I"⟩ ∈ rTs := List.mem_append_left _ (rBm22 (List.mem_of_getElem? (i := 15) rfl))
set_option maxRecDepth 100000 in
theorem kw1072 : Cond.instanceMethod ⟨"NativeWorksModel", "run", "(I)I"⟩ ∈ rTs := List.mem_append_left _ (rBm22 (List.mem_of_getElem? (i := 16) rfl))
set_option maxRecDepth 100000 in
theorem kw1073 : Cond.code ⟨"NativeWorksModel", "run", "(I)I"⟩ prog_14_method_197_code 3 (Option.some FieldType.int) ∈ rTs := List.mem_append_left _ (rBm22 (List.mem_of_getElem? (i := 17) rfl))
set_option maxRecDepth 100000 in
theorem kw1074 : Cond.selects "NativeWorksModel" ⟨"NativeWorksModel", "run", "(I)I"⟩ ⟨"NativeWorksModel", "run", "(I)I"⟩ ∈ rTs := List.mem_append_left _ (rBm22 (List.mem_of_getElem? (i := 18) rfl))
set_option maxRecDepth 100000 in
theorem kw1075 : Cond.methodLink "NativeWorksLaw" 86 ⟨"NativeWorks", "stop", "(I)J"⟩ ∈ rTs := List.mem_append_left _ (rBm22 (List.mem_of_getElem? (i := 19) rfl))
set_option maxRecDepth 100000 in
theorem kw1076 : Cond.instanceMethod ⟨"NativeWorks", "stop", "(I)J"⟩ ∈ rTs := List.mem_append_left _ (rBm22 (List.mem_of_getElem? (i := 20) rfl))
set_option maxRecDepth 100000 in
theorem kw1077 : Cond.code ⟨"NativeWorks", "stop", "(I)J"⟩ prog_1_method_13_code 2 (Option.some FieldType.long) ∈ rTs := List.mem_append_left _ (rBm22 (List.mem_of_getElem? (i := 21) rfl))
set_option maxRecDepth 100000 in
theorem kw1078 : Cond.selects "NativeWorks" ⟨"NativeWorks", "stop", "(I)J"⟩ ⟨"NativeWorks", "stop", "(I)J"⟩ ∈ rTs := List.mem_append_left _ (rBm22 (List.mem_of_getElem? (i := 22) rfl))
set_option maxRecDepth 100000 in
theorem kw1079 : Cond.methodLink "NativeWorksLaw" 89 ⟨"NativeWorksModel", "stop", "(I)J"⟩ ∈ rTs := List.mem_append_left _ (rBm22 (List.mem_of_getElem? (i := 23) rfl))
set_option maxRecDepth 100000 in
theorem kw1080 : Cond.instanceMethod ⟨"NativeWorksModel", "stop", "(I)J"⟩ ∈ rTs := List.mem_append_left _ (rBm22 (List.mem_of_getElem? (i := 24) rfl))
set_option maxRecDepth 100000 in
theorem kw1081 : Cond.code ⟨"NativeWorksModel", "stop", "(I)J"⟩ prog_14_method_198_code 2 (Option.some FieldType.long) ∈ rTs := List.mem_append_left _ (rBm22 (List.mem_of_getElem? (i := 25) rfl))
set_option maxRecDepth 100000 in
theorem kw1082 : Cond.selects "NativeWorksModel" ⟨"NativeWorksModel", "stop", "(I)J"⟩ ⟨"NativeWorksModel", "stop", "(I)J"⟩ ∈ rTs := List.mem_append_left _ (rBm22 (List.mem_of_getElem? (i := 26) rfl))
set_option maxRecDepth 100000 in
theorem kw1083 : Cond.methodLink "NativeWorksLaw" 90 ⟨"NativeWorks", "registe\x72", "(I)J"⟩ ∈ rTs := List.mem_append_left _ (rBm22 (List.mem_of_getElem? (i := 27) rfl))
set_option maxRecDepth 100000 in
theorem kw1084 : Cond.instanceMethod ⟨"NativeWorks", "registe\x72", "(I)J"⟩ ∈ rTs := List.mem_append_left _ (rBm22 (List.mem_of_getElem? (i := 28) rfl))
set_option maxRecDepth 100000 in
theorem kw1085 : Cond.code ⟨"NativeWorks", "registe\x72", "(I)J"⟩ prog_1_method_14_code 2 (Option.some FieldType.long) ∈ rTs := List.mem_append_left _ (rBm22 (List.mem_of_getElem? (i := 29) rfl))
set_option maxRecDepth 100000 in
theorem kw1086 : Cond.selects "NativeWorks" ⟨"NativeWorks", "registe\x72", "(I)J"⟩ ⟨"NativeWorks", "registe\x72", "(I)J"⟩ ∈ rTs := List.mem_append_left _ (rBm22 (List.mem_of_getElem? (i := 30) rfl))
set_option maxRecDepth 100000 in
theorem kw1087 : Cond.methodLink "NativeWorksLaw" 93 ⟨"NativeWorksModel", "registe\x72", "(I)J"⟩ ∈ rTs := List.mem_append_left _ (rBm22 (List.mem_of_getElem? (i := 31) rfl))
set_option maxRecDepth 100000 in
theorem kw1088 : Cond.instanceMethod ⟨"NativeWorksModel", "registe\x72", "(I)J"⟩ ∈ rTs := List.mem_append_left _ (rBm22 (List.mem_of_getElem? (i := 32) rfl))
set_option maxRecDepth 100000 in
theorem kw1089 : Cond.code ⟨"NativeWorksModel", "registe\x72", "(I)J"⟩ prog_14_method_199_code 2 (Option.some FieldType.long) ∈ rTs := List.mem_append_left _ (rBm22 (List.mem_of_getElem? (i := 33) rfl))
set_option maxRecDepth 100000 in
theorem kw1090 : Cond.selects "NativeWorksModel" ⟨"NativeWorksModel", "registe\x72", "(I)J"⟩ ⟨"NativeWorksModel", "registe\x72", "(I)J"⟩ ∈ rTs := List.mem_append_left _ (rBm22 (List.mem_of_getElem? (i := 34) rfl))
set_option maxRecDepth 100000 in
theorem kw1091 : Cond.constantLong "NativeWorksLaw" 94 (lN 4294967295) ∈ rTs := List.mem_append_left _ (rBm22 (List.mem_of_getElem? (i := 35) (by decide +kernel)))
set_option maxRecDepth 100000 in
theorem kw1092 : Cond.methodLink "NativeWorksLaw" 96 ⟨"NativeWorks", "set", "(IJ)Z"⟩ ∈ rTs := List.mem_append_left _ (rBm22 (List.mem_of_getElem? (i := 36) rfl))
set_option maxRecDepth 100000 in
theorem kw1093 : Cond.instanceMethod ⟨"NativeWorks", "set", "(IJ)Z"⟩ ∈ rTs := List.mem_append_left _ (rBm22 (List.mem_of_getElem? (i := 37) rfl))
set_option maxRecDepth 100000 in
theorem kw1094 : Cond.code ⟨"NativeWorks", "set", "(IJ)Z"⟩ prog_1_method_15_code 4 (Option.some FieldType.boolean) ∈ rTs := List.mem_append_left _ (rBm22 (List.mem_of_getElem? (i := 38) rfl))
set_option maxRecDepth 100000 in
theorem kw1095 : Cond.selects "NativeWorks" ⟨"NativeWorks", "set", "(IJ)Z"⟩ ⟨"NativeWorks", "set", "(IJ)Z"⟩ ∈ rTs := List.mem_append_left _ (rBm22 (List.mem_of_getElem? (i := 39) rfl))
set_option maxRecDepth 100000 in
theorem kw1096 : Cond.methodLink "NativeWorksLaw" 100 ⟨"NativeWorksModel", "set", "(IJ)Z"⟩ ∈ rTs := List.mem_append_left _ (rBm22 (List.mem_of_getElem? (i := 40) rfl))
set_option maxRecDepth 100000 in
theorem kw1097 : Cond.instanceMethod ⟨"NativeWorksModel", "set", "(IJ)Z"⟩ ∈ rTs := List.mem_append_left _ (rBm22 (List.mem_of_getElem? (i := 41) rfl))
set_option maxRecDepth 100000 in
theorem kw1098 : Cond.code ⟨"NativeWorksModel", "set", "(IJ)Z"⟩ prog_14_method_200_code 4 (Option.some FieldType.boolean) ∈ rTs := List.mem_append_left _ (rBm22 (List.mem_of_getElem? (i := 42) rfl))
set_option maxRecDepth 100000 in
theorem kw1099 : Cond.selects "NativeWorksModel" ⟨"NativeWorksModel", "set", "(IJ)Z"⟩ ⟨"NativeWorksModel", "set", "(IJ)Z"⟩ ∈ rTs := List.mem_append_left _ (rBm22 (List.mem_of_getElem? (i := 43) rfl))
set_option maxRecDepth 100000 in
theorem kw1100 : Cond.methodLink "NativeWorksLaw" 101 ⟨"NativeWorks", "peek", "(J)I"⟩ ∈ rTs := List.mem_append_left _ (rBm22 (List.mem_of_getElem? (i := 44) rfl))
set_option maxRecDepth 100000 in
theorem kw1101 : Cond.instanceMethod ⟨"NativeWorks", "peek", "(J)I"⟩ ∈ rTs := List.mem_append_left _ (rBm22 (List.mem_of_getElem? (i := 45) rfl))
set_option maxRecDepth 100000 in
theorem kw1102 : Cond.code ⟨"NativeWorks", "peek", "(J)I"⟩ prog_1_method_16_code 3 (Option.some FieldType.int) ∈ rTs := List.mem_append_left _ (rBm22 (List.mem_of_getElem? (i := 46) rfl))
set_option maxRecDepth 100000 in
theorem kw1103 : Cond.selects "NativeWorks" ⟨"NativeWorks", "peek", "(J)I"⟩ ⟨"NativeWorks", "peek", "(J)I"⟩ ∈ rTs := List.mem_append_left _ (rBm22 (List.mem_of_getElem? (i := 47) rfl))
set_option maxRecDepth 100000 in
theorem kw1104 : Cond.methodLink "NativeWorksLaw" 105 ⟨"NativeWorksModel", "peek", "(J)I"⟩ ∈ rTs := List.mem_append_left _ (rBm23 (List.mem_of_getElem? (i := 0) rfl))
set_option maxRecDepth 100000 in
theorem kw1105 : Cond.instanceMethod ⟨"NativeWorksModel", "peek", "(J)I"⟩ ∈ rTs := List.mem_append_left _ (rBm23 (List.mem_of_getElem? (i := 1) rfl))
set_option maxRecDepth 100000 in
theorem kw1106 : Cond.code ⟨"NativeWorksModel", "peek", "(J)I"⟩ prog_14_method_201_code 4 (Option.some FieldType.int) ∈ rTs := List.mem_append_left _ (rBm23 (List.mem_of_getElem? (i := 2) rfl))
set_option maxRecDepth 100000 in
theorem kw1107 : Cond.selects "NativeWorksModel" ⟨"NativeWorksModel", "peek", "(J)I"⟩ ⟨"NativeWorksModel", "peek", "(J)I"⟩ ∈ rTs := List.mem_append_left _ (rBm23 (List.mem_of_getElem? (i := 3) rfl))
set_option maxRecDepth 100000 in
theorem kw1108 : Cond.methodLink "NativeWorksLaw" 106 ⟨"NativeWorks", "poke", "(JI)Z"⟩ ∈ rTs := List.mem_append_left _ (rBm23 (List.mem_of_getElem? (i := 4) rfl))
set_option maxRecDepth 100000 in
theorem kw1109 : Cond.instanceMethod ⟨"NativeWorks", "poke", "(JI)Z"⟩ ∈ rTs := List.mem_append_left _ (rBm23 (List.mem_of_getElem? (i := 5) rfl))
set_option maxRecDepth 100000 in
theorem kw1110 : Cond.code ⟨"NativeWorks", "poke", "(JI)Z"⟩ prog_1_method_17_code 4 (Option.some FieldType.boolean) ∈ rTs := List.mem_append_left _ (rBm23 (List.mem_of_getElem? (i := 6) rfl))
set_option maxRecDepth 100000 in
theorem kw1111 : Cond.selects "NativeWorks" ⟨"NativeWorks", "poke", "(JI)Z"⟩ ⟨"NativeWorks", "poke", "(JI)Z"⟩ ∈ rTs := List.mem_append_left _ (rBm23 (List.mem_of_getElem? (i := 7) rfl))
set_option maxRecDepth 100000 in
theorem kw1112 : Cond.methodLink "NativeWorksLaw" 110 ⟨"NativeWorksModel", "poke", "(JI)Z"⟩ ∈ rTs := List.mem_append_left _ (rBm23 (List.mem_of_getElem? (i := 8) rfl))
set_option maxRecDepth 100000 in
theorem kw1113 : Cond.instanceMethod ⟨"NativeWorksModel", "poke", "(JI)Z"⟩ ∈ rTs := List.mem_append_left _ (rBm23 (List.mem_of_getElem? (i := 9) rfl))
set_option maxRecDepth 100000 in
theorem kw1114 : Cond.code ⟨"NativeWorksModel", "poke", "(JI)Z"⟩ prog_14_method_202_code 5 (Option.some FieldType.boolean) ∈ rTs := List.mem_append_left _ (rBm23 (List.mem_of_getElem? (i := 10) rfl))
set_option maxRecDepth 100000 in
theorem kw1115 : Cond.selects "NativeWorksModel" ⟨"NativeWorksModel", "poke", "(JI)Z"⟩ ⟨"NativeWorksModel", "poke", "(JI)Z"⟩ ∈ rTs := List.mem_append_left _ (rBm23 (List.mem_of_getElem? (i := 11) rfl))
set_option maxRecDepth 100000 in
theorem kw1116 : Cond.methodLink "NativeWorksLaw" 111 ⟨"NativeWorks", "stopAt", "(JZ)Z"⟩ ∈ rTs := List.mem_append_left _ (rBm23 (List.mem_of_getElem? (i := 12) rfl))
set_option maxRecDepth 100000 in
theorem kw1117 : Cond.instanceMethod ⟨"NativeWorks", "stopAt", "(JZ)Z"⟩ ∈ rTs := List.mem_append_left _ (rBm23 (List.mem_of_getElem? (i := 13) rfl))
set_option maxRecDepth 100000 in
theorem kw1118 : Cond.code ⟨"NativeWorks", "stopAt", "(JZ)Z"⟩ prog_1_method_18_code 4 (Option.some FieldType.boolean) ∈ rTs := List.mem_append_left _ (rBm23 (List.mem_of_getElem? (i := 14) rfl))
set_option maxRecDepth 100000 in
theorem kw1119 : Cond.selects "NativeWorks" ⟨"NativeWorks", "stopAt", "(JZ)Z"⟩ ⟨"NativeWorks", "stopAt", "(JZ)Z"⟩ ∈ rTs := List.mem_append_left _ (rBm23 (List.mem_of_getElem? (i := 15) rfl))
set_option maxRecDepth 100000 in
theorem kw1120 : Cond.methodLink "NativeWorksLaw" 115 ⟨"NativeWorksModel", "stopAt", "(JZ)Z"⟩ ∈ rTs := List.mem_append_left _ (rBm23 (List.mem_of_getElem? (i := 16) rfl))
set_option maxRecDepth 100000 in
theorem kw1121 : Cond.instanceMethod ⟨"NativeWorksModel", "stopAt", "(JZ)Z"⟩ ∈ rTs := List.mem_append_left _ (rBm23 (List.mem_of_getElem? (i := 17) rfl))
set_option maxRecDepth 100000 in
theorem kw1122 : Cond.code ⟨"NativeWorksModel", "stopAt", "(JZ)Z"⟩ prog_14_method_203_code 5 (Option.some FieldType.boolean) ∈ rTs := List.mem_append_left _ (rBm23 (List.mem_of_getElem? (i := 18) rfl))
set_option maxRecDepth 100000 in
theorem kw1123 : Cond.selects "NativeWorksModel" ⟨"NativeWorksModel", "stopAt", "(JZ)Z"⟩ ⟨"NativeWorksModel", "stopAt", "(JZ)Z"⟩ ∈ rTs := List.mem_append_left _ (rBm23 (List.mem_of_getElem? (i := 19) rfl))
set_option maxRecDepth 100000 in
theorem kw1124 : Cond.methodLink "NativeWorksLaw" 116 ⟨"NativeWorks", "output", "(I)I"⟩ ∈ rTs := List.mem_append_left _ (rBm23 (List.mem_of_getElem? (i := 20) rfl))
set_option maxRecDepth 100000 in
theorem kw1125 : Cond.instanceMethod ⟨"NativeWorks", "output", "(I)I"⟩ ∈ rTs := List.mem_append_left _ (rBm23 (List.mem_of_getElem? (i := 21) rfl))
set_option maxRecDepth 100000 in
theorem kw1126 : Cond.code ⟨"NativeWorks", "output", "(I)I"⟩ prog_1_method_19_code 2 (Option.some FieldType.int) ∈ rTs := List.mem_append_left _ (rBm23 (List.mem_of_getElem? (i := 22) rfl))
set_option maxRecDepth 100000 in
theorem kw1127 : Cond.selects "NativeWorks" ⟨"NativeWorks", "output", "(I)I"⟩ ⟨"NativeWorks", "output", "(I)I"⟩ ∈ rTs := List.mem_append_left _ (rBm23 (List.mem_of_getElem? (i := 23) rfl))
set_option maxRecDepth 100000 in
theorem kw1128 : Cond.methodLink "NativeWorksLaw" 119 ⟨"NativeWorksModel", "output", "(I)I"⟩ ∈ rTs := List.mem_append_left _ (rBm23 (List.mem_of_getElem? (i := 24) rfl))
set_option maxRecDepth 100000 in
theorem kw1129 : Cond.instanceMethod ⟨"NativeWorksModel", "output", "(I)I"⟩ ∈ rTs := List.mem_append_left _ (rBm23 (List.mem_of_getElem? (i := 25) rfl))
set_option maxRecDepth 100000 in
theorem kw1130 : Cond.code ⟨"NativeWorksModel", "output", "(I)I"⟩ prog_14_method_204_code 2 (Option.some FieldType.int) ∈ rTs := List.mem_append_left _ (rBm23 (List.mem_of_getElem? (i := 26) rfl))
set_option maxRecDepth 100000 in
theorem kw1131 : Cond.selects "NativeWorksModel" ⟨"NativeWorksModel", "output", "(I)I"⟩ ⟨"NativeWorksModel", "output", "(I)I"⟩ ∈ rTs := List.mem_append_left _ (rBm23 (List.mem_of_getElem? (i := 27) rfl))
set_option maxRecDepth 100000 in
theorem kw1132 : Cond.methodLink "NativeWorksLaw" 120 ⟨"NativeWorks", "where", "(J)I"⟩ ∈ rTs := List.mem_append_left _ (rBm23 (List.mem_of_getElem? (i := 28) rfl))
set_option maxRecDepth 100000 in
theorem kw1133 : Cond.instanceMethod ⟨"NativeWorks", "where", "(J)I"⟩ ∈ rTs := List.mem_append_left _ (rBm23 (List.mem_of_getElem? (i := 29) rfl))
set_option maxRecDepth 100000 in
theorem kw1134 : Cond.code ⟨"NativeWorks", "where", "(J)I"⟩ prog_1_method_20_code 5 (Option.some FieldType.int) ∈ rTs := List.mem_append_left _ (rBm23 (List.mem_of_getElem? (i := 30) rfl))
set_option maxRecDepth 100000 in
theorem kw1135 : Cond.selects "NativeWorks" ⟨"NativeWorks", "where", "(J)I"⟩ ⟨"NativeWorks", "where", "(J)I"⟩ ∈ rTs := List.mem_append_left _ (rBm23 (List.mem_of_getElem? (i := 31) rfl))
set_option maxRecDepth 100000 in
theorem kw1136 : Cond.methodLink "NativeWorksLaw" 123 ⟨"NativeWorksModel", "where", "(J)I"⟩ ∈ rTs := List.mem_append_left _ (rBm23 (List.mem_of_getElem? (i := 32) rfl))
set_option maxRecDepth 100000 in
theorem kw1137 : Cond.instanceMethod ⟨"NativeWorksModel", "where", "(J)I"⟩ ∈ rTs := List.mem_append_left _ (rBm23 (List.mem_of_getElem? (i := 33) rfl))
set_option maxRecDepth 100000 in
theorem kw1138 : Cond.code ⟨"NativeWorksModel", "where", "(J)I"⟩ prog_14_method_150_code 4 (Option.some FieldType.int) ∈ rTs := List.mem_append_left _ (rBm23 (List.mem_of_getElem? (i := 34) rfl))
set_option maxRecDepth 100000 in
theorem kw1139 : Cond.selects "NativeWorksModel" ⟨"NativeWorksModel", "where", "(J)I"⟩ ⟨"NativeWorksModel", "where", "(J)I"⟩ ∈ rTs := List.mem_append_left _ (rBm23 (List.mem_of_getElem? (i := 35) rfl))
set_option maxRecDepth 100000 in
theorem kw1140 : Cond.classLink "NativeWorksLaw" 13 "java/lang/IllegalArgumentException" ∈ rTs := List.mem_append_left _ (rBm23 (List.mem_of_getElem? (i := 36) rfl))
set_option maxRecDepth 100000 in
theorem kw1141 : Cond.classLink "NativeWorksLaw" 19 "java/lang/IllegalStateException" ∈ rTs := List.mem_append_left _ (rBm23 (List.mem_of_getElem? (i := 37) rfl))
set_option maxRecDepth 100000 in
theorem kw1142 : Cond.classLink "NativeWorksLaw" 25 "java/util/NoSuchElementException" ∈ rTs := List.mem_append_left _ (rBm23 (List.mem_of_getElem? (i := 38) rfl))
set_option maxRecDepth 100000 in
theorem kw1143 : Cond.code ⟨"NativeWorks$Assemble\x72", "address", "()Z"⟩ prog_2_method_28_code 4 (Option.some FieldType.boolean) ∈ rTs := List.mem_append_left _ (rBm23 (List.mem_of_getElem? (i := 39) rfl))
set_option maxRecDepth 100000 in
theorem kw1144 : Cond.fieldLink "NativeWorks$Assemble\x72" 247 "NativeWorks$Line" "at" "I" ∈ rTs := List.mem_append_left _ (rBm23 (List.mem_of_getElem? (i := 40) rfl))
set_option maxRecDepth 100000 in
theorem kw1145 : Cond.methodLink "NativeWorks$Assemble\x72" 413 ⟨"NativeWorks$Instruction", "beginAddress", "()V"⟩ ∈ rTs := List.mem_append_left _ (rBm23 (List.mem_of_getElem? (i := 41) rfl))
set_option maxRecDepth 100000 in
theorem kw1146 : Cond.instanceMethod ⟨"NativeWorks$Instruction", "beginAddress", "()V"⟩ ∈ rTs := List.mem_append_left _ (rBm23 (List.mem_of_getElem? (i := 42) rfl))
set_option maxRecDepth 100000 in
theorem kw1147 : Cond.selects "NativeWorks$Instruction" ⟨"NativeWorks$Instruction", "beginAddress", "()V"⟩ ⟨"NativeWorks$Instruction", "beginAddress", "()V"⟩ ∈ rTs := List.mem_append_left _ (rBm23 (List.mem_of_getElem? (i := 43) rfl))
set_option maxRecDepth 100000 in
theorem kw1148 : Cond.methodLink "NativeWorks$Assemble\x72" 416 ⟨"NativeWorks$Expression", "beZero", "()V"⟩ ∈ rTs := List.mem_append_left _ (rBm23 (List.mem_of_getElem? (i := 44) rfl))
set_option maxRecDepth 100000 in
theorem kw1149 : Cond.instanceMethod ⟨"NativeWorks$Expression", "beZero", "()V"⟩ ∈ rTs := List.mem_append_left _ (rBm23 (List.mem_of_getElem? (i := 45) rfl))
set_option maxRecDepth 100000 in
theorem kw1150 : Cond.selects "NativeWorks$Expression" ⟨"NativeWorks$Expression", "beZero", "()V"⟩ ⟨"NativeWorks$Expression", "beZero", "()V"⟩ ∈ rTs := List.mem_append_left _ (rBm23 (List.mem_of_getElem? (i := 46) rfl))
set_option maxRecDepth 100000 in
theorem kw1151 : Cond.methodLink "NativeWorks$Assemble\x72" 200 ⟨"NativeWorks$Line", "isMark", "(II)Z"⟩ ∈ rTs := List.mem_append_left _ (rBm23 (List.mem_of_getElem? (i := 47) rfl))
set_option maxRecDepth 100000 in
theorem kw1152 : Cond.instanceMethod ⟨"NativeWorks$Line", "isMark", "(II)Z"⟩ ∈ rTs := List.mem_append_left _ (rBm24 (List.mem_of_getElem? (i := 0) rfl))
set_option maxRecDepth 100000 in
theorem kw1153 : Cond.selects "NativeWorks$Line" ⟨"NativeWorks$Line", "isMark", "(II)Z"⟩ ⟨"NativeWorks$Line", "isMark", "(II)Z"⟩ ∈ rTs := List.mem_append_left _ (rBm24 (List.mem_of_getElem? (i := 1) rfl))
set_option maxRecDepth 100000 in
theorem kw1154 : Cond.fieldLink "NativeWorks$Assemble\x72" 419 "NativeWorks$Instruction" "base" "I" ∈ rTs := List.mem_append_left _ (rBm24 (List.mem_of_getElem? (i := 2) rfl))
set_option maxRecDepth 100000 in
theorem kw1155 : Cond.methodLink "NativeWorks$Assemble\x72" 286 ⟨"NativeWorks$Expression", "read", "(IZI)Z"⟩ ∈ rTs := List.mem_append_left _ (rBm24 (List.mem_of_getElem? (i := 3) rfl))
set_option maxRecDepth 100000 in
theorem kw1156 : Cond.instanceMethod ⟨"NativeWorks$Expression", "read", "(IZI)Z"⟩ ∈ rTs := List.mem_append_left _ (rBm24 (List.mem_of_getElem? (i := 4) rfl))
set_option maxRecDepth 100000 in
theorem kw1157 : Cond.selects "NativeWorks$Expression" ⟨"NativeWorks$Expression", "read", "(IZI)Z"⟩ ⟨"NativeWorks$Expression", "read", "(IZI)Z"⟩ ∈ rTs := List.mem_append_left _ (rBm24 (List.mem_of_getElem? (i := 5) rfl))
set_option maxRecDepth 100000 in
theorem kw1158 : Cond.methodLink "NativeWorks$Assemble\x72" 388 ⟨"NativeWorks$Line", "isRegiste\x72", "(I)Z"⟩ ∈ rTs := List.mem_append_left _ (rBm24 (List.mem_of_getElem? (i := 6) rfl))
set_option maxRecDepth 100000 in
theorem kw1159 : Cond.instanceMethod ⟨"NativeWorks$Line", "isRegiste\x72", "(I)Z"⟩ ∈ rTs := List.mem_append_left _ (rBm24 (List.mem_of_getElem? (i := 7) rfl))
set_option maxRecDepth 100000 in
theorem kw1160 : Cond.selects "NativeWorks$Line" ⟨"NativeWorks$Line", "isRegiste\x72", "(I)Z"⟩ ⟨"NativeWorks$Line", "isRegiste\x72", "(I)Z"⟩ ∈ rTs := List.mem_append_left _ (rBm24 (List.mem_of_getElem? (i := 8) rfl))
set_option maxRecDepth 100000 in
theorem kw1161 : Cond.methodLink "NativeWorks$Assemble\x72" 422 ⟨"NativeWorks$Assemble\x72", "registerTerm", "()Z"⟩ ∈ rTs := List.mem_append_left _ (rBm24 (List.mem_of_getElem? (i := 9) rfl))
set_option maxRecDepth 100000 in
theorem kw1162 : Cond.instanceMethod ⟨"NativeWorks$Assemble\x72", "registerTerm", "()Z"⟩ ∈ rTs := List.mem_append_left _ (rBm24 (List.mem_of_getElem? (i := 10) rfl))
set_option maxRecDepth 100000 in
theorem kw1163 : Cond.selects "NativeWorks$Assemble\x72" ⟨"NativeWorks$Assemble\x72", "registerTerm", "()Z"⟩ ⟨"NativeWorks$Assemble\x72", "registerTerm", "()Z"⟩ ∈ rTs := List.mem_append_left _ (rBm24 (List.mem_of_getElem? (i := 11) rfl))
set_option maxRecDepth 100000 in
theorem kw1164 : Cond.methodLink "NativeWorks$Assemble\x72" 425 ⟨"NativeWorks$Expression", "apply", "(I)V"⟩ ∈ rTs := List.mem_append_left _ (rBm24 (List.mem_of_getElem? (i := 12) rfl))
set_option maxRecDepth 100000 in
theorem kw1165 : Cond.instanceMethod ⟨"NativeWorks$Expression", "apply", "(I)V"⟩ ∈ rTs := List.mem_append_left _ (rBm24 (List.mem_of_getElem? (i := 13) rfl))
set_option maxRecDepth 100000 in
theorem kw1166 : Cond.selects "NativeWorks$Expression" ⟨"NativeWorks$Expression", "apply", "(I)V"⟩ ⟨"NativeWorks$Expression", "apply", "(I)V"⟩ ∈ rTs := List.mem_append_left _ (rBm24 (List.mem_of_getElem? (i := 14) rfl))
set_option maxRecDepth 100000 in
theorem kw1167 : Cond.fieldLink "NativeWorks$Assemble\x72" 157 "NativeWorks$Line" "kind" "[I" ∈ rTs := List.mem_append_left _ (rBm24 (List.mem_of_getElem? (i := 15) rfl))
set_option maxRecDepth 100000 in
theorem kw1168 : Cond.fieldLink "NativeWorks$Assemble\x72" 82 "NativeWorks$Line" "worst" "I" ∈ rTs := List.mem_append_left _ (rBm24 (List.mem_of_getElem? (i := 16) rfl))
set_option maxRecDepth 100000 in
theorem kw1169 : Cond.methodLink "NativeWorks$Assemble\x72" 85 ⟨"NativeWorks$Reade\x72", "tooMuch", "()Z"⟩ ∈ rTs := List.mem_append_left _ (rBm24 (List.mem_of_getElem? (i := 17) rfl))
set_option maxRecDepth 100000 in
theorem kw1170 : Cond.instanceMethod ⟨"NativeWorks$Reade\x72", "tooMuch", "()Z"⟩ ∈ rTs := List.mem_append_left _ (rBm24 (List.mem_of_getElem? (i := 18) rfl))
set_option maxRecDepth 100000 in
theorem kw1171 : Cond.selects "NativeWorks$Reade\x72" ⟨"NativeWorks$Reade\x72", "tooMuch", "()Z"⟩ ⟨"NativeWorks$Reade\x72", "tooMuch", "()Z"⟩ ∈ rTs := List.mem_append_left _ (rBm24 (List.mem_of_getElem? (i := 19) rfl))
set_option maxRecDepth 100000 in
theorem kw1172 : Cond.methodLink "NativeWorks$Assemble\x72" 88 ⟨"NativeWorks$Line", "blame", "(I)V"⟩ ∈ rTs := List.mem_append_left _ (rBm24 (List.mem_of_getElem? (i := 20) rfl))
set_option maxRecDepth 100000 in
theorem kw1173 : Cond.instanceMethod ⟨"NativeWorks$Line", "blame", "(I)V"⟩ ∈ rTs := List.mem_append_left _ (rBm24 (List.mem_of_getElem? (i := 21) rfl))
set_option maxRecDepth 100000 in
theorem kw1174 : Cond.selects "NativeWorks$Line" ⟨"NativeWorks$Line", "blame", "(I)V"⟩ ⟨"NativeWorks$Line", "blame", "(I)V"⟩ ∈ rTs := List.mem_append_left _ (rBm24 (List.mem_of_getElem? (i := 22) rfl))
set_option maxRecDepth 100000 in
theorem kw1175 : Cond.methodLink "NativeWorks$Assemble\x72" 91 ⟨"NativeWorks$Line", "cut", "()Z"⟩ ∈ rTs := List.mem_append_left _ (rBm24 (List.mem_of_getElem? (i := 23) rfl))
set_option maxRecDepth 100000 in
theorem kw1176 : Cond.instanceMethod ⟨"NativeWorks$Line", "cut", "()Z"⟩ ∈ rTs := List.mem_append_left _ (rBm24 (List.mem_of_getElem? (i := 24) rfl))
set_option maxRecDepth 100000 in
theorem kw1177 : Cond.selects "NativeWorks$Line" ⟨"NativeWorks$Line", "cut", "()Z"⟩ ⟨"NativeWorks$Line", "cut", "()Z"⟩ ∈ rTs := List.mem_append_left _ (rBm24 (List.mem_of_getElem? (i := 25) rfl))
set_option maxRecDepth 100000 in
theorem kw1178 : Cond.methodLink "NativeWorks$Assemble\x72" 94 ⟨"NativeWorks$Assemble\x72", "begin", "()V"⟩ ∈ rTs := List.mem_append_left _ (rBm24 (List.mem_of_getElem? (i := 26) rfl))
set_option maxRecDepth 100000 in
theorem kw1179 : Cond.instanceMethod ⟨"NativeWorks$Assemble\x72", "begin", "()V"⟩ ∈ rTs := List.mem_append_left _ (rBm24 (List.mem_of_getElem? (i := 27) rfl))
set_option maxRecDepth 100000 in
theorem kw1180 : Cond.selects "NativeWorks$Assemble\x72" ⟨"NativeWorks$Assemble\x72", "begin", "()V"⟩ ⟨"NativeWorks$Assemble\x72", "begin", "()V"⟩ ∈ rTs := List.mem_append_left _ (rBm24 (List.mem_of_getElem? (i := 28) rfl))
set_option maxRecDepth 100000 in
theorem kw1181 : Cond.methodLink "NativeWorks$Assemble\x72" 96 ⟨"NativeWorks$Line", "blamed", "(I)Z"⟩ ∈ rTs := List.mem_append_left _ (rBm24 (List.mem_of_getElem? (i := 29) rfl))
set_option maxRecDepth 100000 in
theorem kw1182 : Cond.instanceMethod ⟨"NativeWorks$Line", "blamed", "(I)Z"⟩ ∈ rTs := List.mem_append_left _ (rBm24 (List.mem_of_getElem? (i := 30) rfl))
set_option maxRecDepth 100000 in
theorem kw1183 : Cond.selects "NativeWorks$Line" ⟨"NativeWorks$Line", "blamed", "(I)Z"⟩ ⟨"NativeWorks$Line", "blamed", "(I)Z"⟩ ∈ rTs := List.mem_append_left _ (rBm24 (List.mem_of_getElem? (i := 31) rfl))
set_option maxRecDepth 100000 in
theorem kw1184 : Cond.methodLink "NativeWorks$Assemble\x72" 100 ⟨"NativeWorks$Assemble\x72", "statement", "()V"⟩ ∈ rTs := List.mem_append_left _ (rBm24 (List.mem_of_getElem? (i := 32) rfl))
set_option maxRecDepth 100000 in
theorem kw1185 : Cond.instanceMethod ⟨"NativeWorks$Assemble\x72", "statement", "()V"⟩ ∈ rTs := List.mem_append_left _ (rBm24 (List.mem_of_getElem? (i := 33) rfl))
set_option maxRecDepth 100000 in
theorem kw1186 : Cond.selects "NativeWorks$Assemble\x72" ⟨"NativeWorks$Assemble\x72", "statement", "()V"⟩ ⟨"NativeWorks$Assemble\x72", "statement", "()V"⟩ ∈ rTs := List.mem_append_left _ (rBm24 (List.mem_of_getElem? (i := 34) rfl))
set_option maxRecDepth 100000 in
theorem kw1187 : Cond.methodLink "NativeWorks$Assemble\x72" 103 ⟨"NativeWorks$Line", "faultKind", "()I"⟩ ∈ rTs := List.mem_append_left _ (rBm24 (List.mem_of_getElem? (i := 35) rfl))
set_option maxRecDepth 100000 in
theorem kw1188 : Cond.instanceMethod ⟨"NativeWorks$Line", "faultKind", "()I"⟩ ∈ rTs := List.mem_append_left _ (rBm24 (List.mem_of_getElem? (i := 36) rfl))
set_option maxRecDepth 100000 in
theorem kw1189 : Cond.selects "NativeWorks$Line" ⟨"NativeWorks$Line", "faultKind", "()I"⟩ ⟨"NativeWorks$Line", "faultKind", "()I"⟩ ∈ rTs := List.mem_append_left _ (rBm24 (List.mem_of_getElem? (i := 37) rfl))
set_option maxRecDepth 100000 in
theorem kw1190 : Cond.fieldLink "NativeWorks$Assemble\x72" 107 "NativeWorks$Reade\x72" "told" "I" ∈ rTs := List.mem_append_left _ (rBm24 (List.mem_of_getElem? (i := 38) rfl))
set_option maxRecDepth 100000 in
theorem kw1191 : Cond.methodLink "NativeWorks$Assemble\x72" 109 ⟨"NativeWorks$Assemble\x72", "fail", "(II)I"⟩ ∈ rTs := List.mem_append_left _ (rBm24 (List.mem_of_getElem? (i := 39) rfl))
set_option maxRecDepth 100000 in
theorem kw1192 : Cond.instanceMethod ⟨"NativeWorks$Assemble\x72", "fail", "(II)I"⟩ ∈ rTs := List.mem_append_left _ (rBm24 (List.mem_of_getElem? (i := 40) rfl))
set_option maxRecDepth 100000 in
theorem kw1193 : Cond.selects "NativeWorks$Assemble\x72" ⟨"NativeWorks$Assemble\x72", "fail", "(II)I"⟩ ⟨"NativeWorks$Assemble\x72", "fail", "(II)I"⟩ ∈ rTs := List.mem_append_left _ (rBm24 (List.mem_of_getElem? (i := 41) rfl))
set_option maxRecDepth 100000 in
theorem kw1194 : Cond.code ⟨"NativeWorks$Assemble\x72", "begin", "()V"⟩ prog_2_method_5_code 3 (Option.none : Option FieldType) ∈ rTs := List.mem_append_left _ (rBm24 (List.mem_of_getElem? (i := 42) rfl))
set_option maxRecDepth 100000 in
theorem kw1195 : Cond.fieldLink "NativeWorks$Assemble\x72" 151 "NativeWorks$Assemble\x72" "first" "I" ∈ rTs := List.mem_append_left _ (rBm24 (List.mem_of_getElem? (i := 43) rfl))
set_option maxRecDepth 100000 in
theorem kw1196 : Cond.fieldLink "NativeWorks$Assemble\x72" 154 "NativeWorks$Line" "count" "I" ∈ rTs := List.mem_append_left _ (rBm24 (List.mem_of_getElem? (i := 44) rfl))
set_option maxRecDepth 100000 in
theorem kw1197 : Cond.methodLink "NativeWorks$Assemble\x72" 160 ⟨"NativeWorks$Assemble\x72", "wordAt", "(I)I"⟩ ∈ rTs := List.mem_append_left _ (rBm24 (List.mem_of_getElem? (i := 45) rfl))
set_option maxRecDepth 100000 in
theorem kw1198 : Cond.instanceMethod ⟨"NativeWorks$Assemble\x72", "wordAt", "(I)I"⟩ ∈ rTs := List.mem_append_left _ (rBm24 (List.mem_of_getElem? (i := 46) rfl))
set_option maxRecDepth 100000 in
theorem kw1199 : Cond.selects "NativeWorks$Assemble\x72" ⟨"NativeWorks$Assemble\x72", "wordAt", "(I)I"⟩ ⟨"NativeWorks$Assemble\x72", "wordAt", "(I)I"⟩ ∈ rTs := List.mem_append_left _ (rBm24 (List.mem_of_getElem? (i := 47) rfl))
set_option maxRecDepth 100000 in
theorem kw1200 : Cond.fieldLink "NativeWorks$Assemble\x72" 164 "NativeWorks$Assemble\x72" "word" "I" ∈ rTs := List.mem_append_left _ (rBm25 (List.mem_of_getElem? (i := 0) rfl))
set_option maxRecDepth 100000 in
theorem kw1201 : Cond.methodLink "NativeWorks$Assemble\x72" 167 ⟨"NativeWorks$Reade\x72", "misplaced", "(I)Z"⟩ ∈ rTs := List.mem_append_left _ (rBm25 (List.mem_of_getElem? (i := 1) rfl))
set_option maxRecDepth 100000 in
theorem kw1202 : Cond.instanceMethod ⟨"NativeWorks$Reade\x72", "misplaced", "(I)Z"⟩ ∈ rTs := List.mem_append_left _ (rBm25 (List.mem_of_getElem? (i := 2) rfl))
set_option maxRecDepth 100000 in
theorem kw1203 : Cond.selects "NativeWorks$Reade\x72" ⟨"NativeWorks$Reade\x72", "misplaced", "(I)Z"⟩ ⟨"NativeWorks$Reade\x72", "misplaced", "(I)Z"⟩ ∈ rTs := List.mem_append_left _ (rBm25 (List.mem_of_getElem? (i := 3) rfl))
set_option maxRecDepth 100000 in
theorem kw1204 : Cond.fieldLink "NativeWorks$Assemble\x72" 170 "NativeWorks$Assemble\x72" "macro" "I" ∈ rTs := List.mem_append_left _ (rBm25 (List.mem_of_getElem? (i := 4) rfl))
set_option maxRecDepth 100000 in
theorem kw1205 : Cond.methodLink "NativeWorks$Assemble\x72" 173 ⟨"NativeWorks$Reade\x72", "overused", "(II)Z"⟩ ∈ rTs := List.mem_append_left _ (rBm25 (List.mem_of_getElem? (i := 5) rfl))
set_option maxRecDepth 100000 in
theorem kw1206 : Cond.instanceMethod ⟨"NativeWorks$Reade\x72", "overused", "(II)Z"⟩ ∈ rTs := List.mem_append_left _ (rBm25 (List.mem_of_getElem? (i := 6) rfl))
set_option maxRecDepth 100000 in
theorem kw1207 : Cond.selects "NativeWorks$Reade\x72" ⟨"NativeWorks$Reade\x72", "overused", "(II)Z"⟩ ⟨"NativeWorks$Reade\x72", "overused", "(II)Z"⟩ ∈ rTs := List.mem_append_left _ (rBm25 (List.mem_of_getElem? (i := 7) rfl))
set_option maxRecDepth 100000 in
theorem kw1208 : Cond.methodLink "NativeWorks$Assemble\x72" 177 ⟨"NativeWorks$Assemble\x72", "label", "(I)V"⟩ ∈ rTs := List.mem_append_left _ (rBm25 (List.mem_of_getElem? (i := 8) rfl))
set_option maxRecDepth 100000 in
theorem kw1209 : Cond.instanceMethod ⟨"NativeWorks$Assemble\x72", "label", "(I)V"⟩ ∈ rTs := List.mem_append_left _ (rBm25 (List.mem_of_getElem? (i := 9) rfl))
set_option maxRecDepth 100000 in
theorem kw1210 : Cond.selects "NativeWorks$Assemble\x72" ⟨"NativeWorks$Assemble\x72", "label", "(I)V"⟩ ⟨"NativeWorks$Assemble\x72", "label", "(I)V"⟩ ∈ rTs := List.mem_append_left _ (rBm25 (List.mem_of_getElem? (i := 10) rfl))
set_option maxRecDepth 100000 in
theorem kw1211 : Cond.methodLink "NativeWorks$Assemble\x72" 180 ⟨"NativeWorks$Expression", "spell", "(IZ)V"⟩ ∈ rTs := List.mem_append_left _ (rBm25 (List.mem_of_getElem? (i := 11) rfl))
set_option maxRecDepth 100000 in
theorem kw1212 : Cond.instanceMethod ⟨"NativeWorks$Expression", "spell", "(IZ)V"⟩ ∈ rTs := List.mem_append_left _ (rBm25 (List.mem_of_getElem? (i := 12) rfl))
set_option maxRecDepth 100000 in
theorem kw1213 : Cond.selects "NativeWorks$Expression" ⟨"NativeWorks$Expression", "spell", "(IZ)V"⟩ ⟨"NativeWorks$Expression", "spell", "(IZ)V"⟩ ∈ rTs := List.mem_append_left _ (rBm25 (List.mem_of_getElem? (i := 13) rfl))
set_option maxRecDepth 100000 in
theorem kw1214 : Cond.methodLink "NativeWorks$Assemble\x72" 184 ⟨"NativeWorks$Line", "isWord", "(I)Z"⟩ ∈ rTs := List.mem_append_left _ (rBm25 (List.mem_of_getElem? (i := 14) rfl))
set_option maxRecDepth 100000 in
theorem kw1215 : Cond.instanceMethod ⟨"NativeWorks$Line", "isWord", "(I)Z"⟩ ∈ rTs := List.mem_append_left _ (rBm25 (List.mem_of_getElem? (i := 15) rfl))
set_option maxRecDepth 100000 in
theorem kw1216 : Cond.selects "NativeWorks$Line" ⟨"NativeWorks$Line", "isWord", "(I)Z"⟩ ⟨"NativeWorks$Line", "isWord", "(I)Z"⟩ ∈ rTs := List.mem_append_left _ (rBm25 (List.mem_of_getElem? (i := 16) rfl))
set_option maxRecDepth 100000 in
theorem kw1217 : Cond.methodLink "NativeWorks$Assemble\x72" 187 ⟨"NativeWorks$Assemble\x72", "isMacro", "()Z"⟩ ∈ rTs := List.mem_append_left _ (rBm25 (List.mem_of_getElem? (i := 17) rfl))
set_option maxRecDepth 100000 in
theorem kw1218 : Cond.instanceMethod ⟨"NativeWorks$Assemble\x72", "isMacro", "()Z"⟩ ∈ rTs := List.mem_append_left _ (rBm25 (List.mem_of_getElem? (i := 18) rfl))
set_option maxRecDepth 100000 in
theorem kw1219 : Cond.selects "NativeWorks$Assemble\x72" ⟨"NativeWorks$Assemble\x72", "isMacro", "()Z"⟩ ⟨"NativeWorks$Assemble\x72", "isMacro", "()Z"⟩ ∈ rTs := List.mem_append_left _ (rBm25 (List.mem_of_getElem? (i := 19) rfl))
set_option maxRecDepth 100000 in
theorem kw1220 : Cond.methodLink "NativeWorks$Assemble\x72" 190 ⟨"NativeWorks$Expression", "known", "()I"⟩ ∈ rTs := List.mem_append_left _ (rBm25 (List.mem_of_getElem? (i := 20) rfl))
set_option maxRecDepth 100000 in
theorem kw1221 : Cond.instanceMethod ⟨"NativeWorks$Expression", "known", "()I"⟩ ∈ rTs := List.mem_append_left _ (rBm25 (List.mem_of_getElem? (i := 21) rfl))
set_option maxRecDepth 100000 in
theorem kw1222 : Cond.selects "NativeWorks$Expression" ⟨"NativeWorks$Expression", "known", "()I"⟩ ⟨"NativeWorks$Expression", "known", "()I"⟩ ∈ rTs := List.mem_append_left _ (rBm25 (List.mem_of_getElem? (i := 22) rfl))
set_option maxRecDepth 100000 in
theorem kw1223 : Cond.methodLink "NativeWorks$Assemble\x72" 193 ⟨"NativeWorks$Assemble\x72", "blameIf", "(ZI)V"⟩ ∈ rTs := List.mem_append_left _ (rBm25 (List.mem_of_getElem? (i := 23) rfl))
set_option maxRecDepth 100000 in
theorem kw1224 : Cond.instanceMethod ⟨"NativeWorks$Assemble\x72", "blameIf", "(ZI)V"⟩ ∈ rTs := List.mem_append_left _ (rBm25 (List.mem_of_getElem? (i := 24) rfl))
set_option maxRecDepth 100000 in
theorem kw1225 : Cond.selects "NativeWorks$Assemble\x72" ⟨"NativeWorks$Assemble\x72", "blameIf", "(ZI)V"⟩ ⟨"NativeWorks$Assemble\x72", "blameIf", "(ZI)V"⟩ ∈ rTs := List.mem_append_left _ (rBm25 (List.mem_of_getElem? (i := 25) rfl))
set_option maxRecDepth 100000 in
theorem kw1226 : Cond.methodLink "NativeWorks$Assemble\x72" 197 ⟨"NativeWorks$Assemble\x72", "isDefined", "(I)Z"⟩ ∈ rTs := List.mem_append_left _ (rBm25 (List.mem_of_getElem? (i := 26) rfl))
set_option maxRecDepth 100000 in
theorem kw1227 : Cond.instanceMethod ⟨"NativeWorks$Assemble\x72", "isDefined", "(I)Z"⟩ ∈ rTs := List.mem_append_left _ (rBm25 (List.mem_of_getElem? (i := 27) rfl))
set_option maxRecDepth 100000 in
theorem kw1228 : Cond.selects "NativeWorks$Assemble\x72" ⟨"NativeWorks$Assemble\x72", "isDefined", "(I)Z"⟩ ⟨"NativeWorks$Assemble\x72", "isDefined", "(I)Z"⟩ ∈ rTs := List.mem_append_left _ (rBm25 (List.mem_of_getElem? (i := 28) rfl))
set_option maxRecDepth 100000 in
theorem kw1229 : Cond.code ⟨"NativeWorks$Assemble\x72", "blameIf", "(ZI)V"⟩ prog_2_method_7_code 3 (Option.none : Option FieldType) ∈ rTs := List.mem_append_left _ (rBm25 (List.mem_of_getElem? (i := 29) rfl))
set_option maxRecDepth 100000 in
theorem kw1230 : Cond.code ⟨"NativeWorks$Assemble\x72", "changeSection", "()V"⟩ prog_2_method_15_code 2 (Option.none : Option FieldType) ∈ rTs := List.mem_append_left _ (rBm25 (List.mem_of_getElem? (i := 30) rfl))
set_option maxRecDepth 100000 in
theorem kw1231 : Cond.fieldLink "NativeWorks$Assemble\x72" 203 "NativeWorks$Line" "value" "[J" ∈ rTs := List.mem_append_left _ (rBm25 (List.mem_of_getElem? (i := 31) rfl))
set_option maxRecDepth 100000 in
theorem kw1232 : Cond.constantLong "NativeWorks$Assemble\x72" 302 (lN 185) ∈ rTs := List.mem_append_left _ (rBm25 (List.mem_of_getElem? (i := 32) (by decide +kernel)))
set_option maxRecDepth 100000 in
theorem kw1233 : Cond.code ⟨"NativeWorks$Assemble\x72", "characters", "(I)I"⟩ prog_2_method_18_code 5 (Option.some FieldType.int) ∈ rTs := List.mem_append_left _ (rBm25 (List.mem_of_getElem? (i := 33) rfl))
set_option maxRecDepth 100000 in
theorem kw1234 : Cond.fieldLink "NativeWorks$Assemble\x72" 217 "NativeWorks$Line" "to" "[I" ∈ rTs := List.mem_append_left _ (rBm25 (List.mem_of_getElem? (i := 34) rfl))
set_option maxRecDepth 100000 in
theorem kw1235 : Cond.fieldLink "NativeWorks$Assemble\x72" 214 "NativeWorks$Line" "from" "[I" ∈ rTs := List.mem_append_left _ (rBm25 (List.mem_of_getElem? (i := 35) rfl))
set_option maxRecDepth 100000 in
theorem kw1236 : Cond.methodLink "NativeWorks$Assemble\x72" 318 ⟨"NativeWorks$Line", "meant", "(I)I"⟩ ∈ rTs := List.mem_append_left _ (rBm25 (List.mem_of_getElem? (i := 36) rfl))
set_option maxRecDepth 100000 in
theorem kw1237 : Cond.instanceMethod ⟨"NativeWorks$Line", "meant", "(I)I"⟩ ∈ rTs := List.mem_append_left _ (rBm25 (List.mem_of_getElem? (i := 37) rfl))
set_option maxRecDepth 100000 in
theorem kw1238 : Cond.selects "NativeWorks$Line" ⟨"NativeWorks$Line", "meant", "(I)I"⟩ ⟨"NativeWorks$Line", "meant", "(I)I"⟩ ∈ rTs := List.mem_append_left _ (rBm25 (List.mem_of_getElem? (i := 38) rfl))
set_option maxRecDepth 100000 in
theorem kw1239 : Cond.methodLink "NativeWorks$Assemble\x72" 321 ⟨"NativeWorks$Units", "putNumbe\x72", "(JI)V"⟩ ∈ rTs := List.mem_append_left _ (rBm25 (List.mem_of_getElem? (i := 39) rfl))
set_option maxRecDepth 100000 in
theorem kw1240 : Cond.instanceMethod ⟨"NativeWorks$Units", "putNumbe\x72", "(JI)V"⟩ ∈ rTs := List.mem_append_left _ (rBm25 (List.mem_of_getElem? (i := 40) rfl))
set_option maxRecDepth 100000 in
theorem kw1241 : Cond.selects "NativeWorks$Units" ⟨"NativeWorks$Units", "putNumbe\x72", "(JI)V"⟩ ⟨"NativeWorks$Units", "putNumbe\x72", "(JI)V"⟩ ∈ rTs := List.mem_append_left _ (rBm25 (List.mem_of_getElem? (i := 41) rfl))
set_option maxRecDepth 100000 in
theorem kw1242 : Cond.fieldLink "NativeWorks$Assemble\x72" 210 "NativeWorks$Line" "text" "[B" ∈ rTs := List.mem_append_left _ (rBm25 (List.mem_of_getElem? (i := 42) rfl))
set_option maxRecDepth 100000 in
theorem kw1243 : Cond.code ⟨"NativeWorks$Assemble\x72", "code", "()V"⟩ prog_2_method_35_code 5 (Option.none : Option FieldType) ∈ rTs := List.mem_append_left _ (rBm25 (List.mem_of_getElem? (i := 43) rfl))
set_option maxRecDepth 100000 in
theorem kw1244 : Cond.fieldLink "NativeWorks$Assemble\x72" 470 "NativeWorks$Instruction" "displacementAt" "I" ∈ rTs := List.mem_append_left _ (rBm25 (List.mem_of_getElem? (i := 44) rfl))
set_option maxRecDepth 100000 in
theorem kw1245 : Cond.fieldLink "NativeWorks$Assemble\x72" 446 "NativeWorks$Instruction" "displacementWaits" "Z" ∈ rTs := List.mem_append_left _ (rBm25 (List.mem_of_getElem? (i := 45) rfl))
set_option maxRecDepth 100000 in
theorem kw1246 : Cond.fieldLink "NativeWorks$Assemble\x72" 449 "NativeWorks$Assemble\x72" "displacementPlus" "I" ∈ rTs := List.mem_append_left _ (rBm25 (List.mem_of_getElem? (i := 46) rfl))
set_option maxRecDepth 100000 in
theorem kw1247 : Cond.fieldLink "NativeWorks$Assemble\x72" 452 "NativeWorks$Assemble\x72" "displacementMinus" "I" ∈ rTs := List.mem_append_left _ (rBm25 (List.mem_of_getElem? (i := 47) rfl))
set_option maxRecDepth 100000 in
theorem kw1248 : Cond.fieldLink "NativeWorks$Assemble\x72" 443 "NativeWorks$Instruction" "displacement" "J" ∈ rTs := List.mem_append_left _ (rBm26 (List.mem_of_getElem? (i := 0) rfl))
set_option maxRecDepth 100000 in
theorem kw1249 : Cond.methodLink "NativeWorks$Assemble\x72" 331 ⟨"NativeWorks$Units", "addWait", "(IIZIIJ)Z"⟩ ∈ rTs := List.mem_append_left _ (rBm26 (List.mem_of_getElem? (i := 1) rfl))
set_option maxRecDepth 100000 in
theorem kw1250 : Cond.instanceMethod ⟨"NativeWorks$Units", "addWait", "(IIZIIJ)Z"⟩ ∈ rTs := List.mem_append_left _ (rBm26 (List.mem_of_getElem? (i := 2) rfl))
set_option maxRecDepth 100000 in
theorem kw1251 : Cond.selects "NativeWorks$Units" ⟨"NativeWorks$Units", "addWait", "(IIZIIJ)Z"⟩ ⟨"NativeWorks$Units", "addWait", "(IIZIIJ)Z"⟩ ∈ rTs := List.mem_append_left _ (rBm26 (List.mem_of_getElem? (i := 3) rfl))
set_option maxRecDepth 100000 in
theorem kw1252 : Cond.fieldLink "NativeWorks$Assemble\x72" 486 "NativeWorks$Instruction" "numberAt" "I" ∈ rTs := List.mem_append_left _ (rBm26 (List.mem_of_getElem? (i := 4) rfl))
set_option maxRecDepth 100000 in
theorem kw1253 : Cond.fieldLink "NativeWorks$Assemble\x72" 404 "NativeWorks$Instruction" "numberWidth" "I" ∈ rTs := List.mem_append_left _ (rBm26 (List.mem_of_getElem? (i := 5) rfl))
set_option maxRecDepth 100000 in
theorem kw1254 : Cond.fieldLink "NativeWorks$Assemble\x72" 367 "NativeWorks$Instruction" "op" "I" ∈ rTs := List.mem_append_left _ (rBm26 (List.mem_of_getElem? (i := 6) rfl))
set_option maxRecDepth 100000 in
theorem kw1255 : Cond.fieldLink "NativeWorks$Assemble\x72" 407 "NativeWorks$Assemble\x72" "numberPlus" "I" ∈ rTs := List.mem_append_left _ (rBm26 (List.mem_of_getElem? (i := 7) rfl))
set_option maxRecDepth 100000 in
theorem kw1256 : Cond.fieldLink "NativeWorks$Assemble\x72" 410 "NativeWorks$Assemble\x72" "numberMinus" "I" ∈ rTs := List.mem_append_left _ (rBm26 (List.mem_of_getElem? (i := 8) rfl))
set_option maxRecDepth 100000 in
theorem kw1257 : Cond.fieldLink "NativeWorks$Assemble\x72" 401 "NativeWorks$Instruction" "numbe\x72" "J" ∈ rTs := List.mem_append_left _ (rBm26 (List.mem_of_getElem? (i := 9) rfl))
set_option maxRecDepth 100000 in
theorem kw1258 : Cond.fieldLink "NativeWorks$Assemble\x72" 304 "NativeWorks$Units" "putCount" "I" ∈ rTs := List.mem_append_left _ (rBm26 (List.mem_of_getElem? (i := 10) rfl))
set_option maxRecDepth 100000 in
theorem kw1259 : Cond.fieldLink "NativeWorks$Assemble\x72" 489 "NativeWorks$Instruction" "length" "I" ∈ rTs := List.mem_append_left _ (rBm26 (List.mem_of_getElem? (i := 11) rfl))
set_option maxRecDepth 100000 in
theorem kw1260 : Cond.fieldLink "NativeWorks$Assemble\x72" 492 "NativeWorks$Instruction" "bytes" "[B" ∈ rTs := List.mem_append_left _ (rBm26 (List.mem_of_getElem? (i := 12) rfl))
set_option maxRecDepth 100000 in
theorem kw1261 : Cond.methodLink "NativeWorks$Assemble\x72" 314 ⟨"NativeWorks$Units", "add", "(IIIII)Z"⟩ ∈ rTs := List.mem_append_left _ (rBm26 (List.mem_of_getElem? (i := 13) rfl))
set_option maxRecDepth 100000 in
theorem kw1262 : Cond.instanceMethod ⟨"NativeWorks$Units", "add", "(IIIII)Z"⟩ ∈ rTs := List.mem_append_left _ (rBm26 (List.mem_of_getElem? (i := 14) rfl))
set_option maxRecDepth 100000 in
theorem kw1263 : Cond.selects "NativeWorks$Units" ⟨"NativeWorks$Units", "add", "(IIIII)Z"⟩ ⟨"NativeWorks$Units", "add", "(IIIII)Z"⟩ ∈ rTs := List.mem_append_left _ (rBm26 (List.mem_of_getElem? (i := 15) rfl))
set_option maxRecDepth 100000 in
theorem kw1264 : Cond.code ⟨"NativeWorks$Assemble\x72", "constant", "()Z"⟩ prog_2_method_13_code 1 (Option.some FieldType.boolean) ∈ rTs := List.mem_append_left _ (rBm26 (List.mem_of_getElem? (i := 16) rfl))
set_option maxRecDepth 100000 in
theorem kw1265 : Cond.methodLink "NativeWorks$Assemble\x72" 270 ⟨"NativeWorks$Assemble\x72", "ended", "()Z"⟩ ∈ rTs := List.mem_append_left _ (rBm26 (List.mem_of_getElem? (i := 17) rfl))
set_option maxRecDepth 100000 in
theorem kw1266 : Cond.instanceMethod ⟨"NativeWorks$Assemble\x72", "ended", "()Z"⟩ ∈ rTs := List.mem_append_left _ (rBm26 (List.mem_of_getElem? (i := 18) rfl))
set_option maxRecDepth 100000 in
theorem kw1267 : Cond.selects "NativeWorks$Assemble\x72" ⟨"NativeWorks$Assemble\x72", "ended", "()Z"⟩ ⟨"NativeWorks$Assemble\x72", "ended", "()Z"⟩ ∈ rTs := List.mem_append_left _ (rBm26 (List.mem_of_getElem? (i := 19) rfl))
set_option maxRecDepth 100000 in
theorem kw1268 : Cond.methodLink "NativeWorks$Assemble\x72" 290 ⟨"NativeWorks$Expression", "isConstant", "()Z"⟩ ∈ rTs := List.mem_append_left _ (rBm26 (List.mem_of_getElem? (i := 20) rfl))
set_option maxRecDepth 100000 in
theorem kw1269 : Cond.instanceMethod ⟨"NativeWorks$Expression", "isConstant", "()Z"⟩ ∈ rTs := List.mem_append_left _ (rBm26 (List.mem_of_getElem? (i := 21) rfl))
set_option maxRecDepth 100000 in
theorem kw1270 : Cond.selects "NativeWorks$Expression" ⟨"NativeWorks$Expression", "isConstant", "()Z"⟩ ⟨"NativeWorks$Expression", "isConstant", "()Z"⟩ ∈ rTs := List.mem_append_left _ (rBm26 (List.mem_of_getElem? (i := 22) rfl))
set_option maxRecDepth 100000 in
theorem kw1271 : Cond.code ⟨"NativeWorks$Assemble\x72", "control", "()V"⟩ prog_2_method_21_code 1 (Option.none : Option FieldType) ∈ rTs := List.mem_append_left _ (rBm26 (List.mem_of_getElem? (i := 23) rfl))
set_option maxRecDepth 100000 in
theorem kw1272 : Cond.methodLink "NativeWorks$Assemble\x72" 293 ⟨"NativeWorks$Assemble\x72", "constant", "()Z"⟩ ∈ rTs := List.mem_append_left _ (rBm26 (List.mem_of_getElem? (i := 24) rfl))
set_option maxRecDepth 100000 in
theorem kw1273 : Cond.instanceMethod ⟨"NativeWorks$Assemble\x72", "constant", "()Z"⟩ ∈ rTs := List.mem_append_left _ (rBm26 (List.mem_of_getElem? (i := 25) rfl))
set_option maxRecDepth 100000 in
theorem kw1274 : Cond.selects "NativeWorks$Assemble\x72" ⟨"NativeWorks$Assemble\x72", "constant", "()Z"⟩ ⟨"NativeWorks$Assemble\x72", "constant", "()Z"⟩ ∈ rTs := List.mem_append_left _ (rBm26 (List.mem_of_getElem? (i := 26) rfl))
set_option maxRecDepth 100000 in
theorem kw1275 : Cond.fieldLink "NativeWorks$Assemble\x72" 299 "NativeWorks$Expression" "numbe\x72" "[J" ∈ rTs := List.mem_append_left _ (rBm26 (List.mem_of_getElem? (i := 27) rfl))
set_option maxRecDepth 100000 in
theorem kw1276 : Cond.methodLink "NativeWorks$Assemble\x72" 339 ⟨"NativeWorks$Reade\x72", "readIf", "(Z)V"⟩ ∈ rTs := List.mem_append_left _ (rBm26 (List.mem_of_getElem? (i := 28) rfl))
set_option maxRecDepth 100000 in
theorem kw1277 : Cond.instanceMethod ⟨"NativeWorks$Reade\x72", "readIf", "(Z)V"⟩ ∈ rTs := List.mem_append_left _ (rBm26 (List.mem_of_getElem? (i := 29) rfl))
set_option maxRecDepth 100000 in
theorem kw1278 : Cond.selects "NativeWorks$Reade\x72" ⟨"NativeWorks$Reade\x72", "readIf", "(Z)V"⟩ ⟨"NativeWorks$Reade\x72", "readIf", "(Z)V"⟩ ∈ rTs := List.mem_append_left _ (rBm26 (List.mem_of_getElem? (i := 30) rfl))
set_option maxRecDepth 100000 in
theorem kw1279 : Cond.methodLink "NativeWorks$Assemble\x72" 342 ⟨"NativeWorks$Assemble\x72", "rept", "(J)V"⟩ ∈ rTs := List.mem_append_left _ (rBm26 (List.mem_of_getElem? (i := 31) rfl))
set_option maxRecDepth 100000 in
theorem kw1280 : Cond.instanceMethod ⟨"NativeWorks$Assemble\x72", "rept", "(J)V"⟩ ∈ rTs := List.mem_append_left _ (rBm26 (List.mem_of_getElem? (i := 32) rfl))
set_option maxRecDepth 100000 in
theorem kw1281 : Cond.selects "NativeWorks$Assemble\x72" ⟨"NativeWorks$Assemble\x72", "rept", "(J)V"⟩ ⟨"NativeWorks$Assemble\x72", "rept", "(J)V"⟩ ∈ rTs := List.mem_append_left _ (rBm26 (List.mem_of_getElem? (i := 33) rfl))
set_option maxRecDepth 100000 in
theorem kw1282 : Cond.methodLink "NativeWorks$Assemble\x72" 346 ⟨"NativeWorks$Assemble\x72", "defineMacro", "()V"⟩ ∈ rTs := List.mem_append_left _ (rBm26 (List.mem_of_getElem? (i := 34) rfl))
set_option maxRecDepth 100000 in
theorem kw1283 : Cond.instanceMethod ⟨"NativeWorks$Assemble\x72", "defineMacro", "()V"⟩ ∈ rTs := List.mem_append_left _ (rBm26 (List.mem_of_getElem? (i := 35) rfl))
set_option maxRecDepth 100000 in
theorem kw1284 : Cond.selects "NativeWorks$Assemble\x72" ⟨"NativeWorks$Assemble\x72", "defineMacro", "()V"⟩ ⟨"NativeWorks$Assemble\x72", "defineMacro", "()V"⟩ ∈ rTs := List.mem_append_left _ (rBm26 (List.mem_of_getElem? (i := 36) rfl))
set_option maxRecDepth 100000 in
theorem kw1285 : Cond.methodLink "NativeWorks$Assemble\x72" 349 ⟨"NativeWorks$Reade\x72", "readElse", "()V"⟩ ∈ rTs := List.mem_append_left _ (rBm26 (List.mem_of_getElem? (i := 37) rfl))
set_option maxRecDepth 100000 in
theorem kw1286 : Cond.instanceMethod ⟨"NativeWorks$Reade\x72", "readElse", "()V"⟩ ∈ rTs := List.mem_append_left _ (rBm26 (List.mem_of_getElem? (i := 38) rfl))
set_option maxRecDepth 100000 in
theorem kw1287 : Cond.selects "NativeWorks$Reade\x72" ⟨"NativeWorks$Reade\x72", "readElse", "()V"⟩ ⟨"NativeWorks$Reade\x72", "readElse", "()V"⟩ ∈ rTs := List.mem_append_left _ (rBm26 (List.mem_of_getElem? (i := 39) rfl))
set_option maxRecDepth 100000 in
theorem kw1288 : Cond.methodLink "NativeWorks$Assemble\x72" 352 ⟨"NativeWorks$Reade\x72", "readEndif", "()V"⟩ ∈ rTs := List.mem_append_left _ (rBm26 (List.mem_of_getElem? (i := 40) rfl))
set_option maxRecDepth 100000 in
theorem kw1289 : Cond.instanceMethod ⟨"NativeWorks$Reade\x72", "readEndif", "()V"⟩ ∈ rTs := List.mem_append_left _ (rBm26 (List.mem_of_getElem? (i := 41) rfl))
set_option maxRecDepth 100000 in
theorem kw1290 : Cond.selects "NativeWorks$Reade\x72" ⟨"NativeWorks$Reade\x72", "readEndif", "()V"⟩ ⟨"NativeWorks$Reade\x72", "readEndif", "()V"⟩ ∈ rTs := List.mem_append_left _ (rBm26 (List.mem_of_getElem? (i := 42) rfl))
set_option maxRecDepth 100000 in
theorem kw1291 : Cond.code ⟨"NativeWorks$Assemble\x72", "data", "(I)V"⟩ prog_2_method_17_code 6 (Option.none : Option FieldType) ∈ rTs := List.mem_append_left _ (rBm26 (List.mem_of_getElem? (i := 43) rfl))
set_option maxRecDepth 100000 in
theorem kw1292 : Cond.methodLink "NativeWorks$Assemble\x72" 307 ⟨"NativeWorks$Assemble\x72", "characters", "(I)I"⟩ ∈ rTs := List.mem_append_left _ (rBm26 (List.mem_of_getElem? (i := 44) rfl))
set_option maxRecDepth 100000 in
theorem kw1293 : Cond.instanceMethod ⟨"NativeWorks$Assemble\x72", "characters", "(I)I"⟩ ∈ rTs := List.mem_append_left _ (rBm26 (List.mem_of_getElem? (i := 45) rfl))
set_option maxRecDepth 100000 in
theorem kw1294 : Cond.selects "NativeWorks$Assemble\x72" ⟨"NativeWorks$Assemble\x72", "characters", "(I)I"⟩ ⟨"NativeWorks$Assemble\x72", "characters", "(I)I"⟩ ∈ rTs := List.mem_append_left _ (rBm26 (List.mem_of_getElem? (i := 46) rfl))
set_option maxRecDepth 100000 in
theorem kw1295 : Cond.methodLink "NativeWorks$Assemble\x72" 310 ⟨"NativeWorks$Assemble\x72", "item", "(II)V"⟩ ∈ rTs := List.mem_append_left _ (rBm26 (List.mem_of_getElem? (i := 47) rfl))
set_option maxRecDepth 100000 in
theorem kw1296 : Cond.instanceMethod ⟨"NativeWorks$Assemble\x72", "item", "(II)V"⟩ ∈ rTs := List.mem_append_left _ (rBm27 (List.mem_of_getElem? (i := 0) rfl))
set_option maxRecDepth 100000 in
theorem kw1297 : Cond.selects "NativeWorks$Assemble\x72" ⟨"NativeWorks$Assemble\x72", "item", "(II)V"⟩ ⟨"NativeWorks$Assemble\x72", "item", "(II)V"⟩ ∈ rTs := List.mem_append_left _ (rBm27 (List.mem_of_getElem? (i := 1) rfl))
set_option maxRecDepth 100000 in
theorem kw1298 : Cond.code ⟨"NativeWorks$Assemble\x72", "defineMacro", "()V"⟩ prog_2_method_23_code 4 (Option.none : Option FieldType) ∈ rTs := List.mem_append_left _ (rBm27 (List.mem_of_getElem? (i := 2) rfl))
set_option maxRecDepth 100000 in
theorem kw1299 : Cond.methodLink "NativeWorks$Assemble\x72" 358 ⟨"NativeWorks$Reade\x72", "readMacro", "(I)V"⟩ ∈ rTs := List.mem_append_left _ (rBm27 (List.mem_of_getElem? (i := 3) rfl))
set_option maxRecDepth 100000 in
theorem kw1300 : Cond.instanceMethod ⟨"NativeWorks$Reade\x72", "readMacro", "(I)V"⟩ ∈ rTs := List.mem_append_left _ (rBm27 (List.mem_of_getElem? (i := 4) rfl))
set_option maxRecDepth 100000 in
theorem kw1301 : Cond.selects "NativeWorks$Reade\x72" ⟨"NativeWorks$Reade\x72", "readMacro", "(I)V"⟩ ⟨"NativeWorks$Reade\x72", "readMacro", "(I)V"⟩ ∈ rTs := List.mem_append_left _ (rBm27 (List.mem_of_getElem? (i := 5) rfl))
set_option maxRecDepth 100000 in
theorem kw1302 : Cond.code ⟨"NativeWorks$Assemble\x72", "define", "()V"⟩ prog_2_method_14_code 2 (Option.none : Option FieldType) ∈ rTs := List.mem_append_left _ (rBm27 (List.mem_of_getElem? (i := 6) rfl))
set_option maxRecDepth 100000 in
theorem kw1303 : Cond.methodLink "NativeWorks$Assemble\x72" 237 ⟨"NativeWorks$Expression", "made", "()I"⟩ ∈ rTs := List.mem_append_left _ (rBm27 (List.mem_of_getElem? (i := 7) rfl))
set_option maxRecDepth 100000 in
theorem kw1304 : Cond.instanceMethod ⟨"NativeWorks$Expression", "made", "()I"⟩ ∈ rTs := List.mem_append_left _ (rBm27 (List.mem_of_getElem? (i := 8) rfl))
set_option maxRecDepth 100000 in
theorem kw1305 : Cond.selects "NativeWorks$Expression" ⟨"NativeWorks$Expression", "made", "()I"⟩ ⟨"NativeWorks$Expression", "made", "()I"⟩ ∈ rTs := List.mem_append_left _ (rBm27 (List.mem_of_getElem? (i := 9) rfl))
set_option maxRecDepth 100000 in
theorem kw1306 : Cond.fieldLink "NativeWorks$Assemble\x72" 233 "NativeWorks$Units" "symbols" "[[I" ∈ rTs := List.mem_append_left _ (rBm27 (List.mem_of_getElem? (i := 10) rfl))
set_option maxRecDepth 100000 in
theorem kw1307 : Cond.fieldLink "NativeWorks$Assemble\x72" 296 "NativeWorks$Units" "constants" "[J" ∈ rTs := List.mem_append_left _ (rBm27 (List.mem_of_getElem? (i := 11) rfl))
set_option maxRecDepth 100000 in
theorem kw1308 : Cond.code ⟨"NativeWorks$Assemble\x72", "ended", "()Z"⟩ prog_2_method_12_code 1 (Option.some FieldType.boolean) ∈ rTs := List.mem_append_left _ (rBm27 (List.mem_of_getElem? (i := 12) rfl))
set_option maxRecDepth 100000 in
theorem kw1309 : Cond.code ⟨"NativeWorks$Assemble\x72", "fail", "(II)I"⟩ prog_2_method_3_code 3 (Option.some FieldType.int) ∈ rTs := List.mem_append_left _ (rBm27 (List.mem_of_getElem? (i := 13) rfl))
set_option maxRecDepth 100000 in
theorem kw1310 : Cond.methodLink "NativeWorks$Assemble\x72" 116 ⟨"NativeWorks$Units", "drop", "()V"⟩ ∈ rTs := List.mem_append_left _ (rBm27 (List.mem_of_getElem? (i := 14) rfl))
set_option maxRecDepth 100000 in
theorem kw1311 : Cond.instanceMethod ⟨"NativeWorks$Units", "drop", "()V"⟩ ∈ rTs := List.mem_append_left _ (rBm27 (List.mem_of_getElem? (i := 15) rfl))
set_option maxRecDepth 100000 in
theorem kw1312 : Cond.selects "NativeWorks$Units" ⟨"NativeWorks$Units", "drop", "()V"⟩ ⟨"NativeWorks$Units", "drop", "()V"⟩ ∈ rTs := List.mem_append_left _ (rBm27 (List.mem_of_getElem? (i := 16) rfl))
set_option maxRecDepth 100000 in
theorem kw1313 : Cond.fieldLink "NativeWorks$Assemble\x72" 119 "NativeWorks$Assemble\x72" "faultLine" "I" ∈ rTs := List.mem_append_left _ (rBm27 (List.mem_of_getElem? (i := 17) rfl))
set_option maxRecDepth 100000 in
theorem kw1314 : Cond.code ⟨"NativeWorks$Assemble\x72", "flag", "(I)V"⟩ prog_2_method_16_code 4 (Option.none : Option FieldType) ∈ rTs := List.mem_append_left _ (rBm27 (List.mem_of_getElem? (i := 18) rfl))
set_option maxRecDepth 100000 in
theorem kw1315 : Cond.code ⟨"NativeWorks$Assemble\x72", "instruction", "()V"⟩ prog_2_method_31_code 3 (Option.none : Option FieldType) ∈ rTs := List.mem_append_left _ (rBm27 (List.mem_of_getElem? (i := 19) rfl))
set_option maxRecDepth 100000 in
theorem kw1316 : Cond.methodLink "NativeWorks$Assemble\x72" 455 ⟨"NativeWorks$Assemble\x72", "settleSize", "()Z"⟩ ∈ rTs := List.mem_append_left _ (rBm27 (List.mem_of_getElem? (i := 20) rfl))
set_option maxRecDepth 100000 in
theorem kw1317 : Cond.instanceMethod ⟨"NativeWorks$Assemble\x72", "settleSize", "()Z"⟩ ∈ rTs := List.mem_append_left _ (rBm27 (List.mem_of_getElem? (i := 21) rfl))
set_option maxRecDepth 100000 in
theorem kw1318 : Cond.selects "NativeWorks$Assemble\x72" ⟨"NativeWorks$Assemble\x72", "settleSize", "()Z"⟩ ⟨"NativeWorks$Assemble\x72", "settleSize", "()Z"⟩ ∈ rTs := List.mem_append_left _ (rBm27 (List.mem_of_getElem? (i := 22) rfl))
set_option maxRecDepth 100000 in
theorem kw1319 : Cond.fieldLink "NativeWorks$Assemble\x72" 376 "NativeWorks$Instruction" "count" "I" ∈ rTs := List.mem_append_left _ (rBm27 (List.mem_of_getElem? (i := 23) rfl))
set_option maxRecDepth 100000 in
theorem kw1320 : Cond.fieldLink "NativeWorks$Assemble\x72" 397 "NativeWorks$Instruction" "kind" "[I" ∈ rTs := List.mem_append_left _ (rBm27 (List.mem_of_getElem? (i := 24) rfl))
set_option maxRecDepth 100000 in
theorem kw1321 : Cond.methodLink "NativeWorks$Assemble\x72" 458 ⟨"NativeWorks$Assemble\x72", "jump", "()V"⟩ ∈ rTs := List.mem_append_left _ (rBm27 (List.mem_of_getElem? (i := 25) rfl))
set_option maxRecDepth 100000 in
theorem kw1322 : Cond.instanceMethod ⟨"NativeWorks$Assemble\x72", "jump", "()V"⟩ ∈ rTs := List.mem_append_left _ (rBm27 (List.mem_of_getElem? (i := 26) rfl))
set_option maxRecDepth 100000 in
theorem kw1323 : Cond.selects "NativeWorks$Assemble\x72" ⟨"NativeWorks$Assemble\x72", "jump", "()V"⟩ ⟨"NativeWorks$Assemble\x72", "jump", "()V"⟩ ∈ rTs := List.mem_append_left _ (rBm27 (List.mem_of_getElem? (i := 27) rfl))
set_option maxRecDepth 100000 in
theorem kw1324 : Cond.methodLink "NativeWorks$Assemble\x72" 461 ⟨"NativeWorks$Instruction", "beProduct", "()V"⟩ ∈ rTs := List.mem_append_left _ (rBm27 (List.mem_of_getElem? (i := 28) rfl))
set_option maxRecDepth 100000 in
theorem kw1325 : Cond.instanceMethod ⟨"NativeWorks$Instruction", "beProduct", "()V"⟩ ∈ rTs := List.mem_append_left _ (rBm27 (List.mem_of_getElem? (i := 29) rfl))
set_option maxRecDepth 100000 in
theorem kw1326 : Cond.selects "NativeWorks$Instruction" ⟨"NativeWorks$Instruction", "beProduct", "()V"⟩ ⟨"NativeWorks$Instruction", "beProduct", "()V"⟩ ∈ rTs := List.mem_append_left _ (rBm27 (List.mem_of_getElem? (i := 30) rfl))
set_option maxRecDepth 100000 in
theorem kw1327 : Cond.methodLink "NativeWorks$Assemble\x72" 464 ⟨"NativeWorks$Assemble\x72", "settleNumbe\x72", "(Z)V"⟩ ∈ rTs := List.mem_append_left _ (rBm27 (List.mem_of_getElem? (i := 31) rfl))
set_option maxRecDepth 100000 in
theorem kw1328 : Cond.instanceMethod ⟨"NativeWorks$Assemble\x72", "settleNumbe\x72", "(Z)V"⟩ ∈ rTs := List.mem_append_left _ (rBm27 (List.mem_of_getElem? (i := 32) rfl))
set_option maxRecDepth 100000 in
theorem kw1329 : Cond.selects "NativeWorks$Assemble\x72" ⟨"NativeWorks$Assemble\x72", "settleNumbe\x72", "(Z)V"⟩ ⟨"NativeWorks$Assemble\x72", "settleNumbe\x72", "(Z)V"⟩ ∈ rTs := List.mem_append_left _ (rBm27 (List.mem_of_getElem? (i := 33) rfl))
set_option maxRecDepth 100000 in
theorem kw1330 : Cond.methodLink "NativeWorks$Assemble\x72" 467 ⟨"NativeWorks$Instruction", "encode", "()Z"⟩ ∈ rTs := List.mem_append_left _ (rBm27 (List.mem_of_getElem? (i := 34) rfl))
set_option maxRecDepth 100000 in
theorem kw1331 : Cond.instanceMethod ⟨"NativeWorks$Instruction", "encode", "()Z"⟩ ∈ rTs := List.mem_append_left _ (rBm27 (List.mem_of_getElem? (i := 35) rfl))
set_option maxRecDepth 100000 in
theorem kw1332 : Cond.selects "NativeWorks$Instruction" ⟨"NativeWorks$Instruction", "encode", "()Z"⟩ ⟨"NativeWorks$Instruction", "encode", "()Z"⟩ ∈ rTs := List.mem_append_left _ (rBm27 (List.mem_of_getElem? (i := 36) rfl))
set_option maxRecDepth 100000 in
theorem kw1333 : Cond.methodLink "NativeWorks$Assemble\x72" 473 ⟨"NativeWorks$Assemble\x72", "code", "()V"⟩ ∈ rTs := List.mem_append_left _ (rBm27 (List.mem_of_getElem? (i := 37) rfl))
set_option maxRecDepth 100000 in
theorem kw1334 : Cond.instanceMethod ⟨"NativeWorks$Assemble\x72", "code", "()V"⟩ ∈ rTs := List.mem_append_left _ (rBm27 (List.mem_of_getElem? (i := 38) rfl))
set_option maxRecDepth 100000 in
theorem kw1335 : Cond.selects "NativeWorks$Assemble\x72" ⟨"NativeWorks$Assemble\x72", "code", "()V"⟩ ⟨"NativeWorks$Assemble\x72", "code", "()V"⟩ ∈ rTs := List.mem_append_left _ (rBm27 (List.mem_of_getElem? (i := 39) rfl))
set_option maxRecDepth 100000 in
theorem kw1336 : Cond.code ⟨"NativeWorks$Assemble\x72", "isDefined", "(I)Z"⟩ prog_2_method_9_code 3 (Option.some FieldType.boolean) ∈ rTs := List.mem_append_left _ (rBm27 (List.mem_of_getElem? (i := 40) rfl))
set_option maxRecDepth 100000 in
theorem kw1337 : Cond.code ⟨"NativeWorks$Assemble\x72", "isMacro", "()Z"⟩ prog_2_method_8_code 2 (Option.some FieldType.boolean) ∈ rTs := List.mem_append_left _ (rBm27 (List.mem_of_getElem? (i := 41) rfl))
set_option maxRecDepth 100000 in
theorem kw1338 : Cond.fieldLink "NativeWorks$Assemble\x72" 207 "NativeWorks$Source" "macros" "LNativeWorks$Names;" ∈ rTs := List.mem_append_left _ (rBm27 (List.mem_of_getElem? (i := 42) rfl))
set_option maxRecDepth 100000 in
theorem kw1339 : Cond.fieldLink "NativeWorks$Assemble\x72" 227 "NativeWorks$Expression" "name" "[B" ∈ rTs := List.mem_append_left _ (rBm27 (List.mem_of_getElem? (i := 43) rfl))
set_option maxRecDepth 100000 in
theorem kw1340 : Cond.fieldLink "NativeWorks$Assemble\x72" 230 "NativeWorks$Expression" "nameLength" "I" ∈ rTs := List.mem_append_left _ (rBm27 (List.mem_of_getElem? (i := 44) rfl))
set_option maxRecDepth 100000 in
theorem kw1341 : Cond.fieldLink "NativeWorks$Assemble\x72" 220 "NativeWorks$Names" "count" "I" ∈ rTs := List.mem_append_left _ (rBm27 (List.mem_of_getElem? (i := 45) rfl))
set_option maxRecDepth 100000 in
theorem kw1342 : Cond.methodLink "NativeWorks$Assemble\x72" 223 ⟨"NativeWorks$Names", "find", "([BIII)I"⟩ ∈ rTs := List.mem_append_left _ (rBm27 (List.mem_of_getElem? (i := 46) rfl))
set_option maxRecDepth 100000 in
theorem kw1343 : Cond.code ⟨"NativeWorks$Assemble\x72", "item", "(II)V"⟩ prog_2_method_19_code 9 (Option.none : Option FieldType) ∈ rTs := List.mem_append_left _ (rBm27 (List.mem_of_getElem? (i := 47) rfl))
set_option maxRecDepth 100000 in
theorem kw1344 : Cond.fieldLink "NativeWorks$Assemble\x72" 325 "NativeWorks$Expression" "plus" "[I" ∈ rTs := List.mem_append_left _ (rBm28 (List.mem_of_getElem? (i := 0) rfl))
set_option maxRecDepth 100000 in
theorem kw1345 : Cond.fieldLink "NativeWorks$Assemble\x72" 328 "NativeWorks$Expression" "minus" "[I" ∈ rTs := List.mem_append_left _ (rBm28 (List.mem_of_getElem? (i := 1) rfl))
set_option maxRecDepth 100000 in
theorem kw1346 : Cond.code ⟨"NativeWorks$Assemble\x72", "jump", "()V"⟩ prog_2_method_34_code 3 (Option.none : Option FieldType) ∈ rTs := List.mem_append_left _ (rBm28 (List.mem_of_getElem? (i := 2) rfl))
set_option maxRecDepth 100000 in
theorem kw1347 : Cond.fieldLink "NativeWorks$Assemble\x72" 361 "NativeWorks$Instruction" "condition" "I" ∈ rTs := List.mem_append_left _ (rBm28 (List.mem_of_getElem? (i := 3) rfl))
set_option maxRecDepth 100000 in
theorem kw1348 : Cond.code ⟨"NativeWorks$Assemble\x72", "label", "(I)V"⟩ prog_2_method_10_code 3 (Option.none : Option FieldType) ∈ rTs := List.mem_append_left _ (rBm28 (List.mem_of_getElem? (i := 4) rfl))
set_option maxRecDepth 100000 in
theorem kw1349 : Cond.methodLink "NativeWorks$Assemble\x72" 240 ⟨"NativeWorks$Units", "beLabel", "(III)V"⟩ ∈ rTs := List.mem_append_left _ (rBm28 (List.mem_of_getElem? (i := 5) rfl))
set_option maxRecDepth 100000 in
theorem kw1350 : Cond.instanceMethod ⟨"NativeWorks$Units", "beLabel", "(III)V"⟩ ∈ rTs := List.mem_append_left _ (rBm28 (List.mem_of_getElem? (i := 6) rfl))
set_option maxRecDepth 100000 in
theorem kw1351 : Cond.selects "NativeWorks$Units" ⟨"NativeWorks$Units", "beLabel", "(III)V"⟩ ⟨"NativeWorks$Units", "beLabel", "(III)V"⟩ ∈ rTs := List.mem_append_left _ (rBm28 (List.mem_of_getElem? (i := 7) rfl))
set_option maxRecDepth 100000 in
theorem kw1352 : Cond.methodLink "NativeWorks$Assemble\x72" 244 ⟨"NativeWorks$Expression", "beLatest", "(I)V"⟩ ∈ rTs := List.mem_append_left _ (rBm28 (List.mem_of_getElem? (i := 8) rfl))
set_option maxRecDepth 100000 in
theorem kw1353 : Cond.instanceMethod ⟨"NativeWorks$Expression", "beLatest", "(I)V"⟩ ∈ rTs := List.mem_append_left _ (rBm28 (List.mem_of_getElem? (i := 9) rfl))
set_option maxRecDepth 100000 in
theorem kw1354 : Cond.selects "NativeWorks$Expression" ⟨"NativeWorks$Expression", "beLatest", "(I)V"⟩ ⟨"NativeWorks$Expression", "beLatest", "(I)V"⟩ ∈ rTs := List.mem_append_left _ (rBm28 (List.mem_of_getElem? (i := 10) rfl))
set_option maxRecDepth 100000 in
theorem kw1355 : Cond.code ⟨"NativeWorks$Assemble\x72", "memoryOperand", "(I)Z"⟩ prog_2_method_30_code 2 (Option.some FieldType.boolean) ∈ rTs := List.mem_append_left _ (rBm28 (List.mem_of_getElem? (i := 11) rfl))
set_option maxRecDepth 100000 in
theorem kw1356 : Cond.methodLink "NativeWorks$Assemble\x72" 440 ⟨"NativeWorks$Instruction", "endAddress", "()Z"⟩ ∈ rTs := List.mem_append_left _ (rBm28 (List.mem_of_getElem? (i := 12) rfl))
set_option maxRecDepth 100000 in
theorem kw1357 : Cond.instanceMethod ⟨"NativeWorks$Instruction", "endAddress", "()Z"⟩ ∈ rTs := List.mem_append_left _ (rBm28 (List.mem_of_getElem? (i := 13) rfl))
set_option maxRecDepth 100000 in
theorem kw1358 : Cond.selects "NativeWorks$Instruction" ⟨"NativeWorks$Instruction", "endAddress", "()Z"⟩ ⟨"NativeWorks$Instruction", "endAddress", "()Z"⟩ ∈ rTs := List.mem_append_left _ (rBm28 (List.mem_of_getElem? (i := 14) rfl))
set_option maxRecDepth 100000 in
theorem kw1359 : Cond.code ⟨"NativeWorks$Assemble\x72", "numberOperand", "(I)Z"⟩ prog_2_method_27_code 2 (Option.some FieldType.boolean) ∈ rTs := List.mem_append_left _ (rBm28 (List.mem_of_getElem? (i := 15) rfl))
set_option maxRecDepth 100000 in
theorem kw1360 : Cond.code ⟨"NativeWorks$Assemble\x72", "operands", "()Z"⟩ prog_2_method_25_code 4 (Option.some FieldType.boolean) ∈ rTs := List.mem_append_left _ (rBm28 (List.mem_of_getElem? (i := 16) rfl))
set_option maxRecDepth 100000 in
theorem kw1361 : Cond.methodLink "NativeWorks$Assemble\x72" 377 ⟨"java/lang/Math", "min", "(II)I"⟩ ∈ rTs := List.mem_append_left _ (rBm28 (List.mem_of_getElem? (i := 17) rfl))
set_option maxRecDepth 100000 in
theorem kw1362 : Cond.methodLink "NativeWorks$Assemble\x72" 382 ⟨"NativeWorks$Assemble\x72", "address", "()Z"⟩ ∈ rTs := List.mem_append_left _ (rBm28 (List.mem_of_getElem? (i := 18) rfl))
set_option maxRecDepth 100000 in
theorem kw1363 : Cond.instanceMethod ⟨"NativeWorks$Assemble\x72", "address", "()Z"⟩ ∈ rTs := List.mem_append_left _ (rBm28 (List.mem_of_getElem? (i := 19) rfl))
set_option maxRecDepth 100000 in
theorem kw1364 : Cond.selects "NativeWorks$Assemble\x72" ⟨"NativeWorks$Assemble\x72", "address", "()Z"⟩ ⟨"NativeWorks$Assemble\x72", "address", "()Z"⟩ ∈ rTs := List.mem_append_left _ (rBm28 (List.mem_of_getElem? (i := 20) rfl))
set_option maxRecDepth 100000 in
theorem kw1365 : Cond.methodLink "NativeWorks$Assemble\x72" 385 ⟨"NativeWorks$Assemble\x72", "memoryOperand", "(I)Z"⟩ ∈ rTs := List.mem_append_left _ (rBm28 (List.mem_of_getElem? (i := 21) rfl))
set_option maxRecDepth 100000 in
theorem kw1366 : Cond.instanceMethod ⟨"NativeWorks$Assemble\x72", "memoryOperand", "(I)Z"⟩ ∈ rTs := List.mem_append_left _ (rBm28 (List.mem_of_getElem? (i := 22) rfl))
set_option maxRecDepth 100000 in
theorem kw1367 : Cond.selects "NativeWorks$Assemble\x72" ⟨"NativeWorks$Assemble\x72", "memoryOperand", "(I)Z"⟩ ⟨"NativeWorks$Assemble\x72", "memoryOperand", "(I)Z"⟩ ∈ rTs := List.mem_append_left _ (rBm28 (List.mem_of_getElem? (i := 23) rfl))
set_option maxRecDepth 100000 in
theorem kw1368 : Cond.methodLink "NativeWorks$Assemble\x72" 391 ⟨"NativeWorks$Assemble\x72", "registerOperand", "(I)Z"⟩ ∈ rTs := List.mem_append_left _ (rBm28 (List.mem_of_getElem? (i := 24) rfl))
set_option maxRecDepth 100000 in
theorem kw1369 : Cond.instanceMethod ⟨"NativeWorks$Assemble\x72", "registerOperand", "(I)Z"⟩ ∈ rTs := List.mem_append_left _ (rBm28 (List.mem_of_getElem? (i := 25) rfl))
set_option maxRecDepth 100000 in
theorem kw1370 : Cond.selects "NativeWorks$Assemble\x72" ⟨"NativeWorks$Assemble\x72", "registerOperand", "(I)Z"⟩ ⟨"NativeWorks$Assemble\x72", "registerOperand", "(I)Z"⟩ ∈ rTs := List.mem_append_left _ (rBm28 (List.mem_of_getElem? (i := 26) rfl))
set_option maxRecDepth 100000 in
theorem kw1371 : Cond.methodLink "NativeWorks$Assemble\x72" 394 ⟨"NativeWorks$Assemble\x72", "numberOperand", "(I)Z"⟩ ∈ rTs := List.mem_append_left _ (rBm28 (List.mem_of_getElem? (i := 27) rfl))
set_option maxRecDepth 100000 in
theorem kw1372 : Cond.instanceMethod ⟨"NativeWorks$Assemble\x72", "numberOperand", "(I)Z"⟩ ∈ rTs := List.mem_append_left _ (rBm28 (List.mem_of_getElem? (i := 28) rfl))
set_option maxRecDepth 100000 in
theorem kw1373 : Cond.selects "NativeWorks$Assemble\x72" ⟨"NativeWorks$Assemble\x72", "numberOperand", "(I)Z"⟩ ⟨"NativeWorks$Assemble\x72", "numberOperand", "(I)Z"⟩ ∈ rTs := List.mem_append_left _ (rBm28 (List.mem_of_getElem? (i := 29) rfl))
set_option maxRecDepth 100000 in
theorem kw1374 : Cond.code ⟨"NativeWorks$Assemble\x72", "operation", "()Z"⟩ prog_2_method_24_code 3 (Option.some FieldType.boolean) ∈ rTs := List.mem_append_left _ (rBm28 (List.mem_of_getElem? (i := 30) rfl))
set_option maxRecDepth 100000 in
theorem kw1375 : Cond.fieldLink "NativeWorks$Assemble\x72" 364 "NativeWorks$Instruction" "size" "I" ∈ rTs := List.mem_append_left _ (rBm28 (List.mem_of_getElem? (i := 31) rfl))
set_option maxRecDepth 100000 in
theorem kw1376 : Cond.fieldLink "NativeWorks$Assemble\x72" 370 "NativeWorks$Assemble\x72" "SIZED_OPS" "[I" ∈ rTs := List.mem_append_left _ (rBm28 (List.mem_of_getElem? (i := 32) rfl))
set_option maxRecDepth 100000 in
theorem kw1377 : Cond.fieldLink "NativeWorks$Assemble\x72" 373 "NativeWorks$Assemble\x72" "SIZED_SIZES" "[I" ∈ rTs := List.mem_append_left _ (rBm28 (List.mem_of_getElem? (i := 33) rfl))
set_option maxRecDepth 100000 in
theorem kw1378 : Cond.code ⟨"NativeWorks$Assemble\x72", "registerOperand", "(I)Z"⟩ prog_2_method_26_code 3 (Option.some FieldType.boolean) ∈ rTs := List.mem_append_left _ (rBm28 (List.mem_of_getElem? (i := 34) rfl))
set_option maxRecDepth 100000 in
theorem kw1379 : Cond.fieldLink "NativeWorks$Assemble\x72" 398 "NativeWorks$Instruction" "reg" "[I" ∈ rTs := List.mem_append_left _ (rBm28 (List.mem_of_getElem? (i := 35) rfl))
set_option maxRecDepth 100000 in
theorem kw1380 : Cond.code ⟨"NativeWorks$Assemble\x72", "registerTerm", "()Z"⟩ prog_2_method_29_code 4 (Option.some FieldType.boolean) ∈ rTs := List.mem_append_left _ (rBm28 (List.mem_of_getElem? (i := 36) rfl))
set_option maxRecDepth 100000 in
theorem kw1381 : Cond.methodLink "NativeWorks$Assemble\x72" 428 ⟨"NativeWorks$Instruction", "addRegiste\x72", "(I)V"⟩ ∈ rTs := List.mem_append_left _ (rBm28 (List.mem_of_getElem? (i := 37) rfl))
set_option maxRecDepth 100000 in
theorem kw1382 : Cond.instanceMethod ⟨"NativeWorks$Instruction", "addRegiste\x72", "(I)V"⟩ ∈ rTs := List.mem_append_left _ (rBm28 (List.mem_of_getElem? (i := 38) rfl))
set_option maxRecDepth 100000 in
theorem kw1383 : Cond.selects "NativeWorks$Instruction" ⟨"NativeWorks$Instruction", "addRegiste\x72", "(I)V"⟩ ⟨"NativeWorks$Instruction", "addRegiste\x72", "(I)V"⟩ ∈ rTs := List.mem_append_left _ (rBm28 (List.mem_of_getElem? (i := 39) rfl))
set_option maxRecDepth 100000 in
theorem kw1384 : Cond.constantLong "NativeWorks$Assemble\x72" 431 (lN 2) ∈ rTs := List.mem_append_left _ (rBm28 (List.mem_of_getElem? (i := 40) (by decide +kernel)))
set_option maxRecDepth 100000 in
theorem kw1385 : Cond.constantLong "NativeWorks$Assemble\x72" 433 (lN 4) ∈ rTs := List.mem_append_left _ (rBm28 (List.mem_of_getElem? (i := 41) (by decide +kernel)))
set_option maxRecDepth 100000 in
theorem kw1386 : Cond.constantLong "NativeWorks$Assemble\x72" 435 (lN 8) ∈ rTs := List.mem_append_left _ (rBm28 (List.mem_of_getElem? (i := 42) (by decide +kernel)))
set_option maxRecDepth 100000 in
theorem kw1387 : Cond.methodLink "NativeWorks$Assemble\x72" 437 ⟨"NativeWorks$Instruction", "addIndex", "(II)V"⟩ ∈ rTs := List.mem_append_left _ (rBm28 (List.mem_of_getElem? (i := 43) rfl))
set_option maxRecDepth 100000 in
theorem kw1388 : Cond.instanceMethod ⟨"NativeWorks$Instruction", "addIndex", "(II)V"⟩ ∈ rTs := List.mem_append_left _ (rBm28 (List.mem_of_getElem? (i := 44) rfl))
set_option maxRecDepth 100000 in
theorem kw1389 : Cond.selects "NativeWorks$Instruction" ⟨"NativeWorks$Instruction", "addIndex", "(II)V"⟩ ⟨"NativeWorks$Instruction", "addIndex", "(II)V"⟩ ∈ rTs := List.mem_append_left _ (rBm28 (List.mem_of_getElem? (i := 45) rfl))
set_option maxRecDepth 100000 in
theorem kw1390 : Cond.code ⟨"NativeWorks$Assemble\x72", "rept", "(J)V"⟩ prog_2_method_22_code 3 (Option.none : Option FieldType) ∈ rTs := List.mem_append_left _ (rBm28 (List.mem_of_getElem? (i := 46) rfl))
set_option maxRecDepth 100000 in
theorem kw1391 : Cond.constantLong "NativeWorks$Assemble\x72" 335 (lN 4096) ∈ rTs := List.mem_append_left _ (rBm28 (List.mem_of_getElem? (i := 47) (by decide +kernel)))
set_option maxRecDepth 100000 in
theorem kw1392 : Cond.methodLink "NativeWorks$Assemble\x72" 355 ⟨"NativeWorks$Reade\x72", "readRept", "(I)V"⟩ ∈ rTs := List.mem_append_left _ (rBm29 (List.mem_of_getElem? (i := 0) rfl))
set_option maxRecDepth 100000 in
theorem kw1393 : Cond.instanceMethod ⟨"NativeWorks$Reade\x72", "readRept", "(I)V"⟩ ∈ rTs := List.mem_append_left _ (rBm29 (List.mem_of_getElem? (i := 1) rfl))
set_option maxRecDepth 100000 in
theorem kw1394 : Cond.selects "NativeWorks$Reade\x72" ⟨"NativeWorks$Reade\x72", "readRept", "(I)V"⟩ ⟨"NativeWorks$Reade\x72", "readRept", "(I)V"⟩ ∈ rTs := List.mem_append_left _ (rBm29 (List.mem_of_getElem? (i := 2) rfl))
set_option maxRecDepth 100000 in
theorem kw1395 : Cond.code ⟨"NativeWorks$Assemble\x72", "settleNumbe\x72", "(Z)V"⟩ prog_2_method_33_code 4 (Option.none : Option FieldType) ∈ rTs := List.mem_append_left _ (rBm29 (List.mem_of_getElem? (i := 3) rfl))
set_option maxRecDepth 100000 in
theorem kw1396 : Cond.constantLong "NativeWorks$Assemble\x72" 476 (lN 128) ∈ rTs := List.mem_append_left _ (rBm29 (List.mem_of_getElem? (i := 4) (by decide +kernel)))
set_option maxRecDepth 100000 in
theorem kw1397 : Cond.constantLong "NativeWorks$Assemble\x72" 478 (lN 255) ∈ rTs := List.mem_append_left _ (rBm29 (List.mem_of_getElem? (i := 5) (by decide +kernel)))
set_option maxRecDepth 100000 in
theorem kw1398 : Cond.constantLong "NativeWorks$Assemble\x72" 480 (lN 256) ∈ rTs := List.mem_append_left _ (rBm29 (List.mem_of_getElem? (i := 6) (by decide +kernel)))
set_option maxRecDepth 100000 in
theorem kw1399 : Cond.constantLong "NativeWorks$Assemble\x72" 482 (lN 2147483648) ∈ rTs := List.mem_append_left _ (rBm29 (List.mem_of_getElem? (i := 7) (by decide +kernel)))
set_option maxRecDepth 100000 in
theorem kw1400 : Cond.constantLong "NativeWorks$Assemble\x72" 484 (lN 4294967296) ∈ rTs := List.mem_append_left _ (rBm29 (List.mem_of_getElem? (i := 8) (by decide +kernel)))
set_option maxRecDepth 100000 in
theorem kw1401 : Cond.code ⟨"NativeWorks$Assemble\x72", "settleSize", "()Z"⟩ prog_2_method_32_code 7 (Option.some FieldType.boolean) ∈ rTs := List.mem_append_left _ (rBm29 (List.mem_of_getElem? (i := 9) rfl))
set_option maxRecDepth 100000 in
theorem kw1402 : Cond.code ⟨"NativeWorks$Assemble\x72", "space", "()V"⟩ prog_2_method_20_code 6 (Option.none : Option FieldType) ∈ rTs := List.mem_append_left _ (rBm29 (List.mem_of_getElem? (i := 10) rfl))
set_option maxRecDepth 100000 in
theorem kw1403 : Cond.constantLong "NativeWorks$Assemble\x72" 337 (lN 65536) ∈ rTs := List.mem_append_left _ (rBm29 (List.mem_of_getElem? (i := 11) (by decide +kernel)))
set_option maxRecDepth 100000 in
theorem kw1404 : Cond.code ⟨"NativeWorks$Assemble\x72", "statement", "()V"⟩ prog_2_method_11_code 1 (Option.none : Option FieldType) ∈ rTs := List.mem_append_left _ (rBm29 (List.mem_of_getElem? (i := 12) rfl))
set_option maxRecDepth 100000 in
theorem kw1405 : Cond.methodLink "NativeWorks$Assemble\x72" 250 ⟨"NativeWorks$Assemble\x72", "operation", "()Z"⟩ ∈ rTs := List.mem_append_left _ (rBm29 (List.mem_of_getElem? (i := 13) rfl))
set_option maxRecDepth 100000 in
theorem kw1406 : Cond.instanceMethod ⟨"NativeWorks$Assemble\x72", "operation", "()Z"⟩ ∈ rTs := List.mem_append_left _ (rBm29 (List.mem_of_getElem? (i := 14) rfl))
set_option maxRecDepth 100000 in
theorem kw1407 : Cond.selects "NativeWorks$Assemble\x72" ⟨"NativeWorks$Assemble\x72", "operation", "()Z"⟩ ⟨"NativeWorks$Assemble\x72", "operation", "()Z"⟩ ∈ rTs := List.mem_append_left _ (rBm29 (List.mem_of_getElem? (i := 15) rfl))
set_option maxRecDepth 100000 in
theorem kw1408 : Cond.methodLink "NativeWorks$Assemble\x72" 253 ⟨"NativeWorks$Assemble\x72", "operands", "()Z"⟩ ∈ rTs := List.mem_append_left _ (rBm29 (List.mem_of_getElem? (i := 16) rfl))
set_option maxRecDepth 100000 in
theorem kw1409 : Cond.instanceMethod ⟨"NativeWorks$Assemble\x72", "operands", "()Z"⟩ ∈ rTs := List.mem_append_left _ (rBm29 (List.mem_of_getElem? (i := 17) rfl))
set_option maxRecDepth 100000 in
theorem kw1410 : Cond.selects "NativeWorks$Assemble\x72" ⟨"NativeWorks$Assemble\x72", "operands", "()Z"⟩ ⟨"NativeWorks$Assemble\x72", "operands", "()Z"⟩ ∈ rTs := List.mem_append_left _ (rBm29 (List.mem_of_getElem? (i := 18) rfl))
set_option maxRecDepth 100000 in
theorem kw1411 : Cond.methodLink "NativeWorks$Assemble\x72" 256 ⟨"NativeWorks$Assemble\x72", "instruction", "()V"⟩ ∈ rTs := List.mem_append_left _ (rBm29 (List.mem_of_getElem? (i := 19) rfl))
set_option maxRecDepth 100000 in
theorem kw1412 : Cond.instanceMethod ⟨"NativeWorks$Assemble\x72", "instruction", "()V"⟩ ∈ rTs := List.mem_append_left _ (rBm29 (List.mem_of_getElem? (i := 20) rfl))
set_option maxRecDepth 100000 in
theorem kw1413 : Cond.selects "NativeWorks$Assemble\x72" ⟨"NativeWorks$Assemble\x72", "instruction", "()V"⟩ ⟨"NativeWorks$Assemble\x72", "instruction", "()V"⟩ ∈ rTs := List.mem_append_left _ (rBm29 (List.mem_of_getElem? (i := 21) rfl))
set_option maxRecDepth 100000 in
theorem kw1414 : Cond.methodLink "NativeWorks$Assemble\x72" 258 ⟨"NativeWorks$Reade\x72", "use", "(I)V"⟩ ∈ rTs := List.mem_append_left _ (rBm29 (List.mem_of_getElem? (i := 22) rfl))
set_option maxRecDepth 100000 in
theorem kw1415 : Cond.instanceMethod ⟨"NativeWorks$Reade\x72", "use", "(I)V"⟩ ∈ rTs := List.mem_append_left _ (rBm29 (List.mem_of_getElem? (i := 23) rfl))
set_option maxRecDepth 100000 in
theorem kw1416 : Cond.selects "NativeWorks$Reade\x72" ⟨"NativeWorks$Reade\x72", "use", "(I)V"⟩ ⟨"NativeWorks$Reade\x72", "use", "(I)V"⟩ ∈ rTs := List.mem_append_left _ (rBm29 (List.mem_of_getElem? (i := 24) rfl))
set_option maxRecDepth 100000 in
theorem kw1417 : Cond.methodLink "NativeWorks$Assemble\x72" 261 ⟨"NativeWorks$Assemble\x72", "define", "()V"⟩ ∈ rTs := List.mem_append_left _ (rBm29 (List.mem_of_getElem? (i := 25) rfl))
set_option maxRecDepth 100000 in
theorem kw1418 : Cond.instanceMethod ⟨"NativeWorks$Assemble\x72", "define", "()V"⟩ ∈ rTs := List.mem_append_left _ (rBm29 (List.mem_of_getElem? (i := 26) rfl))
set_option maxRecDepth 100000 in
theorem kw1419 : Cond.selects "NativeWorks$Assemble\x72" ⟨"NativeWorks$Assemble\x72", "define", "()V"⟩ ⟨"NativeWorks$Assemble\x72", "define", "()V"⟩ ∈ rTs := List.mem_append_left _ (rBm29 (List.mem_of_getElem? (i := 27) rfl))
set_option maxRecDepth 100000 in
theorem kw1420 : Cond.methodLink "NativeWorks$Assemble\x72" 264 ⟨"NativeWorks$Assemble\x72", "changeSection", "()V"⟩ ∈ rTs := List.mem_append_left _ (rBm29 (List.mem_of_getElem? (i := 28) rfl))
set_option maxRecDepth 100000 in
theorem kw1421 : Cond.instanceMethod ⟨"NativeWorks$Assemble\x72", "changeSection", "()V"⟩ ∈ rTs := List.mem_append_left _ (rBm29 (List.mem_of_getElem? (i := 29) rfl))
set_option maxRecDepth 100000 in
theorem kw1422 : Cond.selects "NativeWorks$Assemble\x72" ⟨"NativeWorks$Assemble\x72", "changeSection", "()V"⟩ ⟨"NativeWorks$Assemble\x72", "changeSection", "()V"⟩ ∈ rTs := List.mem_append_left _ (rBm29 (List.mem_of_getElem? (i := 30) rfl))
set_option maxRecDepth 100000 in
theorem kw1423 : Cond.methodLink "NativeWorks$Assemble\x72" 267 ⟨"NativeWorks$Assemble\x72", "flag", "(I)V"⟩ ∈ rTs := List.mem_append_left _ (rBm29 (List.mem_of_getElem? (i := 31) rfl))
set_option maxRecDepth 100000 in
theorem kw1424 : Cond.instanceMethod ⟨"NativeWorks$Assemble\x72", "flag", "(I)V"⟩ ∈ rTs := List.mem_append_left _ (rBm29 (List.mem_of_getElem? (i := 32) rfl))
set_option maxRecDepth 100000 in
theorem kw1425 : Cond.selects "NativeWorks$Assemble\x72" ⟨"NativeWorks$Assemble\x72", "flag", "(I)V"⟩ ⟨"NativeWorks$Assemble\x72", "flag", "(I)V"⟩ ∈ rTs := List.mem_append_left _ (rBm29 (List.mem_of_getElem? (i := 33) rfl))
set_option maxRecDepth 100000 in
theorem kw1426 : Cond.fieldLink "NativeWorks$Assemble\x72" 273 "NativeWorks$Units" "rows" "[[I" ∈ rTs := List.mem_append_left _ (rBm29 (List.mem_of_getElem? (i := 34) rfl))
set_option maxRecDepth 100000 in
theorem kw1427 : Cond.fieldLink "NativeWorks$Assemble\x72" 276 "NativeWorks$Units" "count" "I" ∈ rTs := List.mem_append_left _ (rBm29 (List.mem_of_getElem? (i := 35) rfl))
set_option maxRecDepth 100000 in
theorem kw1428 : Cond.methodLink "NativeWorks$Assemble\x72" 277 ⟨"NativeWorks$Assemble\x72", "data", "(I)V"⟩ ∈ rTs := List.mem_append_left _ (rBm29 (List.mem_of_getElem? (i := 36) rfl))
set_option maxRecDepth 100000 in
theorem kw1429 : Cond.instanceMethod ⟨"NativeWorks$Assemble\x72", "data", "(I)V"⟩ ∈ rTs := List.mem_append_left _ (rBm29 (List.mem_of_getElem? (i := 37) rfl))
set_option maxRecDepth 100000 in
theorem kw1430 : Cond.selects "NativeWorks$Assemble\x72" ⟨"NativeWorks$Assemble\x72", "data", "(I)V"⟩ ⟨"NativeWorks$Assemble\x72", "data", "(I)V"⟩ ∈ rTs := List.mem_append_left _ (rBm29 (List.mem_of_getElem? (i := 38) rfl))
set_option maxRecDepth 100000 in
theorem kw1431 : Cond.methodLink "NativeWorks$Assemble\x72" 280 ⟨"NativeWorks$Assemble\x72", "space", "()V"⟩ ∈ rTs := List.mem_append_left _ (rBm29 (List.mem_of_getElem? (i := 39) rfl))
set_option maxRecDepth 100000 in
theorem kw1432 : Cond.instanceMethod ⟨"NativeWorks$Assemble\x72", "space", "()V"⟩ ∈ rTs := List.mem_append_left _ (rBm29 (List.mem_of_getElem? (i := 40) rfl))
set_option maxRecDepth 100000 in
theorem kw1433 : Cond.selects "NativeWorks$Assemble\x72" ⟨"NativeWorks$Assemble\x72", "space", "()V"⟩ ⟨"NativeWorks$Assemble\x72", "space", "()V"⟩ ∈ rTs := List.mem_append_left _ (rBm29 (List.mem_of_getElem? (i := 41) rfl))
set_option maxRecDepth 100000 in
theorem kw1434 : Cond.methodLink "NativeWorks$Assemble\x72" 283 ⟨"NativeWorks$Assemble\x72", "control", "()V"⟩ ∈ rTs := List.mem_append_left _ (rBm29 (List.mem_of_getElem? (i := 42) rfl))
set_option maxRecDepth 100000 in
theorem kw1435 : Cond.instanceMethod ⟨"NativeWorks$Assemble\x72", "control", "()V"⟩ ∈ rTs := List.mem_append_left _ (rBm29 (List.mem_of_getElem? (i := 43) rfl))
set_option maxRecDepth 100000 in
theorem kw1436 : Cond.selects "NativeWorks$Assemble\x72" ⟨"NativeWorks$Assemble\x72", "control", "()V"⟩ ⟨"NativeWorks$Assemble\x72", "control", "()V"⟩ ∈ rTs := List.mem_append_left _ (rBm29 (List.mem_of_getElem? (i := 44) rfl))
set_option maxRecDepth 100000 in
theorem kw1437 : Cond.code ⟨"NativeWorks$Assemble\x72", "wordAt", "(I)I"⟩ prog_2_method_6_code 4 (Option.some FieldType.int) ∈ rTs := List.mem_append_left _ (rBm29 (List.mem_of_getElem? (i := 45) rfl))
set_option maxRecDepth 100000 in
theorem kw1438 : Cond.code ⟨"NativeWorks$Expression", "apply", "(I)V"⟩ prog_3_method_12_code 5 (Option.none : Option FieldType) ∈ rTs := List.mem_append_left _ (rBm29 (List.mem_of_getElem? (i := 46) rfl))
set_option maxRecDepth 100000 in
theorem kw1439 : Cond.fieldLink "NativeWorks$Expression" 107 "NativeWorks$Expression" "values" "I" ∈ rTs := List.mem_append_left _ (rBm29 (List.mem_of_getElem? (i := 47) rfl))
set_option maxRecDepth 100000 in
theorem kw1440 : Cond.methodLink "NativeWorks$Expression" 42 ⟨"NativeWorks$Expression", "constantAt", "(I)Z"⟩ ∈ rTs := List.mem_append_left _ (rBm30 (List.mem_of_getElem? (i := 0) rfl))
set_option maxRecDepth 100000 in
theorem kw1441 : Cond.instanceMethod ⟨"NativeWorks$Expression", "constantAt", "(I)Z"⟩ ∈ rTs := List.mem_append_left _ (rBm30 (List.mem_of_getElem? (i := 1) rfl))
set_option maxRecDepth 100000 in
theorem kw1442 : Cond.selects "NativeWorks$Expression" ⟨"NativeWorks$Expression", "constantAt", "(I)Z"⟩ ⟨"NativeWorks$Expression", "constantAt", "(I)Z"⟩ ∈ rTs := List.mem_append_left _ (rBm30 (List.mem_of_getElem? (i := 2) rfl))
set_option maxRecDepth 100000 in
theorem kw1443 : Cond.methodLink "NativeWorks$Expression" 146 ⟨"NativeWorks$Expression", "front", "(II)V"⟩ ∈ rTs := List.mem_append_left _ (rBm30 (List.mem_of_getElem? (i := 3) rfl))
set_option maxRecDepth 100000 in
theorem kw1444 : Cond.instanceMethod ⟨"NativeWorks$Expression", "front", "(II)V"⟩ ∈ rTs := List.mem_append_left _ (rBm30 (List.mem_of_getElem? (i := 4) rfl))
set_option maxRecDepth 100000 in
theorem kw1445 : Cond.selects "NativeWorks$Expression" ⟨"NativeWorks$Expression", "front", "(II)V"⟩ ⟨"NativeWorks$Expression", "front", "(II)V"⟩ ∈ rTs := List.mem_append_left _ (rBm30 (List.mem_of_getElem? (i := 5) rfl))
set_option maxRecDepth 100000 in
theorem kw1446 : Cond.methodLink "NativeWorks$Expression" 150 ⟨"NativeWorks$Expression", "sum", "(ZZ)Z"⟩ ∈ rTs := List.mem_append_left _ (rBm30 (List.mem_of_getElem? (i := 6) rfl))
set_option maxRecDepth 100000 in
theorem kw1447 : Cond.instanceMethod ⟨"NativeWorks$Expression", "sum", "(ZZ)Z"⟩ ∈ rTs := List.mem_append_left _ (rBm30 (List.mem_of_getElem? (i := 7) rfl))
set_option maxRecDepth 100000 in
theorem kw1448 : Cond.selects "NativeWorks$Expression" ⟨"NativeWorks$Expression", "sum", "(ZZ)Z"⟩ ⟨"NativeWorks$Expression", "sum", "(ZZ)Z"⟩ ∈ rTs := List.mem_append_left _ (rBm30 (List.mem_of_getElem? (i := 8) rfl))
set_option maxRecDepth 100000 in
theorem kw1449 : Cond.methodLink "NativeWorks$Expression" 154 ⟨"NativeWorks$Expression", "difference", "(ZZ)Z"⟩ ∈ rTs := List.mem_append_left _ (rBm30 (List.mem_of_getElem? (i := 9) rfl))
set_option maxRecDepth 100000 in
theorem kw1450 : Cond.instanceMethod ⟨"NativeWorks$Expression", "difference", "(ZZ)Z"⟩ ∈ rTs := List.mem_append_left _ (rBm30 (List.mem_of_getElem? (i := 10) rfl))
set_option maxRecDepth 100000 in
theorem kw1451 : Cond.selects "NativeWorks$Expression" ⟨"NativeWorks$Expression", "difference", "(ZZ)Z"⟩ ⟨"NativeWorks$Expression", "difference", "(ZZ)Z"⟩ ∈ rTs := List.mem_append_left _ (rBm30 (List.mem_of_getElem? (i := 11) rfl))
set_option maxRecDepth 100000 in
theorem kw1452 : Cond.methodLink "NativeWorks$Expression" 157 ⟨"NativeWorks$Expression", "calculation", "(I)Z"⟩ ∈ rTs := List.mem_append_left _ (rBm30 (List.mem_of_getElem? (i := 12) rfl))
set_option maxRecDepth 100000 in
theorem kw1453 : Cond.instanceMethod ⟨"NativeWorks$Expression", "calculation", "(I)Z"⟩ ∈ rTs := List.mem_append_left _ (rBm30 (List.mem_of_getElem? (i := 13) rfl))
set_option maxRecDepth 100000 in
theorem kw1454 : Cond.selects "NativeWorks$Expression" ⟨"NativeWorks$Expression", "calculation", "(I)Z"⟩ ⟨"NativeWorks$Expression", "calculation", "(I)Z"⟩ ∈ rTs := List.mem_append_left _ (rBm30 (List.mem_of_getElem? (i := 14) rfl))
set_option maxRecDepth 100000 in
theorem kw1455 : Cond.methodLink "NativeWorks$Expression" 100 ⟨"NativeWorks$Line", "blame", "(I)V"⟩ ∈ rTs := List.mem_append_left _ (rBm30 (List.mem_of_getElem? (i := 15) rfl))
set_option maxRecDepth 100000 in
theorem kw1456 : Cond.code ⟨"NativeWorks$Expression", "beLatest", "(I)V"⟩ prog_3_method_5_code 2 (Option.none : Option FieldType) ∈ rTs := List.mem_append_left _ (rBm30 (List.mem_of_getElem? (i := 16) rfl))
set_option maxRecDepth 100000 in
theorem kw1457 : Cond.fieldLink "NativeWorks$Expression" 58 "NativeWorks$Line" "text" "[B" ∈ rTs := List.mem_append_left _ (rBm30 (List.mem_of_getElem? (i := 17) rfl))
set_option maxRecDepth 100000 in
theorem kw1458 : Cond.fieldLink "NativeWorks$Expression" 49 "NativeWorks$Line" "from" "[I" ∈ rTs := List.mem_append_left _ (rBm30 (List.mem_of_getElem? (i := 18) rfl))
set_option maxRecDepth 100000 in
theorem kw1459 : Cond.fieldLink "NativeWorks$Expression" 46 "NativeWorks$Line" "to" "[I" ∈ rTs := List.mem_append_left _ (rBm30 (List.mem_of_getElem? (i := 19) rfl))
set_option maxRecDepth 100000 in
theorem kw1460 : Cond.methodLink "NativeWorks$Expression" 52 ⟨"java/lang/Math", "min", "(II)I"⟩ ∈ rTs := List.mem_append_left _ (rBm30 (List.mem_of_getElem? (i := 20) rfl))
set_option maxRecDepth 100000 in
theorem kw1461 : Cond.fieldLink "NativeWorks$Expression" 61 "NativeWorks$Expression" "latestLength" "I" ∈ rTs := List.mem_append_left _ (rBm30 (List.mem_of_getElem? (i := 21) rfl))
set_option maxRecDepth 100000 in
theorem kw1462 : Cond.methodLink "NativeWorks$Expression" 65 ⟨"java/lang/System", "arraycopy", "(Ljava/lang/Object;ILjava/lang/Object;II)V"⟩ ∈ rTs := List.mem_append_left _ (rBm30 (List.mem_of_getElem? (i := 22) rfl))
set_option maxRecDepth 100000 in
theorem kw1463 : Cond.code ⟨"NativeWorks$Expression", "beZero", "()V"⟩ prog_3_method_3_code 1 (Option.none : Option FieldType) ∈ rTs := List.mem_append_left _ (rBm30 (List.mem_of_getElem? (i := 23) rfl))
set_option maxRecDepth 100000 in
theorem kw1464 : Cond.code ⟨"NativeWorks$Expression", "calculation", "(I)Z"⟩ prog_3_method_17_code 7 (Option.some FieldType.boolean) ∈ rTs := List.mem_append_left _ (rBm30 (List.mem_of_getElem? (i := 24) rfl))
set_option maxRecDepth 100000 in
theorem kw1465 : Cond.constantLong "NativeWorks$Expression" 162 (lN 63) ∈ rTs := List.mem_append_left _ (rBm30 (List.mem_of_getElem? (i := 25) (by decide +kernel)))
set_option maxRecDepth 100000 in
theorem kw1466 : Cond.code ⟨"NativeWorks$Expression", "constantAt", "(I)Z"⟩ prog_3_method_13_code 2 (Option.some FieldType.boolean) ∈ rTs := List.mem_append_left _ (rBm30 (List.mem_of_getElem? (i := 26) rfl))
set_option maxRecDepth 100000 in
theorem kw1467 : Cond.code ⟨"NativeWorks$Expression", "difference", "(ZZ)Z"⟩ prog_3_method_16_code 5 (Option.some FieldType.boolean) ∈ rTs := List.mem_append_left _ (rBm30 (List.mem_of_getElem? (i := 27) rfl))
set_option maxRecDepth 100000 in
theorem kw1468 : Cond.code ⟨"NativeWorks$Expression", "front", "(II)V"⟩ prog_3_method_14_code 3 (Option.none : Option FieldType) ∈ rTs := List.mem_append_left _ (rBm30 (List.mem_of_getElem? (i := 28) rfl))
set_option maxRecDepth 100000 in
theorem kw1469 : Cond.constantLong "NativeWorks$Expression" 160 (lN 18446744073709551615) ∈ rTs := List.mem_append_left _ (rBm30 (List.mem_of_getElem? (i := 29) (by decide +kernel)))
set_option maxRecDepth 100000 in
theorem kw1470 : Cond.code ⟨"NativeWorks$Expression", "isConstant", "()Z"⟩ prog_3_method_2_code 1 (Option.some FieldType.boolean) ∈ rTs := List.mem_append_left _ (rBm30 (List.mem_of_getElem? (i := 30) rfl))
set_option maxRecDepth 100000 in
theorem kw1471 : Cond.code ⟨"NativeWorks$Expression", "known", "()I"⟩ prog_3_method_6_code 2 (Option.some FieldType.int) ∈ rTs := List.mem_append_left _ (rBm30 (List.mem_of_getElem? (i := 31) rfl))
set_option maxRecDepth 100000 in
theorem kw1472 : Cond.fieldLink "NativeWorks$Expression" 74 "NativeWorks$Units" "names" "LNativeWorks$Names;" ∈ rTs := List.mem_append_left _ (rBm30 (List.mem_of_getElem? (i := 32) rfl))
set_option maxRecDepth 100000 in
theorem kw1473 : Cond.fieldLink "NativeWorks$Expression" 71 "NativeWorks$Expression" "nameLength" "I" ∈ rTs := List.mem_append_left _ (rBm30 (List.mem_of_getElem? (i := 33) rfl))
set_option maxRecDepth 100000 in
theorem kw1474 : Cond.fieldLink "NativeWorks$Expression" 80 "NativeWorks$Names" "count" "I" ∈ rTs := List.mem_append_left _ (rBm30 (List.mem_of_getElem? (i := 34) rfl))
set_option maxRecDepth 100000 in
theorem kw1475 : Cond.methodLink "NativeWorks$Expression" 85 ⟨"NativeWorks$Names", "find", "([BIII)I"⟩ ∈ rTs := List.mem_append_left _ (rBm30 (List.mem_of_getElem? (i := 35) rfl))
set_option maxRecDepth 100000 in
theorem kw1476 : Cond.fieldLink "NativeWorks$Expression" 89 "NativeWorks$Units" "symbolsFrom" "I" ∈ rTs := List.mem_append_left _ (rBm30 (List.mem_of_getElem? (i := 36) rfl))
set_option maxRecDepth 100000 in
theorem kw1477 : Cond.code ⟨"NativeWorks$Expression", "made", "()I"⟩ prog_3_method_7_code 2 (Option.some FieldType.int) ∈ rTs := List.mem_append_left _ (rBm30 (List.mem_of_getElem? (i := 37) rfl))
set_option maxRecDepth 100000 in
theorem kw1478 : Cond.methodLink "NativeWorks$Expression" 92 ⟨"NativeWorks$Expression", "known", "()I"⟩ ∈ rTs := List.mem_append_left _ (rBm30 (List.mem_of_getElem? (i := 38) rfl))
set_option maxRecDepth 100000 in
theorem kw1479 : Cond.methodLink "NativeWorks$Expression" 96 ⟨"NativeWorks$Names", "add", "([BII)I"⟩ ∈ rTs := List.mem_append_left _ (rBm30 (List.mem_of_getElem? (i := 39) rfl))
set_option maxRecDepth 100000 in
theorem kw1480 : Cond.methodLink "NativeWorks$Expression" 104 ⟨"NativeWorks$Units", "beginSymbol", "(I)V"⟩ ∈ rTs := List.mem_append_left _ (rBm30 (List.mem_of_getElem? (i := 40) rfl))
set_option maxRecDepth 100000 in
theorem kw1481 : Cond.instanceMethod ⟨"NativeWorks$Units", "beginSymbol", "(I)V"⟩ ∈ rTs := List.mem_append_left _ (rBm30 (List.mem_of_getElem? (i := 41) rfl))
set_option maxRecDepth 100000 in
theorem kw1482 : Cond.selects "NativeWorks$Units" ⟨"NativeWorks$Units", "beginSymbol", "(I)V"⟩ ⟨"NativeWorks$Units", "beginSymbol", "(I)V"⟩ ∈ rTs := List.mem_append_left _ (rBm30 (List.mem_of_getElem? (i := 42) rfl))
set_option maxRecDepth 100000 in
theorem kw1483 : Cond.code ⟨"NativeWorks$Expression", "operand", "(I)Z"⟩ prog_3_method_10_code 6 (Option.some FieldType.boolean) ∈ rTs := List.mem_append_left _ (rBm30 (List.mem_of_getElem? (i := 43) rfl))
set_option maxRecDepth 100000 in
theorem kw1484 : Cond.fieldLink "NativeWorks$Expression" 126 "NativeWorks$Line" "value" "[J" ∈ rTs := List.mem_append_left _ (rBm30 (List.mem_of_getElem? (i := 44) rfl))
set_option maxRecDepth 100000 in
theorem kw1485 : Cond.fieldLink "NativeWorks$Expression" 113 "NativeWorks$Line" "at" "I" ∈ rTs := List.mem_append_left _ (rBm30 (List.mem_of_getElem? (i := 45) rfl))
set_option maxRecDepth 100000 in
theorem kw1486 : Cond.methodLink "NativeWorks$Expression" 129 ⟨"NativeWorks$Expression", "push", "(JI)V"⟩ ∈ rTs := List.mem_append_left _ (rBm30 (List.mem_of_getElem? (i := 46) rfl))
set_option maxRecDepth 100000 in
theorem kw1487 : Cond.instanceMethod ⟨"NativeWorks$Expression", "push", "(JI)V"⟩ ∈ rTs := List.mem_append_left _ (rBm30 (List.mem_of_getElem? (i := 47) rfl))
set_option maxRecDepth 100000 in
theorem kw1488 : Cond.selects "NativeWorks$Expression" ⟨"NativeWorks$Expression", "push", "(JI)V"⟩ ⟨"NativeWorks$Expression", "push", "(JI)V"⟩ ∈ rTs := List.mem_append_left _ (rBm31 (List.mem_of_getElem? (i := 0) rfl))
set_option maxRecDepth 100000 in
theorem kw1489 : Cond.constantLong "NativeWorks$Expression" 133 (lN 53) ∈ rTs := List.mem_append_left _ (rBm31 (List.mem_of_getElem? (i := 1) (by decide +kernel)))
set_option maxRecDepth 100000 in
theorem kw1490 : Cond.methodLink "NativeWorks$Expression" 135 ⟨"NativeWorks$Expression", "spell", "(IZ)V"⟩ ∈ rTs := List.mem_append_left _ (rBm31 (List.mem_of_getElem? (i := 2) rfl))
set_option maxRecDepth 100000 in
theorem kw1491 : Cond.fieldLink "NativeWorks$Expression" 139 "NativeWorks$Units" "symbols" "[[I" ∈ rTs := List.mem_append_left _ (rBm31 (List.mem_of_getElem? (i := 3) rfl))
set_option maxRecDepth 100000 in
theorem kw1492 : Cond.fieldLink "NativeWorks$Expression" 143 "NativeWorks$Units" "constants" "[J" ∈ rTs := List.mem_append_left _ (rBm31 (List.mem_of_getElem? (i := 4) rfl))
set_option maxRecDepth 100000 in
theorem kw1493 : Cond.code ⟨"NativeWorks$Expression", "priority", "(I)I"⟩ prog_3_method_9_code 1 (Option.some FieldType.int) ∈ rTs := List.mem_append_left _ (rBm31 (List.mem_of_getElem? (i := 5) rfl))
set_option maxRecDepth 100000 in
theorem kw1494 : Cond.code ⟨"NativeWorks$Expression", "push", "(JI)V"⟩ prog_3_method_11_code 4 (Option.none : Option FieldType) ∈ rTs := List.mem_append_left _ (rBm31 (List.mem_of_getElem? (i := 6) rfl))
set_option maxRecDepth 100000 in
theorem kw1495 : Cond.code ⟨"NativeWorks$Expression", "read", "(IZI)Z"⟩ prog_3_method_8_code 10 (Option.some FieldType.boolean) ∈ rTs := List.mem_append_left _ (rBm31 (List.mem_of_getElem? (i := 7) rfl))
set_option maxRecDepth 100000 in
theorem kw1496 : Cond.fieldLink "NativeWorks$Expression" 110 "NativeWorks$Line" "kind" "[I" ∈ rTs := List.mem_append_left _ (rBm31 (List.mem_of_getElem? (i := 8) rfl))
set_option maxRecDepth 100000 in
theorem kw1497 : Cond.methodLink "NativeWorks$Expression" 116 ⟨"NativeWorks$Expression", "operand", "(I)Z"⟩ ∈ rTs := List.mem_append_left _ (rBm31 (List.mem_of_getElem? (i := 9) rfl))
set_option maxRecDepth 100000 in
theorem kw1498 : Cond.instanceMethod ⟨"NativeWorks$Expression", "operand", "(I)Z"⟩ ∈ rTs := List.mem_append_left _ (rBm31 (List.mem_of_getElem? (i := 10) rfl))
set_option maxRecDepth 100000 in
theorem kw1499 : Cond.selects "NativeWorks$Expression" ⟨"NativeWorks$Expression", "operand", "(I)Z"⟩ ⟨"NativeWorks$Expression", "operand", "(I)Z"⟩ ∈ rTs := List.mem_append_left _ (rBm31 (List.mem_of_getElem? (i := 11) rfl))
set_option maxRecDepth 100000 in
theorem kw1500 : Cond.methodLink "NativeWorks$Expression" 119 ⟨"NativeWorks$Expression", "apply", "(I)V"⟩ ∈ rTs := List.mem_append_left _ (rBm31 (List.mem_of_getElem? (i := 12) rfl))
set_option maxRecDepth 100000 in
theorem kw1501 : Cond.methodLink "NativeWorks$Expression" 122 ⟨"NativeWorks$Expression", "priority", "(I)I"⟩ ∈ rTs := List.mem_append_left _ (rBm31 (List.mem_of_getElem? (i := 13) rfl))
set_option maxRecDepth 100000 in
theorem kw1502 : Cond.static ⟨"NativeWorks$Expression", "priority", "(I)I"⟩ ∈ rTs := List.mem_append_left _ (rBm31 (List.mem_of_getElem? (i := 14) rfl))
set_option maxRecDepth 100000 in
theorem kw1503 : Cond.code ⟨"NativeWorks$Expression", "spell", "(IZ)V"⟩ prog_3_method_4_code 5 (Option.none : Option FieldType) ∈ rTs := List.mem_append_left _ (rBm31 (List.mem_of_getElem? (i := 15) rfl))
set_option maxRecDepth 100000 in
theorem kw1504 : Cond.code ⟨"NativeWorks$Expression", "sum", "(ZZ)Z"⟩ prog_3_method_15_code 4 (Option.some FieldType.boolean) ∈ rTs := List.mem_append_left _ (rBm31 (List.mem_of_getElem? (i := 16) rfl))
set_option maxRecDepth 100000 in
theorem kw1505 : Cond.code ⟨"NativeWorks$Instruction", "addIndex", "(II)V"⟩ prog_4_method_6_code 3 (Option.none : Option FieldType) ∈ rTs := List.mem_append_left _ (rBm31 (List.mem_of_getElem? (i := 17) rfl))
set_option maxRecDepth 100000 in
theorem kw1506 : Cond.fieldLink "NativeWorks$Instruction" 70 "NativeWorks$Instruction" "odd" "Z" ∈ rTs := List.mem_append_left _ (rBm31 (List.mem_of_getElem? (i := 18) rfl))
set_option maxRecDepth 100000 in
theorem kw1507 : Cond.fieldLink "NativeWorks$Instruction" 64 "NativeWorks$Instruction" "index" "I" ∈ rTs := List.mem_append_left _ (rBm31 (List.mem_of_getElem? (i := 19) rfl))
set_option maxRecDepth 100000 in
theorem kw1508 : Cond.fieldLink "NativeWorks$Instruction" 67 "NativeWorks$Instruction" "shift" "I" ∈ rTs := List.mem_append_left _ (rBm31 (List.mem_of_getElem? (i := 20) rfl))
set_option maxRecDepth 100000 in
theorem kw1509 : Cond.code ⟨"NativeWorks$Instruction", "addRegiste\x72", "(I)V"⟩ prog_4_method_5_code 2 (Option.none : Option FieldType) ∈ rTs := List.mem_append_left _ (rBm31 (List.mem_of_getElem? (i := 21) rfl))
set_option maxRecDepth 100000 in
theorem kw1510 : Cond.fieldLink "NativeWorks$Instruction" 60 "NativeWorks$Instruction" "base" "I" ∈ rTs := List.mem_append_left _ (rBm31 (List.mem_of_getElem? (i := 22) rfl))
set_option maxRecDepth 100000 in
theorem kw1511 : Cond.methodLink "NativeWorks$Instruction" 74 ⟨"NativeWorks$Instruction", "addIndex", "(II)V"⟩ ∈ rTs := List.mem_append_left _ (rBm31 (List.mem_of_getElem? (i := 23) rfl))
set_option maxRecDepth 100000 in
theorem kw1512 : Cond.code ⟨"NativeWorks$Instruction", "beProduct", "()V"⟩ prog_4_method_8_code 1 (Option.none : Option FieldType) ∈ rTs := List.mem_append_left _ (rBm31 (List.mem_of_getElem? (i := 24) rfl))
set_option maxRecDepth 100000 in
theorem kw1513 : Cond.fieldLink "NativeWorks$Instruction" 78 "NativeWorks$Instruction" "op" "I" ∈ rTs := List.mem_append_left _ (rBm31 (List.mem_of_getElem? (i := 25) rfl))
set_option maxRecDepth 100000 in
theorem kw1514 : Cond.fieldLink "NativeWorks$Instruction" 81 "NativeWorks$Instruction" "count" "I" ∈ rTs := List.mem_append_left _ (rBm31 (List.mem_of_getElem? (i := 26) rfl))
set_option maxRecDepth 100000 in
theorem kw1515 : Cond.code ⟨"NativeWorks$Instruction", "beginAddress", "()V"⟩ prog_4_method_4_code 1 (Option.none : Option FieldType) ∈ rTs := List.mem_append_left _ (rBm31 (List.mem_of_getElem? (i := 27) rfl))
set_option maxRecDepth 100000 in
theorem kw1516 : Cond.code ⟨"NativeWorks$Instruction", "decodeForm", "([BIIII)V"⟩ prog_4_method_22_code 11 (Option.none : Option FieldType) ∈ rTs := List.mem_append_left _ (rBm31 (List.mem_of_getElem? (i := 28) rfl))
set_option maxRecDepth 100000 in
theorem kw1517 : Cond.methodLink "NativeWorks$Instruction" 181 ⟨"NativeWorks$Instruction", "beginAddress", "()V"⟩ ∈ rTs := List.mem_append_left _ (rBm31 (List.mem_of_getElem? (i := 29) rfl))
set_option maxRecDepth 100000 in
theorem kw1518 : Cond.methodLink "NativeWorks$Instruction" 166 ⟨"NativeWorks$Instruction", "next", "([BI)I"⟩ ∈ rTs := List.mem_append_left _ (rBm31 (List.mem_of_getElem? (i := 30) rfl))
set_option maxRecDepth 100000 in
theorem kw1519 : Cond.instanceMethod ⟨"NativeWorks$Instruction", "next", "([BI)I"⟩ ∈ rTs := List.mem_append_left _ (rBm31 (List.mem_of_getElem? (i := 31) rfl))
set_option maxRecDepth 100000 in
theorem kw1520 : Cond.selects "NativeWorks$Instruction" ⟨"NativeWorks$Instruction", "next", "([BI)I"⟩ ⟨"NativeWorks$Instruction", "next", "([BI)I"⟩ ∈ rTs := List.mem_append_left _ (rBm31 (List.mem_of_getElem? (i := 32) rfl))
set_option maxRecDepth 100000 in
theorem kw1521 : Cond.methodLink "NativeWorks$Instruction" 177 ⟨"NativeWorks$Instruction", "nextNumbe\x72", "([BII)J"⟩ ∈ rTs := List.mem_append_left _ (rBm31 (List.mem_of_getElem? (i := 33) rfl))
set_option maxRecDepth 100000 in
theorem kw1522 : Cond.instanceMethod ⟨"NativeWorks$Instruction", "nextNumbe\x72", "([BII)J"⟩ ∈ rTs := List.mem_append_left _ (rBm31 (List.mem_of_getElem? (i := 34) rfl))
set_option maxRecDepth 100000 in
theorem kw1523 : Cond.selects "NativeWorks$Instruction" ⟨"NativeWorks$Instruction", "nextNumbe\x72", "([BII)J"⟩ ⟨"NativeWorks$Instruction", "nextNumbe\x72", "([BII)J"⟩ ∈ rTs := List.mem_append_left _ (rBm31 (List.mem_of_getElem? (i := 35) rfl))
set_option maxRecDepth 100000 in
theorem kw1524 : Cond.fieldLink "NativeWorks$Instruction" 163 "NativeWorks$Instruction" "displacement" "J" ∈ rTs := List.mem_append_left _ (rBm31 (List.mem_of_getElem? (i := 36) rfl))
set_option maxRecDepth 100000 in
theorem kw1525 : Cond.code ⟨"NativeWorks$Instruction", "decodeOperands", "([BIIII)V"⟩ prog_4_method_21_code 8 (Option.none : Option FieldType) ∈ rTs := List.mem_append_left _ (rBm31 (List.mem_of_getElem? (i := 37) rfl))
set_option maxRecDepth 100000 in
theorem kw1526 : Cond.fieldLink "NativeWorks$Instruction" 93 "NativeWorks$Instruction" "COUNTS" "[I" ∈ rTs := List.mem_append_left _ (rBm31 (List.mem_of_getElem? (i := 38) rfl))
set_option maxRecDepth 100000 in
theorem kw1527 : Cond.fieldLink "NativeWorks$Instruction" 99 "NativeWorks$Instruction" "M_AT" "[I" ∈ rTs := List.mem_append_left _ (rBm31 (List.mem_of_getElem? (i := 39) rfl))
set_option maxRecDepth 100000 in
theorem kw1528 : Cond.fieldLink "NativeWorks$Instruction" 102 "NativeWorks$Instruction" "R_AT" "[I" ∈ rTs := List.mem_append_left _ (rBm31 (List.mem_of_getElem? (i := 40) rfl))
set_option maxRecDepth 100000 in
theorem kw1529 : Cond.methodLink "NativeWorks$Instruction" 174 ⟨"NativeWorks$Instruction", "decodeForm", "([BIIII)V"⟩ ∈ rTs := List.mem_append_left _ (rBm31 (List.mem_of_getElem? (i := 41) rfl))
set_option maxRecDepth 100000 in
theorem kw1530 : Cond.instanceMethod ⟨"NativeWorks$Instruction", "decodeForm", "([BIIII)V"⟩ ∈ rTs := List.mem_append_left _ (rBm31 (List.mem_of_getElem? (i := 42) rfl))
set_option maxRecDepth 100000 in
theorem kw1531 : Cond.selects "NativeWorks$Instruction" ⟨"NativeWorks$Instruction", "decodeForm", "([BIIII)V"⟩ ⟨"NativeWorks$Instruction", "decodeForm", "([BIIII)V"⟩ ∈ rTs := List.mem_append_left _ (rBm31 (List.mem_of_getElem? (i := 43) rfl))
set_option maxRecDepth 100000 in
theorem kw1532 : Cond.fieldLink "NativeWorks$Instruction" 105 "NativeWorks$Instruction" "N_AT" "[I" ∈ rTs := List.mem_append_left _ (rBm31 (List.mem_of_getElem? (i := 44) rfl))
set_option maxRecDepth 100000 in
theorem kw1533 : Cond.fieldLink "NativeWorks$Instruction" 149 "NativeWorks$Instruction" "WIDTHS" "[I" ∈ rTs := List.mem_append_left _ (rBm31 (List.mem_of_getElem? (i := 45) rfl))
set_option maxRecDepth 100000 in
theorem kw1534 : Cond.fieldLink "NativeWorks$Instruction" 114 "NativeWorks$Instruction" "numbe\x72" "J" ∈ rTs := List.mem_append_left _ (rBm31 (List.mem_of_getElem? (i := 46) rfl))
set_option maxRecDepth 100000 in
theorem kw1535 : Cond.code ⟨"NativeWorks$Instruction", "decode", "([BI)V"⟩ prog_4_method_19_code 10 (Option.none : Option FieldType) ∈ rTs := List.mem_append_left _ (rBm31 (List.mem_of_getElem? (i := 47) rfl))
set_option maxRecDepth 100000 in
theorem kw1536 : Cond.fieldLink "NativeWorks$Instruction" 90 "NativeWorks$Instruction" "length" "I" ∈ rTs := List.mem_append_left _ (rBm32 (List.mem_of_getElem? (i := 0) rfl))
set_option maxRecDepth 100000 in
theorem kw1537 : Cond.fieldLink "NativeWorks$Instruction" 137 "NativeWorks$Instruction" "condition" "I" ∈ rTs := List.mem_append_left _ (rBm32 (List.mem_of_getElem? (i := 1) rfl))
set_option maxRecDepth 100000 in
theorem kw1538 : Cond.fieldLink "NativeWorks$Instruction" 118 "NativeWorks$Instruction" "size" "I" ∈ rTs := List.mem_append_left _ (rBm32 (List.mem_of_getElem? (i := 2) rfl))
set_option maxRecDepth 100000 in
theorem kw1539 : Cond.methodLink "NativeWorks$Instruction" 170 ⟨"NativeWorks$Instruction", "decodeOperands", "([BIIII)V"⟩ ∈ rTs := List.mem_append_left _ (rBm32 (List.mem_of_getElem? (i := 3) rfl))
set_option maxRecDepth 100000 in
theorem kw1540 : Cond.instanceMethod ⟨"NativeWorks$Instruction", "decodeOperands", "([BIIII)V"⟩ ∈ rTs := List.mem_append_left _ (rBm32 (List.mem_of_getElem? (i := 4) rfl))
set_option maxRecDepth 100000 in
theorem kw1541 : Cond.selects "NativeWorks$Instruction" ⟨"NativeWorks$Instruction", "decodeOperands", "([BIIII)V"⟩ ⟨"NativeWorks$Instruction", "decodeOperands", "([BIIII)V"⟩ ∈ rTs := List.mem_append_left _ (rBm32 (List.mem_of_getElem? (i := 5) rfl))
set_option maxRecDepth 100000 in
theorem kw1542 : Cond.code ⟨"NativeWorks$Instruction", "emitForm", "(II)V"⟩ prog_4_method_16_code 7 (Option.none : Option FieldType) ∈ rTs := List.mem_append_left _ (rBm32 (List.mem_of_getElem? (i := 6) rfl))
set_option maxRecDepth 100000 in
theorem kw1543 : Cond.methodLink "NativeWorks$Instruction" 131 ⟨"NativeWorks$Instruction", "put", "(I)V"⟩ ∈ rTs := List.mem_append_left _ (rBm32 (List.mem_of_getElem? (i := 7) rfl))
set_option maxRecDepth 100000 in
theorem kw1544 : Cond.instanceMethod ⟨"NativeWorks$Instruction", "put", "(I)V"⟩ ∈ rTs := List.mem_append_left _ (rBm32 (List.mem_of_getElem? (i := 8) rfl))
set_option maxRecDepth 100000 in
theorem kw1545 : Cond.selects "NativeWorks$Instruction" ⟨"NativeWorks$Instruction", "put", "(I)V"⟩ ⟨"NativeWorks$Instruction", "put", "(I)V"⟩ ∈ rTs := List.mem_append_left _ (rBm32 (List.mem_of_getElem? (i := 9) rfl))
set_option maxRecDepth 100000 in
theorem kw1546 : Cond.fieldLink "NativeWorks$Instruction" 160 "NativeWorks$Instruction" "displacementWaits" "Z" ∈ rTs := List.mem_append_left _ (rBm32 (List.mem_of_getElem? (i := 10) rfl))
set_option maxRecDepth 100000 in
theorem kw1547 : Cond.fieldLink "NativeWorks$Instruction" 125 "NativeWorks$Instruction" "displacementAt" "I" ∈ rTs := List.mem_append_left _ (rBm32 (List.mem_of_getElem? (i := 11) rfl))
set_option maxRecDepth 100000 in
theorem kw1548 : Cond.methodLink "NativeWorks$Instruction" 152 ⟨"NativeWorks$Instruction", "putNumbe\x72", "(JI)V"⟩ ∈ rTs := List.mem_append_left _ (rBm32 (List.mem_of_getElem? (i := 12) rfl))
set_option maxRecDepth 100000 in
theorem kw1549 : Cond.instanceMethod ⟨"NativeWorks$Instruction", "putNumbe\x72", "(JI)V"⟩ ∈ rTs := List.mem_append_left _ (rBm32 (List.mem_of_getElem? (i := 13) rfl))
set_option maxRecDepth 100000 in
theorem kw1550 : Cond.selects "NativeWorks$Instruction" ⟨"NativeWorks$Instruction", "putNumbe\x72", "(JI)V"⟩ ⟨"NativeWorks$Instruction", "putNumbe\x72", "(JI)V"⟩ ∈ rTs := List.mem_append_left _ (rBm32 (List.mem_of_getElem? (i := 14) rfl))
set_option maxRecDepth 100000 in
theorem kw1551 : Cond.code ⟨"NativeWorks$Instruction", "emitPrefix", "(I)V"⟩ prog_4_method_14_code 9 (Option.none : Option FieldType) ∈ rTs := List.mem_append_left _ (rBm32 (List.mem_of_getElem? (i := 15) rfl))
set_option maxRecDepth 100000 in
theorem kw1552 : Cond.methodLink "NativeWorks$Instruction" 156 ⟨"NativeWorks$Instruction", "sizeOfM", "()I"⟩ ∈ rTs := List.mem_append_left _ (rBm32 (List.mem_of_getElem? (i := 16) rfl))
set_option maxRecDepth 100000 in
theorem kw1553 : Cond.instanceMethod ⟨"NativeWorks$Instruction", "sizeOfM", "()I"⟩ ∈ rTs := List.mem_append_left _ (rBm32 (List.mem_of_getElem? (i := 17) rfl))
set_option maxRecDepth 100000 in
theorem kw1554 : Cond.selects "NativeWorks$Instruction" ⟨"NativeWorks$Instruction", "sizeOfM", "()I"⟩ ⟨"NativeWorks$Instruction", "sizeOfM", "()I"⟩ ∈ rTs := List.mem_append_left _ (rBm32 (List.mem_of_getElem? (i := 18) rfl))
set_option maxRecDepth 100000 in
theorem kw1555 : Cond.code ⟨"NativeWorks$Instruction", "emit", "(I)V"⟩ prog_4_method_13_code 7 (Option.none : Option FieldType) ∈ rTs := List.mem_append_left _ (rBm32 (List.mem_of_getElem? (i := 19) rfl))
set_option maxRecDepth 100000 in
theorem kw1556 : Cond.fieldLink "NativeWorks$Instruction" 128 "NativeWorks$Instruction" "numberAt" "I" ∈ rTs := List.mem_append_left _ (rBm32 (List.mem_of_getElem? (i := 20) rfl))
set_option maxRecDepth 100000 in
theorem kw1557 : Cond.methodLink "NativeWorks$Instruction" 134 ⟨"NativeWorks$Instruction", "emitPrefix", "(I)V"⟩ ∈ rTs := List.mem_append_left _ (rBm32 (List.mem_of_getElem? (i := 21) rfl))
set_option maxRecDepth 100000 in
theorem kw1558 : Cond.instanceMethod ⟨"NativeWorks$Instruction", "emitPrefix", "(I)V"⟩ ∈ rTs := List.mem_append_left _ (rBm32 (List.mem_of_getElem? (i := 22) rfl))
set_option maxRecDepth 100000 in
theorem kw1559 : Cond.selects "NativeWorks$Instruction" ⟨"NativeWorks$Instruction", "emitPrefix", "(I)V"⟩ ⟨"NativeWorks$Instruction", "emitPrefix", "(I)V"⟩ ∈ rTs := List.mem_append_left _ (rBm32 (List.mem_of_getElem? (i := 23) rfl))
set_option maxRecDepth 100000 in
theorem kw1560 : Cond.methodLink "NativeWorks$Instruction" 140 ⟨"java/lang/Math", "max", "(II)I"⟩ ∈ rTs := List.mem_append_left _ (rBm32 (List.mem_of_getElem? (i := 24) rfl))
set_option maxRecDepth 100000 in
theorem kw1561 : Cond.methodLink "NativeWorks$Instruction" 146 ⟨"NativeWorks$Instruction", "emitForm", "(II)V"⟩ ∈ rTs := List.mem_append_left _ (rBm32 (List.mem_of_getElem? (i := 25) rfl))
set_option maxRecDepth 100000 in
theorem kw1562 : Cond.instanceMethod ⟨"NativeWorks$Instruction", "emitForm", "(II)V"⟩ ∈ rTs := List.mem_append_left _ (rBm32 (List.mem_of_getElem? (i := 26) rfl))
set_option maxRecDepth 100000 in
theorem kw1563 : Cond.selects "NativeWorks$Instruction" ⟨"NativeWorks$Instruction", "emitForm", "(II)V"⟩ ⟨"NativeWorks$Instruction", "emitForm", "(II)V"⟩ ∈ rTs := List.mem_append_left _ (rBm32 (List.mem_of_getElem? (i := 27) rfl))
set_option maxRecDepth 100000 in
theorem kw1564 : Cond.fieldLink "NativeWorks$Instruction" 111 "NativeWorks$Instruction" "numberWidth" "I" ∈ rTs := List.mem_append_left _ (rBm32 (List.mem_of_getElem? (i := 28) rfl))
set_option maxRecDepth 100000 in
theorem kw1565 : Cond.code ⟨"NativeWorks$Instruction", "encode", "()Z"⟩ prog_4_method_9_code 4 (Option.some FieldType.boolean) ∈ rTs := List.mem_append_left _ (rBm32 (List.mem_of_getElem? (i := 29) rfl))
set_option maxRecDepth 100000 in
theorem kw1566 : Cond.methodLink "NativeWorks$Instruction" 84 ⟨"NativeWorks$Instruction", "matches", "(I)Z"⟩ ∈ rTs := List.mem_append_left _ (rBm32 (List.mem_of_getElem? (i := 30) rfl))
set_option maxRecDepth 100000 in
theorem kw1567 : Cond.instanceMethod ⟨"NativeWorks$Instruction", "matches", "(I)Z"⟩ ∈ rTs := List.mem_append_left _ (rBm32 (List.mem_of_getElem? (i := 31) rfl))
set_option maxRecDepth 100000 in
theorem kw1568 : Cond.selects "NativeWorks$Instruction" ⟨"NativeWorks$Instruction", "matches", "(I)Z"⟩ ⟨"NativeWorks$Instruction", "matches", "(I)Z"⟩ ∈ rTs := List.mem_append_left _ (rBm32 (List.mem_of_getElem? (i := 32) rfl))
set_option maxRecDepth 100000 in
theorem kw1569 : Cond.methodLink "NativeWorks$Instruction" 87 ⟨"NativeWorks$Instruction", "emit", "(I)V"⟩ ∈ rTs := List.mem_append_left _ (rBm32 (List.mem_of_getElem? (i := 33) rfl))
set_option maxRecDepth 100000 in
theorem kw1570 : Cond.instanceMethod ⟨"NativeWorks$Instruction", "emit", "(I)V"⟩ ∈ rTs := List.mem_append_left _ (rBm32 (List.mem_of_getElem? (i := 34) rfl))
set_option maxRecDepth 100000 in
theorem kw1571 : Cond.selects "NativeWorks$Instruction" ⟨"NativeWorks$Instruction", "emit", "(I)V"⟩ ⟨"NativeWorks$Instruction", "emit", "(I)V"⟩ ∈ rTs := List.mem_append_left _ (rBm32 (List.mem_of_getElem? (i := 35) rfl))
set_option maxRecDepth 100000 in
theorem kw1572 : Cond.code ⟨"NativeWorks$Instruction", "endAddress", "()Z"⟩ prog_4_method_7_code 1 (Option.some FieldType.boolean) ∈ rTs := List.mem_append_left _ (rBm32 (List.mem_of_getElem? (i := 36) rfl))
set_option maxRecDepth 100000 in
theorem kw1573 : Cond.code ⟨"NativeWorks$Instruction", "matches", "(I)Z"⟩ prog_4_method_10_code 7 (Option.some FieldType.boolean) ∈ rTs := List.mem_append_left _ (rBm32 (List.mem_of_getElem? (i := 37) rfl))
set_option maxRecDepth 100000 in
theorem kw1574 : Cond.methodLink "NativeWorks$Instruction" 96 ⟨"NativeWorks$Instruction", "sizeFits", "(I)Z"⟩ ∈ rTs := List.mem_append_left _ (rBm32 (List.mem_of_getElem? (i := 38) rfl))
set_option maxRecDepth 100000 in
theorem kw1575 : Cond.instanceMethod ⟨"NativeWorks$Instruction", "sizeFits", "(I)Z"⟩ ∈ rTs := List.mem_append_left _ (rBm32 (List.mem_of_getElem? (i := 39) rfl))
set_option maxRecDepth 100000 in
theorem kw1576 : Cond.selects "NativeWorks$Instruction" ⟨"NativeWorks$Instruction", "sizeFits", "(I)Z"⟩ ⟨"NativeWorks$Instruction", "sizeFits", "(I)Z"⟩ ∈ rTs := List.mem_append_left _ (rBm32 (List.mem_of_getElem? (i := 40) rfl))
set_option maxRecDepth 100000 in
theorem kw1577 : Cond.methodLink "NativeWorks$Instruction" 108 ⟨"NativeWorks$Instruction", "numberFits", "(I)Z"⟩ ∈ rTs := List.mem_append_left _ (rBm32 (List.mem_of_getElem? (i := 41) rfl))
set_option maxRecDepth 100000 in
theorem kw1578 : Cond.instanceMethod ⟨"NativeWorks$Instruction", "numberFits", "(I)Z"⟩ ∈ rTs := List.mem_append_left _ (rBm32 (List.mem_of_getElem? (i := 42) rfl))
set_option maxRecDepth 100000 in
theorem kw1579 : Cond.selects "NativeWorks$Instruction" ⟨"NativeWorks$Instruction", "numberFits", "(I)Z"⟩ ⟨"NativeWorks$Instruction", "numberFits", "(I)Z"⟩ ∈ rTs := List.mem_append_left _ (rBm32 (List.mem_of_getElem? (i := 43) rfl))
set_option maxRecDepth 100000 in
theorem kw1580 : Cond.code ⟨"NativeWorks$Instruction", "nextNumbe\x72", "([BII)J"⟩ prog_4_method_23_code 7 (Option.some FieldType.long) ∈ rTs := List.mem_append_left _ (rBm32 (List.mem_of_getElem? (i := 44) rfl))
set_option maxRecDepth 100000 in
theorem kw1581 : Cond.code ⟨"NativeWorks$Instruction", "next", "([BI)I"⟩ prog_4_method_20_code 4 (Option.some FieldType.int) ∈ rTs := List.mem_append_left _ (rBm32 (List.mem_of_getElem? (i := 45) rfl))
set_option maxRecDepth 100000 in
theorem kw1582 : Cond.code ⟨"NativeWorks$Instruction", "numberFits", "(I)Z"⟩ prog_4_method_12_code 2 (Option.some FieldType.boolean) ∈ rTs := List.mem_append_left _ (rBm32 (List.mem_of_getElem? (i := 46) rfl))
set_option maxRecDepth 100000 in
theorem kw1583 : Cond.constantLong "NativeWorks$Instruction" 121 (lN 256) ∈ rTs := List.mem_append_left _ (rBm32 (List.mem_of_getElem? (i := 47) (by decide +kernel)))
set_option maxRecDepth 100000 in
theorem kw1584 : Cond.constantLong "NativeWorks$Instruction" 123 (lN 65536) ∈ rTs := List.mem_append_left _ (rBm33 (List.mem_of_getElem? (i := 0) (by decide +kernel)))
set_option maxRecDepth 100000 in
theorem kw1585 : Cond.code ⟨"NativeWorks$Instruction", "putNumbe\x72", "(JI)V"⟩ prog_4_method_18_code 5 (Option.none : Option FieldType) ∈ rTs := List.mem_append_left _ (rBm33 (List.mem_of_getElem? (i := 1) rfl))
set_option maxRecDepth 100000 in
theorem kw1586 : Cond.code ⟨"NativeWorks$Instruction", "put", "(I)V"⟩ prog_4_method_17_code 2 (Option.none : Option FieldType) ∈ rTs := List.mem_append_left _ (rBm33 (List.mem_of_getElem? (i := 2) rfl))
set_option maxRecDepth 100000 in
theorem kw1587 : Cond.code ⟨"NativeWorks$Instruction", "sizeFits", "(I)Z"⟩ prog_4_method_11_code 2 (Option.some FieldType.boolean) ∈ rTs := List.mem_append_left _ (rBm33 (List.mem_of_getElem? (i := 3) rfl))
set_option maxRecDepth 100000 in
theorem kw1588 : Cond.code ⟨"NativeWorks$Instruction", "sizeOfM", "()I"⟩ prog_4_method_15_code 1 (Option.some FieldType.int) ∈ rTs := List.mem_append_left _ (rBm33 (List.mem_of_getElem? (i := 4) rfl))
set_option maxRecDepth 100000 in
theorem kw1589 : Cond.code ⟨"NativeWorks$Line", "blamed", "(I)Z"⟩ prog_5_method_4_code 2 (Option.some FieldType.boolean) ∈ rTs := List.mem_append_left _ (rBm33 (List.mem_of_getElem? (i := 5) rfl))
set_option maxRecDepth 100000 in
theorem kw1590 : Cond.fieldLink "NativeWorks$Line" 90 "NativeWorks$Line" "worst" "I" ∈ rTs := List.mem_append_left _ (rBm33 (List.mem_of_getElem? (i := 6) rfl))
set_option maxRecDepth 100000 in
theorem kw1591 : Cond.code ⟨"NativeWorks$Line", "blame", "(I)V"⟩ prog_5_method_3_code 2 (Option.none : Option FieldType) ∈ rTs := List.mem_append_left _ (rBm33 (List.mem_of_getElem? (i := 7) rfl))
set_option maxRecDepth 100000 in
theorem kw1592 : Cond.methodLink "NativeWorks$Line" 94 ⟨"java/lang/Math", "min", "(II)I"⟩ ∈ rTs := List.mem_append_left _ (rBm33 (List.mem_of_getElem? (i := 8) rfl))
set_option maxRecDepth 100000 in
theorem kw1593 : Cond.code ⟨"NativeWorks$Line", "characte\x72", "(I)I"⟩ prog_5_method_17_code 4 (Option.some FieldType.int) ∈ rTs := List.mem_append_left _ (rBm33 (List.mem_of_getElem? (i := 9) rfl))
set_option maxRecDepth 100000 in
theorem kw1594 : Cond.methodLink "NativeWorks$Line" 140 ⟨"NativeWorks$Line", "lette\x72", "(I)I"⟩ ∈ rTs := List.mem_append_left _ (rBm33 (List.mem_of_getElem? (i := 10) rfl))
set_option maxRecDepth 100000 in
theorem kw1595 : Cond.instanceMethod ⟨"NativeWorks$Line", "lette\x72", "(I)I"⟩ ∈ rTs := List.mem_append_left _ (rBm33 (List.mem_of_getElem? (i := 11) rfl))
set_option maxRecDepth 100000 in
theorem kw1596 : Cond.selects "NativeWorks$Line" ⟨"NativeWorks$Line", "lette\x72", "(I)I"⟩ ⟨"NativeWorks$Line", "lette\x72", "(I)I"⟩ ∈ rTs := List.mem_append_left _ (rBm33 (List.mem_of_getElem? (i := 12) rfl))
set_option maxRecDepth 100000 in
theorem kw1597 : Cond.methodLink "NativeWorks$Line" 152 ⟨"NativeWorks$Line", "isCharacte\x72", "(I)Z"⟩ ∈ rTs := List.mem_append_left _ (rBm33 (List.mem_of_getElem? (i := 13) rfl))
set_option maxRecDepth 100000 in
theorem kw1598 : Cond.static ⟨"NativeWorks$Line", "isCharacte\x72", "(I)Z"⟩ ∈ rTs := List.mem_append_left _ (rBm33 (List.mem_of_getElem? (i := 14) rfl))
set_option maxRecDepth 100000 in
theorem kw1599 : Cond.code ⟨"NativeWorks$Line", "isCharacte\x72", "(I)Z"⟩ prog_5_method_18_code 1 (Option.some FieldType.boolean) ∈ rTs := List.mem_append_left _ (rBm33 (List.mem_of_getElem? (i := 15) rfl))
set_option maxRecDepth 100000 in
theorem kw1600 : Cond.fieldLink "NativeWorks$Line" 113 "NativeWorks$Line" "count" "I" ∈ rTs := List.mem_append_left _ (rBm33 (List.mem_of_getElem? (i := 16) rfl))
set_option maxRecDepth 100000 in
theorem kw1601 : Cond.methodLink "NativeWorks$Line" 155 ⟨"NativeWorks$Line", "meant", "(I)I"⟩ ∈ rTs := List.mem_append_left _ (rBm33 (List.mem_of_getElem? (i := 17) rfl))
set_option maxRecDepth 100000 in
theorem kw1602 : Cond.methodLink "NativeWorks$Line" 120 ⟨"NativeWorks$Line", "inName", "(I)Z"⟩ ∈ rTs := List.mem_append_left _ (rBm33 (List.mem_of_getElem? (i := 18) rfl))
set_option maxRecDepth 100000 in
theorem kw1603 : Cond.static ⟨"NativeWorks$Line", "inName", "(I)Z"⟩ ∈ rTs := List.mem_append_left _ (rBm33 (List.mem_of_getElem? (i := 19) rfl))
set_option maxRecDepth 100000 in
theorem kw1604 : Cond.code ⟨"NativeWorks$Line", "inName", "(I)Z"⟩ prog_5_method_6_code 1 (Option.some FieldType.boolean) ∈ rTs := List.mem_append_left _ (rBm33 (List.mem_of_getElem? (i := 20) rfl))
set_option maxRecDepth 100000 in
theorem kw1605 : Cond.code ⟨"NativeWorks$Line", "cut", "()Z"⟩ prog_5_method_12_code 3 (Option.some FieldType.boolean) ∈ rTs := List.mem_append_left _ (rBm33 (List.mem_of_getElem? (i := 21) rfl))
set_option maxRecDepth 100000 in
theorem kw1606 : Cond.fieldLink "NativeWorks$Line" 107 "NativeWorks$Line" "length" "I" ∈ rTs := List.mem_append_left _ (rBm33 (List.mem_of_getElem? (i := 22) rfl))
set_option maxRecDepth 100000 in
theorem kw1607 : Cond.methodLink "NativeWorks$Line" 103 ⟨"NativeWorks$Line", "isDigit", "(I)Z"⟩ ∈ rTs := List.mem_append_left _ (rBm33 (List.mem_of_getElem? (i := 23) rfl))
set_option maxRecDepth 100000 in
theorem kw1608 : Cond.static ⟨"NativeWorks$Line", "isDigit", "(I)Z"⟩ ∈ rTs := List.mem_append_left _ (rBm33 (List.mem_of_getElem? (i := 24) rfl))
set_option maxRecDepth 100000 in
theorem kw1609 : Cond.code ⟨"NativeWorks$Line", "isDigit", "(I)Z"⟩ prog_5_method_7_code 1 (Option.some FieldType.boolean) ∈ rTs := List.mem_append_left _ (rBm33 (List.mem_of_getElem? (i := 25) rfl))
set_option maxRecDepth 100000 in
theorem kw1610 : Cond.methodLink "NativeWorks$Line" 116 ⟨"NativeWorks$Line", "numbe\x72", "(I)I"⟩ ∈ rTs := List.mem_append_left _ (rBm33 (List.mem_of_getElem? (i := 26) rfl))
set_option maxRecDepth 100000 in
theorem kw1611 : Cond.instanceMethod ⟨"NativeWorks$Line", "numbe\x72", "(I)I"⟩ ∈ rTs := List.mem_append_left _ (rBm33 (List.mem_of_getElem? (i := 27) rfl))
set_option maxRecDepth 100000 in
theorem kw1612 : Cond.selects "NativeWorks$Line" ⟨"NativeWorks$Line", "numbe\x72", "(I)I"⟩ ⟨"NativeWorks$Line", "numbe\x72", "(I)I"⟩ ∈ rTs := List.mem_append_left _ (rBm33 (List.mem_of_getElem? (i := 28) rfl))
set_option maxRecDepth 100000 in
theorem kw1613 : Cond.methodLink "NativeWorks$Line" 123 ⟨"NativeWorks$Line", "name", "(I)I"⟩ ∈ rTs := List.mem_append_left _ (rBm33 (List.mem_of_getElem? (i := 29) rfl))
set_option maxRecDepth 100000 in
theorem kw1614 : Cond.instanceMethod ⟨"NativeWorks$Line", "name", "(I)I"⟩ ∈ rTs := List.mem_append_left _ (rBm33 (List.mem_of_getElem? (i := 30) rfl))
set_option maxRecDepth 100000 in
theorem kw1615 : Cond.selects "NativeWorks$Line" ⟨"NativeWorks$Line", "name", "(I)I"⟩ ⟨"NativeWorks$Line", "name", "(I)I"⟩ ∈ rTs := List.mem_append_left _ (rBm33 (List.mem_of_getElem? (i := 31) rfl))
set_option maxRecDepth 100000 in
theorem kw1616 : Cond.methodLink "NativeWorks$Line" 126 ⟨"NativeWorks$Line", "characte\x72", "(I)I"⟩ ∈ rTs := List.mem_append_left _ (rBm33 (List.mem_of_getElem? (i := 32) rfl))
set_option maxRecDepth 100000 in
theorem kw1617 : Cond.instanceMethod ⟨"NativeWorks$Line", "characte\x72", "(I)I"⟩ ∈ rTs := List.mem_append_left _ (rBm33 (List.mem_of_getElem? (i := 33) rfl))
set_option maxRecDepth 100000 in
theorem kw1618 : Cond.selects "NativeWorks$Line" ⟨"NativeWorks$Line", "characte\x72", "(I)I"⟩ ⟨"NativeWorks$Line", "characte\x72", "(I)I"⟩ ∈ rTs := List.mem_append_left _ (rBm33 (List.mem_of_getElem? (i := 34) rfl))
set_option maxRecDepth 100000 in
theorem kw1619 : Cond.methodLink "NativeWorks$Line" 129 ⟨"NativeWorks$Line", "quoted", "(I)I"⟩ ∈ rTs := List.mem_append_left _ (rBm33 (List.mem_of_getElem? (i := 35) rfl))
set_option maxRecDepth 100000 in
theorem kw1620 : Cond.instanceMethod ⟨"NativeWorks$Line", "quoted", "(I)I"⟩ ∈ rTs := List.mem_append_left _ (rBm33 (List.mem_of_getElem? (i := 36) rfl))
set_option maxRecDepth 100000 in
theorem kw1621 : Cond.selects "NativeWorks$Line" ⟨"NativeWorks$Line", "quoted", "(I)I"⟩ ⟨"NativeWorks$Line", "quoted", "(I)I"⟩ ∈ rTs := List.mem_append_left _ (rBm33 (List.mem_of_getElem? (i := 37) rfl))
set_option maxRecDepth 100000 in
theorem kw1622 : Cond.methodLink "NativeWorks$Line" 132 ⟨"NativeWorks$Line", "sign", "(I)I"⟩ ∈ rTs := List.mem_append_left _ (rBm33 (List.mem_of_getElem? (i := 38) rfl))
set_option maxRecDepth 100000 in
theorem kw1623 : Cond.instanceMethod ⟨"NativeWorks$Line", "sign", "(I)I"⟩ ∈ rTs := List.mem_append_left _ (rBm33 (List.mem_of_getElem? (i := 39) rfl))
set_option maxRecDepth 100000 in
theorem kw1624 : Cond.selects "NativeWorks$Line" ⟨"NativeWorks$Line", "sign", "(I)I"⟩ ⟨"NativeWorks$Line", "sign", "(I)I"⟩ ∈ rTs := List.mem_append_left _ (rBm33 (List.mem_of_getElem? (i := 40) rfl))
set_option maxRecDepth 100000 in
theorem kw1625 : Cond.code ⟨"NativeWorks$Line", "digit", "(I)I"⟩ prog_5_method_15_code 1 (Option.some FieldType.int) ∈ rTs := List.mem_append_left _ (rBm33 (List.mem_of_getElem? (i := 41) rfl))
set_option maxRecDepth 100000 in
theorem kw1626 : Cond.code ⟨"NativeWorks$Line", "faultKind", "()I"⟩ prog_5_method_5_code 1 (Option.some FieldType.int) ∈ rTs := List.mem_append_left _ (rBm33 (List.mem_of_getElem? (i := 42) rfl))
set_option maxRecDepth 100000 in
theorem kw1627 : Cond.fieldLink "NativeWorks$Line" 100 "NativeWorks$Line" "KINDS" "[I" ∈ rTs := List.mem_append_left _ (rBm33 (List.mem_of_getElem? (i := 43) rfl))
set_option maxRecDepth 100000 in
theorem kw1628 : Cond.code ⟨"NativeWorks$Line", "isMark", "(II)Z"⟩ prog_5_method_11_code 3 (Option.some FieldType.boolean) ∈ rTs := List.mem_append_left _ (rBm33 (List.mem_of_getElem? (i := 44) rfl))
set_option maxRecDepth 100000 in
theorem kw1629 : Cond.code ⟨"NativeWorks$Line", "isRegiste\x72", "(I)Z"⟩ prog_5_method_9_code 2 (Option.some FieldType.boolean) ∈ rTs := List.mem_append_left _ (rBm33 (List.mem_of_getElem? (i := 45) rfl))
set_option maxRecDepth 100000 in
theorem kw1630 : Cond.constantLong "NativeWorks$Line" 109 (lN 48) ∈ rTs := List.mem_append_left _ (rBm33 (List.mem_of_getElem? (i := 46) (by decide +kernel)))
set_option maxRecDepth 100000 in
theorem kw1631 : Cond.code ⟨"NativeWorks$Line", "isWord", "(I)Z"⟩ prog_5_method_10_code 2 (Option.some FieldType.boolean) ∈ rTs := List.mem_append_left _ (rBm33 (List.mem_of_getElem? (i := 47) rfl))
set_option maxRecDepth 100000 in
theorem kw1632 : Cond.constantLong "NativeWorks$Line" 111 (lN 185) ∈ rTs := List.mem_append_left _ (rBm34 (List.mem_of_getElem? (i := 0) (by decide +kernel)))
set_option maxRecDepth 100000 in
theorem kw1633 : Cond.code ⟨"NativeWorks$Line", "lette\x72", "(I)I"⟩ prog_5_method_8_code 2 (Option.some FieldType.int) ∈ rTs := List.mem_append_left _ (rBm34 (List.mem_of_getElem? (i := 1) rfl))
set_option maxRecDepth 100000 in
theorem kw1634 : Cond.code ⟨"NativeWorks$Line", "meant", "(I)I"⟩ prog_5_method_19_code 3 (Option.some FieldType.int) ∈ rTs := List.mem_append_left _ (rBm34 (List.mem_of_getElem? (i := 2) rfl))
set_option maxRecDepth 100000 in
theorem kw1635 : Cond.code ⟨"NativeWorks$Line", "name", "(I)I"⟩ prog_5_method_13_code 3 (Option.some FieldType.int) ∈ rTs := List.mem_append_left _ (rBm34 (List.mem_of_getElem? (i := 3) rfl))
set_option maxRecDepth 100000 in
theorem kw1636 : Cond.fieldLink "NativeWorks$Line" 135 "NativeWorks$Names" "count" "I" ∈ rTs := List.mem_append_left _ (rBm34 (List.mem_of_getElem? (i := 4) rfl))
set_option maxRecDepth 100000 in
theorem kw1637 : Cond.methodLink "NativeWorks$Line" 136 ⟨"NativeWorks$Names", "find", "([BIII)I"⟩ ∈ rTs := List.mem_append_left _ (rBm34 (List.mem_of_getElem? (i := 5) rfl))
set_option maxRecDepth 100000 in
theorem kw1638 : Cond.code ⟨"NativeWorks$Line", "numbe\x72", "(I)I"⟩ prog_5_method_14_code 10 (Option.some FieldType.int) ∈ rTs := List.mem_append_left _ (rBm34 (List.mem_of_getElem? (i := 6) rfl))
set_option maxRecDepth 100000 in
theorem kw1639 : Cond.methodLink "NativeWorks$Line" 143 ⟨"NativeWorks$Line", "digit", "(I)I"⟩ ∈ rTs := List.mem_append_left _ (rBm34 (List.mem_of_getElem? (i := 7) rfl))
set_option maxRecDepth 100000 in
theorem kw1640 : Cond.static ⟨"NativeWorks$Line", "digit", "(I)I"⟩ ∈ rTs := List.mem_append_left _ (rBm34 (List.mem_of_getElem? (i := 8) rfl))
set_option maxRecDepth 100000 in
theorem kw1641 : Cond.methodLink "NativeWorks$Line" 146 ⟨"NativeWorks$Line", "overflows", "(JII)Z"⟩ ∈ rTs := List.mem_append_left _ (rBm34 (List.mem_of_getElem? (i := 9) rfl))
set_option maxRecDepth 100000 in
theorem kw1642 : Cond.static ⟨"NativeWorks$Line", "overflows", "(JII)Z"⟩ ∈ rTs := List.mem_append_left _ (rBm34 (List.mem_of_getElem? (i := 10) rfl))
set_option maxRecDepth 100000 in
theorem kw1643 : Cond.code ⟨"NativeWorks$Line", "overflows", "(JII)Z"⟩ prog_5_method_16_code 6 (Option.some FieldType.boolean) ∈ rTs := List.mem_append_left _ (rBm34 (List.mem_of_getElem? (i := 11) rfl))
set_option maxRecDepth 100000 in
theorem kw1644 : Cond.constantLong "NativeWorks$Line" 150 (lN 1844674407370955161) ∈ rTs := List.mem_append_left _ (rBm34 (List.mem_of_getElem? (i := 12) (by decide +kernel)))
set_option maxRecDepth 100000 in
theorem kw1645 : Cond.code ⟨"NativeWorks$Line", "quoted", "(I)I"⟩ prog_5_method_20_code 4 (Option.some FieldType.int) ∈ rTs := List.mem_append_left _ (rBm34 (List.mem_of_getElem? (i := 13) rfl))
set_option maxRecDepth 100000 in
theorem kw1646 : Cond.constantLong "NativeWorks$Line" 158 (lN 18446744073709551615) ∈ rTs := List.mem_append_left _ (rBm34 (List.mem_of_getElem? (i := 14) (by decide +kernel)))
set_option maxRecDepth 100000 in
theorem kw1647 : Cond.code ⟨"NativeWorks$Line", "sign", "(I)I"⟩ prog_5_method_21_code 4 (Option.some FieldType.int) ∈ rTs := List.mem_append_left _ (rBm34 (List.mem_of_getElem? (i := 15) rfl))
set_option maxRecDepth 100000 in
theorem kw1648 : Cond.code ⟨"NativeWorks$Linke\x72", "addressOf", "(I)I"⟩ prog_6_method_16_code 2 (Option.some FieldType.int) ∈ rTs := List.mem_append_left _ (rBm34 (List.mem_of_getElem? (i := 16) rfl))
set_option maxRecDepth 100000 in
theorem kw1649 : Cond.methodLink "NativeWorks$Linke\x72" 173 ⟨"NativeWorks$Linke\x72", "sectionOf", "(I)I"⟩ ∈ rTs := List.mem_append_left _ (rBm34 (List.mem_of_getElem? (i := 17) rfl))
set_option maxRecDepth 100000 in
theorem kw1650 : Cond.instanceMethod ⟨"NativeWorks$Linke\x72", "sectionOf", "(I)I"⟩ ∈ rTs := List.mem_append_left _ (rBm34 (List.mem_of_getElem? (i := 18) rfl))
set_option maxRecDepth 100000 in
theorem kw1651 : Cond.selects "NativeWorks$Linke\x72" ⟨"NativeWorks$Linke\x72", "sectionOf", "(I)I"⟩ ⟨"NativeWorks$Linke\x72", "sectionOf", "(I)I"⟩ ∈ rTs := List.mem_append_left _ (rBm34 (List.mem_of_getElem? (i := 19) rfl))
set_option maxRecDepth 100000 in
theorem kw1652 : Cond.fieldLink "NativeWorks$Linke\x72" 142 "NativeWorks$Units" "symbols" "[[I" ∈ rTs := List.mem_append_left _ (rBm34 (List.mem_of_getElem? (i := 20) rfl))
set_option maxRecDepth 100000 in
theorem kw1653 : Cond.code ⟨"NativeWorks$Linke\x72", "awakens", "(I[I)Z"⟩ prog_6_method_18_code 7 (Option.some FieldType.boolean) ∈ rTs := List.mem_append_left _ (rBm34 (List.mem_of_getElem? (i := 21) rfl))
set_option maxRecDepth 100000 in
theorem kw1654 : Cond.fieldLink "NativeWorks$Linke\x72" 183 "NativeWorks$Units" "statements" "[[I" ∈ rTs := List.mem_append_left _ (rBm34 (List.mem_of_getElem? (i := 22) rfl))
set_option maxRecDepth 100000 in
theorem kw1655 : Cond.code ⟨"NativeWorks$Linke\x72", "findNeeded", "(I)V"⟩ prog_6_method_17_code 6 (Option.none : Option FieldType) ∈ rTs := List.mem_append_left _ (rBm34 (List.mem_of_getElem? (i := 23) rfl))
set_option maxRecDepth 100000 in
theorem kw1656 : Cond.fieldLink "NativeWorks$Linke\x72" 155 "NativeWorks$Units" "rows" "[[I" ∈ rTs := List.mem_append_left _ (rBm34 (List.mem_of_getElem? (i := 24) rfl))
set_option maxRecDepth 100000 in
theorem kw1657 : Cond.fieldLink "NativeWorks$Linke\x72" 176 "NativeWorks$Units" "waits" "[[I" ∈ rTs := List.mem_append_left _ (rBm34 (List.mem_of_getElem? (i := 25) rfl))
set_option maxRecDepth 100000 in
theorem kw1658 : Cond.methodLink "NativeWorks$Linke\x72" 179 ⟨"NativeWorks$Linke\x72", "awakens", "(I[I)Z"⟩ ∈ rTs := List.mem_append_left _ (rBm34 (List.mem_of_getElem? (i := 26) rfl))
set_option maxRecDepth 100000 in
theorem kw1659 : Cond.instanceMethod ⟨"NativeWorks$Linke\x72", "awakens", "(I[I)Z"⟩ ∈ rTs := List.mem_append_left _ (rBm34 (List.mem_of_getElem? (i := 27) rfl))
set_option maxRecDepth 100000 in
theorem kw1660 : Cond.selects "NativeWorks$Linke\x72" ⟨"NativeWorks$Linke\x72", "awakens", "(I[I)Z"⟩ ⟨"NativeWorks$Linke\x72", "awakens", "(I[I)Z"⟩ ∈ rTs := List.mem_append_left _ (rBm34 (List.mem_of_getElem? (i := 28) rfl))
set_option maxRecDepth 100000 in
theorem kw1661 : Cond.code ⟨"NativeWorks$Linke\x72", "hasBadWait", "()Z"⟩ prog_6_method_21_code 9 (Option.some FieldType.boolean) ∈ rTs := List.mem_append_left _ (rBm34 (List.mem_of_getElem? (i := 29) rfl))
set_option maxRecDepth 100000 in
theorem kw1662 : Cond.methodLink "NativeWorks$Linke\x72" 186 ⟨"NativeWorks$Linke\x72", "valueOf", "(II)J"⟩ ∈ rTs := List.mem_append_left _ (rBm34 (List.mem_of_getElem? (i := 30) rfl))
set_option maxRecDepth 100000 in
theorem kw1663 : Cond.instanceMethod ⟨"NativeWorks$Linke\x72", "valueOf", "(II)J"⟩ ∈ rTs := List.mem_append_left _ (rBm34 (List.mem_of_getElem? (i := 31) rfl))
set_option maxRecDepth 100000 in
theorem kw1664 : Cond.selects "NativeWorks$Linke\x72" ⟨"NativeWorks$Linke\x72", "valueOf", "(II)J"⟩ ⟨"NativeWorks$Linke\x72", "valueOf", "(II)J"⟩ ∈ rTs := List.mem_append_left _ (rBm34 (List.mem_of_getElem? (i := 32) rfl))
set_option maxRecDepth 100000 in
theorem kw1665 : Cond.code ⟨"NativeWorks$Linke\x72", "hasDoubles", "()Z"⟩ prog_6_method_13_code 5 (Option.some FieldType.boolean) ∈ rTs := List.mem_append_left _ (rBm34 (List.mem_of_getElem? (i := 33) rfl))
set_option maxRecDepth 100000 in
theorem kw1666 : Cond.methodLink "NativeWorks$Linke\x72" 88 ⟨"NativeWorks$Linke\x72", "isGlobal", "(I)Z"⟩ ∈ rTs := List.mem_append_left _ (rBm34 (List.mem_of_getElem? (i := 34) rfl))
set_option maxRecDepth 100000 in
theorem kw1667 : Cond.instanceMethod ⟨"NativeWorks$Linke\x72", "isGlobal", "(I)Z"⟩ ∈ rTs := List.mem_append_left _ (rBm34 (List.mem_of_getElem? (i := 35) rfl))
set_option maxRecDepth 100000 in
theorem kw1668 : Cond.selects "NativeWorks$Linke\x72" ⟨"NativeWorks$Linke\x72", "isGlobal", "(I)Z"⟩ ⟨"NativeWorks$Linke\x72", "isGlobal", "(I)Z"⟩ ∈ rTs := List.mem_append_left _ (rBm34 (List.mem_of_getElem? (i := 36) rfl))
set_option maxRecDepth 100000 in
theorem kw1669 : Cond.methodLink "NativeWorks$Linke\x72" 84 ⟨"NativeWorks$Linke\x72", "winne\x72", "(I)I"⟩ ∈ rTs := List.mem_append_left _ (rBm34 (List.mem_of_getElem? (i := 37) rfl))
set_option maxRecDepth 100000 in
theorem kw1670 : Cond.instanceMethod ⟨"NativeWorks$Linke\x72", "winne\x72", "(I)I"⟩ ∈ rTs := List.mem_append_left _ (rBm34 (List.mem_of_getElem? (i := 38) rfl))
set_option maxRecDepth 100000 in
theorem kw1671 : Cond.selects "NativeWorks$Linke\x72" ⟨"NativeWorks$Linke\x72", "winne\x72", "(I)I"⟩ ⟨"NativeWorks$Linke\x72", "winne\x72", "(I)I"⟩ ∈ rTs := List.mem_append_left _ (rBm34 (List.mem_of_getElem? (i := 39) rfl))
set_option maxRecDepth 100000 in
theorem kw1672 : Cond.code ⟨"NativeWorks$Linke\x72", "hasFlags", "(III)Z"⟩ prog_6_method_4_code 5 (Option.some FieldType.boolean) ∈ rTs := List.mem_append_left _ (rBm34 (List.mem_of_getElem? (i := 40) rfl))
set_option maxRecDepth 100000 in
theorem kw1673 : Cond.code ⟨"NativeWorks$Linke\x72", "isGlobal", "(I)Z"⟩ prog_6_method_6_code 2 (Option.some FieldType.boolean) ∈ rTs := List.mem_append_left _ (rBm34 (List.mem_of_getElem? (i := 41) rfl))
set_option maxRecDepth 100000 in
theorem kw1674 : Cond.methodLink "NativeWorks$Linke\x72" 146 ⟨"NativeWorks$Linke\x72", "hasFlags", "(III)Z"⟩ ∈ rTs := List.mem_append_left _ (rBm34 (List.mem_of_getElem? (i := 42) rfl))
set_option maxRecDepth 100000 in
theorem kw1675 : Cond.instanceMethod ⟨"NativeWorks$Linke\x72", "hasFlags", "(III)Z"⟩ ∈ rTs := List.mem_append_left _ (rBm34 (List.mem_of_getElem? (i := 43) rfl))
set_option maxRecDepth 100000 in
theorem kw1676 : Cond.selects "NativeWorks$Linke\x72" ⟨"NativeWorks$Linke\x72", "hasFlags", "(III)Z"⟩ ⟨"NativeWorks$Linke\x72", "hasFlags", "(III)Z"⟩ ∈ rTs := List.mem_append_left _ (rBm34 (List.mem_of_getElem? (i := 44) rfl))
set_option maxRecDepth 100000 in
theorem kw1677 : Cond.code ⟨"NativeWorks$Linke\x72", "isMissed", "(I)Z"⟩ prog_6_method_11_code 5 (Option.some FieldType.boolean) ∈ rTs := List.mem_append_left _ (rBm34 (List.mem_of_getElem? (i := 45) rfl))
set_option maxRecDepth 100000 in
theorem kw1678 : Cond.methodLink "NativeWorks$Linke\x72" 167 ⟨"NativeWorks$Linke\x72", "olde\x72", "(II)I"⟩ ∈ rTs := List.mem_append_left _ (rBm34 (List.mem_of_getElem? (i := 46) rfl))
set_option maxRecDepth 100000 in
theorem kw1679 : Cond.instanceMethod ⟨"NativeWorks$Linke\x72", "olde\x72", "(II)I"⟩ ∈ rTs := List.mem_append_left _ (rBm34 (List.mem_of_getElem? (i := 47) rfl))
set_option maxRecDepth 100000 in
theorem kw1680 : Cond.selects "NativeWorks$Linke\x72" ⟨"NativeWorks$Linke\x72", "olde\x72", "(II)I"⟩ ⟨"NativeWorks$Linke\x72", "olde\x72", "(II)I"⟩ ∈ rTs := List.mem_append_left _ (rBm35 (List.mem_of_getElem? (i := 0) rfl))
set_option maxRecDepth 100000 in
theorem kw1681 : Cond.methodLink "NativeWorks$Linke\x72" 170 ⟨"NativeWorks$Linke\x72", "isTaken", "(I)Z"⟩ ∈ rTs := List.mem_append_left _ (rBm35 (List.mem_of_getElem? (i := 1) rfl))
set_option maxRecDepth 100000 in
theorem kw1682 : Cond.instanceMethod ⟨"NativeWorks$Linke\x72", "isTaken", "(I)Z"⟩ ∈ rTs := List.mem_append_left _ (rBm35 (List.mem_of_getElem? (i := 2) rfl))
set_option maxRecDepth 100000 in
theorem kw1683 : Cond.selects "NativeWorks$Linke\x72" ⟨"NativeWorks$Linke\x72", "isTaken", "(I)Z"⟩ ⟨"NativeWorks$Linke\x72", "isTaken", "(I)Z"⟩ ∈ rTs := List.mem_append_left _ (rBm35 (List.mem_of_getElem? (i := 3) rfl))
set_option maxRecDepth 100000 in
theorem kw1684 : Cond.methodLink "NativeWorks$Linke\x72" 161 ⟨"NativeWorks$Linke\x72", "isWeakLabel", "(I)Z"⟩ ∈ rTs := List.mem_append_left _ (rBm35 (List.mem_of_getElem? (i := 4) rfl))
set_option maxRecDepth 100000 in
theorem kw1685 : Cond.instanceMethod ⟨"NativeWorks$Linke\x72", "isWeakLabel", "(I)Z"⟩ ∈ rTs := List.mem_append_left _ (rBm35 (List.mem_of_getElem? (i := 5) rfl))
set_option maxRecDepth 100000 in
theorem kw1686 : Cond.selects "NativeWorks$Linke\x72" ⟨"NativeWorks$Linke\x72", "isWeakLabel", "(I)Z"⟩ ⟨"NativeWorks$Linke\x72", "isWeakLabel", "(I)Z"⟩ ∈ rTs := List.mem_append_left _ (rBm35 (List.mem_of_getElem? (i := 6) rfl))
set_option maxRecDepth 100000 in
theorem kw1687 : Cond.code ⟨"NativeWorks$Linke\x72", "isTaken", "(I)Z"⟩ prog_6_method_5_code 2 (Option.some FieldType.boolean) ∈ rTs := List.mem_append_left _ (rBm35 (List.mem_of_getElem? (i := 7) rfl))
set_option maxRecDepth 100000 in
theorem kw1688 : Cond.code ⟨"NativeWorks$Linke\x72", "isWanted", "(I)Z"⟩ prog_6_method_10_code 3 (Option.some FieldType.boolean) ∈ rTs := List.mem_append_left _ (rBm35 (List.mem_of_getElem? (i := 8) rfl))
set_option maxRecDepth 100000 in
theorem kw1689 : Cond.methodLink "NativeWorks$Linke\x72" 164 ⟨"NativeWorks$Linke\x72", "isMissed", "(I)Z"⟩ ∈ rTs := List.mem_append_left _ (rBm35 (List.mem_of_getElem? (i := 9) rfl))
set_option maxRecDepth 100000 in
theorem kw1690 : Cond.instanceMethod ⟨"NativeWorks$Linke\x72", "isMissed", "(I)Z"⟩ ∈ rTs := List.mem_append_left _ (rBm35 (List.mem_of_getElem? (i := 10) rfl))
set_option maxRecDepth 100000 in
theorem kw1691 : Cond.selects "NativeWorks$Linke\x72" ⟨"NativeWorks$Linke\x72", "isMissed", "(I)Z"⟩ ⟨"NativeWorks$Linke\x72", "isMissed", "(I)Z"⟩ ∈ rTs := List.mem_append_left _ (rBm35 (List.mem_of_getElem? (i := 11) rfl))
set_option maxRecDepth 100000 in
theorem kw1692 : Cond.code ⟨"NativeWorks$Linke\x72", "isWeakLabel", "(I)Z"⟩ prog_6_method_7_code 2 (Option.some FieldType.boolean) ∈ rTs := List.mem_append_left _ (rBm35 (List.mem_of_getElem? (i := 12) rfl))
set_option maxRecDepth 100000 in
theorem kw1693 : Cond.methodLink "NativeWorks$Linke\x72" 92 ⟨"NativeWorks$Linke\x72", "hasDoubles", "()Z"⟩ ∈ rTs := List.mem_append_left _ (rBm35 (List.mem_of_getElem? (i := 13) rfl))
set_option maxRecDepth 100000 in
theorem kw1694 : Cond.instanceMethod ⟨"NativeWorks$Linke\x72", "hasDoubles", "()Z"⟩ ∈ rTs := List.mem_append_left _ (rBm35 (List.mem_of_getElem? (i := 14) rfl))
set_option maxRecDepth 100000 in
theorem kw1695 : Cond.selects "NativeWorks$Linke\x72" ⟨"NativeWorks$Linke\x72", "hasDoubles", "()Z"⟩ ⟨"NativeWorks$Linke\x72", "hasDoubles", "()Z"⟩ ∈ rTs := List.mem_append_left _ (rBm35 (List.mem_of_getElem? (i := 15) rfl))
set_option maxRecDepth 100000 in
theorem kw1696 : Cond.methodLink "NativeWorks$Linke\x72" 96 ⟨"NativeWorks$Linke\x72", "resolve", "()V"⟩ ∈ rTs := List.mem_append_left _ (rBm35 (List.mem_of_getElem? (i := 16) rfl))
set_option maxRecDepth 100000 in
theorem kw1697 : Cond.instanceMethod ⟨"NativeWorks$Linke\x72", "resolve", "()V"⟩ ∈ rTs := List.mem_append_left _ (rBm35 (List.mem_of_getElem? (i := 17) rfl))
set_option maxRecDepth 100000 in
theorem kw1698 : Cond.selects "NativeWorks$Linke\x72" ⟨"NativeWorks$Linke\x72", "resolve", "()V"⟩ ⟨"NativeWorks$Linke\x72", "resolve", "()V"⟩ ∈ rTs := List.mem_append_left _ (rBm35 (List.mem_of_getElem? (i := 18) rfl))
set_option maxRecDepth 100000 in
theorem kw1699 : Cond.methodLink "NativeWorks$Linke\x72" 99 ⟨"NativeWorks$Linke\x72", "findNeeded", "(I)V"⟩ ∈ rTs := List.mem_append_left _ (rBm35 (List.mem_of_getElem? (i := 19) rfl))
set_option maxRecDepth 100000 in
theorem kw1700 : Cond.instanceMethod ⟨"NativeWorks$Linke\x72", "findNeeded", "(I)V"⟩ ∈ rTs := List.mem_append_left _ (rBm35 (List.mem_of_getElem? (i := 20) rfl))
set_option maxRecDepth 100000 in
theorem kw1701 : Cond.selects "NativeWorks$Linke\x72" ⟨"NativeWorks$Linke\x72", "findNeeded", "(I)V"⟩ ⟨"NativeWorks$Linke\x72", "findNeeded", "(I)V"⟩ ∈ rTs := List.mem_append_left _ (rBm35 (List.mem_of_getElem? (i := 21) rfl))
set_option maxRecDepth 100000 in
theorem kw1702 : Cond.constant "NativeWorks$Linke\x72" 103 (nI 4194304) ∈ rTs := List.mem_append_left _ (rBm35 (List.mem_of_getElem? (i := 22) (by decide +kernel)))
set_option maxRecDepth 100000 in
theorem kw1703 : Cond.fieldLink "NativeWorks$Linke\x72" 104 "NativeWorks$Linke\x72" "end" "I" ∈ rTs := List.mem_append_left _ (rBm35 (List.mem_of_getElem? (i := 23) rfl))
set_option maxRecDepth 100000 in
theorem kw1704 : Cond.methodLink "NativeWorks$Linke\x72" 107 ⟨"NativeWorks$Linke\x72", "up", "(II)I"⟩ ∈ rTs := List.mem_append_left _ (rBm35 (List.mem_of_getElem? (i := 24) rfl))
set_option maxRecDepth 100000 in
theorem kw1705 : Cond.static ⟨"NativeWorks$Linke\x72", "up", "(II)I"⟩ ∈ rTs := List.mem_append_left _ (rBm35 (List.mem_of_getElem? (i := 25) rfl))
set_option maxRecDepth 100000 in
theorem kw1706 : Cond.code ⟨"NativeWorks$Linke\x72", "up", "(II)I"⟩ prog_6_method_19_code 2 (Option.some FieldType.int) ∈ rTs := List.mem_append_left _ (rBm35 (List.mem_of_getElem? (i := 26) rfl))
set_option maxRecDepth 100000 in
theorem kw1707 : Cond.methodLink "NativeWorks$Linke\x72" 111 ⟨"NativeWorks$Linke\x72", "placeSections", "(II)I"⟩ ∈ rTs := List.mem_append_left _ (rBm35 (List.mem_of_getElem? (i := 27) rfl))
set_option maxRecDepth 100000 in
theorem kw1708 : Cond.instanceMethod ⟨"NativeWorks$Linke\x72", "placeSections", "(II)I"⟩ ∈ rTs := List.mem_append_left _ (rBm35 (List.mem_of_getElem? (i := 28) rfl))
set_option maxRecDepth 100000 in
theorem kw1709 : Cond.selects "NativeWorks$Linke\x72" ⟨"NativeWorks$Linke\x72", "placeSections", "(II)I"⟩ ⟨"NativeWorks$Linke\x72", "placeSections", "(II)I"⟩ ∈ rTs := List.mem_append_left _ (rBm35 (List.mem_of_getElem? (i := 29) rfl))
set_option maxRecDepth 100000 in
theorem kw1710 : Cond.methodLink "NativeWorks$Linke\x72" 114 ⟨"NativeWorks$Linke\x72", "hasBadWait", "()Z"⟩ ∈ rTs := List.mem_append_left _ (rBm35 (List.mem_of_getElem? (i := 30) rfl))
set_option maxRecDepth 100000 in
theorem kw1711 : Cond.instanceMethod ⟨"NativeWorks$Linke\x72", "hasBadWait", "()Z"⟩ ∈ rTs := List.mem_append_left _ (rBm35 (List.mem_of_getElem? (i := 31) rfl))
set_option maxRecDepth 100000 in
theorem kw1712 : Cond.selects "NativeWorks$Linke\x72" ⟨"NativeWorks$Linke\x72", "hasBadWait", "()Z"⟩ ⟨"NativeWorks$Linke\x72", "hasBadWait", "()Z"⟩ ∈ rTs := List.mem_append_left _ (rBm35 (List.mem_of_getElem? (i := 32) rfl))
set_option maxRecDepth 100000 in
theorem kw1713 : Cond.methodLink "NativeWorks$Linke\x72" 117 ⟨"NativeWorks$Linke\x72", "write", "()V"⟩ ∈ rTs := List.mem_append_left _ (rBm35 (List.mem_of_getElem? (i := 33) rfl))
set_option maxRecDepth 100000 in
theorem kw1714 : Cond.instanceMethod ⟨"NativeWorks$Linke\x72", "write", "()V"⟩ ∈ rTs := List.mem_append_left _ (rBm35 (List.mem_of_getElem? (i := 34) rfl))
set_option maxRecDepth 100000 in
theorem kw1715 : Cond.selects "NativeWorks$Linke\x72" ⟨"NativeWorks$Linke\x72", "write", "()V"⟩ ⟨"NativeWorks$Linke\x72", "write", "()V"⟩ ∈ rTs := List.mem_append_left _ (rBm35 (List.mem_of_getElem? (i := 35) rfl))
set_option maxRecDepth 100000 in
theorem kw1716 : Cond.methodLink "NativeWorks$Linke\x72" 120 ⟨"NativeWorks$Linke\x72", "writeNames", "()V"⟩ ∈ rTs := List.mem_append_left _ (rBm35 (List.mem_of_getElem? (i := 36) rfl))
set_option maxRecDepth 100000 in
theorem kw1717 : Cond.instanceMethod ⟨"NativeWorks$Linke\x72", "writeNames", "()V"⟩ ∈ rTs := List.mem_append_left _ (rBm35 (List.mem_of_getElem? (i := 37) rfl))
set_option maxRecDepth 100000 in
theorem kw1718 : Cond.selects "NativeWorks$Linke\x72" ⟨"NativeWorks$Linke\x72", "writeNames", "()V"⟩ ⟨"NativeWorks$Linke\x72", "writeNames", "()V"⟩ ∈ rTs := List.mem_append_left _ (rBm35 (List.mem_of_getElem? (i := 38) rfl))
set_option maxRecDepth 100000 in
theorem kw1719 : Cond.methodLink "NativeWorks$Linke\x72" 123 ⟨"NativeWorks$Linke\x72", "addressOf", "(I)I"⟩ ∈ rTs := List.mem_append_left _ (rBm35 (List.mem_of_getElem? (i := 39) rfl))
set_option maxRecDepth 100000 in
theorem kw1720 : Cond.instanceMethod ⟨"NativeWorks$Linke\x72", "addressOf", "(I)I"⟩ ∈ rTs := List.mem_append_left _ (rBm35 (List.mem_of_getElem? (i := 40) rfl))
set_option maxRecDepth 100000 in
theorem kw1721 : Cond.selects "NativeWorks$Linke\x72" ⟨"NativeWorks$Linke\x72", "addressOf", "(I)I"⟩ ⟨"NativeWorks$Linke\x72", "addressOf", "(I)I"⟩ ∈ rTs := List.mem_append_left _ (rBm35 (List.mem_of_getElem? (i := 41) rfl))
set_option maxRecDepth 100000 in
theorem kw1722 : Cond.fieldLink "NativeWorks$Linke\x72" 126 "NativeWorks$Linke\x72" "start" "I" ∈ rTs := List.mem_append_left _ (rBm35 (List.mem_of_getElem? (i := 42) rfl))
set_option maxRecDepth 100000 in
theorem kw1723 : Cond.fieldLink "NativeWorks$Linke\x72" 129 "NativeWorks$Linke\x72" "made" "Z" ∈ rTs := List.mem_append_left _ (rBm35 (List.mem_of_getElem? (i := 43) rfl))
set_option maxRecDepth 100000 in
theorem kw1724 : Cond.code ⟨"NativeWorks$Linke\x72", "olde\x72", "(II)I"⟩ prog_6_method_8_code 4 (Option.some FieldType.int) ∈ rTs := List.mem_append_left _ (rBm35 (List.mem_of_getElem? (i := 44) rfl))
set_option maxRecDepth 100000 in
theorem kw1725 : Cond.fieldLink "NativeWorks$Linke\x72" 150 "NativeWorks$Names" "letters" "[B" ∈ rTs := List.mem_append_left _ (rBm35 (List.mem_of_getElem? (i := 45) rfl))
set_option maxRecDepth 100000 in
theorem kw1726 : Cond.fieldLink "NativeWorks$Linke\x72" 153 "NativeWorks$Names" "from" "[I" ∈ rTs := List.mem_append_left _ (rBm35 (List.mem_of_getElem? (i := 46) rfl))
set_option maxRecDepth 100000 in
theorem kw1727 : Cond.code ⟨"NativeWorks$Linke\x72", "placeSections", "(II)I"⟩ prog_6_method_20_code 5 (Option.some FieldType.int) ∈ rTs := List.mem_append_left _ (rBm35 (List.mem_of_getElem? (i := 47) rfl))
set_option maxRecDepth 100000 in
theorem kw1728 : Cond.code ⟨"NativeWorks$Linke\x72", "resolve", "()V"⟩ prog_6_method_14_code 3 (Option.none : Option FieldType) ∈ rTs := List.mem_append_left _ (rBm36 (List.mem_of_getElem? (i := 0) rfl))
set_option maxRecDepth 100000 in
theorem kw1729 : Cond.code ⟨"NativeWorks$Linke\x72", "sectionOf", "(I)I"⟩ prog_6_method_15_code 2 (Option.some FieldType.int) ∈ rTs := List.mem_append_left _ (rBm36 (List.mem_of_getElem? (i := 1) rfl))
set_option maxRecDepth 100000 in
theorem kw1730 : Cond.methodLink "NativeWorks$Linke\x72" 158 ⟨"NativeWorks$Linke\x72", "isWanted", "(I)Z"⟩ ∈ rTs := List.mem_append_left _ (rBm36 (List.mem_of_getElem? (i := 2) rfl))
set_option maxRecDepth 100000 in
theorem kw1731 : Cond.instanceMethod ⟨"NativeWorks$Linke\x72", "isWanted", "(I)Z"⟩ ∈ rTs := List.mem_append_left _ (rBm36 (List.mem_of_getElem? (i := 3) rfl))
set_option maxRecDepth 100000 in
theorem kw1732 : Cond.selects "NativeWorks$Linke\x72" ⟨"NativeWorks$Linke\x72", "isWanted", "(I)Z"⟩ ⟨"NativeWorks$Linke\x72", "isWanted", "(I)Z"⟩ ∈ rTs := List.mem_append_left _ (rBm36 (List.mem_of_getElem? (i := 4) rfl))
set_option maxRecDepth 100000 in
theorem kw1733 : Cond.code ⟨"NativeWorks$Linke\x72", "valueOf", "(II)J"⟩ prog_6_method_22_code 9 (Option.some FieldType.long) ∈ rTs := List.mem_append_left _ (rBm36 (List.mem_of_getElem? (i := 5) rfl))
set_option maxRecDepth 100000 in
theorem kw1734 : Cond.fieldLink "NativeWorks$Linke\x72" 190 "NativeWorks$Units" "waitNumbers" "[J" ∈ rTs := List.mem_append_left _ (rBm36 (List.mem_of_getElem? (i := 6) rfl))
set_option maxRecDepth 100000 in
theorem kw1735 : Cond.code ⟨"NativeWorks$Linke\x72", "winne\x72", "(I)I"⟩ prog_6_method_12_code 6 (Option.some FieldType.int) ∈ rTs := List.mem_append_left _ (rBm36 (List.mem_of_getElem? (i := 7) rfl))
set_option maxRecDepth 100000 in
theorem kw1736 : Cond.code ⟨"NativeWorks$Linke\x72", "writeNames", "()V"⟩ prog_6_method_25_code 4 (Option.none : Option FieldType) ∈ rTs := List.mem_append_left _ (rBm36 (List.mem_of_getElem? (i := 8) rfl))
set_option maxRecDepth 100000 in
theorem kw1737 : Cond.methodLink "NativeWorks$Linke\x72" 221 ⟨"NativeWorks$Names", "cut", "(I)V"⟩ ∈ rTs := List.mem_append_left _ (rBm36 (List.mem_of_getElem? (i := 9) rfl))
set_option maxRecDepth 100000 in
theorem kw1738 : Cond.methodLink "NativeWorks$Linke\x72" 224 ⟨"NativeWorks$Names", "add", "([BII)I"⟩ ∈ rTs := List.mem_append_left _ (rBm36 (List.mem_of_getElem? (i := 10) rfl))
set_option maxRecDepth 100000 in
theorem kw1739 : Cond.code ⟨"NativeWorks$Linke\x72", "writeWait", "(II)V"⟩ prog_6_method_24_code 10 (Option.none : Option FieldType) ∈ rTs := List.mem_append_left _ (rBm36 (List.mem_of_getElem? (i := 11) rfl))
set_option maxRecDepth 100000 in
theorem kw1740 : Cond.code ⟨"NativeWorks$Linke\x72", "write", "()V"⟩ prog_6_method_23_code 4 (Option.none : Option FieldType) ∈ rTs := List.mem_append_left _ (rBm36 (List.mem_of_getElem? (i := 12) rfl))
set_option maxRecDepth 100000 in
theorem kw1741 : Cond.fieldLink "NativeWorks$Linke\x72" 195 "NativeWorks$Linke\x72" "length" "I" ∈ rTs := List.mem_append_left _ (rBm36 (List.mem_of_getElem? (i := 13) rfl))
set_option maxRecDepth 100000 in
theorem kw1742 : Cond.methodLink "NativeWorks$Linke\x72" 198 ⟨"java/util/Arrays", "fill", "([BIIB)V"⟩ ∈ rTs := List.mem_append_left _ (rBm36 (List.mem_of_getElem? (i := 14) rfl))
set_option maxRecDepth 100000 in
theorem kw1743 : Cond.methodLink "NativeWorks$Linke\x72" 201 ⟨"java/util/Arrays", "fill", "([IIII)V"⟩ ∈ rTs := List.mem_append_left _ (rBm36 (List.mem_of_getElem? (i := 15) rfl))
set_option maxRecDepth 100000 in
theorem kw1744 : Cond.static ⟨"java/util/Arrays", "fill", "([IIII)V"⟩ ∈ rTs := List.mem_append_left _ (rBm36 (List.mem_of_getElem? (i := 16) rfl))
set_option maxRecDepth 100000 in
theorem kw1745 : Cond.code ⟨"java/util/Arrays", "fill", "([IIII)V"⟩ prog_38_method_104_code 5 (Option.none : Option FieldType) ∈ rTs := List.mem_append_left _ (rBm36 (List.mem_of_getElem? (i := 17) rfl))
set_option maxRecDepth 100000 in
theorem kw1746 : Cond.fieldLink "NativeWorks$Linke\x72" 204 "NativeWorks$Units" "bytes" "[B" ∈ rTs := List.mem_append_left _ (rBm36 (List.mem_of_getElem? (i := 18) rfl))
set_option maxRecDepth 100000 in
theorem kw1747 : Cond.methodLink "NativeWorks$Linke\x72" 205 ⟨"java/lang/System", "arraycopy", "(Ljava/lang/Object;ILjava/lang/Object;II)V"⟩ ∈ rTs := List.mem_append_left _ (rBm36 (List.mem_of_getElem? (i := 19) rfl))
set_option maxRecDepth 100000 in
theorem kw1748 : Cond.methodLink "NativeWorks$Linke\x72" 211 ⟨"NativeWorks$Linke\x72", "writeWait", "(II)V"⟩ ∈ rTs := List.mem_append_left _ (rBm36 (List.mem_of_getElem? (i := 20) rfl))
set_option maxRecDepth 100000 in
theorem kw1749 : Cond.instanceMethod ⟨"NativeWorks$Linke\x72", "writeWait", "(II)V"⟩ ∈ rTs := List.mem_append_left _ (rBm36 (List.mem_of_getElem? (i := 21) rfl))
set_option maxRecDepth 100000 in
theorem kw1750 : Cond.selects "NativeWorks$Linke\x72" ⟨"NativeWorks$Linke\x72", "writeWait", "(II)V"⟩ ⟨"NativeWorks$Linke\x72", "writeWait", "(II)V"⟩ ∈ rTs := List.mem_append_left _ (rBm36 (List.mem_of_getElem? (i := 22) rfl))
set_option maxRecDepth 100000 in
theorem kw1751 : Cond.constant "NativeWorks$Linke\x72" 214 (nI 65536) ∈ rTs := List.mem_append_left _ (rBm36 (List.mem_of_getElem? (i := 23) (by decide +kernel)))
set_option maxRecDepth 100000 in
theorem kw1752 : Cond.constant "NativeWorks$Linke\x72" 215 (nI 65535) ∈ rTs := List.mem_append_left _ (rBm36 (List.mem_of_getElem? (i := 24) (by decide +kernel)))
set_option maxRecDepth 100000 in
theorem kw1753 : Cond.methodLink "NativeWorks$Linke\x72" 216 ⟨"java/lang/Math", "min", "(II)I"⟩ ∈ rTs := List.mem_append_left _ (rBm36 (List.mem_of_getElem? (i := 25) rfl))
set_option maxRecDepth 100000 in
theorem kw1754 : Cond.code ⟨"NativeWorks$Machine", "address", "()J"⟩ prog_7_method_11_code 3 (Option.some FieldType.long) ∈ rTs := List.mem_append_left _ (rBm36 (List.mem_of_getElem? (i := 26) rfl))
set_option maxRecDepth 100000 in
theorem kw1755 : Cond.fieldLink "NativeWorks$Machine" 131 "NativeWorks$Instruction" "displacement" "J" ∈ rTs := List.mem_append_left _ (rBm36 (List.mem_of_getElem? (i := 27) rfl))
set_option maxRecDepth 100000 in
theorem kw1756 : Cond.fieldLink "NativeWorks$Machine" 134 "NativeWorks$Instruction" "base" "I" ∈ rTs := List.mem_append_left _ (rBm36 (List.mem_of_getElem? (i := 28) rfl))
set_option maxRecDepth 100000 in
theorem kw1757 : Cond.fieldLink "NativeWorks$Machine" 118 "NativeWorks$Machine" "next" "J" ∈ rTs := List.mem_append_left _ (rBm36 (List.mem_of_getElem? (i := 29) rfl))
set_option maxRecDepth 100000 in
theorem kw1758 : Cond.fieldLink "NativeWorks$Machine" 137 "NativeWorks$Instruction" "index" "I" ∈ rTs := List.mem_append_left _ (rBm36 (List.mem_of_getElem? (i := 30) rfl))
set_option maxRecDepth 100000 in
theorem kw1759 : Cond.fieldLink "NativeWorks$Machine" 140 "NativeWorks$Instruction" "shift" "I" ∈ rTs := List.mem_append_left _ (rBm36 (List.mem_of_getElem? (i := 31) rfl))
set_option maxRecDepth 100000 in
theorem kw1760 : Cond.code ⟨"NativeWorks$Machine", "arithmetic", "(I)V"⟩ prog_7_method_27_code 13 (Option.none : Option FieldType) ∈ rTs := List.mem_append_left _ (rBm36 (List.mem_of_getElem? (i := 32) rfl))
set_option maxRecDepth 100000 in
theorem kw1761 : Cond.fieldLink "NativeWorks$Machine" 235 "NativeWorks$Instruction" "size" "I" ∈ rTs := List.mem_append_left _ (rBm36 (List.mem_of_getElem? (i := 33) rfl))
set_option maxRecDepth 100000 in
theorem kw1762 : Cond.methodLink "NativeWorks$Machine" 238 ⟨"NativeWorks$Machine", "value", "(II)J"⟩ ∈ rTs := List.mem_append_left _ (rBm36 (List.mem_of_getElem? (i := 34) rfl))
set_option maxRecDepth 100000 in
theorem kw1763 : Cond.instanceMethod ⟨"NativeWorks$Machine", "value", "(II)J"⟩ ∈ rTs := List.mem_append_left _ (rBm36 (List.mem_of_getElem? (i := 35) rfl))
set_option maxRecDepth 100000 in
theorem kw1764 : Cond.selects "NativeWorks$Machine" ⟨"NativeWorks$Machine", "value", "(II)J"⟩ ⟨"NativeWorks$Machine", "value", "(II)J"⟩ ∈ rTs := List.mem_append_left _ (rBm36 (List.mem_of_getElem? (i := 36) rfl))
set_option maxRecDepth 100000 in
theorem kw1765 : Cond.fieldLink "NativeWorks$Machine" 70 "NativeWorks$Machine" "stop" "I" ∈ rTs := List.mem_append_left _ (rBm36 (List.mem_of_getElem? (i := 37) rfl))
set_option maxRecDepth 100000 in
theorem kw1766 : Cond.methodLink "NativeWorks$Machine" 242 ⟨"NativeWorks$Machine", "has", "(I)Z"⟩ ∈ rTs := List.mem_append_left _ (rBm36 (List.mem_of_getElem? (i := 38) rfl))
set_option maxRecDepth 100000 in
theorem kw1767 : Cond.instanceMethod ⟨"NativeWorks$Machine", "has", "(I)Z"⟩ ∈ rTs := List.mem_append_left _ (rBm36 (List.mem_of_getElem? (i := 39) rfl))
set_option maxRecDepth 100000 in
theorem kw1768 : Cond.selects "NativeWorks$Machine" ⟨"NativeWorks$Machine", "has", "(I)Z"⟩ ⟨"NativeWorks$Machine", "has", "(I)Z"⟩ ∈ rTs := List.mem_append_left _ (rBm36 (List.mem_of_getElem? (i := 40) rfl))
set_option maxRecDepth 100000 in
theorem kw1769 : Cond.methodLink "NativeWorks$Machine" 246 ⟨"NativeWorks$Machine", "put", "(IIJ)Z"⟩ ∈ rTs := List.mem_append_left _ (rBm36 (List.mem_of_getElem? (i := 41) rfl))
set_option maxRecDepth 100000 in
theorem kw1770 : Cond.instanceMethod ⟨"NativeWorks$Machine", "put", "(IIJ)Z"⟩ ∈ rTs := List.mem_append_left _ (rBm36 (List.mem_of_getElem? (i := 42) rfl))
set_option maxRecDepth 100000 in
theorem kw1771 : Cond.selects "NativeWorks$Machine" ⟨"NativeWorks$Machine", "put", "(IIJ)Z"⟩ ⟨"NativeWorks$Machine", "put", "(IIJ)Z"⟩ ∈ rTs := List.mem_append_left _ (rBm36 (List.mem_of_getElem? (i := 43) rfl))
set_option maxRecDepth 100000 in
theorem kw1772 : Cond.methodLink "NativeWorks$Machine" 250 ⟨"NativeWorks$Machine", "setSum", "(JJJI)V"⟩ ∈ rTs := List.mem_append_left _ (rBm36 (List.mem_of_getElem? (i := 44) rfl))
set_option maxRecDepth 100000 in
theorem kw1773 : Cond.instanceMethod ⟨"NativeWorks$Machine", "setSum", "(JJJI)V"⟩ ∈ rTs := List.mem_append_left _ (rBm36 (List.mem_of_getElem? (i := 45) rfl))
set_option maxRecDepth 100000 in
theorem kw1774 : Cond.selects "NativeWorks$Machine" ⟨"NativeWorks$Machine", "setSum", "(JJJI)V"⟩ ⟨"NativeWorks$Machine", "setSum", "(JJJI)V"⟩ ∈ rTs := List.mem_append_left _ (rBm36 (List.mem_of_getElem? (i := 46) rfl))
set_option maxRecDepth 100000 in
theorem kw1775 : Cond.methodLink "NativeWorks$Machine" 254 ⟨"NativeWorks$Machine", "setDifference", "(JJJI)V"⟩ ∈ rTs := List.mem_append_left _ (rBm36 (List.mem_of_getElem? (i := 47) rfl))
set_option maxRecDepth 100000 in
theorem kw1776 : Cond.instanceMethod ⟨"NativeWorks$Machine", "setDifference", "(JJJI)V"⟩ ∈ rTs := List.mem_append_left _ (rBm37 (List.mem_of_getElem? (i := 0) rfl))
set_option maxRecDepth 100000 in
theorem kw1777 : Cond.selects "NativeWorks$Machine" ⟨"NativeWorks$Machine", "setDifference", "(JJJI)V"⟩ ⟨"NativeWorks$Machine", "setDifference", "(JJJI)V"⟩ ∈ rTs := List.mem_append_left _ (rBm37 (List.mem_of_getElem? (i := 1) rfl))
set_option maxRecDepth 100000 in
theorem kw1778 : Cond.methodLink "NativeWorks$Machine" 257 ⟨"NativeWorks$Machine", "setSpill", "(Z)V"⟩ ∈ rTs := List.mem_append_left _ (rBm37 (List.mem_of_getElem? (i := 2) rfl))
set_option maxRecDepth 100000 in
theorem kw1779 : Cond.instanceMethod ⟨"NativeWorks$Machine", "setSpill", "(Z)V"⟩ ∈ rTs := List.mem_append_left _ (rBm37 (List.mem_of_getElem? (i := 3) rfl))
set_option maxRecDepth 100000 in
theorem kw1780 : Cond.selects "NativeWorks$Machine" ⟨"NativeWorks$Machine", "setSpill", "(Z)V"⟩ ⟨"NativeWorks$Machine", "setSpill", "(Z)V"⟩ ∈ rTs := List.mem_append_left _ (rBm37 (List.mem_of_getElem? (i := 4) rfl))
set_option maxRecDepth 100000 in
theorem kw1781 : Cond.methodLink "NativeWorks$Machine" 231 ⟨"NativeWorks$Machine", "setResult", "(JI)V"⟩ ∈ rTs := List.mem_append_left _ (rBm37 (List.mem_of_getElem? (i := 5) rfl))
set_option maxRecDepth 100000 in
theorem kw1782 : Cond.instanceMethod ⟨"NativeWorks$Machine", "setResult", "(JI)V"⟩ ∈ rTs := List.mem_append_left _ (rBm37 (List.mem_of_getElem? (i := 6) rfl))
set_option maxRecDepth 100000 in
theorem kw1783 : Cond.selects "NativeWorks$Machine" ⟨"NativeWorks$Machine", "setResult", "(JI)V"⟩ ⟨"NativeWorks$Machine", "setResult", "(JI)V"⟩ ∈ rTs := List.mem_append_left _ (rBm37 (List.mem_of_getElem? (i := 7) rfl))
set_option maxRecDepth 100000 in
theorem kw1784 : Cond.code ⟨"NativeWorks$Machine", "below", "(JJ)Z"⟩ prog_7_method_34_code 4 (Option.some FieldType.boolean) ∈ rTs := List.mem_append_left _ (rBm37 (List.mem_of_getElem? (i := 8) rfl))
set_option maxRecDepth 100000 in
theorem kw1785 : Cond.constantLong "NativeWorks$Machine" 297 (lN 9223372036854775808) ∈ rTs := List.mem_append_left _ (rBm37 (List.mem_of_getElem? (i := 9) (by decide +kernel)))
set_option maxRecDepth 100000 in
theorem kw1786 : Cond.code ⟨"NativeWorks$Machine", "bits", "(I)V"⟩ prog_7_method_45_code 9 (Option.none : Option FieldType) ∈ rTs := List.mem_append_left _ (rBm37 (List.mem_of_getElem? (i := 10) rfl))
set_option maxRecDepth 100000 in
theorem kw1787 : Cond.methodLink "NativeWorks$Machine" 219 ⟨"NativeWorks$Machine", "flag", "(IZ)V"⟩ ∈ rTs := List.mem_append_left _ (rBm37 (List.mem_of_getElem? (i := 11) rfl))
set_option maxRecDepth 100000 in
theorem kw1788 : Cond.instanceMethod ⟨"NativeWorks$Machine", "flag", "(IZ)V"⟩ ∈ rTs := List.mem_append_left _ (rBm37 (List.mem_of_getElem? (i := 12) rfl))
set_option maxRecDepth 100000 in
theorem kw1789 : Cond.selects "NativeWorks$Machine" ⟨"NativeWorks$Machine", "flag", "(IZ)V"⟩ ⟨"NativeWorks$Machine", "flag", "(IZ)V"⟩ ∈ rTs := List.mem_append_left _ (rBm37 (List.mem_of_getElem? (i := 13) rfl))
set_option maxRecDepth 100000 in
theorem kw1790 : Cond.methodLink "NativeWorks$Machine" 341 ⟨"NativeWorks$Machine", "lowest", "(J)I"⟩ ∈ rTs := List.mem_append_left _ (rBm37 (List.mem_of_getElem? (i := 14) rfl))
set_option maxRecDepth 100000 in
theorem kw1791 : Cond.static ⟨"NativeWorks$Machine", "lowest", "(J)I"⟩ ∈ rTs := List.mem_append_left _ (rBm37 (List.mem_of_getElem? (i := 15) rfl))
set_option maxRecDepth 100000 in
theorem kw1792 : Cond.code ⟨"NativeWorks$Machine", "lowest", "(J)I"⟩ prog_7_method_46_code 3 (Option.some FieldType.int) ∈ rTs := List.mem_append_left _ (rBm37 (List.mem_of_getElem? (i := 16) rfl))
set_option maxRecDepth 100000 in
theorem kw1793 : Cond.methodLink "NativeWorks$Machine" 344 ⟨"NativeWorks$Machine", "highest", "(J)I"⟩ ∈ rTs := List.mem_append_left _ (rBm37 (List.mem_of_getElem? (i := 17) rfl))
set_option maxRecDepth 100000 in
theorem kw1794 : Cond.static ⟨"NativeWorks$Machine", "highest", "(J)I"⟩ ∈ rTs := List.mem_append_left _ (rBm37 (List.mem_of_getElem? (i := 18) rfl))
set_option maxRecDepth 100000 in
theorem kw1795 : Cond.code ⟨"NativeWorks$Machine", "highest", "(J)I"⟩ prog_7_method_47_code 3 (Option.some FieldType.int) ∈ rTs := List.mem_append_left _ (rBm37 (List.mem_of_getElem? (i := 19) rfl))
set_option maxRecDepth 100000 in
theorem kw1796 : Cond.fieldLink "NativeWorks$Machine" 283 "NativeWorks$Instruction" "count" "I" ∈ rTs := List.mem_append_left _ (rBm37 (List.mem_of_getElem? (i := 20) rfl))
set_option maxRecDepth 100000 in
theorem kw1797 : Cond.methodLink "NativeWorks$Machine" 347 ⟨"NativeWorks$Machine", "reversed", "(JI)J"⟩ ∈ rTs := List.mem_append_left _ (rBm37 (List.mem_of_getElem? (i := 21) rfl))
set_option maxRecDepth 100000 in
theorem kw1798 : Cond.static ⟨"NativeWorks$Machine", "reversed", "(JI)J"⟩ ∈ rTs := List.mem_append_left _ (rBm37 (List.mem_of_getElem? (i := 22) rfl))
set_option maxRecDepth 100000 in
theorem kw1799 : Cond.code ⟨"NativeWorks$Machine", "reversed", "(JI)J"⟩ prog_7_method_48_code 6 (Option.some FieldType.long) ∈ rTs := List.mem_append_left _ (rBm37 (List.mem_of_getElem? (i := 23) rfl))
set_option maxRecDepth 100000 in
theorem kw1800 : Cond.fieldLink "NativeWorks$Machine" 178 "NativeWorks$Instruction" "kind" "[I" ∈ rTs := List.mem_append_left _ (rBm37 (List.mem_of_getElem? (i := 24) rfl))
set_option maxRecDepth 100000 in
theorem kw1801 : Cond.methodLink "NativeWorks$Machine" 185 ⟨"NativeWorks$Machine", "mask", "(I)J"⟩ ∈ rTs := List.mem_append_left _ (rBm37 (List.mem_of_getElem? (i := 25) rfl))
set_option maxRecDepth 100000 in
theorem kw1802 : Cond.static ⟨"NativeWorks$Machine", "mask", "(I)J"⟩ ∈ rTs := List.mem_append_left _ (rBm37 (List.mem_of_getElem? (i := 26) rfl))
set_option maxRecDepth 100000 in
theorem kw1803 : Cond.code ⟨"NativeWorks$Machine", "mask", "(I)J"⟩ prog_7_method_13_code 1 (Option.some FieldType.long) ∈ rTs := List.mem_append_left _ (rBm37 (List.mem_of_getElem? (i := 27) rfl))
set_option maxRecDepth 100000 in
theorem kw1804 : Cond.methodLink "NativeWorks$Machine" 204 ⟨"NativeWorks$Machine", "change", "(IIJ)V"⟩ ∈ rTs := List.mem_append_left _ (rBm37 (List.mem_of_getElem? (i := 28) rfl))
set_option maxRecDepth 100000 in
theorem kw1805 : Cond.instanceMethod ⟨"NativeWorks$Machine", "change", "(IIJ)V"⟩ ∈ rTs := List.mem_append_left _ (rBm37 (List.mem_of_getElem? (i := 29) rfl))
set_option maxRecDepth 100000 in
theorem kw1806 : Cond.selects "NativeWorks$Machine" ⟨"NativeWorks$Machine", "change", "(IIJ)V"⟩ ⟨"NativeWorks$Machine", "change", "(IIJ)V"⟩ ∈ rTs := List.mem_append_left _ (rBm37 (List.mem_of_getElem? (i := 30) rfl))
set_option maxRecDepth 100000 in
theorem kw1807 : Cond.code ⟨"NativeWorks$Machine", "boot", "(LNativeWorks$Linker;)V"⟩ prog_7_method_2_code 2 (Option.none : Option FieldType) ∈ rTs := List.mem_append_left _ (rBm37 (List.mem_of_getElem? (i := 31) rfl))
set_option maxRecDepth 100000 in
theorem kw1808 : Cond.methodLink "NativeWorks$Machine" 40 ⟨"NativeWorks$Memory", "fill", "(LNativeWorks$Linker;)V"⟩ ∈ rTs := List.mem_append_left _ (rBm37 (List.mem_of_getElem? (i := 32) rfl))
set_option maxRecDepth 100000 in
theorem kw1809 : Cond.instanceMethod ⟨"NativeWorks$Memory", "fill", "(LNativeWorks$Linker;)V"⟩ ∈ rTs := List.mem_append_left _ (rBm37 (List.mem_of_getElem? (i := 33) rfl))
set_option maxRecDepth 100000 in
theorem kw1810 : Cond.selects "NativeWorks$Memory" ⟨"NativeWorks$Memory", "fill", "(LNativeWorks$Linker;)V"⟩ ⟨"NativeWorks$Memory", "fill", "(LNativeWorks$Linker;)V"⟩ ∈ rTs := List.mem_append_left _ (rBm37 (List.mem_of_getElem? (i := 34) rfl))
set_option maxRecDepth 100000 in
theorem kw1811 : Cond.methodLink "NativeWorks$Machine" 44 ⟨"java/util/Arrays", "fill", "([JJ)V"⟩ ∈ rTs := List.mem_append_left _ (rBm37 (List.mem_of_getElem? (i := 35) rfl))
set_option maxRecDepth 100000 in
theorem kw1812 : Cond.static ⟨"java/util/Arrays", "fill", "([JJ)V"⟩ ∈ rTs := List.mem_append_left _ (rBm37 (List.mem_of_getElem? (i := 36) rfl))
set_option maxRecDepth 100000 in
theorem kw1813 : Cond.code ⟨"java/util/Arrays", "fill", "([JJ)V"⟩ prog_38_method_101_code 5 (Option.none : Option FieldType) ∈ rTs := List.mem_append_left _ (rBm37 (List.mem_of_getElem? (i := 37) rfl))
set_option maxRecDepth 100000 in
theorem kw1814 : Cond.constantLong "NativeWorks$Machine" 49 (lN 2147479552) ∈ rTs := List.mem_append_left _ (rBm37 (List.mem_of_getElem? (i := 38) (by decide +kernel)))
set_option maxRecDepth 100000 in
theorem kw1815 : Cond.fieldLink "NativeWorks$Machine" 51 "NativeWorks$Linke\x72" "start" "I" ∈ rTs := List.mem_append_left _ (rBm37 (List.mem_of_getElem? (i := 39) rfl))
set_option maxRecDepth 100000 in
theorem kw1816 : Cond.fieldLink "NativeWorks$Machine" 57 "NativeWorks$Machine" "ip" "J" ∈ rTs := List.mem_append_left _ (rBm37 (List.mem_of_getElem? (i := 40) rfl))
set_option maxRecDepth 100000 in
theorem kw1817 : Cond.fieldLink "NativeWorks$Machine" 67 "NativeWorks$Machine" "written" "I" ∈ rTs := List.mem_append_left _ (rBm37 (List.mem_of_getElem? (i := 41) rfl))
set_option maxRecDepth 100000 in
theorem kw1818 : Cond.fieldLink "NativeWorks$Machine" 73 "NativeWorks$Machine" "stopValue" "J" ∈ rTs := List.mem_append_left _ (rBm37 (List.mem_of_getElem? (i := 42) rfl))
set_option maxRecDepth 100000 in
theorem kw1819 : Cond.fieldLink "NativeWorks$Machine" 76 "NativeWorks$Machine" "steps" "I" ∈ rTs := List.mem_append_left _ (rBm37 (List.mem_of_getElem? (i := 43) rfl))
set_option maxRecDepth 100000 in
theorem kw1820 : Cond.code ⟨"NativeWorks$Machine", "change", "(IIJ)V"⟩ prog_7_method_20_code 5 (Option.none : Option FieldType) ∈ rTs := List.mem_append_left _ (rBm37 (List.mem_of_getElem? (i := 44) rfl))
set_option maxRecDepth 100000 in
theorem kw1821 : Cond.constantLong "NativeWorks$Machine" 215 (lN 4294967295) ∈ rTs := List.mem_append_left _ (rBm37 (List.mem_of_getElem? (i := 45) (by decide +kernel)))
set_option maxRecDepth 100000 in
theorem kw1822 : Cond.constantLong "NativeWorks$Machine" 217 (lN 18446744073709551360) ∈ rTs := List.mem_append_left _ (rBm37 (List.mem_of_getElem? (i := 46) (by decide +kernel)))
set_option maxRecDepth 100000 in
theorem kw1823 : Cond.constantLong "NativeWorks$Machine" 193 (lN 255) ∈ rTs := List.mem_append_left _ (rBm37 (List.mem_of_getElem? (i := 47) (by decide +kernel)))
set_option maxRecDepth 100000 in
theorem kw1824 : Cond.code ⟨"NativeWorks$Machine", "copyOrFill", "(I)V"⟩ prog_7_method_49_code 6 (Option.none : Option FieldType) ∈ rTs := List.mem_append_left _ (rBm38 (List.mem_of_getElem? (i := 0) rfl))
set_option maxRecDepth 100000 in
theorem kw1825 : Cond.methodLink "NativeWorks$Machine" 189 ⟨"NativeWorks$Machine", "fetched", "(JI)J"⟩ ∈ rTs := List.mem_append_left _ (rBm38 (List.mem_of_getElem? (i := 1) rfl))
set_option maxRecDepth 100000 in
theorem kw1826 : Cond.instanceMethod ⟨"NativeWorks$Machine", "fetched", "(JI)J"⟩ ∈ rTs := List.mem_append_left _ (rBm38 (List.mem_of_getElem? (i := 2) rfl))
set_option maxRecDepth 100000 in
theorem kw1827 : Cond.selects "NativeWorks$Machine" ⟨"NativeWorks$Machine", "fetched", "(JI)J"⟩ ⟨"NativeWorks$Machine", "fetched", "(JI)J"⟩ ∈ rTs := List.mem_append_left _ (rBm38 (List.mem_of_getElem? (i := 3) rfl))
set_option maxRecDepth 100000 in
theorem kw1828 : Cond.methodLink "NativeWorks$Machine" 208 ⟨"NativeWorks$Machine", "store", "(JIJ)Z"⟩ ∈ rTs := List.mem_append_left _ (rBm38 (List.mem_of_getElem? (i := 4) rfl))
set_option maxRecDepth 100000 in
theorem kw1829 : Cond.instanceMethod ⟨"NativeWorks$Machine", "store", "(JIJ)Z"⟩ ∈ rTs := List.mem_append_left _ (rBm38 (List.mem_of_getElem? (i := 5) rfl))
set_option maxRecDepth 100000 in
theorem kw1830 : Cond.selects "NativeWorks$Machine" ⟨"NativeWorks$Machine", "store", "(JIJ)Z"⟩ ⟨"NativeWorks$Machine", "store", "(JIJ)Z"⟩ ∈ rTs := List.mem_append_left _ (rBm38 (List.mem_of_getElem? (i := 6) rfl))
set_option maxRecDepth 100000 in
theorem kw1831 : Cond.code ⟨"NativeWorks$Machine", "divide", "(JIZ)V"⟩ prog_7_method_33_code 17 (Option.none : Option FieldType) ∈ rTs := List.mem_append_left _ (rBm38 (List.mem_of_getElem? (i := 7) rfl))
set_option maxRecDepth 100000 in
theorem kw1832 : Cond.constantLong "NativeWorks$Machine" 277 (lN 65535) ∈ rTs := List.mem_append_left _ (rBm38 (List.mem_of_getElem? (i := 8) (by decide +kernel)))
set_option maxRecDepth 100000 in
theorem kw1833 : Cond.methodLink "NativeWorks$Machine" 265 ⟨"NativeWorks$Machine", "signed", "(JI)J"⟩ ∈ rTs := List.mem_append_left _ (rBm38 (List.mem_of_getElem? (i := 9) rfl))
set_option maxRecDepth 100000 in
theorem kw1834 : Cond.static ⟨"NativeWorks$Machine", "signed", "(JI)J"⟩ ∈ rTs := List.mem_append_left _ (rBm38 (List.mem_of_getElem? (i := 10) rfl))
set_option maxRecDepth 100000 in
theorem kw1835 : Cond.code ⟨"NativeWorks$Machine", "signed", "(JI)J"⟩ prog_7_method_15_code 3 (Option.some FieldType.long) ∈ rTs := List.mem_append_left _ (rBm38 (List.mem_of_getElem? (i := 11) rfl))
set_option maxRecDepth 100000 in
theorem kw1836 : Cond.constantLong "NativeWorks$Machine" 176 (lN 18446744073709551615) ∈ rTs := List.mem_append_left _ (rBm38 (List.mem_of_getElem? (i := 12) (by decide +kernel)))
set_option maxRecDepth 100000 in
theorem kw1837 : Cond.methodLink "NativeWorks$Machine" 286 ⟨"NativeWorks$Machine", "below", "(JJ)Z"⟩ ∈ rTs := List.mem_append_left _ (rBm38 (List.mem_of_getElem? (i := 13) rfl))
set_option maxRecDepth 100000 in
theorem kw1838 : Cond.static ⟨"NativeWorks$Machine", "below", "(JJ)Z"⟩ ∈ rTs := List.mem_append_left _ (rBm38 (List.mem_of_getElem? (i := 14) rfl))
set_option maxRecDepth 100000 in
theorem kw1839 : Cond.methodLink "NativeWorks$Machine" 98 ⟨"NativeWorks$Machine", "halt", "(IJ)V"⟩ ∈ rTs := List.mem_append_left _ (rBm38 (List.mem_of_getElem? (i := 15) rfl))
set_option maxRecDepth 100000 in
theorem kw1840 : Cond.instanceMethod ⟨"NativeWorks$Machine", "halt", "(IJ)V"⟩ ∈ rTs := List.mem_append_left _ (rBm38 (List.mem_of_getElem? (i := 16) rfl))
set_option maxRecDepth 100000 in
theorem kw1841 : Cond.selects "NativeWorks$Machine" ⟨"NativeWorks$Machine", "halt", "(IJ)V"⟩ ⟨"NativeWorks$Machine", "halt", "(IJ)V"⟩ ∈ rTs := List.mem_append_left _ (rBm38 (List.mem_of_getElem? (i := 17) rfl))
set_option maxRecDepth 100000 in
theorem kw1842 : Cond.methodLink "NativeWorks$Machine" 290 ⟨"NativeWorks$Machine", "quotient", "(JJJ)J"⟩ ∈ rTs := List.mem_append_left _ (rBm38 (List.mem_of_getElem? (i := 18) rfl))
set_option maxRecDepth 100000 in
theorem kw1843 : Cond.instanceMethod ⟨"NativeWorks$Machine", "quotient", "(JJJ)J"⟩ ∈ rTs := List.mem_append_left _ (rBm38 (List.mem_of_getElem? (i := 19) rfl))
set_option maxRecDepth 100000 in
theorem kw1844 : Cond.selects "NativeWorks$Machine" ⟨"NativeWorks$Machine", "quotient", "(JJJ)J"⟩ ⟨"NativeWorks$Machine", "quotient", "(JJJ)J"⟩ ∈ rTs := List.mem_append_left _ (rBm38 (List.mem_of_getElem? (i := 20) rfl))
set_option maxRecDepth 100000 in
theorem kw1845 : Cond.methodLink "NativeWorks$Machine" 223 ⟨"NativeWorks$Machine", "top", "(I)J"⟩ ∈ rTs := List.mem_append_left _ (rBm38 (List.mem_of_getElem? (i := 21) rfl))
set_option maxRecDepth 100000 in
theorem kw1846 : Cond.static ⟨"NativeWorks$Machine", "top", "(I)J"⟩ ∈ rTs := List.mem_append_left _ (rBm38 (List.mem_of_getElem? (i := 22) rfl))
set_option maxRecDepth 100000 in
theorem kw1847 : Cond.code ⟨"NativeWorks$Machine", "top", "(I)J"⟩ prog_7_method_14_code 1 (Option.some FieldType.long) ∈ rTs := List.mem_append_left _ (rBm38 (List.mem_of_getElem? (i := 23) rfl))
set_option maxRecDepth 100000 in
theorem kw1848 : Cond.fieldLink "NativeWorks$Machine" 294 "NativeWorks$Machine" "rest" "J" ∈ rTs := List.mem_append_left _ (rBm38 (List.mem_of_getElem? (i := 24) rfl))
set_option maxRecDepth 100000 in
theorem kw1849 : Cond.constantLong "NativeWorks$Machine" 275 (lN 18446744073709486080) ∈ rTs := List.mem_append_left _ (rBm38 (List.mem_of_getElem? (i := 25) (by decide +kernel)))
set_option maxRecDepth 100000 in
theorem kw1850 : Cond.code ⟨"NativeWorks$Machine", "execute", "()V"⟩ prog_7_method_12_code 2 (Option.none : Option FieldType) ∈ rTs := List.mem_append_left _ (rBm38 (List.mem_of_getElem? (i := 26) rfl))
set_option maxRecDepth 100000 in
theorem kw1851 : Cond.fieldLink "NativeWorks$Machine" 143 "NativeWorks$Instruction" "op" "I" ∈ rTs := List.mem_append_left _ (rBm38 (List.mem_of_getElem? (i := 27) rfl))
set_option maxRecDepth 100000 in
theorem kw1852 : Cond.methodLink "NativeWorks$Machine" 146 ⟨"NativeWorks$Machine", "arithmetic", "(I)V"⟩ ∈ rTs := List.mem_append_left _ (rBm38 (List.mem_of_getElem? (i := 28) rfl))
set_option maxRecDepth 100000 in
theorem kw1853 : Cond.instanceMethod ⟨"NativeWorks$Machine", "arithmetic", "(I)V"⟩ ∈ rTs := List.mem_append_left _ (rBm38 (List.mem_of_getElem? (i := 29) rfl))
set_option maxRecDepth 100000 in
theorem kw1854 : Cond.selects "NativeWorks$Machine" ⟨"NativeWorks$Machine", "arithmetic", "(I)V"⟩ ⟨"NativeWorks$Machine", "arithmetic", "(I)V"⟩ ∈ rTs := List.mem_append_left _ (rBm38 (List.mem_of_getElem? (i := 30) rfl))
set_option maxRecDepth 100000 in
theorem kw1855 : Cond.methodLink "NativeWorks$Machine" 150 ⟨"NativeWorks$Machine", "move", "(I)V"⟩ ∈ rTs := List.mem_append_left _ (rBm38 (List.mem_of_getElem? (i := 31) rfl))
set_option maxRecDepth 100000 in
theorem kw1856 : Cond.instanceMethod ⟨"NativeWorks$Machine", "move", "(I)V"⟩ ∈ rTs := List.mem_append_left _ (rBm38 (List.mem_of_getElem? (i := 32) rfl))
set_option maxRecDepth 100000 in
theorem kw1857 : Cond.selects "NativeWorks$Machine" ⟨"NativeWorks$Machine", "move", "(I)V"⟩ ⟨"NativeWorks$Machine", "move", "(I)V"⟩ ∈ rTs := List.mem_append_left _ (rBm38 (List.mem_of_getElem? (i := 33) rfl))
set_option maxRecDepth 100000 in
theorem kw1858 : Cond.methodLink "NativeWorks$Machine" 153 ⟨"NativeWorks$Machine", "single", "(I)V"⟩ ∈ rTs := List.mem_append_left _ (rBm38 (List.mem_of_getElem? (i := 34) rfl))
set_option maxRecDepth 100000 in
theorem kw1859 : Cond.instanceMethod ⟨"NativeWorks$Machine", "single", "(I)V"⟩ ∈ rTs := List.mem_append_left _ (rBm38 (List.mem_of_getElem? (i := 35) rfl))
set_option maxRecDepth 100000 in
theorem kw1860 : Cond.selects "NativeWorks$Machine" ⟨"NativeWorks$Machine", "single", "(I)V"⟩ ⟨"NativeWorks$Machine", "single", "(I)V"⟩ ∈ rTs := List.mem_append_left _ (rBm38 (List.mem_of_getElem? (i := 36) rfl))
set_option maxRecDepth 100000 in
theorem kw1861 : Cond.methodLink "NativeWorks$Machine" 156 ⟨"NativeWorks$Machine", "product", "()V"⟩ ∈ rTs := List.mem_append_left _ (rBm38 (List.mem_of_getElem? (i := 37) rfl))
set_option maxRecDepth 100000 in
theorem kw1862 : Cond.instanceMethod ⟨"NativeWorks$Machine", "product", "()V"⟩ ∈ rTs := List.mem_append_left _ (rBm38 (List.mem_of_getElem? (i := 38) rfl))
set_option maxRecDepth 100000 in
theorem kw1863 : Cond.selects "NativeWorks$Machine" ⟨"NativeWorks$Machine", "product", "()V"⟩ ⟨"NativeWorks$Machine", "product", "()V"⟩ ∈ rTs := List.mem_append_left _ (rBm38 (List.mem_of_getElem? (i := 39) rfl))
set_option maxRecDepth 100000 in
theorem kw1864 : Cond.methodLink "NativeWorks$Machine" 159 ⟨"NativeWorks$Machine", "shift", "(I)V"⟩ ∈ rTs := List.mem_append_left _ (rBm38 (List.mem_of_getElem? (i := 40) rfl))
set_option maxRecDepth 100000 in
theorem kw1865 : Cond.instanceMethod ⟨"NativeWorks$Machine", "shift", "(I)V"⟩ ∈ rTs := List.mem_append_left _ (rBm38 (List.mem_of_getElem? (i := 41) rfl))
set_option maxRecDepth 100000 in
theorem kw1866 : Cond.selects "NativeWorks$Machine" ⟨"NativeWorks$Machine", "shift", "(I)V"⟩ ⟨"NativeWorks$Machine", "shift", "(I)V"⟩ ∈ rTs := List.mem_append_left _ (rBm38 (List.mem_of_getElem? (i := 42) rfl))
set_option maxRecDepth 100000 in
theorem kw1867 : Cond.methodLink "NativeWorks$Machine" 161 ⟨"NativeWorks$Machine", "pushOrPop", "(I)V"⟩ ∈ rTs := List.mem_append_left _ (rBm38 (List.mem_of_getElem? (i := 43) rfl))
set_option maxRecDepth 100000 in
theorem kw1868 : Cond.instanceMethod ⟨"NativeWorks$Machine", "pushOrPop", "(I)V"⟩ ∈ rTs := List.mem_append_left _ (rBm38 (List.mem_of_getElem? (i := 44) rfl))
set_option maxRecDepth 100000 in
theorem kw1869 : Cond.selects "NativeWorks$Machine" ⟨"NativeWorks$Machine", "pushOrPop", "(I)V"⟩ ⟨"NativeWorks$Machine", "pushOrPop", "(I)V"⟩ ∈ rTs := List.mem_append_left _ (rBm38 (List.mem_of_getElem? (i := 45) rfl))
set_option maxRecDepth 100000 in
theorem kw1870 : Cond.methodLink "NativeWorks$Machine" 164 ⟨"NativeWorks$Machine", "flow", "(I)V"⟩ ∈ rTs := List.mem_append_left _ (rBm38 (List.mem_of_getElem? (i := 46) rfl))
set_option maxRecDepth 100000 in
theorem kw1871 : Cond.instanceMethod ⟨"NativeWorks$Machine", "flow", "(I)V"⟩ ∈ rTs := List.mem_append_left _ (rBm38 (List.mem_of_getElem? (i := 47) rfl))
set_option maxRecDepth 100000 in
theorem kw1872 : Cond.selects "NativeWorks$Machine" ⟨"NativeWorks$Machine", "flow", "(I)V"⟩ ⟨"NativeWorks$Machine", "flow", "(I)V"⟩ ∈ rTs := List.mem_append_left _ (rBm39 (List.mem_of_getElem? (i := 0) rfl))
set_option maxRecDepth 100000 in
theorem kw1873 : Cond.methodLink "NativeWorks$Machine" 167 ⟨"NativeWorks$Machine", "plain", "(I)V"⟩ ∈ rTs := List.mem_append_left _ (rBm39 (List.mem_of_getElem? (i := 1) rfl))
set_option maxRecDepth 100000 in
theorem kw1874 : Cond.instanceMethod ⟨"NativeWorks$Machine", "plain", "(I)V"⟩ ∈ rTs := List.mem_append_left _ (rBm39 (List.mem_of_getElem? (i := 2) rfl))
set_option maxRecDepth 100000 in
theorem kw1875 : Cond.selects "NativeWorks$Machine" ⟨"NativeWorks$Machine", "plain", "(I)V"⟩ ⟨"NativeWorks$Machine", "plain", "(I)V"⟩ ∈ rTs := List.mem_append_left _ (rBm39 (List.mem_of_getElem? (i := 3) rfl))
set_option maxRecDepth 100000 in
theorem kw1876 : Cond.methodLink "NativeWorks$Machine" 170 ⟨"NativeWorks$Machine", "bits", "(I)V"⟩ ∈ rTs := List.mem_append_left _ (rBm39 (List.mem_of_getElem? (i := 4) rfl))
set_option maxRecDepth 100000 in
theorem kw1877 : Cond.instanceMethod ⟨"NativeWorks$Machine", "bits", "(I)V"⟩ ∈ rTs := List.mem_append_left _ (rBm39 (List.mem_of_getElem? (i := 5) rfl))
set_option maxRecDepth 100000 in
theorem kw1878 : Cond.selects "NativeWorks$Machine" ⟨"NativeWorks$Machine", "bits", "(I)V"⟩ ⟨"NativeWorks$Machine", "bits", "(I)V"⟩ ∈ rTs := List.mem_append_left _ (rBm39 (List.mem_of_getElem? (i := 6) rfl))
set_option maxRecDepth 100000 in
theorem kw1879 : Cond.methodLink "NativeWorks$Machine" 173 ⟨"NativeWorks$Machine", "copyOrFill", "(I)V"⟩ ∈ rTs := List.mem_append_left _ (rBm39 (List.mem_of_getElem? (i := 7) rfl))
set_option maxRecDepth 100000 in
theorem kw1880 : Cond.instanceMethod ⟨"NativeWorks$Machine", "copyOrFill", "(I)V"⟩ ∈ rTs := List.mem_append_left _ (rBm39 (List.mem_of_getElem? (i := 8) rfl))
set_option maxRecDepth 100000 in
theorem kw1881 : Cond.selects "NativeWorks$Machine" ⟨"NativeWorks$Machine", "copyOrFill", "(I)V"⟩ ⟨"NativeWorks$Machine", "copyOrFill", "(I)V"⟩ ∈ rTs := List.mem_append_left _ (rBm39 (List.mem_of_getElem? (i := 9) rfl))
set_option maxRecDepth 100000 in
theorem kw1882 : Cond.code ⟨"NativeWorks$Machine", "fetched", "(JI)J"⟩ prog_7_method_17_code 4 (Option.some FieldType.long) ∈ rTs := List.mem_append_left _ (rBm39 (List.mem_of_getElem? (i := 10) rfl))
set_option maxRecDepth 100000 in
theorem kw1883 : Cond.methodLink "NativeWorks$Machine" 198 ⟨"NativeWorks$Memory", "may", "(JJZ)Z"⟩ ∈ rTs := List.mem_append_left _ (rBm39 (List.mem_of_getElem? (i := 11) rfl))
set_option maxRecDepth 100000 in
theorem kw1884 : Cond.methodLink "NativeWorks$Machine" 202 ⟨"NativeWorks$Memory", "numbe\x72", "(JI)J"⟩ ∈ rTs := List.mem_append_left _ (rBm39 (List.mem_of_getElem? (i := 12) rfl))
set_option maxRecDepth 100000 in
theorem kw1885 : Cond.instanceMethod ⟨"NativeWorks$Memory", "numbe\x72", "(JI)J"⟩ ∈ rTs := List.mem_append_left _ (rBm39 (List.mem_of_getElem? (i := 13) rfl))
set_option maxRecDepth 100000 in
theorem kw1886 : Cond.selects "NativeWorks$Memory" ⟨"NativeWorks$Memory", "numbe\x72", "(JI)J"⟩ ⟨"NativeWorks$Memory", "numbe\x72", "(JI)J"⟩ ∈ rTs := List.mem_append_left _ (rBm39 (List.mem_of_getElem? (i := 14) rfl))
set_option maxRecDepth 100000 in
theorem kw1887 : Cond.code ⟨"NativeWorks$Machine", "flag", "(IZ)V"⟩ prog_7_method_21_code 3 (Option.none : Option FieldType) ∈ rTs := List.mem_append_left _ (rBm39 (List.mem_of_getElem? (i := 15) rfl))
set_option maxRecDepth 100000 in
theorem kw1888 : Cond.code ⟨"NativeWorks$Machine", "flow", "(I)V"⟩ prog_7_method_40_code 5 (Option.none : Option FieldType) ∈ rTs := List.mem_append_left _ (rBm39 (List.mem_of_getElem? (i := 16) rfl))
set_option maxRecDepth 100000 in
theorem kw1889 : Cond.fieldLink "NativeWorks$Machine" 195 "NativeWorks$Instruction" "numbe\x72" "J" ∈ rTs := List.mem_append_left _ (rBm39 (List.mem_of_getElem? (i := 17) rfl))
set_option maxRecDepth 100000 in
theorem kw1890 : Cond.methodLink "NativeWorks$Machine" 301 ⟨"NativeWorks$Machine", "push", "(J)Z"⟩ ∈ rTs := List.mem_append_left _ (rBm39 (List.mem_of_getElem? (i := 18) rfl))
set_option maxRecDepth 100000 in
theorem kw1891 : Cond.instanceMethod ⟨"NativeWorks$Machine", "push", "(J)Z"⟩ ∈ rTs := List.mem_append_left _ (rBm39 (List.mem_of_getElem? (i := 19) rfl))
set_option maxRecDepth 100000 in
theorem kw1892 : Cond.selects "NativeWorks$Machine" ⟨"NativeWorks$Machine", "push", "(J)Z"⟩ ⟨"NativeWorks$Machine", "push", "(J)Z"⟩ ∈ rTs := List.mem_append_left _ (rBm39 (List.mem_of_getElem? (i := 20) rfl))
set_option maxRecDepth 100000 in
theorem kw1893 : Cond.constantLong "NativeWorks$Machine" 299 (lN 8) ∈ rTs := List.mem_append_left _ (rBm39 (List.mem_of_getElem? (i := 21) (by decide +kernel)))
set_option maxRecDepth 100000 in
theorem kw1894 : Cond.methodLink "NativeWorks$Machine" 308 ⟨"NativeWorks$Machine", "holds", "()Z"⟩ ∈ rTs := List.mem_append_left _ (rBm39 (List.mem_of_getElem? (i := 22) rfl))
set_option maxRecDepth 100000 in
theorem kw1895 : Cond.instanceMethod ⟨"NativeWorks$Machine", "holds", "()Z"⟩ ∈ rTs := List.mem_append_left _ (rBm39 (List.mem_of_getElem? (i := 23) rfl))
set_option maxRecDepth 100000 in
theorem kw1896 : Cond.selects "NativeWorks$Machine" ⟨"NativeWorks$Machine", "holds", "()Z"⟩ ⟨"NativeWorks$Machine", "holds", "()Z"⟩ ∈ rTs := List.mem_append_left _ (rBm39 (List.mem_of_getElem? (i := 24) rfl))
set_option maxRecDepth 100000 in
theorem kw1897 : Cond.code ⟨"NativeWorks$Machine", "go", "(I)I"⟩ prog_7_method_8_code 4 (Option.some FieldType.int) ∈ rTs := List.mem_append_left _ (rBm39 (List.mem_of_getElem? (i := 25) rfl))
set_option maxRecDepth 100000 in
theorem kw1898 : Cond.methodLink "NativeWorks$Machine" 102 ⟨"NativeWorks$Machine", "step", "()V"⟩ ∈ rTs := List.mem_append_left _ (rBm39 (List.mem_of_getElem? (i := 26) rfl))
set_option maxRecDepth 100000 in
theorem kw1899 : Cond.instanceMethod ⟨"NativeWorks$Machine", "step", "()V"⟩ ∈ rTs := List.mem_append_left _ (rBm39 (List.mem_of_getElem? (i := 27) rfl))
set_option maxRecDepth 100000 in
theorem kw1900 : Cond.selects "NativeWorks$Machine" ⟨"NativeWorks$Machine", "step", "()V"⟩ ⟨"NativeWorks$Machine", "step", "()V"⟩ ∈ rTs := List.mem_append_left _ (rBm39 (List.mem_of_getElem? (i := 28) rfl))
set_option maxRecDepth 100000 in
theorem kw1901 : Cond.code ⟨"NativeWorks$Machine", "halt", "(IJ)V"⟩ prog_7_method_9_code 4 (Option.none : Option FieldType) ∈ rTs := List.mem_append_left _ (rBm39 (List.mem_of_getElem? (i := 29) rfl))
set_option maxRecDepth 100000 in
theorem kw1902 : Cond.code ⟨"NativeWorks$Machine", "has", "(I)Z"⟩ prog_7_method_22_code 2 (Option.some FieldType.boolean) ∈ rTs := List.mem_append_left _ (rBm39 (List.mem_of_getElem? (i := 30) rfl))
set_option maxRecDepth 100000 in
theorem kw1903 : Cond.code ⟨"NativeWorks$Machine", "high", "(JJZ)J"⟩ prog_7_method_31_code 19 (Option.some FieldType.long) ∈ rTs := List.mem_append_left _ (rBm39 (List.mem_of_getElem? (i := 31) rfl))
set_option maxRecDepth 100000 in
theorem kw1904 : Cond.code ⟨"NativeWorks$Machine", "holds", "()Z"⟩ prog_7_method_39_code 2 (Option.some FieldType.boolean) ∈ rTs := List.mem_append_left _ (rBm39 (List.mem_of_getElem? (i := 32) rfl))
set_option maxRecDepth 100000 in
theorem kw1905 : Cond.fieldLink "NativeWorks$Machine" 305 "NativeWorks$Instruction" "condition" "I" ∈ rTs := List.mem_append_left _ (rBm39 (List.mem_of_getElem? (i := 33) rfl))
set_option maxRecDepth 100000 in
theorem kw1906 : Cond.code ⟨"NativeWorks$Machine", "move", "(I)V"⟩ prog_7_method_28_code 7 (Option.none : Option FieldType) ∈ rTs := List.mem_append_left _ (rBm39 (List.mem_of_getElem? (i := 34) rfl))
set_option maxRecDepth 100000 in
theorem kw1907 : Cond.fieldLink "NativeWorks$Machine" 125 "NativeWorks$Machine" "place" "J" ∈ rTs := List.mem_append_left _ (rBm39 (List.mem_of_getElem? (i := 35) rfl))
set_option maxRecDepth 100000 in
theorem kw1908 : Cond.methodLink "NativeWorks$Machine" 261 ⟨"NativeWorks$Instruction", "sizeOfM", "()I"⟩ ∈ rTs := List.mem_append_left _ (rBm39 (List.mem_of_getElem? (i := 36) rfl))
set_option maxRecDepth 100000 in
theorem kw1909 : Cond.code ⟨"NativeWorks$Machine", "multiply", "(JIZ)V"⟩ prog_7_method_30_code 15 (Option.none : Option FieldType) ∈ rTs := List.mem_append_left _ (rBm39 (List.mem_of_getElem? (i := 37) rfl))
set_option maxRecDepth 100000 in
theorem kw1910 : Cond.methodLink "NativeWorks$Machine" 279 ⟨"NativeWorks$Machine", "high", "(JJZ)J"⟩ ∈ rTs := List.mem_append_left _ (rBm39 (List.mem_of_getElem? (i := 38) rfl))
set_option maxRecDepth 100000 in
theorem kw1911 : Cond.static ⟨"NativeWorks$Machine", "high", "(JJZ)J"⟩ ∈ rTs := List.mem_append_left _ (rBm39 (List.mem_of_getElem? (i := 39) rfl))
set_option maxRecDepth 100000 in
theorem kw1912 : Cond.code ⟨"NativeWorks$Machine", "plain", "(I)V"⟩ prog_7_method_41_code 4 (Option.none : Option FieldType) ∈ rTs := List.mem_append_left _ (rBm39 (List.mem_of_getElem? (i := 40) rfl))
set_option maxRecDepth 100000 in
theorem kw1913 : Cond.methodLink "NativeWorks$Machine" 312 ⟨"NativeWorks$Machine", "serve", "()V"⟩ ∈ rTs := List.mem_append_left _ (rBm39 (List.mem_of_getElem? (i := 41) rfl))
set_option maxRecDepth 100000 in
theorem kw1914 : Cond.instanceMethod ⟨"NativeWorks$Machine", "serve", "()V"⟩ ∈ rTs := List.mem_append_left _ (rBm39 (List.mem_of_getElem? (i := 42) rfl))
set_option maxRecDepth 100000 in
theorem kw1915 : Cond.selects "NativeWorks$Machine" ⟨"NativeWorks$Machine", "serve", "()V"⟩ ⟨"NativeWorks$Machine", "serve", "()V"⟩ ∈ rTs := List.mem_append_left _ (rBm39 (List.mem_of_getElem? (i := 43) rfl))
set_option maxRecDepth 100000 in
theorem kw1916 : Cond.code ⟨"NativeWorks$Machine", "product", "()V"⟩ prog_7_method_32_code 10 (Option.none : Option FieldType) ∈ rTs := List.mem_append_left _ (rBm39 (List.mem_of_getElem? (i := 44) rfl))
set_option maxRecDepth 100000 in
theorem kw1917 : Cond.code ⟨"NativeWorks$Machine", "pushOrPop", "(I)V"⟩ prog_7_method_38_code 4 (Option.none : Option FieldType) ∈ rTs := List.mem_append_left _ (rBm39 (List.mem_of_getElem? (i := 45) rfl))
set_option maxRecDepth 100000 in
theorem kw1918 : Cond.methodLink "NativeWorks$Machine" 121 ⟨"NativeWorks$Machine", "address", "()J"⟩ ∈ rTs := List.mem_append_left _ (rBm39 (List.mem_of_getElem? (i := 46) rfl))
set_option maxRecDepth 100000 in
theorem kw1919 : Cond.instanceMethod ⟨"NativeWorks$Machine", "address", "()J"⟩ ∈ rTs := List.mem_append_left _ (rBm39 (List.mem_of_getElem? (i := 47) rfl))
set_option maxRecDepth 100000 in
theorem kw1920 : Cond.selects "NativeWorks$Machine" ⟨"NativeWorks$Machine", "address", "()J"⟩ ⟨"NativeWorks$Machine", "address", "()J"⟩ ∈ rTs := List.mem_append_left _ (rBm40 (List.mem_of_getElem? (i := 0) rfl))
set_option maxRecDepth 100000 in
theorem kw1921 : Cond.code ⟨"NativeWorks$Machine", "push", "(J)Z"⟩ prog_7_method_37_code 3 (Option.some FieldType.boolean) ∈ rTs := List.mem_append_left _ (rBm40 (List.mem_of_getElem? (i := 1) rfl))
set_option maxRecDepth 100000 in
theorem kw1922 : Cond.code ⟨"NativeWorks$Machine", "put", "(IIJ)Z"⟩ prog_7_method_18_code 5 (Option.some FieldType.boolean) ∈ rTs := List.mem_append_left _ (rBm40 (List.mem_of_getElem? (i := 2) rfl))
set_option maxRecDepth 100000 in
theorem kw1923 : Cond.fieldLink "NativeWorks$Machine" 182 "NativeWorks$Instruction" "reg" "[I" ∈ rTs := List.mem_append_left _ (rBm40 (List.mem_of_getElem? (i := 3) rfl))
set_option maxRecDepth 100000 in
theorem kw1924 : Cond.code ⟨"NativeWorks$Machine", "quotient", "(JJJ)J"⟩ prog_7_method_35_code 11 (Option.some FieldType.long) ∈ rTs := List.mem_append_left _ (rBm40 (List.mem_of_getElem? (i := 4) rfl))
set_option maxRecDepth 100000 in
theorem kw1925 : Cond.code ⟨"NativeWorks$Machine", "readInput", "()J"⟩ prog_7_method_43_code 3 (Option.some FieldType.long) ∈ rTs := List.mem_append_left _ (rBm40 (List.mem_of_getElem? (i := 5) rfl))
set_option maxRecDepth 100000 in
theorem kw1926 : Cond.constantLong "NativeWorks$Machine" 337 (lN 18446744073709551602) ∈ rTs := List.mem_append_left _ (rBm40 (List.mem_of_getElem? (i := 6) (by decide +kernel)))
set_option maxRecDepth 100000 in
theorem kw1927 : Cond.methodLink "NativeWorks$Machine" 212 ⟨"NativeWorks$Memory", "change", "(JIJ)V"⟩ ∈ rTs := List.mem_append_left _ (rBm40 (List.mem_of_getElem? (i := 7) rfl))
set_option maxRecDepth 100000 in
theorem kw1928 : Cond.instanceMethod ⟨"NativeWorks$Memory", "change", "(JIJ)V"⟩ ∈ rTs := List.mem_append_left _ (rBm40 (List.mem_of_getElem? (i := 8) rfl))
set_option maxRecDepth 100000 in
theorem kw1929 : Cond.selects "NativeWorks$Memory" ⟨"NativeWorks$Memory", "change", "(JIJ)V"⟩ ⟨"NativeWorks$Memory", "change", "(JIJ)V"⟩ ∈ rTs := List.mem_append_left _ (rBm40 (List.mem_of_getElem? (i := 9) rfl))
set_option maxRecDepth 100000 in
theorem kw1930 : Cond.code ⟨"NativeWorks$Machine", "serve", "()V"⟩ prog_7_method_42_code 1 (Option.none : Option FieldType) ∈ rTs := List.mem_append_left _ (rBm40 (List.mem_of_getElem? (i := 10) rfl))
set_option maxRecDepth 100000 in
theorem kw1931 : Cond.methodLink "NativeWorks$Machine" 315 ⟨"NativeWorks$Machine", "told", "()I"⟩ ∈ rTs := List.mem_append_left _ (rBm40 (List.mem_of_getElem? (i := 11) rfl))
set_option maxRecDepth 100000 in
theorem kw1932 : Cond.methodLink "NativeWorks$Machine" 318 ⟨"NativeWorks$Machine", "readInput", "()J"⟩ ∈ rTs := List.mem_append_left _ (rBm40 (List.mem_of_getElem? (i := 12) rfl))
set_option maxRecDepth 100000 in
theorem kw1933 : Cond.instanceMethod ⟨"NativeWorks$Machine", "readInput", "()J"⟩ ∈ rTs := List.mem_append_left _ (rBm40 (List.mem_of_getElem? (i := 13) rfl))
set_option maxRecDepth 100000 in
theorem kw1934 : Cond.selects "NativeWorks$Machine" ⟨"NativeWorks$Machine", "readInput", "()J"⟩ ⟨"NativeWorks$Machine", "readInput", "()J"⟩ ∈ rTs := List.mem_append_left _ (rBm40 (List.mem_of_getElem? (i := 14) rfl))
set_option maxRecDepth 100000 in
theorem kw1935 : Cond.methodLink "NativeWorks$Machine" 321 ⟨"NativeWorks$Machine", "writeOutput", "()J"⟩ ∈ rTs := List.mem_append_left _ (rBm40 (List.mem_of_getElem? (i := 15) rfl))
set_option maxRecDepth 100000 in
theorem kw1936 : Cond.instanceMethod ⟨"NativeWorks$Machine", "writeOutput", "()J"⟩ ∈ rTs := List.mem_append_left _ (rBm40 (List.mem_of_getElem? (i := 16) rfl))
set_option maxRecDepth 100000 in
theorem kw1937 : Cond.selects "NativeWorks$Machine" ⟨"NativeWorks$Machine", "writeOutput", "()J"⟩ ⟨"NativeWorks$Machine", "writeOutput", "()J"⟩ ∈ rTs := List.mem_append_left _ (rBm40 (List.mem_of_getElem? (i := 17) rfl))
set_option maxRecDepth 100000 in
theorem kw1938 : Cond.constantLong "NativeWorks$Machine" 324 (lN 12) ∈ rTs := List.mem_append_left _ (rBm40 (List.mem_of_getElem? (i := 18) (by decide +kernel)))
set_option maxRecDepth 100000 in
theorem kw1939 : Cond.methodLink "NativeWorks$Machine" 326 ⟨"NativeWorks$Memory", "moveEnd", "(J)V"⟩ ∈ rTs := List.mem_append_left _ (rBm40 (List.mem_of_getElem? (i := 19) rfl))
set_option maxRecDepth 100000 in
theorem kw1940 : Cond.instanceMethod ⟨"NativeWorks$Memory", "moveEnd", "(J)V"⟩ ∈ rTs := List.mem_append_left _ (rBm40 (List.mem_of_getElem? (i := 20) rfl))
set_option maxRecDepth 100000 in
theorem kw1941 : Cond.selects "NativeWorks$Memory" ⟨"NativeWorks$Memory", "moveEnd", "(J)V"⟩ ⟨"NativeWorks$Memory", "moveEnd", "(J)V"⟩ ∈ rTs := List.mem_append_left _ (rBm40 (List.mem_of_getElem? (i := 21) rfl))
set_option maxRecDepth 100000 in
theorem kw1942 : Cond.fieldLink "NativeWorks$Machine" 330 "NativeWorks$Memory" "end" "J" ∈ rTs := List.mem_append_left _ (rBm40 (List.mem_of_getElem? (i := 22) rfl))
set_option maxRecDepth 100000 in
theorem kw1943 : Cond.constantLong "NativeWorks$Machine" 333 (lN 60) ∈ rTs := List.mem_append_left _ (rBm40 (List.mem_of_getElem? (i := 23) (by decide +kernel)))
set_option maxRecDepth 100000 in
theorem kw1944 : Cond.constantLong "NativeWorks$Machine" 335 (lN 18446744073709551578) ∈ rTs := List.mem_append_left _ (rBm40 (List.mem_of_getElem? (i := 24) (by decide +kernel)))
set_option maxRecDepth 100000 in
theorem kw1945 : Cond.code ⟨"NativeWorks$Machine", "setDifference", "(JJJI)V"⟩ prog_7_method_25_code 8 (Option.none : Option FieldType) ∈ rTs := List.mem_append_left _ (rBm40 (List.mem_of_getElem? (i := 25) rfl))
set_option maxRecDepth 100000 in
theorem kw1946 : Cond.code ⟨"NativeWorks$Machine", "setResult", "(JI)V"⟩ prog_7_method_23_code 4 (Option.none : Option FieldType) ∈ rTs := List.mem_append_left _ (rBm40 (List.mem_of_getElem? (i := 26) rfl))
set_option maxRecDepth 100000 in
theorem kw1947 : Cond.methodLink "NativeWorks$Machine" 226 ⟨"java/lang/Long", "bitCount", "(J)I"⟩ ∈ rTs := List.mem_append_left _ (rBm40 (List.mem_of_getElem? (i := 27) rfl))
set_option maxRecDepth 100000 in
theorem kw1948 : Cond.static ⟨"java/lang/Long", "bitCount", "(J)I"⟩ ∈ rTs := List.mem_append_left _ (rBm40 (List.mem_of_getElem? (i := 28) rfl))
set_option maxRecDepth 100000 in
theorem kw1949 : Cond.initialized "java/lang/Long" ∈ rTs := List.mem_append_left _ (rBm40 (List.mem_of_getElem? (i := 29) rfl))
set_option maxRecDepth 100000 in
theorem kw1950 : Cond.code ⟨"java/lang/Long", "bitCount", "(J)I"⟩ prog_26_method_50_code 2 (Option.some FieldType.int) ∈ rTs := List.mem_append_left _ (rBm40 (List.mem_of_getElem? (i := 30) rfl))
set_option maxRecDepth 100000 in
theorem kw1951 : Cond.code ⟨"NativeWorks$Machine", "setSpill", "(Z)V"⟩ prog_7_method_26_code 2 (Option.none : Option FieldType) ∈ rTs := List.mem_append_left _ (rBm40 (List.mem_of_getElem? (i := 31) rfl))
set_option maxRecDepth 100000 in
theorem kw1952 : Cond.code ⟨"NativeWorks$Machine", "setSum", "(JJJI)V"⟩ prog_7_method_24_code 8 (Option.none : Option FieldType) ∈ rTs := List.mem_append_left _ (rBm40 (List.mem_of_getElem? (i := 32) rfl))
set_option maxRecDepth 100000 in
theorem kw1953 : Cond.code ⟨"NativeWorks$Machine", "shift", "(I)V"⟩ prog_7_method_36_code 15 (Option.none : Option FieldType) ∈ rTs := List.mem_append_left _ (rBm40 (List.mem_of_getElem? (i := 33) rfl))
set_option maxRecDepth 100000 in
theorem kw1954 : Cond.code ⟨"NativeWorks$Machine", "single", "(I)V"⟩ prog_7_method_29_code 8 (Option.none : Option FieldType) ∈ rTs := List.mem_append_left _ (rBm40 (List.mem_of_getElem? (i := 34) rfl))
set_option maxRecDepth 100000 in
theorem kw1955 : Cond.methodLink "NativeWorks$Machine" 268 ⟨"NativeWorks$Machine", "multiply", "(JIZ)V"⟩ ∈ rTs := List.mem_append_left _ (rBm40 (List.mem_of_getElem? (i := 35) rfl))
set_option maxRecDepth 100000 in
theorem kw1956 : Cond.instanceMethod ⟨"NativeWorks$Machine", "multiply", "(JIZ)V"⟩ ∈ rTs := List.mem_append_left _ (rBm40 (List.mem_of_getElem? (i := 36) rfl))
set_option maxRecDepth 100000 in
theorem kw1957 : Cond.selects "NativeWorks$Machine" ⟨"NativeWorks$Machine", "multiply", "(JIZ)V"⟩ ⟨"NativeWorks$Machine", "multiply", "(JIZ)V"⟩ ∈ rTs := List.mem_append_left _ (rBm40 (List.mem_of_getElem? (i := 37) rfl))
set_option maxRecDepth 100000 in
theorem kw1958 : Cond.methodLink "NativeWorks$Machine" 272 ⟨"NativeWorks$Machine", "divide", "(JIZ)V"⟩ ∈ rTs := List.mem_append_left _ (rBm40 (List.mem_of_getElem? (i := 38) rfl))
set_option maxRecDepth 100000 in
theorem kw1959 : Cond.instanceMethod ⟨"NativeWorks$Machine", "divide", "(JIZ)V"⟩ ∈ rTs := List.mem_append_left _ (rBm40 (List.mem_of_getElem? (i := 39) rfl))
set_option maxRecDepth 100000 in
theorem kw1960 : Cond.selects "NativeWorks$Machine" ⟨"NativeWorks$Machine", "divide", "(JIZ)V"⟩ ⟨"NativeWorks$Machine", "divide", "(JIZ)V"⟩ ∈ rTs := List.mem_append_left _ (rBm40 (List.mem_of_getElem? (i := 40) rfl))
set_option maxRecDepth 100000 in
theorem kw1961 : Cond.code ⟨"NativeWorks$Machine", "step", "()V"⟩ prog_7_method_10_code 2 (Option.none : Option FieldType) ∈ rTs := List.mem_append_left _ (rBm40 (List.mem_of_getElem? (i := 41) rfl))
set_option maxRecDepth 100000 in
theorem kw1962 : Cond.methodLink "NativeWorks$Machine" 105 ⟨"NativeWorks$Memory", "codeAt", "(J)I"⟩ ∈ rTs := List.mem_append_left _ (rBm40 (List.mem_of_getElem? (i := 42) rfl))
set_option maxRecDepth 100000 in
theorem kw1963 : Cond.instanceMethod ⟨"NativeWorks$Memory", "codeAt", "(J)I"⟩ ∈ rTs := List.mem_append_left _ (rBm40 (List.mem_of_getElem? (i := 43) rfl))
set_option maxRecDepth 100000 in
theorem kw1964 : Cond.selects "NativeWorks$Memory" ⟨"NativeWorks$Memory", "codeAt", "(J)I"⟩ ⟨"NativeWorks$Memory", "codeAt", "(J)I"⟩ ∈ rTs := List.mem_append_left _ (rBm40 (List.mem_of_getElem? (i := 44) rfl))
set_option maxRecDepth 100000 in
theorem kw1965 : Cond.fieldLink "NativeWorks$Machine" 108 "NativeWorks$Memory" "low" "[B" ∈ rTs := List.mem_append_left _ (rBm40 (List.mem_of_getElem? (i := 45) rfl))
set_option maxRecDepth 100000 in
theorem kw1966 : Cond.methodLink "NativeWorks$Machine" 111 ⟨"NativeWorks$Instruction", "decode", "([BI)V"⟩ ∈ rTs := List.mem_append_left _ (rBm40 (List.mem_of_getElem? (i := 46) rfl))
set_option maxRecDepth 100000 in
theorem kw1967 : Cond.instanceMethod ⟨"NativeWorks$Instruction", "decode", "([BI)V"⟩ ∈ rTs := List.mem_append_left _ (rBm40 (List.mem_of_getElem? (i := 47) rfl))
set_option maxRecDepth 100000 in
theorem kw1968 : Cond.selects "NativeWorks$Instruction" ⟨"NativeWorks$Instruction", "decode", "([BI)V"⟩ ⟨"NativeWorks$Instruction", "decode", "([BI)V"⟩ ∈ rTs := List.mem_append_left _ (rBm41 (List.mem_of_getElem? (i := 0) rfl))
set_option maxRecDepth 100000 in
theorem kw1969 : Cond.fieldLink "NativeWorks$Machine" 115 "NativeWorks$Instruction" "length" "I" ∈ rTs := List.mem_append_left _ (rBm41 (List.mem_of_getElem? (i := 1) rfl))
set_option maxRecDepth 100000 in
theorem kw1970 : Cond.methodLink "NativeWorks$Machine" 128 ⟨"NativeWorks$Machine", "execute", "()V"⟩ ∈ rTs := List.mem_append_left _ (rBm41 (List.mem_of_getElem? (i := 2) rfl))
set_option maxRecDepth 100000 in
theorem kw1971 : Cond.instanceMethod ⟨"NativeWorks$Machine", "execute", "()V"⟩ ∈ rTs := List.mem_append_left _ (rBm41 (List.mem_of_getElem? (i := 3) rfl))
set_option maxRecDepth 100000 in
theorem kw1972 : Cond.selects "NativeWorks$Machine" ⟨"NativeWorks$Machine", "execute", "()V"⟩ ⟨"NativeWorks$Machine", "execute", "()V"⟩ ∈ rTs := List.mem_append_left _ (rBm41 (List.mem_of_getElem? (i := 4) rfl))
set_option maxRecDepth 100000 in
theorem kw1973 : Cond.code ⟨"NativeWorks$Machine", "store", "(JIJ)Z"⟩ prog_7_method_19_code 6 (Option.some FieldType.boolean) ∈ rTs := List.mem_append_left _ (rBm41 (List.mem_of_getElem? (i := 5) rfl))
set_option maxRecDepth 100000 in
theorem kw1974 : Cond.code ⟨"NativeWorks$Machine", "value", "(II)J"⟩ prog_7_method_16_code 3 (Option.some FieldType.long) ∈ rTs := List.mem_append_left _ (rBm41 (List.mem_of_getElem? (i := 6) rfl))
set_option maxRecDepth 100000 in
theorem kw1975 : Cond.code ⟨"NativeWorks$Machine", "writeOutput", "()J"⟩ prog_7_method_44_code 3 (Option.some FieldType.long) ∈ rTs := List.mem_append_left _ (rBm41 (List.mem_of_getElem? (i := 7) rfl))
set_option maxRecDepth 100000 in
theorem kw1976 : Cond.constantLong "NativeWorks$Machine" 339 (lN 18446744073709551588) ∈ rTs := List.mem_append_left _ (rBm41 (List.mem_of_getElem? (i := 8) (by decide +kernel)))
set_option maxRecDepth 100000 in
theorem kw1977 : Cond.code ⟨"NativeWorks$Memory", "change", "(JIJ)V"⟩ prog_8_method_6_code 11 (Option.none : Option FieldType) ∈ rTs := List.mem_append_left _ (rBm41 (List.mem_of_getElem? (i := 9) rfl))
set_option maxRecDepth 100000 in
theorem kw1978 : Cond.constantLong "NativeWorks$Memory" 100 (lN 2147414016) ∈ rTs := List.mem_append_left _ (rBm41 (List.mem_of_getElem? (i := 10) (by decide +kernel)))
set_option maxRecDepth 100000 in
theorem kw1979 : Cond.constantLong "NativeWorks$Memory" 106 (lN 65536) ∈ rTs := List.mem_append_left _ (rBm41 (List.mem_of_getElem? (i := 11) (by decide +kernel)))
set_option maxRecDepth 100000 in
theorem kw1980 : Cond.code ⟨"NativeWorks$Memory", "codeAt", "(J)I"⟩ prog_8_method_3_code 5 (Option.some FieldType.int) ∈ rTs := List.mem_append_left _ (rBm41 (List.mem_of_getElem? (i := 12) rfl))
set_option maxRecDepth 100000 in
theorem kw1981 : Cond.code ⟨"NativeWorks$Memory", "fill", "(LNativeWorks$Linker;)V"⟩ prog_8_method_2_code 5 (Option.none : Option FieldType) ∈ rTs := List.mem_append_left _ (rBm41 (List.mem_of_getElem? (i := 13) rfl))
set_option maxRecDepth 100000 in
theorem kw1982 : Cond.methodLink "NativeWorks$Memory" 40 ⟨"java/util/Arrays", "fill", "([BIIB)V"⟩ ∈ rTs := List.mem_append_left _ (rBm41 (List.mem_of_getElem? (i := 14) rfl))
set_option maxRecDepth 100000 in
theorem kw1983 : Cond.methodLink "NativeWorks$Memory" 46 ⟨"java/util/Arrays", "fill", "([BB)V"⟩ ∈ rTs := List.mem_append_left _ (rBm41 (List.mem_of_getElem? (i := 15) rfl))
set_option maxRecDepth 100000 in
theorem kw1984 : Cond.static ⟨"java/util/Arrays", "fill", "([BB)V"⟩ ∈ rTs := List.mem_append_left _ (rBm41 (List.mem_of_getElem? (i := 16) rfl))
set_option maxRecDepth 100000 in
theorem kw1985 : Cond.code ⟨"java/util/Arrays", "fill", "([BB)V"⟩ prog_38_method_109_code 4 (Option.none : Option FieldType) ∈ rTs := List.mem_append_left _ (rBm41 (List.mem_of_getElem? (i := 17) rfl))
set_option maxRecDepth 100000 in
theorem kw1986 : Cond.fieldLink "NativeWorks$Memory" 49 "NativeWorks$Linke\x72" "bytes" "[B" ∈ rTs := List.mem_append_left _ (rBm41 (List.mem_of_getElem? (i := 18) rfl))
set_option maxRecDepth 100000 in
theorem kw1987 : Cond.fieldLink "NativeWorks$Memory" 52 "NativeWorks$Linke\x72" "length" "I" ∈ rTs := List.mem_append_left _ (rBm41 (List.mem_of_getElem? (i := 19) rfl))
set_option maxRecDepth 100000 in
theorem kw1988 : Cond.methodLink "NativeWorks$Memory" 56 ⟨"java/lang/System", "arraycopy", "(Ljava/lang/Object;ILjava/lang/Object;II)V"⟩ ∈ rTs := List.mem_append_left _ (rBm41 (List.mem_of_getElem? (i := 20) rfl))
set_option maxRecDepth 100000 in
theorem kw1989 : Cond.methodLink "NativeWorks$Memory" 62 ⟨"java/lang/Math", "max", "(JJ)J"⟩ ∈ rTs := List.mem_append_left _ (rBm41 (List.mem_of_getElem? (i := 21) rfl))
set_option maxRecDepth 100000 in
theorem kw1990 : Cond.static ⟨"java/lang/Math", "max", "(JJ)J"⟩ ∈ rTs := List.mem_append_left _ (rBm41 (List.mem_of_getElem? (i := 22) rfl))
set_option maxRecDepth 100000 in
theorem kw1991 : Cond.code ⟨"java/lang/Math", "max", "(JJ)J"⟩ prog_27_method_66_code 4 (Option.some FieldType.long) ∈ rTs := List.mem_append_left _ (rBm41 (List.mem_of_getElem? (i := 23) rfl))
set_option maxRecDepth 100000 in
theorem kw1992 : Cond.fieldLink "NativeWorks$Memory" 68 "NativeWorks$Linke\x72" "origins" "[I" ∈ rTs := List.mem_append_left _ (rBm41 (List.mem_of_getElem? (i := 24) rfl))
set_option maxRecDepth 100000 in
theorem kw1993 : Cond.fieldLink "NativeWorks$Memory" 72 "NativeWorks$Linke\x72" "from" "[I" ∈ rTs := List.mem_append_left _ (rBm41 (List.mem_of_getElem? (i := 25) rfl))
set_option maxRecDepth 100000 in
theorem kw1994 : Cond.fieldLink "NativeWorks$Memory" 75 "NativeWorks$Memory" "textFrom" "J" ∈ rTs := List.mem_append_left _ (rBm41 (List.mem_of_getElem? (i := 26) rfl))
set_option maxRecDepth 100000 in
theorem kw1995 : Cond.fieldLink "NativeWorks$Memory" 78 "NativeWorks$Linke\x72" "to" "[I" ∈ rTs := List.mem_append_left _ (rBm41 (List.mem_of_getElem? (i := 27) rfl))
set_option maxRecDepth 100000 in
theorem kw1996 : Cond.fieldLink "NativeWorks$Memory" 81 "NativeWorks$Memory" "textTo" "J" ∈ rTs := List.mem_append_left _ (rBm41 (List.mem_of_getElem? (i := 28) rfl))
set_option maxRecDepth 100000 in
theorem kw1997 : Cond.fieldLink "NativeWorks$Memory" 84 "NativeWorks$Memory" "rodataFrom" "J" ∈ rTs := List.mem_append_left _ (rBm41 (List.mem_of_getElem? (i := 29) rfl))
set_option maxRecDepth 100000 in
theorem kw1998 : Cond.fieldLink "NativeWorks$Memory" 87 "NativeWorks$Memory" "rodataTo" "J" ∈ rTs := List.mem_append_left _ (rBm41 (List.mem_of_getElem? (i := 30) rfl))
set_option maxRecDepth 100000 in
theorem kw1999 : Cond.fieldLink "NativeWorks$Memory" 90 "NativeWorks$Memory" "dataFrom" "J" ∈ rTs := List.mem_append_left _ (rBm41 (List.mem_of_getElem? (i := 31) rfl))
set_option maxRecDepth 100000 in
theorem kw2000 : Cond.methodLink "NativeWorks$Memory" 93 ⟨"java/lang/Math", "max", "(II)I"⟩ ∈ rTs := List.mem_append_left _ (rBm41 (List.mem_of_getElem? (i := 32) rfl))
set_option maxRecDepth 100000 in
theorem kw2001 : Cond.fieldLink "NativeWorks$Memory" 96 "NativeWorks$Memory" "dataTo" "J" ∈ rTs := List.mem_append_left _ (rBm41 (List.mem_of_getElem? (i := 33) rfl))
set_option maxRecDepth 100000 in
theorem kw2002 : Cond.constant "NativeWorks$Memory" 99 (nI 4194304) ∈ rTs := List.mem_append_left _ (rBm41 (List.mem_of_getElem? (i := 34) (by decide +kernel)))
set_option maxRecDepth 100000 in
theorem kw2003 : Cond.constantLong "NativeWorks$Memory" 102 (lN 2147479552) ∈ rTs := List.mem_append_left _ (rBm41 (List.mem_of_getElem? (i := 35) (by decide +kernel)))
set_option maxRecDepth 100000 in
theorem kw2004 : Cond.code ⟨"NativeWorks$Memory", "moveEnd", "(J)V"⟩ prog_8_method_7_code 5 (Option.none : Option FieldType) ∈ rTs := List.mem_append_left _ (rBm41 (List.mem_of_getElem? (i := 36) rfl))
set_option maxRecDepth 100000 in
theorem kw2005 : Cond.methodLink "NativeWorks$Memory" 108 ⟨"NativeWorks$Memory", "change", "(JIJ)V"⟩ ∈ rTs := List.mem_append_left _ (rBm41 (List.mem_of_getElem? (i := 37) rfl))
set_option maxRecDepth 100000 in
theorem kw2006 : Cond.code ⟨"NativeWorks$Memory", "numbe\x72", "(JI)J"⟩ prog_8_method_5_code 11 (Option.some FieldType.long) ∈ rTs := List.mem_append_left _ (rBm41 (List.mem_of_getElem? (i := 38) rfl))
set_option maxRecDepth 100000 in
theorem kw2007 : Cond.constantLong "NativeWorks$Memory" 104 (lN 255) ∈ rTs := List.mem_append_left _ (rBm41 (List.mem_of_getElem? (i := 39) (by decide +kernel)))
set_option maxRecDepth 100000 in
theorem kw2008 : Cond.methodLink "NativeWorks$Reade\x72" 90 ⟨"NativeWorks$Reade\x72", "bring", "(I)V"⟩ ∈ rTs := List.mem_append_left _ (rBm41 (List.mem_of_getElem? (i := 40) rfl))
set_option maxRecDepth 100000 in
theorem kw2009 : Cond.instanceMethod ⟨"NativeWorks$Reade\x72", "bring", "(I)V"⟩ ∈ rTs := List.mem_append_left _ (rBm41 (List.mem_of_getElem? (i := 41) rfl))
set_option maxRecDepth 100000 in
theorem kw2010 : Cond.selects "NativeWorks$Reade\x72" ⟨"NativeWorks$Reade\x72", "bring", "(I)V"⟩ ⟨"NativeWorks$Reade\x72", "bring", "(I)V"⟩ ∈ rTs := List.mem_append_left _ (rBm41 (List.mem_of_getElem? (i := 42) rfl))
set_option maxRecDepth 100000 in
theorem kw2011 : Cond.code ⟨"NativeWorks$Reade\x72", "appendArgument", "(II)V"⟩ prog_10_method_8_code 5 (Option.none : Option FieldType) ∈ rTs := List.mem_append_left _ (rBm41 (List.mem_of_getElem? (i := 43) rfl))
set_option maxRecDepth 100000 in
theorem kw2012 : Cond.methodLink "NativeWorks$Reade\x72" 122 ⟨"NativeWorks$Reade\x72", "append", "(B)V"⟩ ∈ rTs := List.mem_append_left _ (rBm41 (List.mem_of_getElem? (i := 44) rfl))
set_option maxRecDepth 100000 in
theorem kw2013 : Cond.instanceMethod ⟨"NativeWorks$Reade\x72", "append", "(B)V"⟩ ∈ rTs := List.mem_append_left _ (rBm41 (List.mem_of_getElem? (i := 45) rfl))
set_option maxRecDepth 100000 in
theorem kw2014 : Cond.selects "NativeWorks$Reade\x72" ⟨"NativeWorks$Reade\x72", "append", "(B)V"⟩ ⟨"NativeWorks$Reade\x72", "append", "(B)V"⟩ ∈ rTs := List.mem_append_left _ (rBm41 (List.mem_of_getElem? (i := 46) rfl))
set_option maxRecDepth 100000 in
theorem kw2015 : Cond.code ⟨"NativeWorks$Reade\x72", "appendNumbe\x72", "(I)V"⟩ prog_10_method_7_code 3 (Option.none : Option FieldType) ∈ rTs := List.mem_append_left _ (rBm41 (List.mem_of_getElem? (i := 47) rfl))
set_option maxRecDepth 100000 in
theorem kw2016 : Cond.code ⟨"NativeWorks$Reade\x72", "append", "(B)V"⟩ prog_10_method_6_code 2 (Option.none : Option FieldType) ∈ rTs := List.mem_append_left _ (rBm42 (List.mem_of_getElem? (i := 0) rfl))
set_option maxRecDepth 100000 in
theorem kw2017 : Cond.fieldLink "NativeWorks$Reade\x72" 96 "NativeWorks$Line" "length" "I" ∈ rTs := List.mem_append_left _ (rBm42 (List.mem_of_getElem? (i := 1) rfl))
set_option maxRecDepth 100000 in
theorem kw2018 : Cond.fieldLink "NativeWorks$Reade\x72" 106 "NativeWorks$Line" "text" "[B" ∈ rTs := List.mem_append_left _ (rBm42 (List.mem_of_getElem? (i := 2) rfl))
set_option maxRecDepth 100000 in
theorem kw2019 : Cond.code ⟨"NativeWorks$Reade\x72", "bring", "(I)V"⟩ prog_10_method_4_code 4 (Option.none : Option FieldType) ∈ rTs := List.mem_append_left _ (rBm42 (List.mem_of_getElem? (i := 3) rfl))
set_option maxRecDepth 100000 in
theorem kw2020 : Cond.fieldLink "NativeWorks$Reade\x72" 93 "NativeWorks$Source" "lineAt" "[I" ∈ rTs := List.mem_append_left _ (rBm42 (List.mem_of_getElem? (i := 4) rfl))
set_option maxRecDepth 100000 in
theorem kw2021 : Cond.methodLink "NativeWorks$Reade\x72" 99 ⟨"NativeWorks$Reade\x72", "replace", "(III)V"⟩ ∈ rTs := List.mem_append_left _ (rBm42 (List.mem_of_getElem? (i := 5) rfl))
set_option maxRecDepth 100000 in
theorem kw2022 : Cond.instanceMethod ⟨"NativeWorks$Reade\x72", "replace", "(III)V"⟩ ∈ rTs := List.mem_append_left _ (rBm42 (List.mem_of_getElem? (i := 6) rfl))
set_option maxRecDepth 100000 in
theorem kw2023 : Cond.selects "NativeWorks$Reade\x72" ⟨"NativeWorks$Reade\x72", "replace", "(III)V"⟩ ⟨"NativeWorks$Reade\x72", "replace", "(III)V"⟩ ∈ rTs := List.mem_append_left _ (rBm42 (List.mem_of_getElem? (i := 7) rfl))
set_option maxRecDepth 100000 in
theorem kw2024 : Cond.fieldLink "NativeWorks$Reade\x72" 103 "NativeWorks$Source" "bytes" "[B" ∈ rTs := List.mem_append_left _ (rBm42 (List.mem_of_getElem? (i := 8) rfl))
set_option maxRecDepth 100000 in
theorem kw2025 : Cond.methodLink "NativeWorks$Reade\x72" 109 ⟨"java/lang/System", "arraycopy", "(Ljava/lang/Object;ILjava/lang/Object;II)V"⟩ ∈ rTs := List.mem_append_left _ (rBm42 (List.mem_of_getElem? (i := 9) rfl))
set_option maxRecDepth 100000 in
theorem kw2026 : Cond.code ⟨"NativeWorks$Reade\x72", "current", "()I"⟩ prog_10_method_9_code 1 (Option.some FieldType.int) ∈ rTs := List.mem_append_left _ (rBm42 (List.mem_of_getElem? (i := 10) rfl))
set_option maxRecDepth 100000 in
theorem kw2027 : Cond.code ⟨"NativeWorks$Reade\x72", "full", "()Z"⟩ prog_10_method_11_code 1 (Option.some FieldType.boolean) ∈ rTs := List.mem_append_left _ (rBm42 (List.mem_of_getElem? (i := 11) rfl))
set_option maxRecDepth 100000 in
theorem kw2028 : Cond.code ⟨"NativeWorks$Reade\x72", "goBehind", "(I)Z"⟩ prog_10_method_17_code 3 (Option.some FieldType.boolean) ∈ rTs := List.mem_append_left _ (rBm42 (List.mem_of_getElem? (i := 12) rfl))
set_option maxRecDepth 100000 in
theorem kw2029 : Cond.code ⟨"NativeWorks$Reade\x72", "misplaced", "(I)Z"⟩ prog_10_method_12_code 5 (Option.some FieldType.boolean) ∈ rTs := List.mem_append_left _ (rBm42 (List.mem_of_getElem? (i := 13) rfl))
set_option maxRecDepth 100000 in
theorem kw2030 : Cond.fieldLink "NativeWorks$Reade\x72" 140 "NativeWorks$Source" "ifEnds" "[I" ∈ rTs := List.mem_append_left _ (rBm42 (List.mem_of_getElem? (i := 14) rfl))
set_option maxRecDepth 100000 in
theorem kw2031 : Cond.methodLink "NativeWorks$Reade\x72" 143 ⟨"NativeWorks$Reade\x72", "current", "()I"⟩ ∈ rTs := List.mem_append_left _ (rBm42 (List.mem_of_getElem? (i := 15) rfl))
set_option maxRecDepth 100000 in
theorem kw2032 : Cond.instanceMethod ⟨"NativeWorks$Reade\x72", "current", "()I"⟩ ∈ rTs := List.mem_append_left _ (rBm42 (List.mem_of_getElem? (i := 16) rfl))
set_option maxRecDepth 100000 in
theorem kw2033 : Cond.selects "NativeWorks$Reade\x72" ⟨"NativeWorks$Reade\x72", "current", "()I"⟩ ⟨"NativeWorks$Reade\x72", "current", "()I"⟩ ∈ rTs := List.mem_append_left _ (rBm42 (List.mem_of_getElem? (i := 17) rfl))
set_option maxRecDepth 100000 in
theorem kw2034 : Cond.methodLink "NativeWorks$Reade\x72" 147 ⟨"NativeWorks$Reade\x72", "full", "()Z"⟩ ∈ rTs := List.mem_append_left _ (rBm42 (List.mem_of_getElem? (i := 18) rfl))
set_option maxRecDepth 100000 in
theorem kw2035 : Cond.instanceMethod ⟨"NativeWorks$Reade\x72", "full", "()Z"⟩ ∈ rTs := List.mem_append_left _ (rBm42 (List.mem_of_getElem? (i := 19) rfl))
set_option maxRecDepth 100000 in
theorem kw2036 : Cond.selects "NativeWorks$Reade\x72" ⟨"NativeWorks$Reade\x72", "full", "()Z"⟩ ⟨"NativeWorks$Reade\x72", "full", "()Z"⟩ ∈ rTs := List.mem_append_left _ (rBm42 (List.mem_of_getElem? (i := 20) rfl))
set_option maxRecDepth 100000 in
theorem kw2037 : Cond.fieldLink "NativeWorks$Reade\x72" 151 "NativeWorks$Source" "reptEnds" "[I" ∈ rTs := List.mem_append_left _ (rBm42 (List.mem_of_getElem? (i := 21) rfl))
set_option maxRecDepth 100000 in
theorem kw2038 : Cond.code ⟨"NativeWorks$Reade\x72", "openIf", "(Z)V"⟩ prog_10_method_14_code 2 (Option.none : Option FieldType) ∈ rTs := List.mem_append_left _ (rBm42 (List.mem_of_getElem? (i := 22) rfl))
set_option maxRecDepth 100000 in
theorem kw2039 : Cond.code ⟨"NativeWorks$Reade\x72", "overused", "(II)Z"⟩ prog_10_method_20_code 4 (Option.some FieldType.boolean) ∈ rTs := List.mem_append_left _ (rBm42 (List.mem_of_getElem? (i := 23) rfl))
set_option maxRecDepth 100000 in
theorem kw2040 : Cond.fieldLink "NativeWorks$Reade\x72" 126 "NativeWorks$Source" "firstParamete\x72" "[I" ∈ rTs := List.mem_append_left _ (rBm42 (List.mem_of_getElem? (i := 24) rfl))
set_option maxRecDepth 100000 in
theorem kw2041 : Cond.methodLink "NativeWorks$Reade\x72" 186 ⟨"java/lang/Math", "min", "(II)I"⟩ ∈ rTs := List.mem_append_left _ (rBm42 (List.mem_of_getElem? (i := 25) rfl))
set_option maxRecDepth 100000 in
theorem kw2042 : Cond.methodLink "NativeWorks$Reade\x72" 192 ⟨"NativeWorks$Reade\x72", "split", "(III)I"⟩ ∈ rTs := List.mem_append_left _ (rBm42 (List.mem_of_getElem? (i := 26) rfl))
set_option maxRecDepth 100000 in
theorem kw2043 : Cond.instanceMethod ⟨"NativeWorks$Reade\x72", "split", "(III)I"⟩ ∈ rTs := List.mem_append_left _ (rBm42 (List.mem_of_getElem? (i := 27) rfl))
set_option maxRecDepth 100000 in
theorem kw2044 : Cond.selects "NativeWorks$Reade\x72" ⟨"NativeWorks$Reade\x72", "split", "(III)I"⟩ ⟨"NativeWorks$Reade\x72", "split", "(III)I"⟩ ∈ rTs := List.mem_append_left _ (rBm42 (List.mem_of_getElem? (i := 28) rfl))
set_option maxRecDepth 100000 in
theorem kw2045 : Cond.code ⟨"NativeWorks$Reade\x72", "push", "(IIII)V"⟩ prog_10_method_22_code 5 (Option.none : Option FieldType) ∈ rTs := List.mem_append_left _ (rBm42 (List.mem_of_getElem? (i := 29) rfl))
set_option maxRecDepth 100000 in
theorem kw2046 : Cond.code ⟨"NativeWorks$Reade\x72", "readElse", "()V"⟩ prog_10_method_15_code 1 (Option.none : Option FieldType) ∈ rTs := List.mem_append_left _ (rBm42 (List.mem_of_getElem? (i := 30) rfl))
set_option maxRecDepth 100000 in
theorem kw2047 : Cond.methodLink "NativeWorks$Reade\x72" 161 ⟨"NativeWorks$Reade\x72", "goBehind", "(I)Z"⟩ ∈ rTs := List.mem_append_left _ (rBm42 (List.mem_of_getElem? (i := 31) rfl))
set_option maxRecDepth 100000 in
theorem kw2048 : Cond.instanceMethod ⟨"NativeWorks$Reade\x72", "goBehind", "(I)Z"⟩ ∈ rTs := List.mem_append_left _ (rBm42 (List.mem_of_getElem? (i := 32) rfl))
set_option maxRecDepth 100000 in
theorem kw2049 : Cond.selects "NativeWorks$Reade\x72" ⟨"NativeWorks$Reade\x72", "goBehind", "(I)Z"⟩ ⟨"NativeWorks$Reade\x72", "goBehind", "(I)Z"⟩ ∈ rTs := List.mem_append_left _ (rBm42 (List.mem_of_getElem? (i := 33) rfl))
set_option maxRecDepth 100000 in
theorem kw2050 : Cond.code ⟨"NativeWorks$Reade\x72", "readEndif", "()V"⟩ prog_10_method_16_code 1 (Option.none : Option FieldType) ∈ rTs := List.mem_append_left _ (rBm42 (List.mem_of_getElem? (i := 34) rfl))
set_option maxRecDepth 100000 in
theorem kw2051 : Cond.code ⟨"NativeWorks$Reade\x72", "readIf", "(Z)V"⟩ prog_10_method_13_code 3 (Option.none : Option FieldType) ∈ rTs := List.mem_append_left _ (rBm42 (List.mem_of_getElem? (i := 35) rfl))
set_option maxRecDepth 100000 in
theorem kw2052 : Cond.methodLink "NativeWorks$Reade\x72" 154 ⟨"NativeWorks$Reade\x72", "openIf", "(Z)V"⟩ ∈ rTs := List.mem_append_left _ (rBm42 (List.mem_of_getElem? (i := 36) rfl))
set_option maxRecDepth 100000 in
theorem kw2053 : Cond.instanceMethod ⟨"NativeWorks$Reade\x72", "openIf", "(Z)V"⟩ ∈ rTs := List.mem_append_left _ (rBm42 (List.mem_of_getElem? (i := 37) rfl))
set_option maxRecDepth 100000 in
theorem kw2054 : Cond.selects "NativeWorks$Reade\x72" ⟨"NativeWorks$Reade\x72", "openIf", "(Z)V"⟩ ⟨"NativeWorks$Reade\x72", "openIf", "(Z)V"⟩ ∈ rTs := List.mem_append_left _ (rBm42 (List.mem_of_getElem? (i := 38) rfl))
set_option maxRecDepth 100000 in
theorem kw2055 : Cond.fieldLink "NativeWorks$Reade\x72" 158 "NativeWorks$Source" "elses" "[I" ∈ rTs := List.mem_append_left _ (rBm42 (List.mem_of_getElem? (i := 39) rfl))
set_option maxRecDepth 100000 in
theorem kw2056 : Cond.fieldLink "NativeWorks$Reade\x72" 165 "NativeWorks$Source" "sorts" "[B" ∈ rTs := List.mem_append_left _ (rBm42 (List.mem_of_getElem? (i := 40) rfl))
set_option maxRecDepth 100000 in
theorem kw2057 : Cond.code ⟨"NativeWorks$Reade\x72", "readMacro", "(I)V"⟩ prog_10_method_19_code 5 (Option.none : Option FieldType) ∈ rTs := List.mem_append_left _ (rBm42 (List.mem_of_getElem? (i := 41) rfl))
set_option maxRecDepth 100000 in
theorem kw2058 : Cond.methodLink "NativeWorks$Reade\x72" 172 ⟨"NativeWorks$Source", "macroEnd", "(I)I"⟩ ∈ rTs := List.mem_append_left _ (rBm42 (List.mem_of_getElem? (i := 42) rfl))
set_option maxRecDepth 100000 in
theorem kw2059 : Cond.instanceMethod ⟨"NativeWorks$Source", "macroEnd", "(I)I"⟩ ∈ rTs := List.mem_append_left _ (rBm42 (List.mem_of_getElem? (i := 43) rfl))
set_option maxRecDepth 100000 in
theorem kw2060 : Cond.selects "NativeWorks$Source" ⟨"NativeWorks$Source", "macroEnd", "(I)I"⟩ ⟨"NativeWorks$Source", "macroEnd", "(I)I"⟩ ∈ rTs := List.mem_append_left _ (rBm42 (List.mem_of_getElem? (i := 44) rfl))
set_option maxRecDepth 100000 in
theorem kw2061 : Cond.methodLink "NativeWorks$Reade\x72" 176 ⟨"NativeWorks$Source", "addMacro", "(LNativeWorks$Line;II)I"⟩ ∈ rTs := List.mem_append_left _ (rBm42 (List.mem_of_getElem? (i := 45) rfl))
set_option maxRecDepth 100000 in
theorem kw2062 : Cond.instanceMethod ⟨"NativeWorks$Source", "addMacro", "(LNativeWorks$Line;II)I"⟩ ∈ rTs := List.mem_append_left _ (rBm42 (List.mem_of_getElem? (i := 46) rfl))
set_option maxRecDepth 100000 in
theorem kw2063 : Cond.selects "NativeWorks$Source" ⟨"NativeWorks$Source", "addMacro", "(LNativeWorks$Line;II)I"⟩ ⟨"NativeWorks$Source", "addMacro", "(LNativeWorks$Line;II)I"⟩ ∈ rTs := List.mem_append_left _ (rBm42 (List.mem_of_getElem? (i := 47) rfl))
set_option maxRecDepth 100000 in
theorem kw2064 : Cond.fieldLink "NativeWorks$Reade\x72" 180 "NativeWorks$Source" "bodyFrom" "[I" ∈ rTs := List.mem_append_left _ (rBm43 (List.mem_of_getElem? (i := 0) rfl))
set_option maxRecDepth 100000 in
theorem kw2065 : Cond.fieldLink "NativeWorks$Reade\x72" 183 "NativeWorks$Source" "bodyTo" "[I" ∈ rTs := List.mem_append_left _ (rBm43 (List.mem_of_getElem? (i := 1) rfl))
set_option maxRecDepth 100000 in
theorem kw2066 : Cond.code ⟨"NativeWorks$Reade\x72", "readRept", "(I)V"⟩ prog_10_method_18_code 4 (Option.none : Option FieldType) ∈ rTs := List.mem_append_left _ (rBm43 (List.mem_of_getElem? (i := 2) rfl))
set_option maxRecDepth 100000 in
theorem kw2067 : Cond.methodLink "NativeWorks$Reade\x72" 168 ⟨"NativeWorks$Reade\x72", "push", "(IIII)V"⟩ ∈ rTs := List.mem_append_left _ (rBm43 (List.mem_of_getElem? (i := 3) rfl))
set_option maxRecDepth 100000 in
theorem kw2068 : Cond.instanceMethod ⟨"NativeWorks$Reade\x72", "push", "(IIII)V"⟩ ∈ rTs := List.mem_append_left _ (rBm43 (List.mem_of_getElem? (i := 4) rfl))
set_option maxRecDepth 100000 in
theorem kw2069 : Cond.selects "NativeWorks$Reade\x72" ⟨"NativeWorks$Reade\x72", "push", "(IIII)V"⟩ ⟨"NativeWorks$Reade\x72", "push", "(IIII)V"⟩ ∈ rTs := List.mem_append_left _ (rBm43 (List.mem_of_getElem? (i := 5) rfl))
set_option maxRecDepth 100000 in
theorem kw2070 : Cond.code ⟨"NativeWorks$Reade\x72", "replace", "(III)V"⟩ prog_10_method_5_code 7 (Option.none : Option FieldType) ∈ rTs := List.mem_append_left _ (rBm43 (List.mem_of_getElem? (i := 6) rfl))
set_option maxRecDepth 100000 in
theorem kw2071 : Cond.methodLink "NativeWorks$Reade\x72" 115 ⟨"NativeWorks$Reade\x72", "appendNumbe\x72", "(I)V"⟩ ∈ rTs := List.mem_append_left _ (rBm43 (List.mem_of_getElem? (i := 7) rfl))
set_option maxRecDepth 100000 in
theorem kw2072 : Cond.instanceMethod ⟨"NativeWorks$Reade\x72", "appendNumbe\x72", "(I)V"⟩ ∈ rTs := List.mem_append_left _ (rBm43 (List.mem_of_getElem? (i := 8) rfl))
set_option maxRecDepth 100000 in
theorem kw2073 : Cond.selects "NativeWorks$Reade\x72" ⟨"NativeWorks$Reade\x72", "appendNumbe\x72", "(I)V"⟩ ⟨"NativeWorks$Reade\x72", "appendNumbe\x72", "(I)V"⟩ ∈ rTs := List.mem_append_left _ (rBm43 (List.mem_of_getElem? (i := 9) rfl))
set_option maxRecDepth 100000 in
theorem kw2074 : Cond.methodLink "NativeWorks$Reade\x72" 118 ⟨"NativeWorks$Source", "parameterAt", "(III)I"⟩ ∈ rTs := List.mem_append_left _ (rBm43 (List.mem_of_getElem? (i := 10) rfl))
set_option maxRecDepth 100000 in
theorem kw2075 : Cond.instanceMethod ⟨"NativeWorks$Source", "parameterAt", "(III)I"⟩ ∈ rTs := List.mem_append_left _ (rBm43 (List.mem_of_getElem? (i := 11) rfl))
set_option maxRecDepth 100000 in
theorem kw2076 : Cond.selects "NativeWorks$Source" ⟨"NativeWorks$Source", "parameterAt", "(III)I"⟩ ⟨"NativeWorks$Source", "parameterAt", "(III)I"⟩ ∈ rTs := List.mem_append_left _ (rBm43 (List.mem_of_getElem? (i := 12) rfl))
set_option maxRecDepth 100000 in
theorem kw2077 : Cond.methodLink "NativeWorks$Reade\x72" 129 ⟨"NativeWorks$Reade\x72", "appendArgument", "(II)V"⟩ ∈ rTs := List.mem_append_left _ (rBm43 (List.mem_of_getElem? (i := 13) rfl))
set_option maxRecDepth 100000 in
theorem kw2078 : Cond.instanceMethod ⟨"NativeWorks$Reade\x72", "appendArgument", "(II)V"⟩ ∈ rTs := List.mem_append_left _ (rBm43 (List.mem_of_getElem? (i := 14) rfl))
set_option maxRecDepth 100000 in
theorem kw2079 : Cond.selects "NativeWorks$Reade\x72" ⟨"NativeWorks$Reade\x72", "appendArgument", "(II)V"⟩ ⟨"NativeWorks$Reade\x72", "appendArgument", "(II)V"⟩ ∈ rTs := List.mem_append_left _ (rBm43 (List.mem_of_getElem? (i := 15) rfl))
set_option maxRecDepth 100000 in
theorem kw2080 : Cond.fieldLink "NativeWorks$Reade\x72" 133 "NativeWorks$Source" "parameterTo" "[I" ∈ rTs := List.mem_append_left _ (rBm43 (List.mem_of_getElem? (i := 16) rfl))
set_option maxRecDepth 100000 in
theorem kw2081 : Cond.fieldLink "NativeWorks$Reade\x72" 136 "NativeWorks$Source" "parameterFrom" "[I" ∈ rTs := List.mem_append_left _ (rBm43 (List.mem_of_getElem? (i := 17) rfl))
set_option maxRecDepth 100000 in
theorem kw2082 : Cond.code ⟨"NativeWorks$Reade\x72", "split", "(III)I"⟩ prog_10_method_23_code 11 (Option.some FieldType.int) ∈ rTs := List.mem_append_left _ (rBm43 (List.mem_of_getElem? (i := 18) rfl))
set_option maxRecDepth 100000 in
theorem kw2083 : Cond.methodLink "NativeWorks$Reade\x72" 194 ⟨"java/util/Arrays", "fill", "([IIII)V"⟩ ∈ rTs := List.mem_append_left _ (rBm43 (List.mem_of_getElem? (i := 19) rfl))
set_option maxRecDepth 100000 in
theorem kw2084 : Cond.fieldLink "NativeWorks$Reade\x72" 200 "NativeWorks$Line" "kind" "[I" ∈ rTs := List.mem_append_left _ (rBm43 (List.mem_of_getElem? (i := 20) rfl))
set_option maxRecDepth 100000 in
theorem kw2085 : Cond.fieldLink "NativeWorks$Reade\x72" 203 "NativeWorks$Line" "count" "I" ∈ rTs := List.mem_append_left _ (rBm43 (List.mem_of_getElem? (i := 21) rfl))
set_option maxRecDepth 100000 in
theorem kw2086 : Cond.fieldLink "NativeWorks$Reade\x72" 206 "NativeWorks$Line" "from" "[I" ∈ rTs := List.mem_append_left _ (rBm43 (List.mem_of_getElem? (i := 22) rfl))
set_option maxRecDepth 100000 in
theorem kw2087 : Cond.fieldLink "NativeWorks$Reade\x72" 209 "NativeWorks$Line" "to" "[I" ∈ rTs := List.mem_append_left _ (rBm43 (List.mem_of_getElem? (i := 23) rfl))
set_option maxRecDepth 100000 in
theorem kw2088 : Cond.code ⟨"NativeWorks$Reade\x72", "tooMuch", "()Z"⟩ prog_10_method_10_code 1 (Option.some FieldType.boolean) ∈ rTs := List.mem_append_left _ (rBm43 (List.mem_of_getElem? (i := 24) rfl))
set_option maxRecDepth 100000 in
theorem kw2089 : Cond.constant "NativeWorks$Reade\x72" 139 (nI 65536) ∈ rTs := List.mem_append_left _ (rBm43 (List.mem_of_getElem? (i := 25) (by decide +kernel)))
set_option maxRecDepth 100000 in
theorem kw2090 : Cond.code ⟨"NativeWorks$Reade\x72", "use", "(I)V"⟩ prog_10_method_21_code 2 (Option.none : Option FieldType) ∈ rTs := List.mem_append_left _ (rBm43 (List.mem_of_getElem? (i := 26) rfl))
set_option maxRecDepth 100000 in
theorem kw2091 : Cond.code ⟨"NativeWorks$Source", "addMacro", "(LNativeWorks$Line;II)I"⟩ prog_11_method_7_code 7 (Option.some FieldType.int) ∈ rTs := List.mem_append_left _ (rBm43 (List.mem_of_getElem? (i := 27) rfl))
set_option maxRecDepth 100000 in
theorem kw2092 : Cond.fieldLink "NativeWorks$Source" 94 "NativeWorks$Line" "text" "[B" ∈ rTs := List.mem_append_left _ (rBm43 (List.mem_of_getElem? (i := 28) rfl))
set_option maxRecDepth 100000 in
theorem kw2093 : Cond.fieldLink "NativeWorks$Source" 97 "NativeWorks$Line" "from" "[I" ∈ rTs := List.mem_append_left _ (rBm43 (List.mem_of_getElem? (i := 29) rfl))
set_option maxRecDepth 100000 in
theorem kw2094 : Cond.fieldLink "NativeWorks$Source" 100 "NativeWorks$Line" "to" "[I" ∈ rTs := List.mem_append_left _ (rBm43 (List.mem_of_getElem? (i := 30) rfl))
set_option maxRecDepth 100000 in
theorem kw2095 : Cond.methodLink "NativeWorks$Source" 103 ⟨"NativeWorks$Names", "add", "([BII)I"⟩ ∈ rTs := List.mem_append_left _ (rBm43 (List.mem_of_getElem? (i := 31) rfl))
set_option maxRecDepth 100000 in
theorem kw2096 : Cond.fieldLink "NativeWorks$Source" 107 "NativeWorks$Line" "count" "I" ∈ rTs := List.mem_append_left _ (rBm43 (List.mem_of_getElem? (i := 32) rfl))
set_option maxRecDepth 100000 in
theorem kw2097 : Cond.fieldLink "NativeWorks$Source" 108 "NativeWorks$Line" "kind" "[I" ∈ rTs := List.mem_append_left _ (rBm43 (List.mem_of_getElem? (i := 33) rfl))
set_option maxRecDepth 100000 in
theorem kw2098 : Cond.code ⟨"NativeWorks$Source", "behind", "([II)I"⟩ prog_11_method_5_code 3 (Option.some FieldType.int) ∈ rTs := List.mem_append_left _ (rBm43 (List.mem_of_getElem? (i := 34) rfl))
set_option maxRecDepth 100000 in
theorem kw2099 : Cond.code ⟨"NativeWorks$Source", "macroEnd", "(I)I"⟩ prog_11_method_6_code 3 (Option.some FieldType.int) ∈ rTs := List.mem_append_left _ (rBm43 (List.mem_of_getElem? (i := 35) rfl))
set_option maxRecDepth 100000 in
theorem kw2100 : Cond.methodLink "NativeWorks$Source" 90 ⟨"NativeWorks$Source", "behind", "([II)I"⟩ ∈ rTs := List.mem_append_left _ (rBm43 (List.mem_of_getElem? (i := 36) rfl))
set_option maxRecDepth 100000 in
theorem kw2101 : Cond.instanceMethod ⟨"NativeWorks$Source", "behind", "([II)I"⟩ ∈ rTs := List.mem_append_left _ (rBm43 (List.mem_of_getElem? (i := 37) rfl))
set_option maxRecDepth 100000 in
theorem kw2102 : Cond.selects "NativeWorks$Source" ⟨"NativeWorks$Source", "behind", "([II)I"⟩ ⟨"NativeWorks$Source", "behind", "([II)I"⟩ ∈ rTs := List.mem_append_left _ (rBm43 (List.mem_of_getElem? (i := 38) rfl))
set_option maxRecDepth 100000 in
theorem kw2103 : Cond.code ⟨"NativeWorks$Source", "parameterAt", "(III)I"⟩ prog_11_method_8_code 9 (Option.some FieldType.int) ∈ rTs := List.mem_append_left _ (rBm43 (List.mem_of_getElem? (i := 39) rfl))
set_option maxRecDepth 100000 in
theorem kw2104 : Cond.code ⟨"NativeWorks$Source", "sortOf", "(I)I"⟩ prog_11_method_3_code 6 (Option.some FieldType.int) ∈ rTs := List.mem_append_left _ (rBm43 (List.mem_of_getElem? (i := 40) rfl))
set_option maxRecDepth 100000 in
theorem kw2105 : Cond.methodLink "NativeWorks$Source" 77 ⟨"NativeWorks$Line", "inName", "(I)Z"⟩ ∈ rTs := List.mem_append_left _ (rBm43 (List.mem_of_getElem? (i := 41) rfl))
set_option maxRecDepth 100000 in
theorem kw2106 : Cond.fieldLink "NativeWorks$Source" 83 "NativeWorks$Names" "count" "I" ∈ rTs := List.mem_append_left _ (rBm43 (List.mem_of_getElem? (i := 42) rfl))
set_option maxRecDepth 100000 in
theorem kw2107 : Cond.methodLink "NativeWorks$Source" 86 ⟨"NativeWorks$Names", "find", "([BIII)I"⟩ ∈ rTs := List.mem_append_left _ (rBm43 (List.mem_of_getElem? (i := 43) rfl))
set_option maxRecDepth 100000 in
theorem kw2108 : Cond.methodLink "NativeWorks$Source" 70 ⟨"NativeWorks$Source", "sortOf", "(I)I"⟩ ∈ rTs := List.mem_append_left _ (rBm43 (List.mem_of_getElem? (i := 44) rfl))
set_option maxRecDepth 100000 in
theorem kw2109 : Cond.instanceMethod ⟨"NativeWorks$Source", "sortOf", "(I)I"⟩ ∈ rTs := List.mem_append_left _ (rBm43 (List.mem_of_getElem? (i := 45) rfl))
set_option maxRecDepth 100000 in
theorem kw2110 : Cond.selects "NativeWorks$Source" ⟨"NativeWorks$Source", "sortOf", "(I)I"⟩ ⟨"NativeWorks$Source", "sortOf", "(I)I"⟩ ∈ rTs := List.mem_append_left _ (rBm43 (List.mem_of_getElem? (i := 46) rfl))
set_option maxRecDepth 100000 in
theorem kw2111 : Cond.code ⟨"NativeWorks$Units", "addWait", "(IIZIIJ)Z"⟩ prog_12_method_10_code 9 (Option.some FieldType.boolean) ∈ rTs := List.mem_append_left _ (rBm43 (List.mem_of_getElem? (i := 47) rfl))
set_option maxRecDepth 100000 in
theorem kw2112 : Cond.code ⟨"NativeWorks$Units", "add", "(IIIII)Z"⟩ prog_12_method_11_code 7 (Option.some FieldType.boolean) ∈ rTs := List.mem_append_left _ (rBm44 (List.mem_of_getElem? (i := 0) rfl))
set_option maxRecDepth 100000 in
theorem kw2113 : Cond.code ⟨"NativeWorks$Units", "beLabel", "(III)V"⟩ prog_12_method_8_code 5 (Option.none : Option FieldType) ∈ rTs := List.mem_append_left _ (rBm44 (List.mem_of_getElem? (i := 1) rfl))
set_option maxRecDepth 100000 in
theorem kw2114 : Cond.code ⟨"NativeWorks$Units", "beginSymbol", "(I)V"⟩ prog_12_method_7_code 2 (Option.none : Option FieldType) ∈ rTs := List.mem_append_left _ (rBm44 (List.mem_of_getElem? (i := 2) rfl))
set_option maxRecDepth 100000 in
theorem kw2115 : Cond.methodLink "NativeWorks$Units" 95 ⟨"NativeWorks$Units", "sectionOf", "(I[I)I"⟩ ∈ rTs := List.mem_append_left _ (rBm44 (List.mem_of_getElem? (i := 3) rfl))
set_option maxRecDepth 100000 in
theorem kw2116 : Cond.instanceMethod ⟨"NativeWorks$Units", "sectionOf", "(I[I)I"⟩ ∈ rTs := List.mem_append_left _ (rBm44 (List.mem_of_getElem? (i := 4) rfl))
set_option maxRecDepth 100000 in
theorem kw2117 : Cond.selects "NativeWorks$Units" ⟨"NativeWorks$Units", "sectionOf", "(I[I)I"⟩ ⟨"NativeWorks$Units", "sectionOf", "(I[I)I"⟩ ∈ rTs := List.mem_append_left _ (rBm44 (List.mem_of_getElem? (i := 5) rfl))
set_option maxRecDepth 100000 in
theorem kw2118 : Cond.code ⟨"NativeWorks$Units", "distance", "([I)J"⟩ prog_12_method_19_code 3 (Option.some FieldType.long) ∈ rTs := List.mem_append_left _ (rBm44 (List.mem_of_getElem? (i := 6) rfl))
set_option maxRecDepth 100000 in
theorem kw2119 : Cond.methodLink "NativeWorks$Units" 121 ⟨"NativeWorks$Units", "placeOf", "(I[I)I"⟩ ∈ rTs := List.mem_append_left _ (rBm44 (List.mem_of_getElem? (i := 7) rfl))
set_option maxRecDepth 100000 in
theorem kw2120 : Cond.instanceMethod ⟨"NativeWorks$Units", "placeOf", "(I[I)I"⟩ ∈ rTs := List.mem_append_left _ (rBm44 (List.mem_of_getElem? (i := 8) rfl))
set_option maxRecDepth 100000 in
theorem kw2121 : Cond.selects "NativeWorks$Units" ⟨"NativeWorks$Units", "placeOf", "(I[I)I"⟩ ⟨"NativeWorks$Units", "placeOf", "(I[I)I"⟩ ∈ rTs := List.mem_append_left _ (rBm44 (List.mem_of_getElem? (i := 9) rfl))
set_option maxRecDepth 100000 in
theorem kw2122 : Cond.code ⟨"NativeWorks$Units", "drop", "()V"⟩ prog_12_method_5_code 2 (Option.none : Option FieldType) ∈ rTs := List.mem_append_left _ (rBm44 (List.mem_of_getElem? (i := 10) rfl))
set_option maxRecDepth 100000 in
theorem kw2123 : Cond.methodLink "NativeWorks$Units" 99 ⟨"NativeWorks$Units", "mayBeShort", "([I[I)Z"⟩ ∈ rTs := List.mem_append_left _ (rBm44 (List.mem_of_getElem? (i := 11) rfl))
set_option maxRecDepth 100000 in
theorem kw2124 : Cond.instanceMethod ⟨"NativeWorks$Units", "mayBeShort", "([I[I)Z"⟩ ∈ rTs := List.mem_append_left _ (rBm44 (List.mem_of_getElem? (i := 12) rfl))
set_option maxRecDepth 100000 in
theorem kw2125 : Cond.selects "NativeWorks$Units" ⟨"NativeWorks$Units", "mayBeShort", "([I[I)Z"⟩ ⟨"NativeWorks$Units", "mayBeShort", "([I[I)Z"⟩ ∈ rTs := List.mem_append_left _ (rBm44 (List.mem_of_getElem? (i := 13) rfl))
set_option maxRecDepth 100000 in
theorem kw2126 : Cond.methodLink "NativeWorks$Units" 113 ⟨"NativeWorks$Units", "distance", "([I)J"⟩ ∈ rTs := List.mem_append_left _ (rBm44 (List.mem_of_getElem? (i := 14) rfl))
set_option maxRecDepth 100000 in
theorem kw2127 : Cond.instanceMethod ⟨"NativeWorks$Units", "distance", "([I)J"⟩ ∈ rTs := List.mem_append_left _ (rBm44 (List.mem_of_getElem? (i := 15) rfl))
set_option maxRecDepth 100000 in
theorem kw2128 : Cond.selects "NativeWorks$Units" ⟨"NativeWorks$Units", "distance", "([I)J"⟩ ⟨"NativeWorks$Units", "distance", "([I)J"⟩ ∈ rTs := List.mem_append_left _ (rBm44 (List.mem_of_getElem? (i := 16) rfl))
set_option maxRecDepth 100000 in
theorem kw2129 : Cond.constantLong "NativeWorks$Units" 117 (lN 18446744073709551488) ∈ rTs := List.mem_append_left _ (rBm44 (List.mem_of_getElem? (i := 17) (by decide +kernel)))
set_option maxRecDepth 100000 in
theorem kw2130 : Cond.constantLong "NativeWorks$Units" 119 (lN 127) ∈ rTs := List.mem_append_left _ (rBm44 (List.mem_of_getElem? (i := 18) (by decide +kernel)))
set_option maxRecDepth 100000 in
theorem kw2131 : Cond.code ⟨"NativeWorks$Units", "mayBeShort", "([I[I)Z"⟩ prog_12_method_16_code 4 (Option.some FieldType.boolean) ∈ rTs := List.mem_append_left _ (rBm44 (List.mem_of_getElem? (i := 19) rfl))
set_option maxRecDepth 100000 in
theorem kw2132 : Cond.constant "NativeWorks$Units" 124 (nI 65536) ∈ rTs := List.mem_append_left _ (rBm44 (List.mem_of_getElem? (i := 20) (by decide +kernel)))
set_option maxRecDepth 100000 in
theorem kw2133 : Cond.code ⟨"NativeWorks$Units", "placeOf", "(I[I)I"⟩ prog_12_method_14_code 3 (Option.some FieldType.int) ∈ rTs := List.mem_append_left _ (rBm44 (List.mem_of_getElem? (i := 21) rfl))
set_option maxRecDepth 100000 in
theorem kw2134 : Cond.code ⟨"NativeWorks$Units", "putNumbe\x72", "(JI)V"⟩ prog_12_method_9_code 5 (Option.none : Option FieldType) ∈ rTs := List.mem_append_left _ (rBm44 (List.mem_of_getElem? (i := 22) rfl))
set_option maxRecDepth 100000 in
theorem kw2135 : Cond.code ⟨"NativeWorks$Units", "sectionOf", "(I[I)I"⟩ prog_12_method_13_code 3 (Option.some FieldType.int) ∈ rTs := List.mem_append_left _ (rBm44 (List.mem_of_getElem? (i := 23) rfl))
set_option maxRecDepth 100000 in
theorem kw2136 : Cond.code ⟨"NativeWorks$Units", "writeStatement", "([II)V"⟩ prog_12_method_23_code 4 (Option.none : Option FieldType) ∈ rTs := List.mem_append_left _ (rBm44 (List.mem_of_getElem? (i := 24) rfl))
set_option maxRecDepth 100000 in
theorem kw2137 : Cond.methodLink "NativeWorks$Units" 131 ⟨"java/lang/System", "arraycopy", "(Ljava/lang/Object;ILjava/lang/Object;II)V"⟩ ∈ rTs := List.mem_append_left _ (rBm44 (List.mem_of_getElem? (i := 25) rfl))
set_option maxRecDepth 100000 in
theorem kw2138 : Cond.methodLink "NativeWorks$Units" 128 ⟨"NativeWorks$Units", "writeStatement", "([II)V"⟩ ∈ rTs := List.mem_append_left _ (rBm44 (List.mem_of_getElem? (i := 26) rfl))
set_option maxRecDepth 100000 in
theorem kw2139 : Cond.instanceMethod ⟨"NativeWorks$Units", "writeStatement", "([II)V"⟩ ∈ rTs := List.mem_append_left _ (rBm44 (List.mem_of_getElem? (i := 27) rfl))
set_option maxRecDepth 100000 in
theorem kw2140 : Cond.selects "NativeWorks$Units" ⟨"NativeWorks$Units", "writeStatement", "([II)V"⟩ ⟨"NativeWorks$Units", "writeStatement", "([II)V"⟩ ∈ rTs := List.mem_append_left _ (rBm44 (List.mem_of_getElem? (i := 28) rfl))
set_option maxRecDepth 100000 in
theorem kw2141 : Cond.code ⟨"NativeWorksModel$Code", "at", "(J)I"⟩ prog_15_method_3_code 6 (Option.some FieldType.int) ∈ rTs := List.mem_append_left _ (rBm44 (List.mem_of_getElem? (i := 29) rfl))
set_option maxRecDepth 100000 in
theorem kw2142 : Cond.fieldLink "NativeWorksModel$Code" 28 "NativeWorksModel$Code" "many" "I" ∈ rTs := List.mem_append_left _ (rBm44 (List.mem_of_getElem? (i := 30) rfl))
set_option maxRecDepth 100000 in
theorem kw2143 : Cond.code ⟨"NativeWorksModel$Code", "copy", "(LNativeWorksModel$Code;)V"⟩ prog_15_method_2_code 3 (Option.none : Option FieldType) ∈ rTs := List.mem_append_left _ (rBm44 (List.mem_of_getElem? (i := 31) rfl))
set_option maxRecDepth 100000 in
theorem kw2144 : Cond.fieldLink "NativeWorksModel$Code" 32 "NativeWorksModel$Code" "end" "I" ∈ rTs := List.mem_append_left _ (rBm44 (List.mem_of_getElem? (i := 32) rfl))
set_option maxRecDepth 100000 in
theorem kw2145 : Cond.fieldLink "NativeWorksModel$Code" 35 "NativeWorksModel$Code" "textEnd" "I" ∈ rTs := List.mem_append_left _ (rBm44 (List.mem_of_getElem? (i := 33) rfl))
set_option maxRecDepth 100000 in
theorem kw2146 : Cond.fieldLink "NativeWorksModel$Code" 38 "NativeWorksModel$Code" "rodataBegin" "I" ∈ rTs := List.mem_append_left _ (rBm44 (List.mem_of_getElem? (i := 34) rfl))
set_option maxRecDepth 100000 in
theorem kw2147 : Cond.fieldLink "NativeWorksModel$Code" 41 "NativeWorksModel$Code" "rodataEnd" "I" ∈ rTs := List.mem_append_left _ (rBm44 (List.mem_of_getElem? (i := 35) rfl))
set_option maxRecDepth 100000 in
theorem kw2148 : Cond.fieldLink "NativeWorksModel$Code" 44 "NativeWorksModel$Code" "dataBegin" "I" ∈ rTs := List.mem_append_left _ (rBm44 (List.mem_of_getElem? (i := 36) rfl))
set_option maxRecDepth 100000 in
theorem kw2149 : Cond.fieldLink "NativeWorksModel$Code" 47 "NativeWorksModel$Code" "dataEnd" "I" ∈ rTs := List.mem_append_left _ (rBm44 (List.mem_of_getElem? (i := 37) rfl))
set_option maxRecDepth 100000 in
theorem kw2150 : Cond.fieldLink "NativeWorksModel$Code" 50 "NativeWorksModel$Code" "start" "J" ∈ rTs := List.mem_append_left _ (rBm44 (List.mem_of_getElem? (i := 38) rfl))
set_option maxRecDepth 100000 in
theorem kw2151 : Cond.code ⟨"NativeWorksModel", "act", "(III)V"⟩ prog_14_method_71_code 7 (Option.none : Option FieldType) ∈ rTs := List.mem_append_left _ (rBm44 (List.mem_of_getElem? (i := 39) rfl))
set_option maxRecDepth 100000 in
theorem kw2152 : Cond.methodLink "NativeWorksModel" 860 ⟨"NativeWorksModel", "isName", "(I)Z"⟩ ∈ rTs := List.mem_append_left _ (rBm44 (List.mem_of_getElem? (i := 40) rfl))
set_option maxRecDepth 100000 in
theorem kw2153 : Cond.instanceMethod ⟨"NativeWorksModel", "isName", "(I)Z"⟩ ∈ rTs := List.mem_append_left _ (rBm44 (List.mem_of_getElem? (i := 41) rfl))
set_option maxRecDepth 100000 in
theorem kw2154 : Cond.selects "NativeWorksModel" ⟨"NativeWorksModel", "isName", "(I)Z"⟩ ⟨"NativeWorksModel", "isName", "(I)Z"⟩ ∈ rTs := List.mem_append_left _ (rBm44 (List.mem_of_getElem? (i := 42) rfl))
set_option maxRecDepth 100000 in
theorem kw2155 : Cond.fieldLink "NativeWorksModel" 703 "NativeWorksModel" "tokens" "I" ∈ rTs := List.mem_append_left _ (rBm44 (List.mem_of_getElem? (i := 43) rfl))
set_option maxRecDepth 100000 in
theorem kw2156 : Cond.methodLink "NativeWorksModel" 678 ⟨"NativeWorksModel", "fail", "(I)V"⟩ ∈ rTs := List.mem_append_left _ (rBm44 (List.mem_of_getElem? (i := 44) rfl))
set_option maxRecDepth 100000 in
theorem kw2157 : Cond.instanceMethod ⟨"NativeWorksModel", "fail", "(I)V"⟩ ∈ rTs := List.mem_append_left _ (rBm44 (List.mem_of_getElem? (i := 45) rfl))
set_option maxRecDepth 100000 in
theorem kw2158 : Cond.selects "NativeWorksModel" ⟨"NativeWorksModel", "fail", "(I)V"⟩ ⟨"NativeWorksModel", "fail", "(I)V"⟩ ∈ rTs := List.mem_append_left _ (rBm44 (List.mem_of_getElem? (i := 46) rfl))
set_option maxRecDepth 100000 in
theorem kw2159 : Cond.methodLink "NativeWorksModel" 897 ⟨"NativeWorksModel", "nameAll", "(II)V"⟩ ∈ rTs := List.mem_append_left _ (rBm44 (List.mem_of_getElem? (i := 47) rfl))
set_option maxRecDepth 100000 in
theorem kw2160 : Cond.instanceMethod ⟨"NativeWorksModel", "nameAll", "(II)V"⟩ ∈ rTs := List.mem_append_left _ (rBm45 (List.mem_of_getElem? (i := 0) rfl))
set_option maxRecDepth 100000 in
theorem kw2161 : Cond.selects "NativeWorksModel" ⟨"NativeWorksModel", "nameAll", "(II)V"⟩ ⟨"NativeWorksModel", "nameAll", "(II)V"⟩ ∈ rTs := List.mem_append_left _ (rBm45 (List.mem_of_getElem? (i := 1) rfl))
set_option maxRecDepth 100000 in
theorem kw2162 : Cond.methodLink "NativeWorksModel" 900 ⟨"NativeWorksModel", "define", "(I)V"⟩ ∈ rTs := List.mem_append_left _ (rBm45 (List.mem_of_getElem? (i := 2) rfl))
set_option maxRecDepth 100000 in
theorem kw2163 : Cond.instanceMethod ⟨"NativeWorksModel", "define", "(I)V"⟩ ∈ rTs := List.mem_append_left _ (rBm45 (List.mem_of_getElem? (i := 3) rfl))
set_option maxRecDepth 100000 in
theorem kw2164 : Cond.selects "NativeWorksModel" ⟨"NativeWorksModel", "define", "(I)V"⟩ ⟨"NativeWorksModel", "define", "(I)V"⟩ ∈ rTs := List.mem_append_left _ (rBm45 (List.mem_of_getElem? (i := 4) rfl))
set_option maxRecDepth 100000 in
theorem kw2165 : Cond.methodLink "NativeWorksModel" 903 ⟨"NativeWorksModel", "dataOf", "(II)V"⟩ ∈ rTs := List.mem_append_left _ (rBm45 (List.mem_of_getElem? (i := 5) rfl))
set_option maxRecDepth 100000 in
theorem kw2166 : Cond.instanceMethod ⟨"NativeWorksModel", "dataOf", "(II)V"⟩ ∈ rTs := List.mem_append_left _ (rBm45 (List.mem_of_getElem? (i := 6) rfl))
set_option maxRecDepth 100000 in
theorem kw2167 : Cond.selects "NativeWorksModel" ⟨"NativeWorksModel", "dataOf", "(II)V"⟩ ⟨"NativeWorksModel", "dataOf", "(II)V"⟩ ∈ rTs := List.mem_append_left _ (rBm45 (List.mem_of_getElem? (i := 7) rfl))
set_option maxRecDepth 100000 in
theorem kw2168 : Cond.methodLink "NativeWorksModel" 906 ⟨"NativeWorksModel", "fill", "(II)V"⟩ ∈ rTs := List.mem_append_left _ (rBm45 (List.mem_of_getElem? (i := 8) rfl))
set_option maxRecDepth 100000 in
theorem kw2169 : Cond.instanceMethod ⟨"NativeWorksModel", "fill", "(II)V"⟩ ∈ rTs := List.mem_append_left _ (rBm45 (List.mem_of_getElem? (i := 9) rfl))
set_option maxRecDepth 100000 in
theorem kw2170 : Cond.selects "NativeWorksModel" ⟨"NativeWorksModel", "fill", "(II)V"⟩ ⟨"NativeWorksModel", "fill", "(II)V"⟩ ∈ rTs := List.mem_append_left _ (rBm45 (List.mem_of_getElem? (i := 10) rfl))
set_option maxRecDepth 100000 in
theorem kw2171 : Cond.methodLink "NativeWorksModel" 909 ⟨"NativeWorksModel", "structure", "(II)V"⟩ ∈ rTs := List.mem_append_left _ (rBm45 (List.mem_of_getElem? (i := 11) rfl))
set_option maxRecDepth 100000 in
theorem kw2172 : Cond.instanceMethod ⟨"NativeWorksModel", "structure", "(II)V"⟩ ∈ rTs := List.mem_append_left _ (rBm45 (List.mem_of_getElem? (i := 12) rfl))
set_option maxRecDepth 100000 in
theorem kw2173 : Cond.selects "NativeWorksModel" ⟨"NativeWorksModel", "structure", "(II)V"⟩ ⟨"NativeWorksModel", "structure", "(II)V"⟩ ∈ rTs := List.mem_append_left _ (rBm45 (List.mem_of_getElem? (i := 13) rfl))
set_option maxRecDepth 100000 in
theorem kw2174 : Cond.methodLink "NativeWorksModel" 912 ⟨"NativeWorksModel", "call", "(I)V"⟩ ∈ rTs := List.mem_append_left _ (rBm45 (List.mem_of_getElem? (i := 14) rfl))
set_option maxRecDepth 100000 in
theorem kw2175 : Cond.instanceMethod ⟨"NativeWorksModel", "call", "(I)V"⟩ ∈ rTs := List.mem_append_left _ (rBm45 (List.mem_of_getElem? (i := 15) rfl))
set_option maxRecDepth 100000 in
theorem kw2176 : Cond.selects "NativeWorksModel" ⟨"NativeWorksModel", "call", "(I)V"⟩ ⟨"NativeWorksModel", "call", "(I)V"⟩ ∈ rTs := List.mem_append_left _ (rBm45 (List.mem_of_getElem? (i := 16) rfl))
set_option maxRecDepth 100000 in
theorem kw2177 : Cond.methodLink "NativeWorksModel" 915 ⟨"NativeWorksModel", "instruction", "(II)V"⟩ ∈ rTs := List.mem_append_left _ (rBm45 (List.mem_of_getElem? (i := 17) rfl))
set_option maxRecDepth 100000 in
theorem kw2178 : Cond.instanceMethod ⟨"NativeWorksModel", "instruction", "(II)V"⟩ ∈ rTs := List.mem_append_left _ (rBm45 (List.mem_of_getElem? (i := 18) rfl))
set_option maxRecDepth 100000 in
theorem kw2179 : Cond.selects "NativeWorksModel" ⟨"NativeWorksModel", "instruction", "(II)V"⟩ ⟨"NativeWorksModel", "instruction", "(II)V"⟩ ∈ rTs := List.mem_append_left _ (rBm45 (List.mem_of_getElem? (i := 19) rfl))
set_option maxRecDepth 100000 in
theorem kw2180 : Cond.code ⟨"NativeWorksModel", "addressNow", "()J"⟩ prog_14_method_160_code 7 (Option.some FieldType.long) ∈ rTs := List.mem_append_left _ (rBm45 (List.mem_of_getElem? (i := 20) rfl))
set_option maxRecDepth 100000 in
theorem kw2181 : Cond.fieldLink "NativeWorksModel" 1335 "NativeWorksModel" "now" "I" ∈ rTs := List.mem_append_left _ (rBm45 (List.mem_of_getElem? (i := 21) rfl))
set_option maxRecDepth 100000 in
theorem kw2182 : Cond.constantLong "NativeWorksModel" 819 (lN 63) ∈ rTs := List.mem_append_left _ (rBm45 (List.mem_of_getElem? (i := 22) (by decide +kernel)))
set_option maxRecDepth 100000 in
theorem kw2183 : Cond.constantLong "NativeWorksModel" 1099 (lN 15) ∈ rTs := List.mem_append_left _ (rBm45 (List.mem_of_getElem? (i := 23) (by decide +kernel)))
set_option maxRecDepth 100000 in
theorem kw2184 : Cond.code ⟨"NativeWorksModel", "add", "(JJZI)J"⟩ prog_14_method_168_code 9 (Option.some FieldType.long) ∈ rTs := List.mem_append_left _ (rBm45 (List.mem_of_getElem? (i := 24) rfl))
set_option maxRecDepth 100000 in
theorem kw2185 : Cond.methodLink "NativeWorksModel" 1346 ⟨"NativeWorksModel", "cut", "(JI)J"⟩ ∈ rTs := List.mem_append_left _ (rBm45 (List.mem_of_getElem? (i := 25) rfl))
set_option maxRecDepth 100000 in
theorem kw2186 : Cond.static ⟨"NativeWorksModel", "cut", "(JI)J"⟩ ∈ rTs := List.mem_append_left _ (rBm45 (List.mem_of_getElem? (i := 26) rfl))
set_option maxRecDepth 100000 in
theorem kw2187 : Cond.code ⟨"NativeWorksModel", "cut", "(JI)J"⟩ prog_14_method_158_code 3 (Option.some FieldType.long) ∈ rTs := List.mem_append_left _ (rBm45 (List.mem_of_getElem? (i := 27) rfl))
set_option maxRecDepth 100000 in
theorem kw2188 : Cond.methodLink "NativeWorksModel" 711 ⟨"java/lang/Long", "compareUnsigned", "(JJ)I"⟩ ∈ rTs := List.mem_append_left _ (rBm45 (List.mem_of_getElem? (i := 28) rfl))
set_option maxRecDepth 100000 in
theorem kw2189 : Cond.static ⟨"java/lang/Long", "compareUnsigned", "(JJ)I"⟩ ∈ rTs := List.mem_append_left _ (rBm45 (List.mem_of_getElem? (i := 29) rfl))
set_option maxRecDepth 100000 in
theorem kw2190 : Cond.code ⟨"java/lang/Long", "compareUnsigned", "(JJ)I"⟩ prog_26_method_43_code 4 (Option.some FieldType.int) ∈ rTs := List.mem_append_left _ (rBm45 (List.mem_of_getElem? (i := 30) rfl))
set_option maxRecDepth 100000 in
theorem kw2191 : Cond.methodLink "NativeWorksModel" 1369 ⟨"NativeWorksModel", "uppe\x72", "(JI)J"⟩ ∈ rTs := List.mem_append_left _ (rBm45 (List.mem_of_getElem? (i := 31) rfl))
set_option maxRecDepth 100000 in
theorem kw2192 : Cond.static ⟨"NativeWorksModel", "uppe\x72", "(JI)J"⟩ ∈ rTs := List.mem_append_left _ (rBm45 (List.mem_of_getElem? (i := 32) rfl))
set_option maxRecDepth 100000 in
theorem kw2193 : Cond.code ⟨"NativeWorksModel", "uppe\x72", "(JI)J"⟩ prog_14_method_166_code 3 (Option.some FieldType.long) ∈ rTs := List.mem_append_left _ (rBm45 (List.mem_of_getElem? (i := 33) rfl))
set_option maxRecDepth 100000 in
theorem kw2194 : Cond.methodLink "NativeWorksModel" 1387 ⟨"NativeWorksModel", "zsp", "(JI)V"⟩ ∈ rTs := List.mem_append_left _ (rBm45 (List.mem_of_getElem? (i := 34) rfl))
set_option maxRecDepth 100000 in
theorem kw2195 : Cond.instanceMethod ⟨"NativeWorksModel", "zsp", "(JI)V"⟩ ∈ rTs := List.mem_append_left _ (rBm45 (List.mem_of_getElem? (i := 35) rfl))
set_option maxRecDepth 100000 in
theorem kw2196 : Cond.selects "NativeWorksModel" ⟨"NativeWorksModel", "zsp", "(JI)V"⟩ ⟨"NativeWorksModel", "zsp", "(JI)V"⟩ ∈ rTs := List.mem_append_left _ (rBm45 (List.mem_of_getElem? (i := 36) rfl))
set_option maxRecDepth 100000 in
theorem kw2197 : Cond.code ⟨"NativeWorksModel", "allows", "(II)Z"⟩ prog_14_method_106_code 2 (Option.some FieldType.boolean) ∈ rTs := List.mem_append_left _ (rBm45 (List.mem_of_getElem? (i := 37) rfl))
set_option maxRecDepth 100000 in
theorem kw2198 : Cond.code ⟨"NativeWorksModel", "appendNumbe\x72", "(I)V"⟩ prog_14_method_31_code 4 (Option.none : Option FieldType) ∈ rTs := List.mem_append_left _ (rBm45 (List.mem_of_getElem? (i := 38) rfl))
set_option maxRecDepth 100000 in
theorem kw2199 : Cond.methodLink "NativeWorksModel" 691 ⟨"NativeWorksModel", "append", "(I)V"⟩ ∈ rTs := List.mem_append_left _ (rBm45 (List.mem_of_getElem? (i := 39) rfl))
set_option maxRecDepth 100000 in
theorem kw2200 : Cond.instanceMethod ⟨"NativeWorksModel", "append", "(I)V"⟩ ∈ rTs := List.mem_append_left _ (rBm45 (List.mem_of_getElem? (i := 40) rfl))
set_option maxRecDepth 100000 in
theorem kw2201 : Cond.selects "NativeWorksModel" ⟨"NativeWorksModel", "append", "(I)V"⟩ ⟨"NativeWorksModel", "append", "(I)V"⟩ ∈ rTs := List.mem_append_left _ (rBm45 (List.mem_of_getElem? (i := 41) rfl))
set_option maxRecDepth 100000 in
theorem kw2202 : Cond.code ⟨"NativeWorksModel", "append", "(I)V"⟩ prog_14_method_29_code 2 (Option.none : Option FieldType) ∈ rTs := List.mem_append_left _ (rBm45 (List.mem_of_getElem? (i := 42) rfl))
set_option maxRecDepth 100000 in
theorem kw2203 : Cond.fieldLink "NativeWorksModel" 688 "NativeWorksModel" "lineLength" "I" ∈ rTs := List.mem_append_left _ (rBm45 (List.mem_of_getElem? (i := 43) rfl))
set_option maxRecDepth 100000 in
theorem kw2204 : Cond.code ⟨"NativeWorksModel", "arithmetic", "(II)V"⟩ prog_14_method_173_code 9 (Option.none : Option FieldType) ∈ rTs := List.mem_append_left _ (rBm45 (List.mem_of_getElem? (i := 44) rfl))
set_option maxRecDepth 100000 in
theorem kw2205 : Cond.methodLink "NativeWorksModel" 1394 ⟨"NativeWorksModel", "take", "(II)J"⟩ ∈ rTs := List.mem_append_left _ (rBm45 (List.mem_of_getElem? (i := 45) rfl))
set_option maxRecDepth 100000 in
theorem kw2206 : Cond.instanceMethod ⟨"NativeWorksModel", "take", "(II)J"⟩ ∈ rTs := List.mem_append_left _ (rBm45 (List.mem_of_getElem? (i := 46) rfl))
set_option maxRecDepth 100000 in
theorem kw2207 : Cond.selects "NativeWorksModel" ⟨"NativeWorksModel", "take", "(II)J"⟩ ⟨"NativeWorksModel", "take", "(II)J"⟩ ∈ rTs := List.mem_append_left _ (rBm45 (List.mem_of_getElem? (i := 47) rfl))
set_option maxRecDepth 100000 in
theorem kw2208 : Cond.methodLink "NativeWorksModel" 1397 ⟨"NativeWorksModel", "add", "(JJZI)J"⟩ ∈ rTs := List.mem_append_left _ (rBm46 (List.mem_of_getElem? (i := 0) rfl))
set_option maxRecDepth 100000 in
theorem kw2209 : Cond.instanceMethod ⟨"NativeWorksModel", "add", "(JJZI)J"⟩ ∈ rTs := List.mem_append_left _ (rBm46 (List.mem_of_getElem? (i := 1) rfl))
set_option maxRecDepth 100000 in
theorem kw2210 : Cond.selects "NativeWorksModel" ⟨"NativeWorksModel", "add", "(JJZI)J"⟩ ⟨"NativeWorksModel", "add", "(JJZI)J"⟩ ∈ rTs := List.mem_append_left _ (rBm46 (List.mem_of_getElem? (i := 2) rfl))
set_option maxRecDepth 100000 in
theorem kw2211 : Cond.methodLink "NativeWorksModel" 1401 ⟨"NativeWorksModel", "subtract", "(JJZI)J"⟩ ∈ rTs := List.mem_append_left _ (rBm46 (List.mem_of_getElem? (i := 3) rfl))
set_option maxRecDepth 100000 in
theorem kw2212 : Cond.instanceMethod ⟨"NativeWorksModel", "subtract", "(JJZI)J"⟩ ∈ rTs := List.mem_append_left _ (rBm46 (List.mem_of_getElem? (i := 4) rfl))
set_option maxRecDepth 100000 in
theorem kw2213 : Cond.selects "NativeWorksModel" ⟨"NativeWorksModel", "subtract", "(JJZI)J"⟩ ⟨"NativeWorksModel", "subtract", "(JJZI)J"⟩ ∈ rTs := List.mem_append_left _ (rBm46 (List.mem_of_getElem? (i := 5) rfl))
set_option maxRecDepth 100000 in
theorem kw2214 : Cond.methodLink "NativeWorksModel" 1404 ⟨"NativeWorksModel", "put", "(IIJ)V"⟩ ∈ rTs := List.mem_append_left _ (rBm46 (List.mem_of_getElem? (i := 6) rfl))
set_option maxRecDepth 100000 in
theorem kw2215 : Cond.instanceMethod ⟨"NativeWorksModel", "put", "(IIJ)V"⟩ ∈ rTs := List.mem_append_left _ (rBm46 (List.mem_of_getElem? (i := 7) rfl))
set_option maxRecDepth 100000 in
theorem kw2216 : Cond.selects "NativeWorksModel" ⟨"NativeWorksModel", "put", "(IIJ)V"⟩ ⟨"NativeWorksModel", "put", "(IIJ)V"⟩ ∈ rTs := List.mem_append_left _ (rBm46 (List.mem_of_getElem? (i := 8) rfl))
set_option maxRecDepth 100000 in
theorem kw2217 : Cond.code ⟨"NativeWorksModel", "assemble", "()V"⟩ prog_14_method_96_code 8 (Option.none : Option FieldType) ∈ rTs := List.mem_append_left _ (rBm46 (List.mem_of_getElem? (i := 9) rfl))
set_option maxRecDepth 100000 in
theorem kw2218 : Cond.fieldLink "NativeWorksModel" 979 "NativeWorksModel" "operands" "I" ∈ rTs := List.mem_append_left _ (rBm46 (List.mem_of_getElem? (i := 10) rfl))
set_option maxRecDepth 100000 in
theorem kw2219 : Cond.fieldLink "NativeWorksModel" 1019 "NativeWorksModel" "op" "I" ∈ rTs := List.mem_append_left _ (rBm46 (List.mem_of_getElem? (i := 11) rfl))
set_option maxRecDepth 100000 in
theorem kw2220 : Cond.methodLink "NativeWorksModel" 1049 ⟨"NativeWorksModel", "branch", "()V"⟩ ∈ rTs := List.mem_append_left _ (rBm46 (List.mem_of_getElem? (i := 12) rfl))
set_option maxRecDepth 100000 in
theorem kw2221 : Cond.instanceMethod ⟨"NativeWorksModel", "branch", "()V"⟩ ∈ rTs := List.mem_append_left _ (rBm46 (List.mem_of_getElem? (i := 13) rfl))
set_option maxRecDepth 100000 in
theorem kw2222 : Cond.selects "NativeWorksModel" ⟨"NativeWorksModel", "branch", "()V"⟩ ⟨"NativeWorksModel", "branch", "()V"⟩ ∈ rTs := List.mem_append_left _ (rBm46 (List.mem_of_getElem? (i := 14) rfl))
set_option maxRecDepth 100000 in
theorem kw2223 : Cond.methodLink "NativeWorksModel" 1052 ⟨"NativeWorksModel", "isWaitingNumbe\x72", "()Z"⟩ ∈ rTs := List.mem_append_left _ (rBm46 (List.mem_of_getElem? (i := 15) rfl))
set_option maxRecDepth 100000 in
theorem kw2224 : Cond.instanceMethod ⟨"NativeWorksModel", "isWaitingNumbe\x72", "()Z"⟩ ∈ rTs := List.mem_append_left _ (rBm46 (List.mem_of_getElem? (i := 16) rfl))
set_option maxRecDepth 100000 in
theorem kw2225 : Cond.selects "NativeWorksModel" ⟨"NativeWorksModel", "isWaitingNumbe\x72", "()Z"⟩ ⟨"NativeWorksModel", "isWaitingNumbe\x72", "()Z"⟩ ∈ rTs := List.mem_append_left _ (rBm46 (List.mem_of_getElem? (i := 17) rfl))
set_option maxRecDepth 100000 in
theorem kw2226 : Cond.fieldLink "NativeWorksModel" 1046 "NativeWorksModel" "width" "I" ∈ rTs := List.mem_append_left _ (rBm46 (List.mem_of_getElem? (i := 18) rfl))
set_option maxRecDepth 100000 in
theorem kw2227 : Cond.fieldLink "NativeWorksModel" 1028 "NativeWorksModel" "numbe\x72" "J" ∈ rTs := List.mem_append_left _ (rBm46 (List.mem_of_getElem? (i := 19) rfl))
set_option maxRecDepth 100000 in
theorem kw2228 : Cond.constantLong "NativeWorksModel" 1055 (lN 128) ∈ rTs := List.mem_append_left _ (rBm46 (List.mem_of_getElem? (i := 20) (by decide +kernel)))
set_option maxRecDepth 100000 in
theorem kw2229 : Cond.constantLong "NativeWorksModel" 1057 (lN 255) ∈ rTs := List.mem_append_left _ (rBm46 (List.mem_of_getElem? (i := 21) (by decide +kernel)))
set_option maxRecDepth 100000 in
theorem kw2230 : Cond.constantLong "NativeWorksModel" 726 (lN 256) ∈ rTs := List.mem_append_left _ (rBm46 (List.mem_of_getElem? (i := 22) (by decide +kernel)))
set_option maxRecDepth 100000 in
theorem kw2231 : Cond.constantLong "NativeWorksModel" 1059 (lN 2147483648) ∈ rTs := List.mem_append_left _ (rBm46 (List.mem_of_getElem? (i := 23) (by decide +kernel)))
set_option maxRecDepth 100000 in
theorem kw2232 : Cond.constantLong "NativeWorksModel" 1061 (lN 4294967295) ∈ rTs := List.mem_append_left _ (rBm46 (List.mem_of_getElem? (i := 24) (by decide +kernel)))
set_option maxRecDepth 100000 in
theorem kw2233 : Cond.constantLong "NativeWorksModel" 1063 (lN 4294967296) ∈ rTs := List.mem_append_left _ (rBm46 (List.mem_of_getElem? (i := 25) (by decide +kernel)))
set_option maxRecDepth 100000 in
theorem kw2234 : Cond.fieldLink "NativeWorksModel" 995 "NativeWorksModel" "displacement" "J" ∈ rTs := List.mem_append_left _ (rBm46 (List.mem_of_getElem? (i := 26) rfl))
set_option maxRecDepth 100000 in
theorem kw2235 : Cond.constantLong "NativeWorksModel" 1065 (lN 18446744071562067968) ∈ rTs := List.mem_append_left _ (rBm46 (List.mem_of_getElem? (i := 27) (by decide +kernel)))
set_option maxRecDepth 100000 in
theorem kw2236 : Cond.constantLong "NativeWorksModel" 1067 (lN 2147483647) ∈ rTs := List.mem_append_left _ (rBm46 (List.mem_of_getElem? (i := 28) (by decide +kernel)))
set_option maxRecDepth 100000 in
theorem kw2237 : Cond.methodLink "NativeWorksModel" 1069 ⟨"NativeWorksModel", "isWaitingDisplacement", "()Z"⟩ ∈ rTs := List.mem_append_left _ (rBm46 (List.mem_of_getElem? (i := 29) rfl))
set_option maxRecDepth 100000 in
theorem kw2238 : Cond.instanceMethod ⟨"NativeWorksModel", "isWaitingDisplacement", "()Z"⟩ ∈ rTs := List.mem_append_left _ (rBm46 (List.mem_of_getElem? (i := 30) rfl))
set_option maxRecDepth 100000 in
theorem kw2239 : Cond.selects "NativeWorksModel" ⟨"NativeWorksModel", "isWaitingDisplacement", "()Z"⟩ ⟨"NativeWorksModel", "isWaitingDisplacement", "()Z"⟩ ∈ rTs := List.mem_append_left _ (rBm46 (List.mem_of_getElem? (i := 31) rfl))
set_option maxRecDepth 100000 in
theorem kw2240 : Cond.fieldLink "NativeWorksModel" 1072 "NativeWorksModel" "bestLength" "I" ∈ rTs := List.mem_append_left _ (rBm46 (List.mem_of_getElem? (i := 32) rfl))
set_option maxRecDepth 100000 in
theorem kw2241 : Cond.methodLink "NativeWorksModel" 1078 ⟨"NativeWorksModel", "tries", "(I)Z"⟩ ∈ rTs := List.mem_append_left _ (rBm46 (List.mem_of_getElem? (i := 33) rfl))
set_option maxRecDepth 100000 in
theorem kw2242 : Cond.instanceMethod ⟨"NativeWorksModel", "tries", "(I)Z"⟩ ∈ rTs := List.mem_append_left _ (rBm46 (List.mem_of_getElem? (i := 34) rfl))
set_option maxRecDepth 100000 in
theorem kw2243 : Cond.selects "NativeWorksModel" ⟨"NativeWorksModel", "tries", "(I)Z"⟩ ⟨"NativeWorksModel", "tries", "(I)Z"⟩ ∈ rTs := List.mem_append_left _ (rBm46 (List.mem_of_getElem? (i := 35) rfl))
set_option maxRecDepth 100000 in
theorem kw2244 : Cond.fieldLink "NativeWorksModel" 1081 "NativeWorksModel" "tried" "I" ∈ rTs := List.mem_append_left _ (rBm46 (List.mem_of_getElem? (i := 36) rfl))
set_option maxRecDepth 100000 in
theorem kw2245 : Cond.fieldLink "NativeWorksModel" 1084 "NativeWorksModel" "triedDisplacement" "I" ∈ rTs := List.mem_append_left _ (rBm46 (List.mem_of_getElem? (i := 37) rfl))
set_option maxRecDepth 100000 in
theorem kw2246 : Cond.fieldLink "NativeWorksModel" 1087 "NativeWorksModel" "bestDisplacement" "I" ∈ rTs := List.mem_append_left _ (rBm46 (List.mem_of_getElem? (i := 38) rfl))
set_option maxRecDepth 100000 in
theorem kw2247 : Cond.fieldLink "NativeWorksModel" 1090 "NativeWorksModel" "triedNumbe\x72" "I" ∈ rTs := List.mem_append_left _ (rBm46 (List.mem_of_getElem? (i := 39) rfl))
set_option maxRecDepth 100000 in
theorem kw2248 : Cond.fieldLink "NativeWorksModel" 1093 "NativeWorksModel" "bestNumbe\x72" "I" ∈ rTs := List.mem_append_left _ (rBm46 (List.mem_of_getElem? (i := 40) rfl))
set_option maxRecDepth 100000 in
theorem kw2249 : Cond.methodLink "NativeWorksModel" 937 ⟨"NativeWorksModel", "statement", "(II)I"⟩ ∈ rTs := List.mem_append_left _ (rBm46 (List.mem_of_getElem? (i := 41) rfl))
set_option maxRecDepth 100000 in
theorem kw2250 : Cond.instanceMethod ⟨"NativeWorksModel", "statement", "(II)I"⟩ ∈ rTs := List.mem_append_left _ (rBm46 (List.mem_of_getElem? (i := 42) rfl))
set_option maxRecDepth 100000 in
theorem kw2251 : Cond.selects "NativeWorksModel" ⟨"NativeWorksModel", "statement", "(II)I"⟩ ⟨"NativeWorksModel", "statement", "(II)I"⟩ ∈ rTs := List.mem_append_left _ (rBm46 (List.mem_of_getElem? (i := 43) rfl))
set_option maxRecDepth 100000 in
theorem kw2252 : Cond.methodLink "NativeWorksModel" 950 ⟨"NativeWorksModel", "put", "(JI)V"⟩ ∈ rTs := List.mem_append_left _ (rBm46 (List.mem_of_getElem? (i := 44) rfl))
set_option maxRecDepth 100000 in
theorem kw2253 : Cond.instanceMethod ⟨"NativeWorksModel", "put", "(JI)V"⟩ ∈ rTs := List.mem_append_left _ (rBm46 (List.mem_of_getElem? (i := 45) rfl))
set_option maxRecDepth 100000 in
theorem kw2254 : Cond.selects "NativeWorksModel" ⟨"NativeWorksModel", "put", "(JI)V"⟩ ⟨"NativeWorksModel", "put", "(JI)V"⟩ ∈ rTs := List.mem_append_left _ (rBm46 (List.mem_of_getElem? (i := 46) rfl))
set_option maxRecDepth 100000 in
theorem kw2255 : Cond.methodLink "NativeWorksModel" 1096 ⟨"NativeWorksModel", "fields", "(I)V"⟩ ∈ rTs := List.mem_append_left _ (rBm46 (List.mem_of_getElem? (i := 47) rfl))
set_option maxRecDepth 100000 in
theorem kw2256 : Cond.instanceMethod ⟨"NativeWorksModel", "fields", "(I)V"⟩ ∈ rTs := List.mem_append_left _ (rBm47 (List.mem_of_getElem? (i := 0) rfl))
set_option maxRecDepth 100000 in
theorem kw2257 : Cond.selects "NativeWorksModel" ⟨"NativeWorksModel", "fields", "(I)V"⟩ ⟨"NativeWorksModel", "fields", "(I)V"⟩ ∈ rTs := List.mem_append_left _ (rBm47 (List.mem_of_getElem? (i := 1) rfl))
set_option maxRecDepth 100000 in
theorem kw2258 : Cond.fieldLink "NativeWorksModel" 992 "NativeWorksModel" "isRelative" "Z" ∈ rTs := List.mem_append_left _ (rBm47 (List.mem_of_getElem? (i := 2) rfl))
set_option maxRecDepth 100000 in
theorem kw2259 : Cond.fieldLink "NativeWorksModel" 998 "NativeWorksModel" "displacementPlus" "I" ∈ rTs := List.mem_append_left _ (rBm47 (List.mem_of_getElem? (i := 3) rfl))
set_option maxRecDepth 100000 in
theorem kw2260 : Cond.fieldLink "NativeWorksModel" 1001 "NativeWorksModel" "displacementMinus" "I" ∈ rTs := List.mem_append_left _ (rBm47 (List.mem_of_getElem? (i := 4) rfl))
set_option maxRecDepth 100000 in
theorem kw2261 : Cond.methodLink "NativeWorksModel" 946 ⟨"NativeWorksModel", "waitFo\x72", "(IIIIIIJ)V"⟩ ∈ rTs := List.mem_append_left _ (rBm47 (List.mem_of_getElem? (i := 5) rfl))
set_option maxRecDepth 100000 in
theorem kw2262 : Cond.instanceMethod ⟨"NativeWorksModel", "waitFo\x72", "(IIIIIIJ)V"⟩ ∈ rTs := List.mem_append_left _ (rBm47 (List.mem_of_getElem? (i := 6) rfl))
set_option maxRecDepth 100000 in
theorem kw2263 : Cond.selects "NativeWorksModel" ⟨"NativeWorksModel", "waitFo\x72", "(IIIIIIJ)V"⟩ ⟨"NativeWorksModel", "waitFo\x72", "(IIIIIIJ)V"⟩ ∈ rTs := List.mem_append_left _ (rBm47 (List.mem_of_getElem? (i := 7) rfl))
set_option maxRecDepth 100000 in
theorem kw2264 : Cond.fieldLink "NativeWorksModel" 1013 "NativeWorksModel" "numberPlus" "I" ∈ rTs := List.mem_append_left _ (rBm47 (List.mem_of_getElem? (i := 8) rfl))
set_option maxRecDepth 100000 in
theorem kw2265 : Cond.fieldLink "NativeWorksModel" 1016 "NativeWorksModel" "numberMinus" "I" ∈ rTs := List.mem_append_left _ (rBm47 (List.mem_of_getElem? (i := 9) rfl))
set_option maxRecDepth 100000 in
theorem kw2266 : Cond.code ⟨"NativeWorksModel", "bits", "(II)V"⟩ prog_14_method_186_code 7 (Option.none : Option FieldType) ∈ rTs := List.mem_append_left _ (rBm47 (List.mem_of_getElem? (i := 10) rfl))
set_option maxRecDepth 100000 in
theorem kw2267 : Cond.methodLink "NativeWorksModel" 1450 ⟨"java/lang/Long", "reverseBytes", "(J)J"⟩ ∈ rTs := List.mem_append_left _ (rBm47 (List.mem_of_getElem? (i := 11) rfl))
set_option maxRecDepth 100000 in
theorem kw2268 : Cond.static ⟨"java/lang/Long", "reverseBytes", "(J)J"⟩ ∈ rTs := List.mem_append_left _ (rBm47 (List.mem_of_getElem? (i := 12) rfl))
set_option maxRecDepth 100000 in
theorem kw2269 : Cond.code ⟨"java/lang/Long", "reverseBytes", "(J)J"⟩ prog_26_method_58_code 2 (Option.some FieldType.long) ∈ rTs := List.mem_append_left _ (rBm47 (List.mem_of_getElem? (i := 13) rfl))
set_option maxRecDepth 100000 in
theorem kw2270 : Cond.methodLink "NativeWorksModel" 1454 ⟨"java/lang/Intege\x72", "reverseBytes", "(I)I"⟩ ∈ rTs := List.mem_append_left _ (rBm47 (List.mem_of_getElem? (i := 14) rfl))
set_option maxRecDepth 100000 in
theorem kw2271 : Cond.static ⟨"java/lang/Intege\x72", "reverseBytes", "(I)I"⟩ ∈ rTs := List.mem_append_left _ (rBm47 (List.mem_of_getElem? (i := 15) rfl))
set_option maxRecDepth 100000 in
theorem kw2272 : Cond.code ⟨"java/lang/Intege\x72", "reverseBytes", "(I)I"⟩ prog_25_method_57_code 1 (Option.some FieldType.int) ∈ rTs := List.mem_append_left _ (rBm47 (List.mem_of_getElem? (i := 16) rfl))
set_option maxRecDepth 100000 in
theorem kw2273 : Cond.methodLink "NativeWorksModel" 1458 ⟨"java/lang/Long", "numberOfTrailingZeros", "(J)I"⟩ ∈ rTs := List.mem_append_left _ (rBm47 (List.mem_of_getElem? (i := 17) rfl))
set_option maxRecDepth 100000 in
theorem kw2274 : Cond.static ⟨"java/lang/Long", "numberOfTrailingZeros", "(J)I"⟩ ∈ rTs := List.mem_append_left _ (rBm47 (List.mem_of_getElem? (i := 18) rfl))
set_option maxRecDepth 100000 in
theorem kw2275 : Cond.code ⟨"java/lang/Long", "numberOfTrailingZeros", "(J)I"⟩ prog_26_method_49_code 3 (Option.some FieldType.int) ∈ rTs := List.mem_append_left _ (rBm47 (List.mem_of_getElem? (i := 19) rfl))
set_option maxRecDepth 100000 in
theorem kw2276 : Cond.methodLink "NativeWorksModel" 1461 ⟨"java/lang/Long", "numberOfLeadingZeros", "(J)I"⟩ ∈ rTs := List.mem_append_left _ (rBm47 (List.mem_of_getElem? (i := 20) rfl))
set_option maxRecDepth 100000 in
theorem kw2277 : Cond.static ⟨"java/lang/Long", "numberOfLeadingZeros", "(J)I"⟩ ∈ rTs := List.mem_append_left _ (rBm47 (List.mem_of_getElem? (i := 21) rfl))
set_option maxRecDepth 100000 in
theorem kw2278 : Cond.code ⟨"java/lang/Long", "numberOfLeadingZeros", "(J)I"⟩ prog_26_method_48_code 3 (Option.some FieldType.int) ∈ rTs := List.mem_append_left _ (rBm47 (List.mem_of_getElem? (i := 22) rfl))
set_option maxRecDepth 100000 in
theorem kw2279 : Cond.code ⟨"NativeWorksModel", "branch", "()V"⟩ prog_14_method_101_code 3 (Option.none : Option FieldType) ∈ rTs := List.mem_append_left _ (rBm47 (List.mem_of_getElem? (i := 23) rfl))
set_option maxRecDepth 100000 in
theorem kw2280 : Cond.constantLong "NativeWorksModel" 1101 (lN 232) ∈ rTs := List.mem_append_left _ (rBm47 (List.mem_of_getElem? (i := 24) (by decide +kernel)))
set_option maxRecDepth 100000 in
theorem kw2281 : Cond.code ⟨"NativeWorksModel", "build", "(II)V"⟩ prog_14_method_146_code 12 (Option.none : Option FieldType) ∈ rTs := List.mem_append_left _ (rBm47 (List.mem_of_getElem? (i := 25) rfl))
set_option maxRecDepth 100000 in
theorem kw2282 : Cond.methodLink "NativeWorksModel" 1215 ⟨"NativeWorksModel", "itemAddress", "(II)J"⟩ ∈ rTs := List.mem_append_left _ (rBm47 (List.mem_of_getElem? (i := 26) rfl))
set_option maxRecDepth 100000 in
theorem kw2283 : Cond.instanceMethod ⟨"NativeWorksModel", "itemAddress", "(II)J"⟩ ∈ rTs := List.mem_append_left _ (rBm47 (List.mem_of_getElem? (i := 27) rfl))
set_option maxRecDepth 100000 in
theorem kw2284 : Cond.selects "NativeWorksModel" ⟨"NativeWorksModel", "itemAddress", "(II)J"⟩ ⟨"NativeWorksModel", "itemAddress", "(II)J"⟩ ∈ rTs := List.mem_append_left _ (rBm47 (List.mem_of_getElem? (i := 28) rfl))
set_option maxRecDepth 100000 in
theorem kw2285 : Cond.methodLink "NativeWorksModel" 1274 ⟨"NativeWorksModel", "copyUnit", "(I)V"⟩ ∈ rTs := List.mem_append_left _ (rBm47 (List.mem_of_getElem? (i := 29) rfl))
set_option maxRecDepth 100000 in
theorem kw2286 : Cond.instanceMethod ⟨"NativeWorksModel", "copyUnit", "(I)V"⟩ ∈ rTs := List.mem_append_left _ (rBm47 (List.mem_of_getElem? (i := 30) rfl))
set_option maxRecDepth 100000 in
theorem kw2287 : Cond.selects "NativeWorksModel" ⟨"NativeWorksModel", "copyUnit", "(I)V"⟩ ⟨"NativeWorksModel", "copyUnit", "(I)V"⟩ ∈ rTs := List.mem_append_left _ (rBm47 (List.mem_of_getElem? (i := 31) rfl))
set_option maxRecDepth 100000 in
theorem kw2288 : Cond.methodLink "NativeWorksModel" 1207 ⟨"NativeWorksModel", "waitUnit", "(I)I"⟩ ∈ rTs := List.mem_append_left _ (rBm47 (List.mem_of_getElem? (i := 32) rfl))
set_option maxRecDepth 100000 in
theorem kw2289 : Cond.instanceMethod ⟨"NativeWorksModel", "waitUnit", "(I)I"⟩ ∈ rTs := List.mem_append_left _ (rBm47 (List.mem_of_getElem? (i := 33) rfl))
set_option maxRecDepth 100000 in
theorem kw2290 : Cond.selects "NativeWorksModel" ⟨"NativeWorksModel", "waitUnit", "(I)I"⟩ ⟨"NativeWorksModel", "waitUnit", "(I)I"⟩ ∈ rTs := List.mem_append_left _ (rBm47 (List.mem_of_getElem? (i := 34) rfl))
set_option maxRecDepth 100000 in
theorem kw2291 : Cond.methodLink "NativeWorksModel" 1239 ⟨"NativeWorksModel", "isIn", "(II)Z"⟩ ∈ rTs := List.mem_append_left _ (rBm47 (List.mem_of_getElem? (i := 35) rfl))
set_option maxRecDepth 100000 in
theorem kw2292 : Cond.instanceMethod ⟨"NativeWorksModel", "isIn", "(II)Z"⟩ ∈ rTs := List.mem_append_left _ (rBm47 (List.mem_of_getElem? (i := 36) rfl))
set_option maxRecDepth 100000 in
theorem kw2293 : Cond.selects "NativeWorksModel" ⟨"NativeWorksModel", "isIn", "(II)Z"⟩ ⟨"NativeWorksModel", "isIn", "(II)Z"⟩ ∈ rTs := List.mem_append_left _ (rBm47 (List.mem_of_getElem? (i := 37) rfl))
set_option maxRecDepth 100000 in
theorem kw2294 : Cond.methodLink "NativeWorksModel" 1242 ⟨"NativeWorksModel", "fieldOf", "(II)J"⟩ ∈ rTs := List.mem_append_left _ (rBm47 (List.mem_of_getElem? (i := 38) rfl))
set_option maxRecDepth 100000 in
theorem kw2295 : Cond.instanceMethod ⟨"NativeWorksModel", "fieldOf", "(II)J"⟩ ∈ rTs := List.mem_append_left _ (rBm47 (List.mem_of_getElem? (i := 39) rfl))
set_option maxRecDepth 100000 in
theorem kw2296 : Cond.selects "NativeWorksModel" ⟨"NativeWorksModel", "fieldOf", "(II)J"⟩ ⟨"NativeWorksModel", "fieldOf", "(II)J"⟩ ∈ rTs := List.mem_append_left _ (rBm47 (List.mem_of_getElem? (i := 40) rfl))
set_option maxRecDepth 100000 in
theorem kw2297 : Cond.methodLink "NativeWorksModel" 1277 ⟨"NativeWorksModel$Code", "at", "(J)I"⟩ ∈ rTs := List.mem_append_left _ (rBm47 (List.mem_of_getElem? (i := 41) rfl))
set_option maxRecDepth 100000 in
theorem kw2298 : Cond.instanceMethod ⟨"NativeWorksModel$Code", "at", "(J)I"⟩ ∈ rTs := List.mem_append_left _ (rBm47 (List.mem_of_getElem? (i := 42) rfl))
set_option maxRecDepth 100000 in
theorem kw2299 : Cond.selects "NativeWorksModel$Code" ⟨"NativeWorksModel$Code", "at", "(J)I"⟩ ⟨"NativeWorksModel$Code", "at", "(J)I"⟩ ∈ rTs := List.mem_append_left _ (rBm47 (List.mem_of_getElem? (i := 43) rfl))
set_option maxRecDepth 100000 in
theorem kw2300 : Cond.methodLink "NativeWorksModel" 1219 ⟨"NativeWorksModel", "resolved", "(II)J"⟩ ∈ rTs := List.mem_append_left _ (rBm47 (List.mem_of_getElem? (i := 44) rfl))
set_option maxRecDepth 100000 in
theorem kw2301 : Cond.instanceMethod ⟨"NativeWorksModel", "resolved", "(II)J"⟩ ∈ rTs := List.mem_append_left _ (rBm47 (List.mem_of_getElem? (i := 45) rfl))
set_option maxRecDepth 100000 in
theorem kw2302 : Cond.selects "NativeWorksModel" ⟨"NativeWorksModel", "resolved", "(II)J"⟩ ⟨"NativeWorksModel", "resolved", "(II)J"⟩ ∈ rTs := List.mem_append_left _ (rBm47 (List.mem_of_getElem? (i := 46) rfl))
set_option maxRecDepth 100000 in
theorem kw2303 : Cond.methodLink "NativeWorksModel" 1283 ⟨"NativeWorksModel", "keepNames", "()V"⟩ ∈ rTs := List.mem_append_left _ (rBm47 (List.mem_of_getElem? (i := 47) rfl))
set_option maxRecDepth 100000 in
theorem kw2304 : Cond.instanceMethod ⟨"NativeWorksModel", "keepNames", "()V"⟩ ∈ rTs := List.mem_append_left _ (rBm48 (List.mem_of_getElem? (i := 0) rfl))
set_option maxRecDepth 100000 in
theorem kw2305 : Cond.selects "NativeWorksModel" ⟨"NativeWorksModel", "keepNames", "()V"⟩ ⟨"NativeWorksModel", "keepNames", "()V"⟩ ∈ rTs := List.mem_append_left _ (rBm48 (List.mem_of_getElem? (i := 1) rfl))
set_option maxRecDepth 100000 in
theorem kw2306 : Cond.code ⟨"NativeWorksModel", "byteAtPlace", "(I)I"⟩ prog_14_method_153_code 2 (Option.some FieldType.int) ∈ rTs := List.mem_append_left _ (rBm48 (List.mem_of_getElem? (i := 2) rfl))
set_option maxRecDepth 100000 in
theorem kw2307 : Cond.constant "NativeWorksModel" 831 (nI 1048576) ∈ rTs := List.mem_append_left _ (rBm48 (List.mem_of_getElem? (i := 3) (by decide +kernel)))
set_option maxRecDepth 100000 in
theorem kw2308 : Cond.constant "NativeWorksModel" 1314 (nI 2097152) ∈ rTs := List.mem_append_left _ (rBm48 (List.mem_of_getElem? (i := 4) (by decide +kernel)))
set_option maxRecDepth 100000 in
theorem kw2309 : Cond.constant "NativeWorksModel" 1295 (nI 65535) ∈ rTs := List.mem_append_left _ (rBm48 (List.mem_of_getElem? (i := 5) (by decide +kernel)))
set_option maxRecDepth 100000 in
theorem kw2310 : Cond.code ⟨"NativeWorksModel", "byteAt", "(II)I"⟩ prog_14_method_125_code 5 (Option.some FieldType.int) ∈ rTs := List.mem_append_left _ (rBm48 (List.mem_of_getElem? (i := 6) rfl))
set_option maxRecDepth 100000 in
theorem kw2311 : Cond.methodLink "NativeWorksModel" 1150 ⟨"NativeWorksModel", "opOf", "(J)I"⟩ ∈ rTs := List.mem_append_left _ (rBm48 (List.mem_of_getElem? (i := 7) rfl))
set_option maxRecDepth 100000 in
theorem kw2312 : Cond.static ⟨"NativeWorksModel", "opOf", "(J)I"⟩ ∈ rTs := List.mem_append_left _ (rBm48 (List.mem_of_getElem? (i := 8) rfl))
set_option maxRecDepth 100000 in
theorem kw2313 : Cond.code ⟨"NativeWorksModel", "opOf", "(J)I"⟩ prog_14_method_98_code 2 (Option.some FieldType.int) ∈ rTs := List.mem_append_left _ (rBm48 (List.mem_of_getElem? (i := 9) rfl))
set_option maxRecDepth 100000 in
theorem kw2314 : Cond.methodLink "NativeWorksModel" 1183 ⟨"NativeWorksModel", "conditionOf", "(J)I"⟩ ∈ rTs := List.mem_append_left _ (rBm48 (List.mem_of_getElem? (i := 10) rfl))
set_option maxRecDepth 100000 in
theorem kw2315 : Cond.static ⟨"NativeWorksModel", "conditionOf", "(J)I"⟩ ∈ rTs := List.mem_append_left _ (rBm48 (List.mem_of_getElem? (i := 11) rfl))
set_option maxRecDepth 100000 in
theorem kw2316 : Cond.code ⟨"NativeWorksModel", "conditionOf", "(J)I"⟩ prog_14_method_99_code 2 (Option.some FieldType.int) ∈ rTs := List.mem_append_left _ (rBm48 (List.mem_of_getElem? (i := 12) rfl))
set_option maxRecDepth 100000 in
theorem kw2317 : Cond.methodLink "NativeWorksModel" 1137 ⟨"NativeWorksModel", "itemOf", "(I)I"⟩ ∈ rTs := List.mem_append_left _ (rBm48 (List.mem_of_getElem? (i := 13) rfl))
set_option maxRecDepth 100000 in
theorem kw2318 : Cond.instanceMethod ⟨"NativeWorksModel", "itemOf", "(I)I"⟩ ∈ rTs := List.mem_append_left _ (rBm48 (List.mem_of_getElem? (i := 14) rfl))
set_option maxRecDepth 100000 in
theorem kw2319 : Cond.selects "NativeWorksModel" ⟨"NativeWorksModel", "itemOf", "(I)I"⟩ ⟨"NativeWorksModel", "itemOf", "(I)I"⟩ ∈ rTs := List.mem_append_left _ (rBm48 (List.mem_of_getElem? (i := 15) rfl))
set_option maxRecDepth 100000 in
theorem kw2320 : Cond.code ⟨"NativeWorksModel", "byteOf", "(I)V"⟩ prog_14_method_111_code 2 (Option.none : Option FieldType) ∈ rTs := List.mem_append_left _ (rBm48 (List.mem_of_getElem? (i := 16) rfl))
set_option maxRecDepth 100000 in
theorem kw2321 : Cond.code ⟨"NativeWorksModel", "bytesFo\x72", "(II)I"⟩ prog_14_method_107_code 2 (Option.some FieldType.int) ∈ rTs := List.mem_append_left _ (rBm48 (List.mem_of_getElem? (i := 17) rfl))
set_option maxRecDepth 100000 in
theorem kw2322 : Cond.code ⟨"NativeWorksModel", "bytesOf", "(J)I"⟩ prog_14_method_100_code 2 (Option.some FieldType.int) ∈ rTs := List.mem_append_left _ (rBm48 (List.mem_of_getElem? (i := 18) rfl))
set_option maxRecDepth 100000 in
theorem kw2323 : Cond.code ⟨"NativeWorksModel", "call", "(I)V"⟩ prog_14_method_85_code 3 (Option.none : Option FieldType) ∈ rTs := List.mem_append_left _ (rBm48 (List.mem_of_getElem? (i := 19) rfl))
set_option maxRecDepth 100000 in
theorem kw2324 : Cond.methodLink "NativeWorksModel" 964 ⟨"NativeWorksModel", "ente\x72", "(III)V"⟩ ∈ rTs := List.mem_append_left _ (rBm48 (List.mem_of_getElem? (i := 20) rfl))
set_option maxRecDepth 100000 in
theorem kw2325 : Cond.instanceMethod ⟨"NativeWorksModel", "ente\x72", "(III)V"⟩ ∈ rTs := List.mem_append_left _ (rBm48 (List.mem_of_getElem? (i := 21) rfl))
set_option maxRecDepth 100000 in
theorem kw2326 : Cond.selects "NativeWorksModel" ⟨"NativeWorksModel", "ente\x72", "(III)V"⟩ ⟨"NativeWorksModel", "ente\x72", "(III)V"⟩ ∈ rTs := List.mem_append_left _ (rBm48 (List.mem_of_getElem? (i := 22) rfl))
set_option maxRecDepth 100000 in
theorem kw2327 : Cond.code ⟨"NativeWorksModel", "characte\x72", "(II)I"⟩ prog_14_method_34_code 4 (Option.some FieldType.int) ∈ rTs := List.mem_append_left _ (rBm48 (List.mem_of_getElem? (i := 23) rfl))
set_option maxRecDepth 100000 in
theorem kw2328 : Cond.fieldLink "NativeWorksModel" 660 "NativeWorksModel" "foundAt" "I" ∈ rTs := List.mem_append_left _ (rBm48 (List.mem_of_getElem? (i := 24) rfl))
set_option maxRecDepth 100000 in
theorem kw2329 : Cond.code ⟨"NativeWorksModel", "choose", "(I)V"⟩ prog_14_method_192_code 6 (Option.none : Option FieldType) ∈ rTs := List.mem_append_left _ (rBm48 (List.mem_of_getElem? (i := 25) rfl))
set_option maxRecDepth 100000 in
theorem kw2330 : Cond.methodLink "NativeWorksModel" 1447 ⟨"NativeWorksModel", "isMet", "(I)Z"⟩ ∈ rTs := List.mem_append_left _ (rBm48 (List.mem_of_getElem? (i := 26) rfl))
set_option maxRecDepth 100000 in
theorem kw2331 : Cond.instanceMethod ⟨"NativeWorksModel", "isMet", "(I)Z"⟩ ∈ rTs := List.mem_append_left _ (rBm48 (List.mem_of_getElem? (i := 27) rfl))
set_option maxRecDepth 100000 in
theorem kw2332 : Cond.selects "NativeWorksModel" ⟨"NativeWorksModel", "isMet", "(I)Z"⟩ ⟨"NativeWorksModel", "isMet", "(I)Z"⟩ ∈ rTs := List.mem_append_left _ (rBm48 (List.mem_of_getElem? (i := 28) rfl))
set_option maxRecDepth 100000 in
theorem kw2333 : Cond.code ⟨"NativeWorksModel", "constantAt", "(I)Z"⟩ prog_14_method_73_code 2 (Option.some FieldType.boolean) ∈ rTs := List.mem_append_left _ (rBm48 (List.mem_of_getElem? (i := 29) rfl))
set_option maxRecDepth 100000 in
theorem kw2334 : Cond.methodLink "NativeWorksModel" 918 ⟨"NativeWorksModel", "pass", "(IZ)I"⟩ ∈ rTs := List.mem_append_left _ (rBm48 (List.mem_of_getElem? (i := 30) rfl))
set_option maxRecDepth 100000 in
theorem kw2335 : Cond.instanceMethod ⟨"NativeWorksModel", "pass", "(IZ)I"⟩ ∈ rTs := List.mem_append_left _ (rBm48 (List.mem_of_getElem? (i := 31) rfl))
set_option maxRecDepth 100000 in
theorem kw2336 : Cond.selects "NativeWorksModel" ⟨"NativeWorksModel", "pass", "(IZ)I"⟩ ⟨"NativeWorksModel", "pass", "(IZ)I"⟩ ∈ rTs := List.mem_append_left _ (rBm48 (List.mem_of_getElem? (i := 32) rfl))
set_option maxRecDepth 100000 in
theorem kw2337 : Cond.methodLink "NativeWorksModel" 922 ⟨"NativeWorksModel", "evaluate", "(II)V"⟩ ∈ rTs := List.mem_append_left _ (rBm48 (List.mem_of_getElem? (i := 33) rfl))
set_option maxRecDepth 100000 in
theorem kw2338 : Cond.instanceMethod ⟨"NativeWorksModel", "evaluate", "(II)V"⟩ ∈ rTs := List.mem_append_left _ (rBm48 (List.mem_of_getElem? (i := 34) rfl))
set_option maxRecDepth 100000 in
theorem kw2339 : Cond.selects "NativeWorksModel" ⟨"NativeWorksModel", "evaluate", "(II)V"⟩ ⟨"NativeWorksModel", "evaluate", "(II)V"⟩ ∈ rTs := List.mem_append_left _ (rBm48 (List.mem_of_getElem? (i := 35) rfl))
set_option maxRecDepth 100000 in
theorem kw2340 : Cond.methodLink "NativeWorksModel" 925 ⟨"NativeWorksModel", "isConstantValue", "()Z"⟩ ∈ rTs := List.mem_append_left _ (rBm48 (List.mem_of_getElem? (i := 36) rfl))
set_option maxRecDepth 100000 in
theorem kw2341 : Cond.instanceMethod ⟨"NativeWorksModel", "isConstantValue", "()Z"⟩ ∈ rTs := List.mem_append_left _ (rBm48 (List.mem_of_getElem? (i := 37) rfl))
set_option maxRecDepth 100000 in
theorem kw2342 : Cond.selects "NativeWorksModel" ⟨"NativeWorksModel", "isConstantValue", "()Z"⟩ ⟨"NativeWorksModel", "isConstantValue", "()Z"⟩ ∈ rTs := List.mem_append_left _ (rBm48 (List.mem_of_getElem? (i := 38) rfl))
set_option maxRecDepth 100000 in
theorem kw2343 : Cond.code ⟨"NativeWorksModel", "copyUnit", "(I)V"⟩ prog_14_method_147_code 5 (Option.none : Option FieldType) ∈ rTs := List.mem_append_left _ (rBm48 (List.mem_of_getElem? (i := 39) rfl))
set_option maxRecDepth 100000 in
theorem kw2344 : Cond.methodLink "NativeWorksModel" 1186 ⟨"NativeWorksModel", "byteAt", "(II)I"⟩ ∈ rTs := List.mem_append_left _ (rBm48 (List.mem_of_getElem? (i := 40) rfl))
set_option maxRecDepth 100000 in
theorem kw2345 : Cond.instanceMethod ⟨"NativeWorksModel", "byteAt", "(II)I"⟩ ∈ rTs := List.mem_append_left _ (rBm48 (List.mem_of_getElem? (i := 41) rfl))
set_option maxRecDepth 100000 in
theorem kw2346 : Cond.selects "NativeWorksModel" ⟨"NativeWorksModel", "byteAt", "(II)I"⟩ ⟨"NativeWorksModel", "byteAt", "(II)I"⟩ ∈ rTs := List.mem_append_left _ (rBm48 (List.mem_of_getElem? (i := 42) rfl))
set_option maxRecDepth 100000 in
theorem kw2347 : Cond.code ⟨"NativeWorksModel", "dataOf", "(II)V"⟩ prog_14_method_76_code 11 (Option.none : Option FieldType) ∈ rTs := List.mem_append_left _ (rBm48 (List.mem_of_getElem? (i := 43) rfl))
set_option maxRecDepth 100000 in
theorem kw2348 : Cond.methodLink "NativeWorksModel" 931 ⟨"NativeWorksModel", "partEnd", "(IZ)I"⟩ ∈ rTs := List.mem_append_left _ (rBm48 (List.mem_of_getElem? (i := 44) rfl))
set_option maxRecDepth 100000 in
theorem kw2349 : Cond.instanceMethod ⟨"NativeWorksModel", "partEnd", "(IZ)I"⟩ ∈ rTs := List.mem_append_left _ (rBm48 (List.mem_of_getElem? (i := 45) rfl))
set_option maxRecDepth 100000 in
theorem kw2350 : Cond.selects "NativeWorksModel" ⟨"NativeWorksModel", "partEnd", "(IZ)I"⟩ ⟨"NativeWorksModel", "partEnd", "(IZ)I"⟩ ∈ rTs := List.mem_append_left _ (rBm48 (List.mem_of_getElem? (i := 46) rfl))
set_option maxRecDepth 100000 in
theorem kw2351 : Cond.methodLink "NativeWorksModel" 797 ⟨"NativeWorksModel", "isSign", "(II)Z"⟩ ∈ rTs := List.mem_append_left _ (rBm48 (List.mem_of_getElem? (i := 47) rfl))
set_option maxRecDepth 100000 in
theorem kw2352 : Cond.instanceMethod ⟨"NativeWorksModel", "isSign", "(II)Z"⟩ ∈ rTs := List.mem_append_left _ (rBm49 (List.mem_of_getElem? (i := 0) rfl))
set_option maxRecDepth 100000 in
theorem kw2353 : Cond.selects "NativeWorksModel" ⟨"NativeWorksModel", "isSign", "(II)Z"⟩ ⟨"NativeWorksModel", "isSign", "(II)Z"⟩ ∈ rTs := List.mem_append_left _ (rBm49 (List.mem_of_getElem? (i := 1) rfl))
set_option maxRecDepth 100000 in
theorem kw2354 : Cond.methodLink "NativeWorksModel" 934 ⟨"NativeWorksModel", "textLength", "(I)I"⟩ ∈ rTs := List.mem_append_left _ (rBm49 (List.mem_of_getElem? (i := 2) rfl))
set_option maxRecDepth 100000 in
theorem kw2355 : Cond.instanceMethod ⟨"NativeWorksModel", "textLength", "(I)I"⟩ ∈ rTs := List.mem_append_left _ (rBm49 (List.mem_of_getElem? (i := 3) rfl))
set_option maxRecDepth 100000 in
theorem kw2356 : Cond.selects "NativeWorksModel" ⟨"NativeWorksModel", "textLength", "(I)I"⟩ ⟨"NativeWorksModel", "textLength", "(I)I"⟩ ∈ rTs := List.mem_append_left _ (rBm49 (List.mem_of_getElem? (i := 4) rfl))
set_option maxRecDepth 100000 in
theorem kw2357 : Cond.fieldLink "NativeWorksModel" 816 "NativeWorksModel" "wrongValue" "Z" ∈ rTs := List.mem_append_left _ (rBm49 (List.mem_of_getElem? (i := 5) rfl))
set_option maxRecDepth 100000 in
theorem kw2358 : Cond.constantLong "NativeWorksModel" 624 (lN 18446744073709551615) ∈ rTs := List.mem_append_left _ (rBm49 (List.mem_of_getElem? (i := 6) (by decide +kernel)))
set_option maxRecDepth 100000 in
theorem kw2359 : Cond.methodLink "NativeWorksModel" 940 ⟨"NativeWorksModel", "putText", "(I)I"⟩ ∈ rTs := List.mem_append_left _ (rBm49 (List.mem_of_getElem? (i := 7) rfl))
set_option maxRecDepth 100000 in
theorem kw2360 : Cond.instanceMethod ⟨"NativeWorksModel", "putText", "(I)I"⟩ ∈ rTs := List.mem_append_left _ (rBm49 (List.mem_of_getElem? (i := 8) rfl))
set_option maxRecDepth 100000 in
theorem kw2361 : Cond.selects "NativeWorksModel" ⟨"NativeWorksModel", "putText", "(I)I"⟩ ⟨"NativeWorksModel", "putText", "(I)I"⟩ ∈ rTs := List.mem_append_left _ (rBm49 (List.mem_of_getElem? (i := 9) rfl))
set_option maxRecDepth 100000 in
theorem kw2362 : Cond.methodLink "NativeWorksModel" 943 ⟨"NativeWorksModel", "evaluateAt", "(III)V"⟩ ∈ rTs := List.mem_append_left _ (rBm49 (List.mem_of_getElem? (i := 10) rfl))
set_option maxRecDepth 100000 in
theorem kw2363 : Cond.instanceMethod ⟨"NativeWorksModel", "evaluateAt", "(III)V"⟩ ∈ rTs := List.mem_append_left _ (rBm49 (List.mem_of_getElem? (i := 11) rfl))
set_option maxRecDepth 100000 in
theorem kw2364 : Cond.selects "NativeWorksModel" ⟨"NativeWorksModel", "evaluateAt", "(III)V"⟩ ⟨"NativeWorksModel", "evaluateAt", "(III)V"⟩ ∈ rTs := List.mem_append_left _ (rBm49 (List.mem_of_getElem? (i := 12) rfl))
set_option maxRecDepth 100000 in
theorem kw2365 : Cond.code ⟨"NativeWorksModel", "defineLabel", "(I)V"⟩ prog_14_method_51_code 3 (Option.none : Option FieldType) ∈ rTs := List.mem_append_left _ (rBm49 (List.mem_of_getElem? (i := 13) rfl))
set_option maxRecDepth 100000 in
theorem kw2366 : Cond.methodLink "NativeWorksModel" 772 ⟨"NativeWorksModel", "takeName", "(I)V"⟩ ∈ rTs := List.mem_append_left _ (rBm49 (List.mem_of_getElem? (i := 14) rfl))
set_option maxRecDepth 100000 in
theorem kw2367 : Cond.instanceMethod ⟨"NativeWorksModel", "takeName", "(I)V"⟩ ∈ rTs := List.mem_append_left _ (rBm49 (List.mem_of_getElem? (i := 15) rfl))
set_option maxRecDepth 100000 in
theorem kw2368 : Cond.selects "NativeWorksModel" ⟨"NativeWorksModel", "takeName", "(I)V"⟩ ⟨"NativeWorksModel", "takeName", "(I)V"⟩ ∈ rTs := List.mem_append_left _ (rBm49 (List.mem_of_getElem? (i := 16) rfl))
set_option maxRecDepth 100000 in
theorem kw2369 : Cond.methodLink "NativeWorksModel" 788 ⟨"NativeWorksModel", "symbolFo\x72", "()I"⟩ ∈ rTs := List.mem_append_left _ (rBm49 (List.mem_of_getElem? (i := 17) rfl))
set_option maxRecDepth 100000 in
theorem kw2370 : Cond.instanceMethod ⟨"NativeWorksModel", "symbolFo\x72", "()I"⟩ ∈ rTs := List.mem_append_left _ (rBm49 (List.mem_of_getElem? (i := 18) rfl))
set_option maxRecDepth 100000 in
theorem kw2371 : Cond.selects "NativeWorksModel" ⟨"NativeWorksModel", "symbolFo\x72", "()I"⟩ ⟨"NativeWorksModel", "symbolFo\x72", "()I"⟩ ∈ rTs := List.mem_append_left _ (rBm49 (List.mem_of_getElem? (i := 19) rfl))
set_option maxRecDepth 100000 in
theorem kw2372 : Cond.methodLink "NativeWorksModel" 794 ⟨"NativeWorksModel", "item", "(II)I"⟩ ∈ rTs := List.mem_append_left _ (rBm49 (List.mem_of_getElem? (i := 20) rfl))
set_option maxRecDepth 100000 in
theorem kw2373 : Cond.instanceMethod ⟨"NativeWorksModel", "item", "(II)I"⟩ ∈ rTs := List.mem_append_left _ (rBm49 (List.mem_of_getElem? (i := 21) rfl))
set_option maxRecDepth 100000 in
theorem kw2374 : Cond.selects "NativeWorksModel" ⟨"NativeWorksModel", "item", "(II)I"⟩ ⟨"NativeWorksModel", "item", "(II)I"⟩ ∈ rTs := List.mem_append_left _ (rBm49 (List.mem_of_getElem? (i := 22) rfl))
set_option maxRecDepth 100000 in
theorem kw2375 : Cond.code ⟨"NativeWorksModel", "define", "(I)V"⟩ prog_14_method_74_code 5 (Option.none : Option FieldType) ∈ rTs := List.mem_append_left _ (rBm49 (List.mem_of_getElem? (i := 23) rfl))
set_option maxRecDepth 100000 in
theorem kw2376 : Cond.methodLink "NativeWorksModel" 928 ⟨"NativeWorksModel", "constantAt", "(I)Z"⟩ ∈ rTs := List.mem_append_left _ (rBm49 (List.mem_of_getElem? (i := 24) rfl))
set_option maxRecDepth 100000 in
theorem kw2377 : Cond.instanceMethod ⟨"NativeWorksModel", "constantAt", "(I)Z"⟩ ∈ rTs := List.mem_append_left _ (rBm49 (List.mem_of_getElem? (i := 25) rfl))
set_option maxRecDepth 100000 in
theorem kw2378 : Cond.selects "NativeWorksModel" ⟨"NativeWorksModel", "constantAt", "(I)Z"⟩ ⟨"NativeWorksModel", "constantAt", "(I)Z"⟩ ∈ rTs := List.mem_append_left _ (rBm49 (List.mem_of_getElem? (i := 26) rfl))
set_option maxRecDepth 100000 in
theorem kw2379 : Cond.code ⟨"NativeWorksModel", "digitOf", "(I)I"⟩ prog_14_method_17_code 1 (Option.some FieldType.int) ∈ rTs := List.mem_append_left _ (rBm49 (List.mem_of_getElem? (i := 27) rfl))
set_option maxRecDepth 100000 in
theorem kw2380 : Cond.methodLink "NativeWorksModel" 618 ⟨"NativeWorksModel", "isDigit", "(I)Z"⟩ ∈ rTs := List.mem_append_left _ (rBm49 (List.mem_of_getElem? (i := 28) rfl))
set_option maxRecDepth 100000 in
theorem kw2381 : Cond.static ⟨"NativeWorksModel", "isDigit", "(I)Z"⟩ ∈ rTs := List.mem_append_left _ (rBm49 (List.mem_of_getElem? (i := 29) rfl))
set_option maxRecDepth 100000 in
theorem kw2382 : Cond.code ⟨"NativeWorksModel", "isDigit", "(I)Z"⟩ prog_14_method_15_code 1 (Option.some FieldType.boolean) ∈ rTs := List.mem_append_left _ (rBm49 (List.mem_of_getElem? (i := 30) rfl))
set_option maxRecDepth 100000 in
theorem kw2383 : Cond.code ⟨"NativeWorksModel", "divideSmall", "(ZIJ)V"⟩ prog_14_method_178_code 14 (Option.none : Option FieldType) ∈ rTs := List.mem_append_left _ (rBm49 (List.mem_of_getElem? (i := 31) rfl))
set_option maxRecDepth 100000 in
theorem kw2384 : Cond.constantLong "NativeWorksModel" 1420 (lN 65535) ∈ rTs := List.mem_append_left _ (rBm49 (List.mem_of_getElem? (i := 32) (by decide +kernel)))
set_option maxRecDepth 100000 in
theorem kw2385 : Cond.methodLink "NativeWorksModel" 1409 ⟨"NativeWorksModel", "signed", "(JI)J"⟩ ∈ rTs := List.mem_append_left _ (rBm49 (List.mem_of_getElem? (i := 33) rfl))
set_option maxRecDepth 100000 in
theorem kw2386 : Cond.static ⟨"NativeWorksModel", "signed", "(JI)J"⟩ ∈ rTs := List.mem_append_left _ (rBm49 (List.mem_of_getElem? (i := 34) rfl))
set_option maxRecDepth 100000 in
theorem kw2387 : Cond.code ⟨"NativeWorksModel", "signed", "(JI)J"⟩ prog_14_method_159_code 3 (Option.some FieldType.long) ∈ rTs := List.mem_append_left _ (rBm49 (List.mem_of_getElem? (i := 35) rfl))
set_option maxRecDepth 100000 in
theorem kw2388 : Cond.methodLink "NativeWorksModel" 1425 ⟨"java/lang/Long", "divideUnsigned", "(JJ)J"⟩ ∈ rTs := List.mem_append_left _ (rBm49 (List.mem_of_getElem? (i := 36) rfl))
set_option maxRecDepth 100000 in
theorem kw2389 : Cond.static ⟨"java/lang/Long", "divideUnsigned", "(JJ)J"⟩ ∈ rTs := List.mem_append_left _ (rBm49 (List.mem_of_getElem? (i := 37) rfl))
set_option maxRecDepth 100000 in
theorem kw2390 : Cond.code ⟨"java/lang/Long", "divideUnsigned", "(JJ)J"⟩ prog_26_method_44_code 8 (Option.some FieldType.long) ∈ rTs := List.mem_append_left _ (rBm49 (List.mem_of_getElem? (i := 38) rfl))
set_option maxRecDepth 100000 in
theorem kw2391 : Cond.methodLink "NativeWorksModel" 1428 ⟨"java/lang/Long", "remainderUnsigned", "(JJ)J"⟩ ∈ rTs := List.mem_append_left _ (rBm49 (List.mem_of_getElem? (i := 39) rfl))
set_option maxRecDepth 100000 in
theorem kw2392 : Cond.static ⟨"java/lang/Long", "remainderUnsigned", "(JJ)J"⟩ ∈ rTs := List.mem_append_left _ (rBm49 (List.mem_of_getElem? (i := 40) rfl))
set_option maxRecDepth 100000 in
theorem kw2393 : Cond.code ⟨"java/lang/Long", "remainderUnsigned", "(JJ)J"⟩ prog_26_method_45_code 8 (Option.some FieldType.long) ∈ rTs := List.mem_append_left _ (rBm49 (List.mem_of_getElem? (i := 41) rfl))
set_option maxRecDepth 100000 in
theorem kw2394 : Cond.constantLong "NativeWorksModel" 1431 (lN 9223372036854775808) ∈ rTs := List.mem_append_left _ (rBm49 (List.mem_of_getElem? (i := 42) (by decide +kernel)))
set_option maxRecDepth 100000 in
theorem kw2395 : Cond.methodLink "NativeWorksModel" 1325 ⟨"NativeWorksModel", "stopWith", "(IJ)V"⟩ ∈ rTs := List.mem_append_left _ (rBm49 (List.mem_of_getElem? (i := 43) rfl))
set_option maxRecDepth 100000 in
theorem kw2396 : Cond.instanceMethod ⟨"NativeWorksModel", "stopWith", "(IJ)V"⟩ ∈ rTs := List.mem_append_left _ (rBm49 (List.mem_of_getElem? (i := 44) rfl))
set_option maxRecDepth 100000 in
theorem kw2397 : Cond.selects "NativeWorksModel" ⟨"NativeWorksModel", "stopWith", "(IJ)V"⟩ ⟨"NativeWorksModel", "stopWith", "(IJ)V"⟩ ∈ rTs := List.mem_append_left _ (rBm49 (List.mem_of_getElem? (i := 45) rfl))
set_option maxRecDepth 100000 in
theorem kw2398 : Cond.constantLong "NativeWorksModel" 1418 (lN 18446744073709486080) ∈ rTs := List.mem_append_left _ (rBm49 (List.mem_of_getElem? (i := 46) (by decide +kernel)))
set_option maxRecDepth 100000 in
theorem kw2399 : Cond.methodLink "NativeWorksModel" 1358 ⟨"NativeWorksModel", "setRegiste\x72", "(IIJ)V"⟩ ∈ rTs := List.mem_append_left _ (rBm49 (List.mem_of_getElem? (i := 47) rfl))
set_option maxRecDepth 100000 in
theorem kw2400 : Cond.instanceMethod ⟨"NativeWorksModel", "setRegiste\x72", "(IIJ)V"⟩ ∈ rTs := List.mem_append_left _ (rBm50 (List.mem_of_getElem? (i := 0) rfl))
set_option maxRecDepth 100000 in
theorem kw2401 : Cond.selects "NativeWorksModel" ⟨"NativeWorksModel", "setRegiste\x72", "(IIJ)V"⟩ ⟨"NativeWorksModel", "setRegiste\x72", "(IIJ)V"⟩ ∈ rTs := List.mem_append_left _ (rBm50 (List.mem_of_getElem? (i := 1) rfl))
set_option maxRecDepth 100000 in
theorem kw2402 : Cond.code ⟨"NativeWorksModel", "divide", "(ZI)V"⟩ prog_14_method_179_code 20 (Option.none : Option FieldType) ∈ rTs := List.mem_append_left _ (rBm50 (List.mem_of_getElem? (i := 2) rfl))
set_option maxRecDepth 100000 in
theorem kw2403 : Cond.fieldLink "NativeWorksModel" 1315 "NativeWorksModel" "halt" "I" ∈ rTs := List.mem_append_left _ (rBm50 (List.mem_of_getElem? (i := 3) rfl))
set_option maxRecDepth 100000 in
theorem kw2404 : Cond.methodLink "NativeWorksModel" 1433 ⟨"NativeWorksModel", "divideSmall", "(ZIJ)V"⟩ ∈ rTs := List.mem_append_left _ (rBm50 (List.mem_of_getElem? (i := 4) rfl))
set_option maxRecDepth 100000 in
theorem kw2405 : Cond.instanceMethod ⟨"NativeWorksModel", "divideSmall", "(ZIJ)V"⟩ ∈ rTs := List.mem_append_left _ (rBm50 (List.mem_of_getElem? (i := 5) rfl))
set_option maxRecDepth 100000 in
theorem kw2406 : Cond.selects "NativeWorksModel" ⟨"NativeWorksModel", "divideSmall", "(ZIJ)V"⟩ ⟨"NativeWorksModel", "divideSmall", "(ZIJ)V"⟩ ∈ rTs := List.mem_append_left _ (rBm50 (List.mem_of_getElem? (i := 6) rfl))
set_option maxRecDepth 100000 in
theorem kw2407 : Cond.code ⟨"NativeWorksModel", "endOfLine", "(I)I"⟩ prog_14_method_24_code 3 (Option.some FieldType.int) ∈ rTs := List.mem_append_left _ (rBm50 (List.mem_of_getElem? (i := 7) rfl))
set_option maxRecDepth 100000 in
theorem kw2408 : Cond.code ⟨"NativeWorksModel", "ente\x72", "(III)V"⟩ prog_14_method_81_code 5 (Option.none : Option FieldType) ∈ rTs := List.mem_append_left _ (rBm50 (List.mem_of_getElem? (i := 8) rfl))
set_option maxRecDepth 100000 in
theorem kw2409 : Cond.code ⟨"NativeWorksModel", "evaluateAt", "(III)V"⟩ prog_14_method_77_code 5 (Option.none : Option FieldType) ∈ rTs := List.mem_append_left _ (rBm50 (List.mem_of_getElem? (i := 9) rfl))
set_option maxRecDepth 100000 in
theorem kw2410 : Cond.fieldLink "NativeWorksModel" 821 "NativeWorksModel" "pieces" "I" ∈ rTs := List.mem_append_left _ (rBm50 (List.mem_of_getElem? (i := 10) rfl))
set_option maxRecDepth 100000 in
theorem kw2411 : Cond.methodLink "NativeWorksModel" 836 ⟨"NativeWorksModel", "evaluatePieces", "(I)V"⟩ ∈ rTs := List.mem_append_left _ (rBm50 (List.mem_of_getElem? (i := 11) rfl))
set_option maxRecDepth 100000 in
theorem kw2412 : Cond.instanceMethod ⟨"NativeWorksModel", "evaluatePieces", "(I)V"⟩ ∈ rTs := List.mem_append_left _ (rBm50 (List.mem_of_getElem? (i := 12) rfl))
set_option maxRecDepth 100000 in
theorem kw2413 : Cond.selects "NativeWorksModel" ⟨"NativeWorksModel", "evaluatePieces", "(I)V"⟩ ⟨"NativeWorksModel", "evaluatePieces", "(I)V"⟩ ∈ rTs := List.mem_append_left _ (rBm50 (List.mem_of_getElem? (i := 13) rfl))
set_option maxRecDepth 100000 in
theorem kw2414 : Cond.code ⟨"NativeWorksModel", "evaluatePieces", "(I)V"⟩ prog_14_method_58_code 6 (Option.none : Option FieldType) ∈ rTs := List.mem_append_left _ (rBm50 (List.mem_of_getElem? (i := 14) rfl))
set_option maxRecDepth 100000 in
theorem kw2415 : Cond.fieldLink "NativeWorksModel" 810 "NativeWorksModel" "values" "I" ∈ rTs := List.mem_append_left _ (rBm50 (List.mem_of_getElem? (i := 15) rfl))
set_option maxRecDepth 100000 in
theorem kw2416 : Cond.fieldLink "NativeWorksModel" 813 "NativeWorksModel" "operators" "I" ∈ rTs := List.mem_append_left _ (rBm50 (List.mem_of_getElem? (i := 16) rfl))
set_option maxRecDepth 100000 in
theorem kw2417 : Cond.methodLink "NativeWorksModel" 824 ⟨"NativeWorksModel", "leaf", "(III)V"⟩ ∈ rTs := List.mem_append_left _ (rBm50 (List.mem_of_getElem? (i := 17) rfl))
set_option maxRecDepth 100000 in
theorem kw2418 : Cond.instanceMethod ⟨"NativeWorksModel", "leaf", "(III)V"⟩ ∈ rTs := List.mem_append_left _ (rBm50 (List.mem_of_getElem? (i := 18) rfl))
set_option maxRecDepth 100000 in
theorem kw2419 : Cond.selects "NativeWorksModel" ⟨"NativeWorksModel", "leaf", "(III)V"⟩ ⟨"NativeWorksModel", "leaf", "(III)V"⟩ ∈ rTs := List.mem_append_left _ (rBm50 (List.mem_of_getElem? (i := 19) rfl))
set_option maxRecDepth 100000 in
theorem kw2420 : Cond.methodLink "NativeWorksModel" 828 ⟨"NativeWorksModel", "reduce", "()V"⟩ ∈ rTs := List.mem_append_left _ (rBm50 (List.mem_of_getElem? (i := 20) rfl))
set_option maxRecDepth 100000 in
theorem kw2421 : Cond.instanceMethod ⟨"NativeWorksModel", "reduce", "()V"⟩ ∈ rTs := List.mem_append_left _ (rBm50 (List.mem_of_getElem? (i := 21) rfl))
set_option maxRecDepth 100000 in
theorem kw2422 : Cond.selects "NativeWorksModel" ⟨"NativeWorksModel", "reduce", "()V"⟩ ⟨"NativeWorksModel", "reduce", "()V"⟩ ∈ rTs := List.mem_append_left _ (rBm50 (List.mem_of_getElem? (i := 22) rfl))
set_option maxRecDepth 100000 in
theorem kw2423 : Cond.methodLink "NativeWorksModel" 807 ⟨"NativeWorksModel", "strength", "(I)I"⟩ ∈ rTs := List.mem_append_left _ (rBm50 (List.mem_of_getElem? (i := 23) rfl))
set_option maxRecDepth 100000 in
theorem kw2424 : Cond.static ⟨"NativeWorksModel", "strength", "(I)I"⟩ ∈ rTs := List.mem_append_left _ (rBm50 (List.mem_of_getElem? (i := 24) rfl))
set_option maxRecDepth 100000 in
theorem kw2425 : Cond.code ⟨"NativeWorksModel", "strength", "(I)I"⟩ prog_14_method_52_code 1 (Option.some FieldType.int) ∈ rTs := List.mem_append_left _ (rBm50 (List.mem_of_getElem? (i := 25) rfl))
set_option maxRecDepth 100000 in
theorem kw2426 : Cond.code ⟨"NativeWorksModel", "evaluate", "(II)V"⟩ prog_14_method_60_code 4 (Option.none : Option FieldType) ∈ rTs := List.mem_append_left _ (rBm50 (List.mem_of_getElem? (i := 26) rfl))
set_option maxRecDepth 100000 in
theorem kw2427 : Cond.code ⟨"NativeWorksModel", "expand", "()V"⟩ prog_14_method_32_code 6 (Option.none : Option FieldType) ∈ rTs := List.mem_append_left _ (rBm50 (List.mem_of_getElem? (i := 27) rfl))
set_option maxRecDepth 100000 in
theorem kw2428 : Cond.fieldLink "NativeWorksModel" 685 "NativeWorksModel" "lineEnd" "I" ∈ rTs := List.mem_append_left _ (rBm50 (List.mem_of_getElem? (i := 28) rfl))
set_option maxRecDepth 100000 in
theorem kw2429 : Cond.fieldLink "NativeWorksModel" 682 "NativeWorksModel" "lineStart" "I" ∈ rTs := List.mem_append_left _ (rBm50 (List.mem_of_getElem? (i := 29) rfl))
set_option maxRecDepth 100000 in
theorem kw2430 : Cond.methodLink "NativeWorksModel" 693 ⟨"NativeWorksModel", "macroFrame", "()I"⟩ ∈ rTs := List.mem_append_left _ (rBm50 (List.mem_of_getElem? (i := 30) rfl))
set_option maxRecDepth 100000 in
theorem kw2431 : Cond.instanceMethod ⟨"NativeWorksModel", "macroFrame", "()I"⟩ ∈ rTs := List.mem_append_left _ (rBm50 (List.mem_of_getElem? (i := 31) rfl))
set_option maxRecDepth 100000 in
theorem kw2432 : Cond.selects "NativeWorksModel" ⟨"NativeWorksModel", "macroFrame", "()I"⟩ ⟨"NativeWorksModel", "macroFrame", "()I"⟩ ∈ rTs := List.mem_append_left _ (rBm50 (List.mem_of_getElem? (i := 32) rfl))
set_option maxRecDepth 100000 in
theorem kw2433 : Cond.methodLink "NativeWorksModel" 696 ⟨"NativeWorksModel", "parameterAt", "(III)I"⟩ ∈ rTs := List.mem_append_left _ (rBm50 (List.mem_of_getElem? (i := 33) rfl))
set_option maxRecDepth 100000 in
theorem kw2434 : Cond.instanceMethod ⟨"NativeWorksModel", "parameterAt", "(III)I"⟩ ∈ rTs := List.mem_append_left _ (rBm50 (List.mem_of_getElem? (i := 34) rfl))
set_option maxRecDepth 100000 in
theorem kw2435 : Cond.selects "NativeWorksModel" ⟨"NativeWorksModel", "parameterAt", "(III)I"⟩ ⟨"NativeWorksModel", "parameterAt", "(III)I"⟩ ∈ rTs := List.mem_append_left _ (rBm50 (List.mem_of_getElem? (i := 35) rfl))
set_option maxRecDepth 100000 in
theorem kw2436 : Cond.methodLink "NativeWorksModel" 700 ⟨"NativeWorksModel", "appendNumbe\x72", "(I)V"⟩ ∈ rTs := List.mem_append_left _ (rBm50 (List.mem_of_getElem? (i := 36) rfl))
set_option maxRecDepth 100000 in
theorem kw2437 : Cond.instanceMethod ⟨"NativeWorksModel", "appendNumbe\x72", "(I)V"⟩ ∈ rTs := List.mem_append_left _ (rBm50 (List.mem_of_getElem? (i := 37) rfl))
set_option maxRecDepth 100000 in
theorem kw2438 : Cond.selects "NativeWorksModel" ⟨"NativeWorksModel", "appendNumbe\x72", "(I)V"⟩ ⟨"NativeWorksModel", "appendNumbe\x72", "(I)V"⟩ ∈ rTs := List.mem_append_left _ (rBm50 (List.mem_of_getElem? (i := 38) rfl))
set_option maxRecDepth 100000 in
theorem kw2439 : Cond.code ⟨"NativeWorksModel", "fail", "(I)V"⟩ prog_14_method_22_code 2 (Option.none : Option FieldType) ∈ rTs := List.mem_append_left _ (rBm50 (List.mem_of_getElem? (i := 39) rfl))
set_option maxRecDepth 100000 in
theorem kw2440 : Cond.methodLink "NativeWorksModel" 635 ⟨"NativeWorksModel", "ownLine", "()I"⟩ ∈ rTs := List.mem_append_left _ (rBm50 (List.mem_of_getElem? (i := 40) rfl))
set_option maxRecDepth 100000 in
theorem kw2441 : Cond.instanceMethod ⟨"NativeWorksModel", "ownLine", "()I"⟩ ∈ rTs := List.mem_append_left _ (rBm50 (List.mem_of_getElem? (i := 41) rfl))
set_option maxRecDepth 100000 in
theorem kw2442 : Cond.selects "NativeWorksModel" ⟨"NativeWorksModel", "ownLine", "()I"⟩ ⟨"NativeWorksModel", "ownLine", "()I"⟩ ∈ rTs := List.mem_append_left _ (rBm50 (List.mem_of_getElem? (i := 42) rfl))
set_option maxRecDepth 100000 in
theorem kw2443 : Cond.fieldLink "NativeWorksModel" 638 "NativeWorksModel" "badLine" "I" ∈ rTs := List.mem_append_left _ (rBm50 (List.mem_of_getElem? (i := 43) rfl))
set_option maxRecDepth 100000 in
theorem kw2444 : Cond.code ⟨"NativeWorksModel", "fieldOf", "(II)J"⟩ prog_14_method_140_code 6 (Option.some FieldType.long) ∈ rTs := List.mem_append_left _ (rBm50 (List.mem_of_getElem? (i := 44) rfl))
set_option maxRecDepth 100000 in
theorem kw2445 : Cond.code ⟨"NativeWorksModel", "fields", "(I)V"⟩ prog_14_method_97_code 5 (Option.none : Option FieldType) ∈ rTs := List.mem_append_left _ (rBm50 (List.mem_of_getElem? (i := 45) rfl))
set_option maxRecDepth 100000 in
theorem kw2446 : Cond.fieldLink "NativeWorksModel" 1022 "NativeWorksModel" "condition" "I" ∈ rTs := List.mem_append_left _ (rBm50 (List.mem_of_getElem? (i := 46) rfl))
set_option maxRecDepth 100000 in
theorem kw2447 : Cond.fieldLink "NativeWorksModel" 1004 "NativeWorksModel" "base" "I" ∈ rTs := List.mem_append_left _ (rBm50 (List.mem_of_getElem? (i := 47) rfl))
set_option maxRecDepth 100000 in
theorem kw2448 : Cond.fieldLink "NativeWorksModel" 1007 "NativeWorksModel" "index" "I" ∈ rTs := List.mem_append_left _ (rBm51 (List.mem_of_getElem? (i := 0) rfl))
set_option maxRecDepth 100000 in
theorem kw2449 : Cond.fieldLink "NativeWorksModel" 1010 "NativeWorksModel" "scale" "I" ∈ rTs := List.mem_append_left _ (rBm51 (List.mem_of_getElem? (i := 1) rfl))
set_option maxRecDepth 100000 in
theorem kw2450 : Cond.code ⟨"NativeWorksModel", "fill", "(II)V"⟩ prog_14_method_80_code 7 (Option.none : Option FieldType) ∈ rTs := List.mem_append_left _ (rBm51 (List.mem_of_getElem? (i := 2) rfl))
set_option maxRecDepth 100000 in
theorem kw2451 : Cond.constantLong "NativeWorksModel" 954 (lN 65536) ∈ rTs := List.mem_append_left _ (rBm51 (List.mem_of_getElem? (i := 3) (by decide +kernel)))
set_option maxRecDepth 100000 in
theorem kw2452 : Cond.constantLong "NativeWorksModel" 956 (lN 4096) ∈ rTs := List.mem_append_left _ (rBm51 (List.mem_of_getElem? (i := 4) (by decide +kernel)))
set_option maxRecDepth 100000 in
theorem kw2453 : Cond.code ⟨"NativeWorksModel", "findEnd", "(IIIIIZ)Z"⟩ prog_14_method_25_code 12 (Option.some FieldType.boolean) ∈ rTs := List.mem_append_left _ (rBm51 (List.mem_of_getElem? (i := 5) rfl))
set_option maxRecDepth 100000 in
theorem kw2454 : Cond.methodLink "NativeWorksModel" 652 ⟨"NativeWorksModel", "endOfLine", "(I)I"⟩ ∈ rTs := List.mem_append_left _ (rBm51 (List.mem_of_getElem? (i := 6) rfl))
set_option maxRecDepth 100000 in
theorem kw2455 : Cond.instanceMethod ⟨"NativeWorksModel", "endOfLine", "(I)I"⟩ ∈ rTs := List.mem_append_left _ (rBm51 (List.mem_of_getElem? (i := 7) rfl))
set_option maxRecDepth 100000 in
theorem kw2456 : Cond.selects "NativeWorksModel" ⟨"NativeWorksModel", "endOfLine", "(I)I"⟩ ⟨"NativeWorksModel", "endOfLine", "(I)I"⟩ ∈ rTs := List.mem_append_left _ (rBm51 (List.mem_of_getElem? (i := 8) rfl))
set_option maxRecDepth 100000 in
theorem kw2457 : Cond.methodLink "NativeWorksModel" 656 ⟨"NativeWorksModel", "firstWord", "(II)I"⟩ ∈ rTs := List.mem_append_left _ (rBm51 (List.mem_of_getElem? (i := 9) rfl))
set_option maxRecDepth 100000 in
theorem kw2458 : Cond.instanceMethod ⟨"NativeWorksModel", "firstWord", "(II)I"⟩ ∈ rTs := List.mem_append_left _ (rBm51 (List.mem_of_getElem? (i := 10) rfl))
set_option maxRecDepth 100000 in
theorem kw2459 : Cond.selects "NativeWorksModel" ⟨"NativeWorksModel", "firstWord", "(II)I"⟩ ⟨"NativeWorksModel", "firstWord", "(II)I"⟩ ∈ rTs := List.mem_append_left _ (rBm51 (List.mem_of_getElem? (i := 11) rfl))
set_option maxRecDepth 100000 in
theorem kw2460 : Cond.fieldLink "NativeWorksModel" 663 "NativeWorksModel" "foundLine" "I" ∈ rTs := List.mem_append_left _ (rBm51 (List.mem_of_getElem? (i := 12) rfl))
set_option maxRecDepth 100000 in
theorem kw2461 : Cond.fieldLink "NativeWorksModel" 666 "NativeWorksModel" "foundWord" "I" ∈ rTs := List.mem_append_left _ (rBm51 (List.mem_of_getElem? (i := 13) rfl))
set_option maxRecDepth 100000 in
theorem kw2462 : Cond.fieldLink "NativeWorksModel" 669 "NativeWorksModel" "foundBehind" "I" ∈ rTs := List.mem_append_left _ (rBm51 (List.mem_of_getElem? (i := 14) rfl))
set_option maxRecDepth 100000 in
theorem kw2463 : Cond.code ⟨"NativeWorksModel", "findNeeded", "(I)V"⟩ prog_14_method_136_code 7 (Option.none : Option FieldType) ∈ rTs := List.mem_append_left _ (rBm51 (List.mem_of_getElem? (i := 15) rfl))
set_option maxRecDepth 100000 in
theorem kw2464 : Cond.methodLink "NativeWorksModel" 1204 ⟨"NativeWorksModel", "labelSection", "(I)I"⟩ ∈ rTs := List.mem_append_left _ (rBm51 (List.mem_of_getElem? (i := 16) rfl))
set_option maxRecDepth 100000 in
theorem kw2465 : Cond.instanceMethod ⟨"NativeWorksModel", "labelSection", "(I)I"⟩ ∈ rTs := List.mem_append_left _ (rBm51 (List.mem_of_getElem? (i := 17) rfl))
set_option maxRecDepth 100000 in
theorem kw2466 : Cond.selects "NativeWorksModel" ⟨"NativeWorksModel", "labelSection", "(I)I"⟩ ⟨"NativeWorksModel", "labelSection", "(I)I"⟩ ∈ rTs := List.mem_append_left _ (rBm51 (List.mem_of_getElem? (i := 18) rfl))
set_option maxRecDepth 100000 in
theorem kw2467 : Cond.methodLink "NativeWorksModel" 1210 ⟨"NativeWorksModel", "standsFo\x72", "(I)I"⟩ ∈ rTs := List.mem_append_left _ (rBm51 (List.mem_of_getElem? (i := 19) rfl))
set_option maxRecDepth 100000 in
theorem kw2468 : Cond.instanceMethod ⟨"NativeWorksModel", "standsFo\x72", "(I)I"⟩ ∈ rTs := List.mem_append_left _ (rBm51 (List.mem_of_getElem? (i := 20) rfl))
set_option maxRecDepth 100000 in
theorem kw2469 : Cond.selects "NativeWorksModel" ⟨"NativeWorksModel", "standsFo\x72", "(I)I"⟩ ⟨"NativeWorksModel", "standsFo\x72", "(I)I"⟩ ∈ rTs := List.mem_append_left _ (rBm51 (List.mem_of_getElem? (i := 21) rfl))
set_option maxRecDepth 100000 in
theorem kw2470 : Cond.code ⟨"NativeWorksModel", "findSize", "(I)Z"⟩ prog_14_method_95_code 7 (Option.some FieldType.boolean) ∈ rTs := List.mem_append_left _ (rBm51 (List.mem_of_getElem? (i := 22) rfl))
set_option maxRecDepth 100000 in
theorem kw2471 : Cond.code ⟨"NativeWorksModel", "findTwice", "()V"⟩ prog_14_method_144_code 6 (Option.none : Option FieldType) ∈ rTs := List.mem_append_left _ (rBm51 (List.mem_of_getElem? (i := 23) rfl))
set_option maxRecDepth 100000 in
theorem kw2472 : Cond.methodLink "NativeWorksModel" 1189 ⟨"NativeWorksModel", "isStrong", "(I)Z"⟩ ∈ rTs := List.mem_append_left _ (rBm51 (List.mem_of_getElem? (i := 24) rfl))
set_option maxRecDepth 100000 in
theorem kw2473 : Cond.instanceMethod ⟨"NativeWorksModel", "isStrong", "(I)Z"⟩ ∈ rTs := List.mem_append_left _ (rBm51 (List.mem_of_getElem? (i := 25) rfl))
set_option maxRecDepth 100000 in
theorem kw2474 : Cond.selects "NativeWorksModel" ⟨"NativeWorksModel", "isStrong", "(I)Z"⟩ ⟨"NativeWorksModel", "isStrong", "(I)Z"⟩ ∈ rTs := List.mem_append_left _ (rBm51 (List.mem_of_getElem? (i := 26) rfl))
set_option maxRecDepth 100000 in
theorem kw2475 : Cond.methodLink "NativeWorksModel" 1192 ⟨"NativeWorksModel", "isSameName", "(II)Z"⟩ ∈ rTs := List.mem_append_left _ (rBm51 (List.mem_of_getElem? (i := 27) rfl))
set_option maxRecDepth 100000 in
theorem kw2476 : Cond.instanceMethod ⟨"NativeWorksModel", "isSameName", "(II)Z"⟩ ∈ rTs := List.mem_append_left _ (rBm51 (List.mem_of_getElem? (i := 28) rfl))
set_option maxRecDepth 100000 in
theorem kw2477 : Cond.selects "NativeWorksModel" ⟨"NativeWorksModel", "isSameName", "(II)Z"⟩ ⟨"NativeWorksModel", "isSameName", "(II)Z"⟩ ∈ rTs := List.mem_append_left _ (rBm51 (List.mem_of_getElem? (i := 29) rfl))
set_option maxRecDepth 100000 in
theorem kw2478 : Cond.constantLong "NativeWorksModel" 1312 (lN 2147414016) ∈ rTs := List.mem_append_left _ (rBm51 (List.mem_of_getElem? (i := 30) (by decide +kernel)))
set_option maxRecDepth 100000 in
theorem kw2479 : Cond.methodLink "NativeWorksModel" 1153 ⟨"NativeWorksModel", "linesOfSource", "()I"⟩ ∈ rTs := List.mem_append_left _ (rBm51 (List.mem_of_getElem? (i := 31) rfl))
set_option maxRecDepth 100000 in
theorem kw2480 : Cond.instanceMethod ⟨"NativeWorksModel", "linesOfSource", "()I"⟩ ∈ rTs := List.mem_append_left _ (rBm51 (List.mem_of_getElem? (i := 32) rfl))
set_option maxRecDepth 100000 in
theorem kw2481 : Cond.selects "NativeWorksModel" ⟨"NativeWorksModel", "linesOfSource", "()I"⟩ ⟨"NativeWorksModel", "linesOfSource", "()I"⟩ ∈ rTs := List.mem_append_left _ (rBm51 (List.mem_of_getElem? (i := 33) rfl))
set_option maxRecDepth 100000 in
theorem kw2482 : Cond.code ⟨"NativeWorksModel", "firstWord", "(II)I"⟩ prog_14_method_23_code 4 (Option.some FieldType.int) ∈ rTs := List.mem_append_left _ (rBm51 (List.mem_of_getElem? (i := 34) rfl))
set_option maxRecDepth 100000 in
theorem kw2483 : Cond.methodLink "NativeWorksModel" 641 ⟨"NativeWorksModel", "packed", "([BII)J"⟩ ∈ rTs := List.mem_append_left _ (rBm51 (List.mem_of_getElem? (i := 35) rfl))
set_option maxRecDepth 100000 in
theorem kw2484 : Cond.static ⟨"NativeWorksModel", "packed", "([BII)J"⟩ ∈ rTs := List.mem_append_left _ (rBm51 (List.mem_of_getElem? (i := 36) rfl))
set_option maxRecDepth 100000 in
theorem kw2485 : Cond.code ⟨"NativeWorksModel", "packed", "([BII)J"⟩ prog_14_method_18_code 7 (Option.some FieldType.long) ∈ rTs := List.mem_append_left _ (rBm51 (List.mem_of_getElem? (i := 37) rfl))
set_option maxRecDepth 100000 in
theorem kw2486 : Cond.methodLink "NativeWorksModel" 645 ⟨"NativeWorksModel", "wordOf", "(J)I"⟩ ∈ rTs := List.mem_append_left _ (rBm51 (List.mem_of_getElem? (i := 38) rfl))
set_option maxRecDepth 100000 in
theorem kw2487 : Cond.instanceMethod ⟨"NativeWorksModel", "wordOf", "(J)I"⟩ ∈ rTs := List.mem_append_left _ (rBm51 (List.mem_of_getElem? (i := 39) rfl))
set_option maxRecDepth 100000 in
theorem kw2488 : Cond.selects "NativeWorksModel" ⟨"NativeWorksModel", "wordOf", "(J)I"⟩ ⟨"NativeWorksModel", "wordOf", "(J)I"⟩ ∈ rTs := List.mem_append_left _ (rBm51 (List.mem_of_getElem? (i := 40) rfl))
set_option maxRecDepth 100000 in
theorem kw2489 : Cond.constantLong "NativeWorksModel" 975 (lN 4) ∈ rTs := List.mem_append_left _ (rBm51 (List.mem_of_getElem? (i := 41) (by decide +kernel)))
set_option maxRecDepth 100000 in
theorem kw2490 : Cond.constantLong "NativeWorksModel" 1390 (lN 64) ∈ rTs := List.mem_append_left _ (rBm51 (List.mem_of_getElem? (i := 42) (by decide +kernel)))
set_option maxRecDepth 100000 in
theorem kw2491 : Cond.constantLong "NativeWorksModel" 1392 (lN 2048) ∈ rTs := List.mem_append_left _ (rBm51 (List.mem_of_getElem? (i := 43) (by decide +kernel)))
set_option maxRecDepth 100000 in
theorem kw2492 : Cond.code ⟨"NativeWorksModel", "fourth", "()Z"⟩ prog_14_method_94_code 6 (Option.some FieldType.boolean) ∈ rTs := List.mem_append_left _ (rBm51 (List.mem_of_getElem? (i := 44) rfl))
set_option maxRecDepth 100000 in
theorem kw2493 : Cond.methodLink "NativeWorksModel" 982 ⟨"NativeWorksModel", "sizeWord", "(JJJJ)I"⟩ ∈ rTs := List.mem_append_left _ (rBm51 (List.mem_of_getElem? (i := 45) rfl))
set_option maxRecDepth 100000 in
theorem kw2494 : Cond.static ⟨"NativeWorksModel", "sizeWord", "(JJJJ)I"⟩ ∈ rTs := List.mem_append_left _ (rBm51 (List.mem_of_getElem? (i := 46) rfl))
set_option maxRecDepth 100000 in
theorem kw2495 : Cond.code ⟨"NativeWorksModel", "sizeWord", "(JJJJ)I"⟩ prog_14_method_86_code 8 (Option.some FieldType.int) ∈ rTs := List.mem_append_left _ (rBm51 (List.mem_of_getElem? (i := 47) rfl))
set_option maxRecDepth 100000 in
theorem kw2496 : Cond.methodLink "NativeWorksModel" 766 ⟨"NativeWorksModel", "registerOf", "(J)I"⟩ ∈ rTs := List.mem_append_left _ (rBm52 (List.mem_of_getElem? (i := 0) rfl))
set_option maxRecDepth 100000 in
theorem kw2497 : Cond.instanceMethod ⟨"NativeWorksModel", "registerOf", "(J)I"⟩ ∈ rTs := List.mem_append_left _ (rBm52 (List.mem_of_getElem? (i := 1) rfl))
set_option maxRecDepth 100000 in
theorem kw2498 : Cond.selects "NativeWorksModel" ⟨"NativeWorksModel", "registerOf", "(J)I"⟩ ⟨"NativeWorksModel", "registerOf", "(J)I"⟩ ∈ rTs := List.mem_append_left _ (rBm52 (List.mem_of_getElem? (i := 2) rfl))
set_option maxRecDepth 100000 in
theorem kw2499 : Cond.methodLink "NativeWorksModel" 986 ⟨"NativeWorksModel", "passAddress", "(I)I"⟩ ∈ rTs := List.mem_append_left _ (rBm52 (List.mem_of_getElem? (i := 3) rfl))
set_option maxRecDepth 100000 in
theorem kw2500 : Cond.instanceMethod ⟨"NativeWorksModel", "passAddress", "(I)I"⟩ ∈ rTs := List.mem_append_left _ (rBm52 (List.mem_of_getElem? (i := 4) rfl))
set_option maxRecDepth 100000 in
theorem kw2501 : Cond.selects "NativeWorksModel" ⟨"NativeWorksModel", "passAddress", "(I)I"⟩ ⟨"NativeWorksModel", "passAddress", "(I)I"⟩ ∈ rTs := List.mem_append_left _ (rBm52 (List.mem_of_getElem? (i := 5) rfl))
set_option maxRecDepth 100000 in
theorem kw2502 : Cond.methodLink "NativeWorksModel" 1031 ⟨"NativeWorksModel", "readAddress", "(II)Z"⟩ ∈ rTs := List.mem_append_left _ (rBm52 (List.mem_of_getElem? (i := 6) rfl))
set_option maxRecDepth 100000 in
theorem kw2503 : Cond.instanceMethod ⟨"NativeWorksModel", "readAddress", "(II)Z"⟩ ∈ rTs := List.mem_append_left _ (rBm52 (List.mem_of_getElem? (i := 7) rfl))
set_option maxRecDepth 100000 in
theorem kw2504 : Cond.selects "NativeWorksModel" ⟨"NativeWorksModel", "readAddress", "(II)Z"⟩ ⟨"NativeWorksModel", "readAddress", "(II)Z"⟩ ∈ rTs := List.mem_append_left _ (rBm52 (List.mem_of_getElem? (i := 8) rfl))
set_option maxRecDepth 100000 in
theorem kw2505 : Cond.code ⟨"NativeWorksModel", "goBehind", "()V"⟩ prog_14_method_82_code 1 (Option.none : Option FieldType) ∈ rTs := List.mem_append_left _ (rBm52 (List.mem_of_getElem? (i := 9) rfl))
set_option maxRecDepth 100000 in
theorem kw2506 : Cond.code ⟨"NativeWorksModel", "goes", "(I)V"⟩ prog_14_method_184_code 4 (Option.none : Option FieldType) ∈ rTs := List.mem_append_left _ (rBm52 (List.mem_of_getElem? (i := 10) rfl))
set_option maxRecDepth 100000 in
theorem kw2507 : Cond.methodLink "NativeWorksModel" 1340 ⟨"NativeWorksModel", "kindAt", "(I)I"⟩ ∈ rTs := List.mem_append_left _ (rBm52 (List.mem_of_getElem? (i := 11) rfl))
set_option maxRecDepth 100000 in
theorem kw2508 : Cond.instanceMethod ⟨"NativeWorksModel", "kindAt", "(I)I"⟩ ∈ rTs := List.mem_append_left _ (rBm52 (List.mem_of_getElem? (i := 12) rfl))
set_option maxRecDepth 100000 in
theorem kw2509 : Cond.selects "NativeWorksModel" ⟨"NativeWorksModel", "kindAt", "(I)I"⟩ ⟨"NativeWorksModel", "kindAt", "(I)I"⟩ ∈ rTs := List.mem_append_left _ (rBm52 (List.mem_of_getElem? (i := 13) rfl))
set_option maxRecDepth 100000 in
theorem kw2510 : Cond.methodLink "NativeWorksModel" 1437 ⟨"NativeWorksModel", "push", "(J)V"⟩ ∈ rTs := List.mem_append_left _ (rBm52 (List.mem_of_getElem? (i := 14) rfl))
set_option maxRecDepth 100000 in
theorem kw2511 : Cond.instanceMethod ⟨"NativeWorksModel", "push", "(J)V"⟩ ∈ rTs := List.mem_append_left _ (rBm52 (List.mem_of_getElem? (i := 15) rfl))
set_option maxRecDepth 100000 in
theorem kw2512 : Cond.selects "NativeWorksModel" ⟨"NativeWorksModel", "push", "(J)V"⟩ ⟨"NativeWorksModel", "push", "(J)V"⟩ ∈ rTs := List.mem_append_left _ (rBm52 (List.mem_of_getElem? (i := 16) rfl))
set_option maxRecDepth 100000 in
theorem kw2513 : Cond.methodLink "NativeWorksModel" 1441 ⟨"NativeWorksModel", "pop", "()J"⟩ ∈ rTs := List.mem_append_left _ (rBm52 (List.mem_of_getElem? (i := 17) rfl))
set_option maxRecDepth 100000 in
theorem kw2514 : Cond.instanceMethod ⟨"NativeWorksModel", "pop", "()J"⟩ ∈ rTs := List.mem_append_left _ (rBm52 (List.mem_of_getElem? (i := 18) rfl))
set_option maxRecDepth 100000 in
theorem kw2515 : Cond.selects "NativeWorksModel" ⟨"NativeWorksModel", "pop", "()J"⟩ ⟨"NativeWorksModel", "pop", "()J"⟩ ∈ rTs := List.mem_append_left _ (rBm52 (List.mem_of_getElem? (i := 19) rfl))
set_option maxRecDepth 100000 in
theorem kw2516 : Cond.methodLink "NativeWorksModel" 1406 ⟨"NativeWorksModel", "addressNow", "()J"⟩ ∈ rTs := List.mem_append_left _ (rBm52 (List.mem_of_getElem? (i := 20) rfl))
set_option maxRecDepth 100000 in
theorem kw2517 : Cond.instanceMethod ⟨"NativeWorksModel", "addressNow", "()J"⟩ ∈ rTs := List.mem_append_left _ (rBm52 (List.mem_of_getElem? (i := 21) rfl))
set_option maxRecDepth 100000 in
theorem kw2518 : Cond.selects "NativeWorksModel" ⟨"NativeWorksModel", "addressNow", "()J"⟩ ⟨"NativeWorksModel", "addressNow", "()J"⟩ ∈ rTs := List.mem_append_left _ (rBm52 (List.mem_of_getElem? (i := 22) rfl))
set_option maxRecDepth 100000 in
theorem kw2519 : Cond.fieldLink "NativeWorksModel" 1350 "NativeWorksModel" "operandAt" "J" ∈ rTs := List.mem_append_left _ (rBm52 (List.mem_of_getElem? (i := 23) rfl))
set_option maxRecDepth 100000 in
theorem kw2520 : Cond.code ⟨"NativeWorksModel", "hasForm", "(I)Z"⟩ prog_14_method_105_code 1 (Option.some FieldType.boolean) ∈ rTs := List.mem_append_left _ (rBm52 (List.mem_of_getElem? (i := 24) rfl))
set_option maxRecDepth 100000 in
theorem kw2521 : Cond.code ⟨"NativeWorksModel", "highUnsigned", "(JJ)J"⟩ prog_14_method_176_code 4 (Option.some FieldType.long) ∈ rTs := List.mem_append_left _ (rBm52 (List.mem_of_getElem? (i := 25) rfl))
set_option maxRecDepth 100000 in
theorem kw2522 : Cond.methodLink "NativeWorksModel" 1412 ⟨"java/lang/Math", "multiplyHigh", "(JJ)J"⟩ ∈ rTs := List.mem_append_left _ (rBm52 (List.mem_of_getElem? (i := 26) rfl))
set_option maxRecDepth 100000 in
theorem kw2523 : Cond.static ⟨"java/lang/Math", "multiplyHigh", "(JJ)J"⟩ ∈ rTs := List.mem_append_left _ (rBm52 (List.mem_of_getElem? (i := 27) rfl))
set_option maxRecDepth 100000 in
theorem kw2524 : Cond.code ⟨"java/lang/Math", "multiplyHigh", "(JJ)J"⟩ prog_27_method_45_code 20 (Option.some FieldType.long) ∈ rTs := List.mem_append_left _ (rBm52 (List.mem_of_getElem? (i := 28) rfl))
set_option maxRecDepth 100000 in
theorem kw2525 : Cond.code ⟨"NativeWorksModel", "holds", "(I)Z"⟩ prog_14_method_108_code 3 (Option.some FieldType.boolean) ∈ rTs := List.mem_append_left _ (rBm52 (List.mem_of_getElem? (i := 29) rfl))
set_option maxRecDepth 100000 in
theorem kw2526 : Cond.methodLink "NativeWorksModel" 1110 ⟨"NativeWorksModel", "bytesFo\x72", "(II)I"⟩ ∈ rTs := List.mem_append_left _ (rBm52 (List.mem_of_getElem? (i := 30) rfl))
set_option maxRecDepth 100000 in
theorem kw2527 : Cond.static ⟨"NativeWorksModel", "bytesFo\x72", "(II)I"⟩ ∈ rTs := List.mem_append_left _ (rBm52 (List.mem_of_getElem? (i := 31) rfl))
set_option maxRecDepth 100000 in
theorem kw2528 : Cond.code ⟨"NativeWorksModel", "instruction", "(II)V"⟩ prog_14_method_93_code 11 (Option.none : Option FieldType) ∈ rTs := List.mem_append_left _ (rBm52 (List.mem_of_getElem? (i := 32) rfl))
set_option maxRecDepth 100000 in
theorem kw2529 : Cond.methodLink "NativeWorksModel" 1025 ⟨"NativeWorksModel", "readOperands", "(I)Z"⟩ ∈ rTs := List.mem_append_left _ (rBm52 (List.mem_of_getElem? (i := 33) rfl))
set_option maxRecDepth 100000 in
theorem kw2530 : Cond.instanceMethod ⟨"NativeWorksModel", "readOperands", "(I)Z"⟩ ∈ rTs := List.mem_append_left _ (rBm52 (List.mem_of_getElem? (i := 34) rfl))
set_option maxRecDepth 100000 in
theorem kw2531 : Cond.selects "NativeWorksModel" ⟨"NativeWorksModel", "readOperands", "(I)Z"⟩ ⟨"NativeWorksModel", "readOperands", "(I)Z"⟩ ∈ rTs := List.mem_append_left _ (rBm52 (List.mem_of_getElem? (i := 35) rfl))
set_option maxRecDepth 100000 in
theorem kw2532 : Cond.methodLink "NativeWorksModel" 1034 ⟨"NativeWorksModel", "placeTerms", "()Z"⟩ ∈ rTs := List.mem_append_left _ (rBm52 (List.mem_of_getElem? (i := 36) rfl))
set_option maxRecDepth 100000 in
theorem kw2533 : Cond.instanceMethod ⟨"NativeWorksModel", "placeTerms", "()Z"⟩ ∈ rTs := List.mem_append_left _ (rBm52 (List.mem_of_getElem? (i := 37) rfl))
set_option maxRecDepth 100000 in
theorem kw2534 : Cond.selects "NativeWorksModel" ⟨"NativeWorksModel", "placeTerms", "()Z"⟩ ⟨"NativeWorksModel", "placeTerms", "()Z"⟩ ∈ rTs := List.mem_append_left _ (rBm52 (List.mem_of_getElem? (i := 38) rfl))
set_option maxRecDepth 100000 in
theorem kw2535 : Cond.methodLink "NativeWorksModel" 1037 ⟨"NativeWorksModel", "fourth", "()Z"⟩ ∈ rTs := List.mem_append_left _ (rBm52 (List.mem_of_getElem? (i := 39) rfl))
set_option maxRecDepth 100000 in
theorem kw2536 : Cond.instanceMethod ⟨"NativeWorksModel", "fourth", "()Z"⟩ ∈ rTs := List.mem_append_left _ (rBm52 (List.mem_of_getElem? (i := 40) rfl))
set_option maxRecDepth 100000 in
theorem kw2537 : Cond.selects "NativeWorksModel" ⟨"NativeWorksModel", "fourth", "()Z"⟩ ⟨"NativeWorksModel", "fourth", "()Z"⟩ ∈ rTs := List.mem_append_left _ (rBm52 (List.mem_of_getElem? (i := 41) rfl))
set_option maxRecDepth 100000 in
theorem kw2538 : Cond.methodLink "NativeWorksModel" 1040 ⟨"NativeWorksModel", "findSize", "(I)Z"⟩ ∈ rTs := List.mem_append_left _ (rBm52 (List.mem_of_getElem? (i := 42) rfl))
set_option maxRecDepth 100000 in
theorem kw2539 : Cond.instanceMethod ⟨"NativeWorksModel", "findSize", "(I)Z"⟩ ∈ rTs := List.mem_append_left _ (rBm52 (List.mem_of_getElem? (i := 43) rfl))
set_option maxRecDepth 100000 in
theorem kw2540 : Cond.selects "NativeWorksModel" ⟨"NativeWorksModel", "findSize", "(I)Z"⟩ ⟨"NativeWorksModel", "findSize", "(I)Z"⟩ ∈ rTs := List.mem_append_left _ (rBm52 (List.mem_of_getElem? (i := 44) rfl))
set_option maxRecDepth 100000 in
theorem kw2541 : Cond.methodLink "NativeWorksModel" 1043 ⟨"NativeWorksModel", "assemble", "()V"⟩ ∈ rTs := List.mem_append_left _ (rBm52 (List.mem_of_getElem? (i := 45) rfl))
set_option maxRecDepth 100000 in
theorem kw2542 : Cond.instanceMethod ⟨"NativeWorksModel", "assemble", "()V"⟩ ∈ rTs := List.mem_append_left _ (rBm52 (List.mem_of_getElem? (i := 46) rfl))
set_option maxRecDepth 100000 in
theorem kw2543 : Cond.selects "NativeWorksModel" ⟨"NativeWorksModel", "assemble", "()V"⟩ ⟨"NativeWorksModel", "assemble", "()V"⟩ ∈ rTs := List.mem_append_left _ (rBm52 (List.mem_of_getElem? (i := 47) rfl))
set_option maxRecDepth 100000 in
theorem kw2544 : Cond.code ⟨"NativeWorksModel", "isCalled", "(I)Z"⟩ prog_14_method_42_code 4 (Option.some FieldType.boolean) ∈ rTs := List.mem_append_left _ (rBm53 (List.mem_of_getElem? (i := 0) rfl))
set_option maxRecDepth 100000 in
theorem kw2545 : Cond.code ⟨"NativeWorksModel", "isConstantValue", "()Z"⟩ prog_14_method_61_code 1 (Option.some FieldType.boolean) ∈ rTs := List.mem_append_left _ (rBm53 (List.mem_of_getElem? (i := 1) rfl))
set_option maxRecDepth 100000 in
theorem kw2546 : Cond.code ⟨"NativeWorksModel", "isFree", "(IZZ)Z"⟩ prog_14_method_49_code 6 (Option.some FieldType.boolean) ∈ rTs := List.mem_append_left _ (rBm53 (List.mem_of_getElem? (i := 2) rfl))
set_option maxRecDepth 100000 in
theorem kw2547 : Cond.methodLink "NativeWorksModel" 769 ⟨"NativeWorksModel", "takePlain", "(I)V"⟩ ∈ rTs := List.mem_append_left _ (rBm53 (List.mem_of_getElem? (i := 3) rfl))
set_option maxRecDepth 100000 in
theorem kw2548 : Cond.instanceMethod ⟨"NativeWorksModel", "takePlain", "(I)V"⟩ ∈ rTs := List.mem_append_left _ (rBm53 (List.mem_of_getElem? (i := 4) rfl))
set_option maxRecDepth 100000 in
theorem kw2549 : Cond.selects "NativeWorksModel" ⟨"NativeWorksModel", "takePlain", "(I)V"⟩ ⟨"NativeWorksModel", "takePlain", "(I)V"⟩ ∈ rTs := List.mem_append_left _ (rBm53 (List.mem_of_getElem? (i := 5) rfl))
set_option maxRecDepth 100000 in
theorem kw2550 : Cond.methodLink "NativeWorksModel" 748 ⟨"NativeWorksModel", "symbolNamed", "()I"⟩ ∈ rTs := List.mem_append_left _ (rBm53 (List.mem_of_getElem? (i := 6) rfl))
set_option maxRecDepth 100000 in
theorem kw2551 : Cond.instanceMethod ⟨"NativeWorksModel", "symbolNamed", "()I"⟩ ∈ rTs := List.mem_append_left _ (rBm53 (List.mem_of_getElem? (i := 7) rfl))
set_option maxRecDepth 100000 in
theorem kw2552 : Cond.selects "NativeWorksModel" ⟨"NativeWorksModel", "symbolNamed", "()I"⟩ ⟨"NativeWorksModel", "symbolNamed", "()I"⟩ ∈ rTs := List.mem_append_left _ (rBm53 (List.mem_of_getElem? (i := 8) rfl))
set_option maxRecDepth 100000 in
theorem kw2553 : Cond.methodLink "NativeWorksModel" 775 ⟨"NativeWorksModel", "isMacro", "()Z"⟩ ∈ rTs := List.mem_append_left _ (rBm53 (List.mem_of_getElem? (i := 9) rfl))
set_option maxRecDepth 100000 in
theorem kw2554 : Cond.instanceMethod ⟨"NativeWorksModel", "isMacro", "()Z"⟩ ∈ rTs := List.mem_append_left _ (rBm53 (List.mem_of_getElem? (i := 10) rfl))
set_option maxRecDepth 100000 in
theorem kw2555 : Cond.selects "NativeWorksModel" ⟨"NativeWorksModel", "isMacro", "()Z"⟩ ⟨"NativeWorksModel", "isMacro", "()Z"⟩ ∈ rTs := List.mem_append_left _ (rBm53 (List.mem_of_getElem? (i := 11) rfl))
set_option maxRecDepth 100000 in
theorem kw2556 : Cond.methodLink "NativeWorksModel" 779 ⟨"NativeWorksModel", "isReserved", "(I)Z"⟩ ∈ rTs := List.mem_append_left _ (rBm53 (List.mem_of_getElem? (i := 12) rfl))
set_option maxRecDepth 100000 in
theorem kw2557 : Cond.instanceMethod ⟨"NativeWorksModel", "isReserved", "(I)Z"⟩ ∈ rTs := List.mem_append_left _ (rBm53 (List.mem_of_getElem? (i := 13) rfl))
set_option maxRecDepth 100000 in
theorem kw2558 : Cond.selects "NativeWorksModel" ⟨"NativeWorksModel", "isReserved", "(I)Z"⟩ ⟨"NativeWorksModel", "isReserved", "(I)Z"⟩ ∈ rTs := List.mem_append_left _ (rBm53 (List.mem_of_getElem? (i := 14) rfl))
set_option maxRecDepth 100000 in
theorem kw2559 : Cond.code ⟨"NativeWorksModel", "isFront", "(I)Z"⟩ prog_14_method_54_code 2 (Option.some FieldType.boolean) ∈ rTs := List.mem_append_left _ (rBm53 (List.mem_of_getElem? (i := 15) rfl))
set_option maxRecDepth 100000 in
theorem kw2560 : Cond.code ⟨"NativeWorksModel", "isIn", "(II)Z"⟩ prog_14_method_141_code 3 (Option.some FieldType.boolean) ∈ rTs := List.mem_append_left _ (rBm53 (List.mem_of_getElem? (i := 16) rfl))
set_option maxRecDepth 100000 in
theorem kw2561 : Cond.code ⟨"NativeWorksModel", "isLette\x72", "(I)Z"⟩ prog_14_method_14_code 1 (Option.some FieldType.boolean) ∈ rTs := List.mem_append_left _ (rBm53 (List.mem_of_getElem? (i := 17) rfl))
set_option maxRecDepth 100000 in
theorem kw2562 : Cond.code ⟨"NativeWorksModel", "isMacro", "()Z"⟩ prog_14_method_45_code 1 (Option.some FieldType.boolean) ∈ rTs := List.mem_append_left _ (rBm53 (List.mem_of_getElem? (i := 18) rfl))
set_option maxRecDepth 100000 in
theorem kw2563 : Cond.methodLink "NativeWorksModel" 760 ⟨"NativeWorksModel", "macroNamed", "()I"⟩ ∈ rTs := List.mem_append_left _ (rBm53 (List.mem_of_getElem? (i := 19) rfl))
set_option maxRecDepth 100000 in
theorem kw2564 : Cond.instanceMethod ⟨"NativeWorksModel", "macroNamed", "()I"⟩ ∈ rTs := List.mem_append_left _ (rBm53 (List.mem_of_getElem? (i := 20) rfl))
set_option maxRecDepth 100000 in
theorem kw2565 : Cond.selects "NativeWorksModel" ⟨"NativeWorksModel", "macroNamed", "()I"⟩ ⟨"NativeWorksModel", "macroNamed", "()I"⟩ ∈ rTs := List.mem_append_left _ (rBm53 (List.mem_of_getElem? (i := 21) rfl))
set_option maxRecDepth 100000 in
theorem kw2566 : Cond.code ⟨"NativeWorksModel", "isMet", "(I)Z"⟩ prog_14_method_170_code 5 (Option.some FieldType.boolean) ∈ rTs := List.mem_append_left _ (rBm53 (List.mem_of_getElem? (i := 22) rfl))
set_option maxRecDepth 100000 in
theorem kw2567 : Cond.code ⟨"NativeWorksModel", "isNamedAs", "(IJ)Z"⟩ prog_14_method_40_code 4 (Option.some FieldType.boolean) ∈ rTs := List.mem_append_left _ (rBm53 (List.mem_of_getElem? (i := 23) rfl))
set_option maxRecDepth 100000 in
theorem kw2568 : Cond.code ⟨"NativeWorksModel", "isNamed", "(I)Z"⟩ prog_14_method_16_code 1 (Option.some FieldType.boolean) ∈ rTs := List.mem_append_left _ (rBm53 (List.mem_of_getElem? (i := 24) rfl))
set_option maxRecDepth 100000 in
theorem kw2569 : Cond.methodLink "NativeWorksModel" 614 ⟨"NativeWorksModel", "isLette\x72", "(I)Z"⟩ ∈ rTs := List.mem_append_left _ (rBm53 (List.mem_of_getElem? (i := 25) rfl))
set_option maxRecDepth 100000 in
theorem kw2570 : Cond.static ⟨"NativeWorksModel", "isLette\x72", "(I)Z"⟩ ∈ rTs := List.mem_append_left _ (rBm53 (List.mem_of_getElem? (i := 26) rfl))
set_option maxRecDepth 100000 in
theorem kw2571 : Cond.code ⟨"NativeWorksModel", "isName", "(I)Z"⟩ prog_14_method_39_code 2 (Option.some FieldType.boolean) ∈ rTs := List.mem_append_left _ (rBm53 (List.mem_of_getElem? (i := 27) rfl))
set_option maxRecDepth 100000 in
theorem kw2572 : Cond.code ⟨"NativeWorksModel", "isNea\x72", "(I)Z"⟩ prog_14_method_117_code 4 (Option.some FieldType.boolean) ∈ rTs := List.mem_append_left _ (rBm53 (List.mem_of_getElem? (i := 28) rfl))
set_option maxRecDepth 100000 in
theorem kw2573 : Cond.code ⟨"NativeWorksModel", "isReserved", "(I)Z"⟩ prog_14_method_48_code 2 (Option.some FieldType.boolean) ∈ rTs := List.mem_append_left _ (rBm53 (List.mem_of_getElem? (i := 29) rfl))
set_option maxRecDepth 100000 in
theorem kw2574 : Cond.code ⟨"NativeWorksModel", "isSameName", "(II)Z"⟩ prog_14_method_127_code 5 (Option.some FieldType.boolean) ∈ rTs := List.mem_append_left _ (rBm53 (List.mem_of_getElem? (i := 30) rfl))
set_option maxRecDepth 100000 in
theorem kw2575 : Cond.code ⟨"NativeWorksModel", "isSeen", "(I)Z"⟩ prog_14_method_128_code 2 (Option.some FieldType.boolean) ∈ rTs := List.mem_append_left _ (rBm53 (List.mem_of_getElem? (i := 31) rfl))
set_option maxRecDepth 100000 in
theorem kw2576 : Cond.code ⟨"NativeWorksModel", "isSign", "(II)Z"⟩ prog_14_method_38_code 3 (Option.some FieldType.boolean) ∈ rTs := List.mem_append_left _ (rBm53 (List.mem_of_getElem? (i := 32) rfl))
set_option maxRecDepth 100000 in
theorem kw2577 : Cond.code ⟨"NativeWorksModel", "isStrong", "(I)Z"⟩ prog_14_method_129_code 2 (Option.some FieldType.boolean) ∈ rTs := List.mem_append_left _ (rBm53 (List.mem_of_getElem? (i := 33) rfl))
set_option maxRecDepth 100000 in
theorem kw2578 : Cond.code ⟨"NativeWorksModel", "isValue", "(I)Z"⟩ prog_14_method_53_code 3 (Option.some FieldType.boolean) ∈ rTs := List.mem_append_left _ (rBm53 (List.mem_of_getElem? (i := 34) rfl))
set_option maxRecDepth 100000 in
theorem kw2579 : Cond.code ⟨"NativeWorksModel", "isWaitingDisplacement", "()Z"⟩ prog_14_method_92_code 1 (Option.some FieldType.boolean) ∈ rTs := List.mem_append_left _ (rBm53 (List.mem_of_getElem? (i := 35) rfl))
set_option maxRecDepth 100000 in
theorem kw2580 : Cond.code ⟨"NativeWorksModel", "isWaitingNumbe\x72", "()Z"⟩ prog_14_method_91_code 1 (Option.some FieldType.boolean) ∈ rTs := List.mem_append_left _ (rBm53 (List.mem_of_getElem? (i := 36) rfl))
set_option maxRecDepth 100000 in
theorem kw2581 : Cond.code ⟨"NativeWorksModel", "isWanted", "(I)Z"⟩ prog_14_method_132_code 4 (Option.some FieldType.boolean) ∈ rTs := List.mem_append_left _ (rBm53 (List.mem_of_getElem? (i := 37) rfl))
set_option maxRecDepth 100000 in
theorem kw2582 : Cond.methodLink "NativeWorksModel" 1198 ⟨"NativeWorksModel", "isSeen", "(I)Z"⟩ ∈ rTs := List.mem_append_left _ (rBm53 (List.mem_of_getElem? (i := 38) rfl))
set_option maxRecDepth 100000 in
theorem kw2583 : Cond.instanceMethod ⟨"NativeWorksModel", "isSeen", "(I)Z"⟩ ∈ rTs := List.mem_append_left _ (rBm53 (List.mem_of_getElem? (i := 39) rfl))
set_option maxRecDepth 100000 in
theorem kw2584 : Cond.selects "NativeWorksModel" ⟨"NativeWorksModel", "isSeen", "(I)Z"⟩ ⟨"NativeWorksModel", "isSeen", "(I)Z"⟩ ∈ rTs := List.mem_append_left _ (rBm53 (List.mem_of_getElem? (i := 40) rfl))
set_option maxRecDepth 100000 in
theorem kw2585 : Cond.methodLink "NativeWorksModel" 1195 ⟨"NativeWorksModel", "knownAs", "(I)I"⟩ ∈ rTs := List.mem_append_left _ (rBm53 (List.mem_of_getElem? (i := 41) rfl))
set_option maxRecDepth 100000 in
theorem kw2586 : Cond.instanceMethod ⟨"NativeWorksModel", "knownAs", "(I)I"⟩ ∈ rTs := List.mem_append_left _ (rBm53 (List.mem_of_getElem? (i := 42) rfl))
set_option maxRecDepth 100000 in
theorem kw2587 : Cond.selects "NativeWorksModel" ⟨"NativeWorksModel", "knownAs", "(I)I"⟩ ⟨"NativeWorksModel", "knownAs", "(I)I"⟩ ∈ rTs := List.mem_append_left _ (rBm53 (List.mem_of_getElem? (i := 43) rfl))
set_option maxRecDepth 100000 in
theorem kw2588 : Cond.code ⟨"NativeWorksModel", "itemAddress", "(II)J"⟩ prog_14_method_138_code 3 (Option.some FieldType.long) ∈ rTs := List.mem_append_left _ (rBm53 (List.mem_of_getElem? (i := 44) rfl))
set_option maxRecDepth 100000 in
theorem kw2589 : Cond.code ⟨"NativeWorksModel", "itemOf", "(I)I"⟩ prog_14_method_116_code 2 (Option.some FieldType.int) ∈ rTs := List.mem_append_left _ (rBm53 (List.mem_of_getElem? (i := 45) rfl))
set_option maxRecDepth 100000 in
theorem kw2590 : Cond.code ⟨"NativeWorksModel", "item", "(II)I"⟩ prog_14_method_50_code 3 (Option.some FieldType.int) ∈ rTs := List.mem_append_left _ (rBm53 (List.mem_of_getElem? (i := 46) rfl))
set_option maxRecDepth 100000 in
theorem kw2591 : Cond.code ⟨"NativeWorksModel", "keepNames", "()V"⟩ prog_14_method_148_code 3 (Option.none : Option FieldType) ∈ rTs := List.mem_append_left _ (rBm53 (List.mem_of_getElem? (i := 47) rfl))
set_option maxRecDepth 100000 in
theorem kw2592 : Cond.fieldLink "NativeWorksModel" 1299 "NativeWorksModel" "imagePooled" "I" ∈ rTs := List.mem_append_left _ (rBm54 (List.mem_of_getElem? (i := 0) rfl))
set_option maxRecDepth 100000 in
theorem kw2593 : Cond.code ⟨"NativeWorksModel", "kindAt", "(I)I"⟩ prog_14_method_161_code 2 (Option.some FieldType.int) ∈ rTs := List.mem_append_left _ (rBm54 (List.mem_of_getElem? (i := 1) rfl))
set_option maxRecDepth 100000 in
theorem kw2594 : Cond.constantLong "NativeWorksModel" 1338 (lN 3) ∈ rTs := List.mem_append_left _ (rBm54 (List.mem_of_getElem? (i := 2) (by decide +kernel)))
set_option maxRecDepth 100000 in
theorem kw2595 : Cond.code ⟨"NativeWorksModel", "knownAs", "(I)I"⟩ prog_14_method_130_code 3 (Option.some FieldType.int) ∈ rTs := List.mem_append_left _ (rBm54 (List.mem_of_getElem? (i := 3) rfl))
set_option maxRecDepth 100000 in
theorem kw2596 : Cond.code ⟨"NativeWorksModel", "labelSection", "(I)I"⟩ prog_14_method_134_code 2 (Option.some FieldType.int) ∈ rTs := List.mem_append_left _ (rBm54 (List.mem_of_getElem? (i := 4) rfl))
set_option maxRecDepth 100000 in
theorem kw2597 : Cond.code ⟨"NativeWorksModel", "labels", "(II)V"⟩ prog_14_method_70_code 5 (Option.none : Option FieldType) ∈ rTs := List.mem_append_left _ (rBm54 (List.mem_of_getElem? (i := 5) rfl))
set_option maxRecDepth 100000 in
theorem kw2598 : Cond.methodLink "NativeWorksModel" 890 ⟨"NativeWorksModel", "isFree", "(IZZ)Z"⟩ ∈ rTs := List.mem_append_left _ (rBm54 (List.mem_of_getElem? (i := 6) rfl))
set_option maxRecDepth 100000 in
theorem kw2599 : Cond.instanceMethod ⟨"NativeWorksModel", "isFree", "(IZZ)Z"⟩ ∈ rTs := List.mem_append_left _ (rBm54 (List.mem_of_getElem? (i := 7) rfl))
set_option maxRecDepth 100000 in
theorem kw2600 : Cond.selects "NativeWorksModel" ⟨"NativeWorksModel", "isFree", "(IZZ)Z"⟩ ⟨"NativeWorksModel", "isFree", "(IZZ)Z"⟩ ∈ rTs := List.mem_append_left _ (rBm54 (List.mem_of_getElem? (i := 8) rfl))
set_option maxRecDepth 100000 in
theorem kw2601 : Cond.methodLink "NativeWorksModel" 894 ⟨"NativeWorksModel", "defineLabel", "(I)V"⟩ ∈ rTs := List.mem_append_left _ (rBm54 (List.mem_of_getElem? (i := 9) rfl))
set_option maxRecDepth 100000 in
theorem kw2602 : Cond.instanceMethod ⟨"NativeWorksModel", "defineLabel", "(I)V"⟩ ∈ rTs := List.mem_append_left _ (rBm54 (List.mem_of_getElem? (i := 10) rfl))
set_option maxRecDepth 100000 in
theorem kw2603 : Cond.selects "NativeWorksModel" ⟨"NativeWorksModel", "defineLabel", "(I)V"⟩ ⟨"NativeWorksModel", "defineLabel", "(I)V"⟩ ∈ rTs := List.mem_append_left _ (rBm54 (List.mem_of_getElem? (i := 11) rfl))
set_option maxRecDepth 100000 in
theorem kw2604 : Cond.code ⟨"NativeWorksModel", "leaf", "(III)V"⟩ prog_14_method_59_code 6 (Option.none : Option FieldType) ∈ rTs := List.mem_append_left _ (rBm54 (List.mem_of_getElem? (i := 12) rfl))
set_option maxRecDepth 100000 in
theorem kw2605 : Cond.methodLink "NativeWorksModel" 832 ⟨"NativeWorksModel", "valueOf", "(JII)V"⟩ ∈ rTs := List.mem_append_left _ (rBm54 (List.mem_of_getElem? (i := 13) rfl))
set_option maxRecDepth 100000 in
theorem kw2606 : Cond.instanceMethod ⟨"NativeWorksModel", "valueOf", "(JII)V"⟩ ∈ rTs := List.mem_append_left _ (rBm54 (List.mem_of_getElem? (i := 14) rfl))
set_option maxRecDepth 100000 in
theorem kw2607 : Cond.selects "NativeWorksModel" ⟨"NativeWorksModel", "valueOf", "(JII)V"⟩ ⟨"NativeWorksModel", "valueOf", "(JII)V"⟩ ∈ rTs := List.mem_append_left _ (rBm54 (List.mem_of_getElem? (i := 15) rfl))
set_option maxRecDepth 100000 in
theorem kw2608 : Cond.code ⟨"NativeWorksModel", "linesOfSource", "()I"⟩ prog_14_method_119_code 3 (Option.some FieldType.int) ∈ rTs := List.mem_append_left _ (rBm54 (List.mem_of_getElem? (i := 16) rfl))
set_option maxRecDepth 100000 in
theorem kw2609 : Cond.methodLink "NativeWorksModel" 1231 ⟨"NativeWorksModel", "findTwice", "()V"⟩ ∈ rTs := List.mem_append_left _ (rBm54 (List.mem_of_getElem? (i := 17) rfl))
set_option maxRecDepth 100000 in
theorem kw2610 : Cond.instanceMethod ⟨"NativeWorksModel", "findTwice", "()V"⟩ ∈ rTs := List.mem_append_left _ (rBm54 (List.mem_of_getElem? (i := 18) rfl))
set_option maxRecDepth 100000 in
theorem kw2611 : Cond.selects "NativeWorksModel" ⟨"NativeWorksModel", "findTwice", "()V"⟩ ⟨"NativeWorksModel", "findTwice", "()V"⟩ ∈ rTs := List.mem_append_left _ (rBm54 (List.mem_of_getElem? (i := 19) rfl))
set_option maxRecDepth 100000 in
theorem kw2612 : Cond.methodLink "NativeWorksModel" 1234 ⟨"NativeWorksModel", "findNeeded", "(I)V"⟩ ∈ rTs := List.mem_append_left _ (rBm54 (List.mem_of_getElem? (i := 20) rfl))
set_option maxRecDepth 100000 in
theorem kw2613 : Cond.instanceMethod ⟨"NativeWorksModel", "findNeeded", "(I)V"⟩ ∈ rTs := List.mem_append_left _ (rBm54 (List.mem_of_getElem? (i := 21) rfl))
set_option maxRecDepth 100000 in
theorem kw2614 : Cond.selects "NativeWorksModel" ⟨"NativeWorksModel", "findNeeded", "(I)V"⟩ ⟨"NativeWorksModel", "findNeeded", "(I)V"⟩ ∈ rTs := List.mem_append_left _ (rBm54 (List.mem_of_getElem? (i := 22) rfl))
set_option maxRecDepth 100000 in
theorem kw2615 : Cond.methodLink "NativeWorksModel" 1237 ⟨"NativeWorksModel", "place", "()I"⟩ ∈ rTs := List.mem_append_left _ (rBm54 (List.mem_of_getElem? (i := 23) rfl))
set_option maxRecDepth 100000 in
theorem kw2616 : Cond.instanceMethod ⟨"NativeWorksModel", "place", "()I"⟩ ∈ rTs := List.mem_append_left _ (rBm54 (List.mem_of_getElem? (i := 24) rfl))
set_option maxRecDepth 100000 in
theorem kw2617 : Cond.selects "NativeWorksModel" ⟨"NativeWorksModel", "place", "()I"⟩ ⟨"NativeWorksModel", "place", "()I"⟩ ∈ rTs := List.mem_append_left _ (rBm54 (List.mem_of_getElem? (i := 25) rfl))
set_option maxRecDepth 100000 in
theorem kw2618 : Cond.methodLink "NativeWorksModel" 1245 ⟨"NativeWorksModel", "build", "(II)V"⟩ ∈ rTs := List.mem_append_left _ (rBm54 (List.mem_of_getElem? (i := 26) rfl))
set_option maxRecDepth 100000 in
theorem kw2619 : Cond.instanceMethod ⟨"NativeWorksModel", "build", "(II)V"⟩ ∈ rTs := List.mem_append_left _ (rBm54 (List.mem_of_getElem? (i := 27) rfl))
set_option maxRecDepth 100000 in
theorem kw2620 : Cond.selects "NativeWorksModel" ⟨"NativeWorksModel", "build", "(II)V"⟩ ⟨"NativeWorksModel", "build", "(II)V"⟩ ∈ rTs := List.mem_append_left _ (rBm54 (List.mem_of_getElem? (i := 28) rfl))
set_option maxRecDepth 100000 in
theorem kw2621 : Cond.methodLink "NativeWorksModel" 1550 ⟨"NativeWorksModel$Code", "copy", "(LNativeWorksModel$Code;)V"⟩ ∈ rTs := List.mem_append_left _ (rBm54 (List.mem_of_getElem? (i := 29) rfl))
set_option maxRecDepth 100000 in
theorem kw2622 : Cond.instanceMethod ⟨"NativeWorksModel$Code", "copy", "(LNativeWorksModel$Code;)V"⟩ ∈ rTs := List.mem_append_left _ (rBm54 (List.mem_of_getElem? (i := 30) rfl))
set_option maxRecDepth 100000 in
theorem kw2623 : Cond.selects "NativeWorksModel$Code" ⟨"NativeWorksModel$Code", "copy", "(LNativeWorksModel$Code;)V"⟩ ⟨"NativeWorksModel$Code", "copy", "(LNativeWorksModel$Code;)V"⟩ ∈ rTs := List.mem_append_left _ (rBm54 (List.mem_of_getElem? (i := 31) rfl))
set_option maxRecDepth 100000 in
theorem kw2624 : Cond.constantLong "NativeWorksModel" 1554 (lN 2147479552) ∈ rTs := List.mem_append_left _ (rBm54 (List.mem_of_getElem? (i := 32) (by decide +kernel)))
set_option maxRecDepth 100000 in
theorem kw2625 : Cond.methodLink "NativeWorksModel" 1547 ⟨"NativeWorksModel", "setFlags", "(J)V"⟩ ∈ rTs := List.mem_append_left _ (rBm54 (List.mem_of_getElem? (i := 33) rfl))
set_option maxRecDepth 100000 in
theorem kw2626 : Cond.instanceMethod ⟨"NativeWorksModel", "setFlags", "(J)V"⟩ ∈ rTs := List.mem_append_left _ (rBm54 (List.mem_of_getElem? (i := 34) rfl))
set_option maxRecDepth 100000 in
theorem kw2627 : Cond.selects "NativeWorksModel" ⟨"NativeWorksModel", "setFlags", "(J)V"⟩ ⟨"NativeWorksModel", "setFlags", "(J)V"⟩ ∈ rTs := List.mem_append_left _ (rBm54 (List.mem_of_getElem? (i := 35) rfl))
set_option maxRecDepth 100000 in
theorem kw2628 : Cond.code ⟨"NativeWorksModel", "macroFrame", "()I"⟩ prog_14_method_27_code 2 (Option.some FieldType.int) ∈ rTs := List.mem_append_left _ (rBm54 (List.mem_of_getElem? (i := 36) rfl))
set_option maxRecDepth 100000 in
theorem kw2629 : Cond.code ⟨"NativeWorksModel", "macroNamed", "()I"⟩ prog_14_method_46_code 4 (Option.some FieldType.int) ∈ rTs := List.mem_append_left _ (rBm54 (List.mem_of_getElem? (i := 37) rfl))
set_option maxRecDepth 100000 in
theorem kw2630 : Cond.code ⟨"NativeWorksModel", "macro", "(I)V"⟩ prog_14_method_84_code 5 (Option.none : Option FieldType) ∈ rTs := List.mem_append_left _ (rBm54 (List.mem_of_getElem? (i := 38) rfl))
set_option maxRecDepth 100000 in
theorem kw2631 : Cond.methodLink "NativeWorksModel" 880 ⟨"NativeWorksModel", "findEnd", "(IIIIIZ)Z"⟩ ∈ rTs := List.mem_append_left _ (rBm54 (List.mem_of_getElem? (i := 39) rfl))
set_option maxRecDepth 100000 in
theorem kw2632 : Cond.instanceMethod ⟨"NativeWorksModel", "findEnd", "(IIIIIZ)Z"⟩ ∈ rTs := List.mem_append_left _ (rBm54 (List.mem_of_getElem? (i := 40) rfl))
set_option maxRecDepth 100000 in
theorem kw2633 : Cond.selects "NativeWorksModel" ⟨"NativeWorksModel", "findEnd", "(IIIIIZ)Z"⟩ ⟨"NativeWorksModel", "findEnd", "(IIIIIZ)Z"⟩ ∈ rTs := List.mem_append_left _ (rBm54 (List.mem_of_getElem? (i := 41) rfl))
set_option maxRecDepth 100000 in
theorem kw2634 : Cond.methodLink "NativeWorksModel" 958 ⟨"NativeWorksModel", "goBehind", "()V"⟩ ∈ rTs := List.mem_append_left _ (rBm54 (List.mem_of_getElem? (i := 42) rfl))
set_option maxRecDepth 100000 in
theorem kw2635 : Cond.instanceMethod ⟨"NativeWorksModel", "goBehind", "()V"⟩ ∈ rTs := List.mem_append_left _ (rBm54 (List.mem_of_getElem? (i := 43) rfl))
set_option maxRecDepth 100000 in
theorem kw2636 : Cond.selects "NativeWorksModel" ⟨"NativeWorksModel", "goBehind", "()V"⟩ ⟨"NativeWorksModel", "goBehind", "()V"⟩ ∈ rTs := List.mem_append_left _ (rBm54 (List.mem_of_getElem? (i := 44) rfl))
set_option maxRecDepth 100000 in
theorem kw2637 : Cond.code ⟨"NativeWorksModel", "may", "(JJZ)Z"⟩ prog_14_method_189_code 8 (Option.some FieldType.boolean) ∈ rTs := List.mem_append_left _ (rBm54 (List.mem_of_getElem? (i := 45) rfl))
set_option maxRecDepth 100000 in
theorem kw2638 : Cond.constantLong "NativeWorksModel" 1467 (lN 1048576) ∈ rTs := List.mem_append_left _ (rBm54 (List.mem_of_getElem? (i := 46) (by decide +kernel)))
set_option maxRecDepth 100000 in
theorem kw2639 : Cond.code ⟨"NativeWorksModel", "memoryOf", "(I)V"⟩ prog_14_method_113_code 7 (Option.none : Option FieldType) ∈ rTs := List.mem_append_left _ (rBm54 (List.mem_of_getElem? (i := 47) rfl))
set_option maxRecDepth 100000 in
theorem kw2640 : Cond.methodLink "NativeWorksModel" 1119 ⟨"NativeWorksModel", "byteOf", "(I)V"⟩ ∈ rTs := List.mem_append_left _ (rBm55 (List.mem_of_getElem? (i := 0) rfl))
set_option maxRecDepth 100000 in
theorem kw2641 : Cond.instanceMethod ⟨"NativeWorksModel", "byteOf", "(I)V"⟩ ∈ rTs := List.mem_append_left _ (rBm55 (List.mem_of_getElem? (i := 1) rfl))
set_option maxRecDepth 100000 in
theorem kw2642 : Cond.selects "NativeWorksModel" ⟨"NativeWorksModel", "byteOf", "(I)V"⟩ ⟨"NativeWorksModel", "byteOf", "(I)V"⟩ ∈ rTs := List.mem_append_left _ (rBm55 (List.mem_of_getElem? (i := 2) rfl))
set_option maxRecDepth 100000 in
theorem kw2643 : Cond.methodLink "NativeWorksModel" 1122 ⟨"NativeWorksModel", "putBytes", "(JI)V"⟩ ∈ rTs := List.mem_append_left _ (rBm55 (List.mem_of_getElem? (i := 3) rfl))
set_option maxRecDepth 100000 in
theorem kw2644 : Cond.instanceMethod ⟨"NativeWorksModel", "putBytes", "(JI)V"⟩ ∈ rTs := List.mem_append_left _ (rBm55 (List.mem_of_getElem? (i := 4) rfl))
set_option maxRecDepth 100000 in
theorem kw2645 : Cond.selects "NativeWorksModel" ⟨"NativeWorksModel", "putBytes", "(JI)V"⟩ ⟨"NativeWorksModel", "putBytes", "(JI)V"⟩ ∈ rTs := List.mem_append_left _ (rBm55 (List.mem_of_getElem? (i := 5) rfl))
set_option maxRecDepth 100000 in
theorem kw2646 : Cond.code ⟨"NativeWorksModel", "moves", "(II)V"⟩ prog_14_method_174_code 7 (Option.none : Option FieldType) ∈ rTs := List.mem_append_left _ (rBm55 (List.mem_of_getElem? (i := 6) rfl))
set_option maxRecDepth 100000 in
theorem kw2647 : Cond.code ⟨"NativeWorksModel", "multiply", "(ZI)V"⟩ prog_14_method_177_code 11 (Option.none : Option FieldType) ∈ rTs := List.mem_append_left _ (rBm55 (List.mem_of_getElem? (i := 7) rfl))
set_option maxRecDepth 100000 in
theorem kw2648 : Cond.methodLink "NativeWorksModel" 1422 ⟨"NativeWorksModel", "highUnsigned", "(JJ)J"⟩ ∈ rTs := List.mem_append_left _ (rBm55 (List.mem_of_getElem? (i := 8) rfl))
set_option maxRecDepth 100000 in
theorem kw2649 : Cond.static ⟨"NativeWorksModel", "highUnsigned", "(JJ)J"⟩ ∈ rTs := List.mem_append_left _ (rBm55 (List.mem_of_getElem? (i := 9) rfl))
set_option maxRecDepth 100000 in
theorem kw2650 : Cond.code ⟨"NativeWorksModel", "nameAll", "(II)V"⟩ prog_14_method_72_code 7 (Option.none : Option FieldType) ∈ rTs := List.mem_append_left _ (rBm55 (List.mem_of_getElem? (i := 10) rfl))
set_option maxRecDepth 100000 in
theorem kw2651 : Cond.code ⟨"NativeWorksModel", "nesting", "(III)V"⟩ prog_14_method_67_code 7 (Option.none : Option FieldType) ∈ rTs := List.mem_append_left _ (rBm55 (List.mem_of_getElem? (i := 11) rfl))
set_option maxRecDepth 100000 in
theorem kw2652 : Cond.methodLink "NativeWorksModel" 884 ⟨"NativeWorksModel", "split", "(I)V"⟩ ∈ rTs := List.mem_append_left _ (rBm55 (List.mem_of_getElem? (i := 12) rfl))
set_option maxRecDepth 100000 in
theorem kw2653 : Cond.instanceMethod ⟨"NativeWorksModel", "split", "(I)V"⟩ ∈ rTs := List.mem_append_left _ (rBm55 (List.mem_of_getElem? (i := 13) rfl))
set_option maxRecDepth 100000 in
theorem kw2654 : Cond.selects "NativeWorksModel" ⟨"NativeWorksModel", "split", "(I)V"⟩ ⟨"NativeWorksModel", "split", "(I)V"⟩ ∈ rTs := List.mem_append_left _ (rBm55 (List.mem_of_getElem? (i := 14) rfl))
set_option maxRecDepth 100000 in
theorem kw2655 : Cond.methodLink "NativeWorksModel" 887 ⟨"NativeWorksModel", "parametersOf", "(I)I"⟩ ∈ rTs := List.mem_append_left _ (rBm55 (List.mem_of_getElem? (i := 15) rfl))
set_option maxRecDepth 100000 in
theorem kw2656 : Cond.instanceMethod ⟨"NativeWorksModel", "parametersOf", "(I)I"⟩ ∈ rTs := List.mem_append_left _ (rBm55 (List.mem_of_getElem? (i := 16) rfl))
set_option maxRecDepth 100000 in
theorem kw2657 : Cond.selects "NativeWorksModel" ⟨"NativeWorksModel", "parametersOf", "(I)I"⟩ ⟨"NativeWorksModel", "parametersOf", "(I)I"⟩ ∈ rTs := List.mem_append_left _ (rBm55 (List.mem_of_getElem? (i := 17) rfl))
set_option maxRecDepth 100000 in
theorem kw2658 : Cond.code ⟨"NativeWorksModel", "numberToken", "(I)I"⟩ prog_14_method_35_code 9 (Option.some FieldType.int) ∈ rTs := List.mem_append_left _ (rBm55 (List.mem_of_getElem? (i := 18) rfl))
set_option maxRecDepth 100000 in
theorem kw2659 : Cond.methodLink "NativeWorksModel" 706 ⟨"NativeWorksModel", "digitOf", "(I)I"⟩ ∈ rTs := List.mem_append_left _ (rBm55 (List.mem_of_getElem? (i := 19) rfl))
set_option maxRecDepth 100000 in
theorem kw2660 : Cond.static ⟨"NativeWorksModel", "digitOf", "(I)I"⟩ ∈ rTs := List.mem_append_left _ (rBm55 (List.mem_of_getElem? (i := 20) rfl))
set_option maxRecDepth 100000 in
theorem kw2661 : Cond.constantLong "NativeWorksModel" 709 (lN 1844674407370955161) ∈ rTs := List.mem_append_left _ (rBm55 (List.mem_of_getElem? (i := 21) (by decide +kernel)))
set_option maxRecDepth 100000 in
theorem kw2662 : Cond.methodLink "NativeWorksModel" 621 ⟨"NativeWorksModel", "isNamed", "(I)Z"⟩ ∈ rTs := List.mem_append_left _ (rBm55 (List.mem_of_getElem? (i := 22) rfl))
set_option maxRecDepth 100000 in
theorem kw2663 : Cond.static ⟨"NativeWorksModel", "isNamed", "(I)Z"⟩ ∈ rTs := List.mem_append_left _ (rBm55 (List.mem_of_getElem? (i := 23) rfl))
set_option maxRecDepth 100000 in
theorem kw2664 : Cond.methodLink "NativeWorksModel" 717 ⟨"NativeWorksModel", "token", "(IIIJ)V"⟩ ∈ rTs := List.mem_append_left _ (rBm55 (List.mem_of_getElem? (i := 24) rfl))
set_option maxRecDepth 100000 in
theorem kw2665 : Cond.instanceMethod ⟨"NativeWorksModel", "token", "(IIIJ)V"⟩ ∈ rTs := List.mem_append_left _ (rBm55 (List.mem_of_getElem? (i := 25) rfl))
set_option maxRecDepth 100000 in
theorem kw2666 : Cond.selects "NativeWorksModel" ⟨"NativeWorksModel", "token", "(IIIJ)V"⟩ ⟨"NativeWorksModel", "token", "(IIIJ)V"⟩ ∈ rTs := List.mem_append_left _ (rBm55 (List.mem_of_getElem? (i := 26) rfl))
set_option maxRecDepth 100000 in
theorem kw2667 : Cond.code ⟨"NativeWorksModel", "ownLine", "()I"⟩ prog_14_method_21_code 3 (Option.some FieldType.int) ∈ rTs := List.mem_append_left _ (rBm55 (List.mem_of_getElem? (i := 27) rfl))
set_option maxRecDepth 100000 in
theorem kw2668 : Cond.code ⟨"NativeWorksModel", "parameterAt", "(III)I"⟩ prog_14_method_30_code 11 (Option.some FieldType.int) ∈ rTs := List.mem_append_left _ (rBm55 (List.mem_of_getElem? (i := 28) rfl))
set_option maxRecDepth 100000 in
theorem kw2669 : Cond.code ⟨"NativeWorksModel", "parametersOf", "(I)I"⟩ prog_14_method_68_code 5 (Option.some FieldType.int) ∈ rTs := List.mem_append_left _ (rBm55 (List.mem_of_getElem? (i := 29) rfl))
set_option maxRecDepth 100000 in
theorem kw2670 : Cond.code ⟨"NativeWorksModel", "partEnd", "(IZ)I"⟩ prog_14_method_75_code 3 (Option.some FieldType.int) ∈ rTs := List.mem_append_left _ (rBm55 (List.mem_of_getElem? (i := 30) rfl))
set_option maxRecDepth 100000 in
theorem kw2671 : Cond.code ⟨"NativeWorksModel", "passAddress", "(I)I"⟩ prog_14_method_87_code 6 (Option.some FieldType.int) ∈ rTs := List.mem_append_left _ (rBm55 (List.mem_of_getElem? (i := 31) rfl))
set_option maxRecDepth 100000 in
theorem kw2672 : Cond.methodLink "NativeWorksModel" 863 ⟨"NativeWorksModel", "isNamedAs", "(IJ)Z"⟩ ∈ rTs := List.mem_append_left _ (rBm55 (List.mem_of_getElem? (i := 32) rfl))
set_option maxRecDepth 100000 in
theorem kw2673 : Cond.instanceMethod ⟨"NativeWorksModel", "isNamedAs", "(IJ)Z"⟩ ∈ rTs := List.mem_append_left _ (rBm55 (List.mem_of_getElem? (i := 33) rfl))
set_option maxRecDepth 100000 in
theorem kw2674 : Cond.selects "NativeWorksModel" ⟨"NativeWorksModel", "isNamedAs", "(IJ)Z"⟩ ⟨"NativeWorksModel", "isNamedAs", "(IJ)Z"⟩ ∈ rTs := List.mem_append_left _ (rBm55 (List.mem_of_getElem? (i := 34) rfl))
set_option maxRecDepth 100000 in
theorem kw2675 : Cond.constantLong "NativeWorksModel" 977 (lN 8) ∈ rTs := List.mem_append_left _ (rBm55 (List.mem_of_getElem? (i := 35) (by decide +kernel)))
set_option maxRecDepth 100000 in
theorem kw2676 : Cond.code ⟨"NativeWorksModel", "pass", "(IZ)I"⟩ prog_14_method_55_code 7 (Option.some FieldType.int) ∈ rTs := List.mem_append_left _ (rBm55 (List.mem_of_getElem? (i := 36) rfl))
set_option maxRecDepth 100000 in
theorem kw2677 : Cond.methodLink "NativeWorksModel" 801 ⟨"NativeWorksModel", "isValue", "(I)Z"⟩ ∈ rTs := List.mem_append_left _ (rBm55 (List.mem_of_getElem? (i := 37) rfl))
set_option maxRecDepth 100000 in
theorem kw2678 : Cond.instanceMethod ⟨"NativeWorksModel", "isValue", "(I)Z"⟩ ∈ rTs := List.mem_append_left _ (rBm55 (List.mem_of_getElem? (i := 38) rfl))
set_option maxRecDepth 100000 in
theorem kw2679 : Cond.selects "NativeWorksModel" ⟨"NativeWorksModel", "isValue", "(I)Z"⟩ ⟨"NativeWorksModel", "isValue", "(I)Z"⟩ ∈ rTs := List.mem_append_left _ (rBm55 (List.mem_of_getElem? (i := 39) rfl))
set_option maxRecDepth 100000 in
theorem kw2680 : Cond.methodLink "NativeWorksModel" 804 ⟨"NativeWorksModel", "isFront", "(I)Z"⟩ ∈ rTs := List.mem_append_left _ (rBm55 (List.mem_of_getElem? (i := 40) rfl))
set_option maxRecDepth 100000 in
theorem kw2681 : Cond.instanceMethod ⟨"NativeWorksModel", "isFront", "(I)Z"⟩ ∈ rTs := List.mem_append_left _ (rBm55 (List.mem_of_getElem? (i := 41) rfl))
set_option maxRecDepth 100000 in
theorem kw2682 : Cond.selects "NativeWorksModel" ⟨"NativeWorksModel", "isFront", "(I)Z"⟩ ⟨"NativeWorksModel", "isFront", "(I)Z"⟩ ∈ rTs := List.mem_append_left _ (rBm55 (List.mem_of_getElem? (i := 42) rfl))
set_option maxRecDepth 100000 in
theorem kw2683 : Cond.methodLink "NativeWorksModel" 1329 ⟨"NativeWorksModel", "byteAtPlace", "(I)I"⟩ ∈ rTs := List.mem_append_left _ (rBm55 (List.mem_of_getElem? (i := 43) rfl))
set_option maxRecDepth 100000 in
theorem kw2684 : Cond.instanceMethod ⟨"NativeWorksModel", "byteAtPlace", "(I)I"⟩ ∈ rTs := List.mem_append_left _ (rBm55 (List.mem_of_getElem? (i := 44) rfl))
set_option maxRecDepth 100000 in
theorem kw2685 : Cond.selects "NativeWorksModel" ⟨"NativeWorksModel", "byteAtPlace", "(I)I"⟩ ⟨"NativeWorksModel", "byteAtPlace", "(I)I"⟩ ∈ rTs := List.mem_append_left _ (rBm55 (List.mem_of_getElem? (i := 45) rfl))
set_option maxRecDepth 100000 in
theorem kw2686 : Cond.code ⟨"NativeWorksModel", "perform", "()V"⟩ prog_14_method_191_code 3 (Option.none : Option FieldType) ∈ rTs := List.mem_append_left _ (rBm55 (List.mem_of_getElem? (i := 46) rfl))
set_option maxRecDepth 100000 in
theorem kw2687 : Cond.methodLink "NativeWorksModel" 1492 ⟨"NativeWorksModel", "arithmetic", "(II)V"⟩ ∈ rTs := List.mem_append_left _ (rBm55 (List.mem_of_getElem? (i := 47) rfl))
set_option maxRecDepth 100000 in
theorem kw2688 : Cond.instanceMethod ⟨"NativeWorksModel", "arithmetic", "(II)V"⟩ ∈ rTs := List.mem_append_left _ (rBm56 (List.mem_of_getElem? (i := 0) rfl))
set_option maxRecDepth 100000 in
theorem kw2689 : Cond.selects "NativeWorksModel" ⟨"NativeWorksModel", "arithmetic", "(II)V"⟩ ⟨"NativeWorksModel", "arithmetic", "(II)V"⟩ ∈ rTs := List.mem_append_left _ (rBm56 (List.mem_of_getElem? (i := 1) rfl))
set_option maxRecDepth 100000 in
theorem kw2690 : Cond.methodLink "NativeWorksModel" 1495 ⟨"NativeWorksModel", "moves", "(II)V"⟩ ∈ rTs := List.mem_append_left _ (rBm56 (List.mem_of_getElem? (i := 2) rfl))
set_option maxRecDepth 100000 in
theorem kw2691 : Cond.instanceMethod ⟨"NativeWorksModel", "moves", "(II)V"⟩ ∈ rTs := List.mem_append_left _ (rBm56 (List.mem_of_getElem? (i := 3) rfl))
set_option maxRecDepth 100000 in
theorem kw2692 : Cond.selects "NativeWorksModel" ⟨"NativeWorksModel", "moves", "(II)V"⟩ ⟨"NativeWorksModel", "moves", "(II)V"⟩ ∈ rTs := List.mem_append_left _ (rBm56 (List.mem_of_getElem? (i := 4) rfl))
set_option maxRecDepth 100000 in
theorem kw2693 : Cond.methodLink "NativeWorksModel" 1498 ⟨"NativeWorksModel", "single", "(II)V"⟩ ∈ rTs := List.mem_append_left _ (rBm56 (List.mem_of_getElem? (i := 5) rfl))
set_option maxRecDepth 100000 in
theorem kw2694 : Cond.instanceMethod ⟨"NativeWorksModel", "single", "(II)V"⟩ ∈ rTs := List.mem_append_left _ (rBm56 (List.mem_of_getElem? (i := 6) rfl))
set_option maxRecDepth 100000 in
theorem kw2695 : Cond.selects "NativeWorksModel" ⟨"NativeWorksModel", "single", "(II)V"⟩ ⟨"NativeWorksModel", "single", "(II)V"⟩ ∈ rTs := List.mem_append_left _ (rBm56 (List.mem_of_getElem? (i := 7) rfl))
set_option maxRecDepth 100000 in
theorem kw2696 : Cond.methodLink "NativeWorksModel" 1501 ⟨"NativeWorksModel", "multiply", "(ZI)V"⟩ ∈ rTs := List.mem_append_left _ (rBm56 (List.mem_of_getElem? (i := 8) rfl))
set_option maxRecDepth 100000 in
theorem kw2697 : Cond.instanceMethod ⟨"NativeWorksModel", "multiply", "(ZI)V"⟩ ∈ rTs := List.mem_append_left _ (rBm56 (List.mem_of_getElem? (i := 9) rfl))
set_option maxRecDepth 100000 in
theorem kw2698 : Cond.selects "NativeWorksModel" ⟨"NativeWorksModel", "multiply", "(ZI)V"⟩ ⟨"NativeWorksModel", "multiply", "(ZI)V"⟩ ∈ rTs := List.mem_append_left _ (rBm56 (List.mem_of_getElem? (i := 10) rfl))
set_option maxRecDepth 100000 in
theorem kw2699 : Cond.methodLink "NativeWorksModel" 1505 ⟨"NativeWorksModel", "divide", "(ZI)V"⟩ ∈ rTs := List.mem_append_left _ (rBm56 (List.mem_of_getElem? (i := 11) rfl))
set_option maxRecDepth 100000 in
theorem kw2700 : Cond.instanceMethod ⟨"NativeWorksModel", "divide", "(ZI)V"⟩ ∈ rTs := List.mem_append_left _ (rBm56 (List.mem_of_getElem? (i := 12) rfl))
set_option maxRecDepth 100000 in
theorem kw2701 : Cond.selects "NativeWorksModel" ⟨"NativeWorksModel", "divide", "(ZI)V"⟩ ⟨"NativeWorksModel", "divide", "(ZI)V"⟩ ∈ rTs := List.mem_append_left _ (rBm56 (List.mem_of_getElem? (i := 13) rfl))
set_option maxRecDepth 100000 in
theorem kw2702 : Cond.methodLink "NativeWorksModel" 1508 ⟨"NativeWorksModel", "product", "(I)V"⟩ ∈ rTs := List.mem_append_left _ (rBm56 (List.mem_of_getElem? (i := 14) rfl))
set_option maxRecDepth 100000 in
theorem kw2703 : Cond.instanceMethod ⟨"NativeWorksModel", "product", "(I)V"⟩ ∈ rTs := List.mem_append_left _ (rBm56 (List.mem_of_getElem? (i := 15) rfl))
set_option maxRecDepth 100000 in
theorem kw2704 : Cond.selects "NativeWorksModel" ⟨"NativeWorksModel", "product", "(I)V"⟩ ⟨"NativeWorksModel", "product", "(I)V"⟩ ∈ rTs := List.mem_append_left _ (rBm56 (List.mem_of_getElem? (i := 16) rfl))
set_option maxRecDepth 100000 in
theorem kw2705 : Cond.methodLink "NativeWorksModel" 1511 ⟨"NativeWorksModel", "shift", "(II)V"⟩ ∈ rTs := List.mem_append_left _ (rBm56 (List.mem_of_getElem? (i := 17) rfl))
set_option maxRecDepth 100000 in
theorem kw2706 : Cond.instanceMethod ⟨"NativeWorksModel", "shift", "(II)V"⟩ ∈ rTs := List.mem_append_left _ (rBm56 (List.mem_of_getElem? (i := 18) rfl))
set_option maxRecDepth 100000 in
theorem kw2707 : Cond.selects "NativeWorksModel" ⟨"NativeWorksModel", "shift", "(II)V"⟩ ⟨"NativeWorksModel", "shift", "(II)V"⟩ ∈ rTs := List.mem_append_left _ (rBm56 (List.mem_of_getElem? (i := 19) rfl))
set_option maxRecDepth 100000 in
theorem kw2708 : Cond.methodLink "NativeWorksModel" 1514 ⟨"NativeWorksModel", "goes", "(I)V"⟩ ∈ rTs := List.mem_append_left _ (rBm56 (List.mem_of_getElem? (i := 20) rfl))
set_option maxRecDepth 100000 in
theorem kw2709 : Cond.instanceMethod ⟨"NativeWorksModel", "goes", "(I)V"⟩ ∈ rTs := List.mem_append_left _ (rBm56 (List.mem_of_getElem? (i := 21) rfl))
set_option maxRecDepth 100000 in
theorem kw2710 : Cond.selects "NativeWorksModel" ⟨"NativeWorksModel", "goes", "(I)V"⟩ ⟨"NativeWorksModel", "goes", "(I)V"⟩ ∈ rTs := List.mem_append_left _ (rBm56 (List.mem_of_getElem? (i := 22) rfl))
set_option maxRecDepth 100000 in
theorem kw2711 : Cond.methodLink "NativeWorksModel" 1517 ⟨"NativeWorksModel", "choose", "(I)V"⟩ ∈ rTs := List.mem_append_left _ (rBm56 (List.mem_of_getElem? (i := 23) rfl))
set_option maxRecDepth 100000 in
theorem kw2712 : Cond.instanceMethod ⟨"NativeWorksModel", "choose", "(I)V"⟩ ∈ rTs := List.mem_append_left _ (rBm56 (List.mem_of_getElem? (i := 24) rfl))
set_option maxRecDepth 100000 in
theorem kw2713 : Cond.selects "NativeWorksModel" ⟨"NativeWorksModel", "choose", "(I)V"⟩ ⟨"NativeWorksModel", "choose", "(I)V"⟩ ∈ rTs := List.mem_append_left _ (rBm56 (List.mem_of_getElem? (i := 25) rfl))
set_option maxRecDepth 100000 in
theorem kw2714 : Cond.methodLink "NativeWorksModel" 1520 ⟨"NativeWorksModel", "spread", "(II)V"⟩ ∈ rTs := List.mem_append_left _ (rBm56 (List.mem_of_getElem? (i := 26) rfl))
set_option maxRecDepth 100000 in
theorem kw2715 : Cond.instanceMethod ⟨"NativeWorksModel", "spread", "(II)V"⟩ ∈ rTs := List.mem_append_left _ (rBm56 (List.mem_of_getElem? (i := 27) rfl))
set_option maxRecDepth 100000 in
theorem kw2716 : Cond.selects "NativeWorksModel" ⟨"NativeWorksModel", "spread", "(II)V"⟩ ⟨"NativeWorksModel", "spread", "(II)V"⟩ ∈ rTs := List.mem_append_left _ (rBm56 (List.mem_of_getElem? (i := 28) rfl))
set_option maxRecDepth 100000 in
theorem kw2717 : Cond.methodLink "NativeWorksModel" 1523 ⟨"NativeWorksModel", "service", "()V"⟩ ∈ rTs := List.mem_append_left _ (rBm56 (List.mem_of_getElem? (i := 29) rfl))
set_option maxRecDepth 100000 in
theorem kw2718 : Cond.instanceMethod ⟨"NativeWorksModel", "service", "()V"⟩ ∈ rTs := List.mem_append_left _ (rBm56 (List.mem_of_getElem? (i := 30) rfl))
set_option maxRecDepth 100000 in
theorem kw2719 : Cond.selects "NativeWorksModel" ⟨"NativeWorksModel", "service", "()V"⟩ ⟨"NativeWorksModel", "service", "()V"⟩ ∈ rTs := List.mem_append_left _ (rBm56 (List.mem_of_getElem? (i := 31) rfl))
set_option maxRecDepth 100000 in
theorem kw2720 : Cond.methodLink "NativeWorksModel" 1526 ⟨"NativeWorksModel", "bits", "(II)V"⟩ ∈ rTs := List.mem_append_left _ (rBm56 (List.mem_of_getElem? (i := 32) rfl))
set_option maxRecDepth 100000 in
theorem kw2721 : Cond.instanceMethod ⟨"NativeWorksModel", "bits", "(II)V"⟩ ∈ rTs := List.mem_append_left _ (rBm56 (List.mem_of_getElem? (i := 33) rfl))
set_option maxRecDepth 100000 in
theorem kw2722 : Cond.selects "NativeWorksModel" ⟨"NativeWorksModel", "bits", "(II)V"⟩ ⟨"NativeWorksModel", "bits", "(II)V"⟩ ∈ rTs := List.mem_append_left _ (rBm56 (List.mem_of_getElem? (i := 34) rfl))
set_option maxRecDepth 100000 in
theorem kw2723 : Cond.methodLink "NativeWorksModel" 1529 ⟨"NativeWorksModel", "togethe\x72", "(II)V"⟩ ∈ rTs := List.mem_append_left _ (rBm56 (List.mem_of_getElem? (i := 35) rfl))
set_option maxRecDepth 100000 in
theorem kw2724 : Cond.instanceMethod ⟨"NativeWorksModel", "togethe\x72", "(II)V"⟩ ∈ rTs := List.mem_append_left _ (rBm56 (List.mem_of_getElem? (i := 36) rfl))
set_option maxRecDepth 100000 in
theorem kw2725 : Cond.selects "NativeWorksModel" ⟨"NativeWorksModel", "togethe\x72", "(II)V"⟩ ⟨"NativeWorksModel", "togethe\x72", "(II)V"⟩ ∈ rTs := List.mem_append_left _ (rBm56 (List.mem_of_getElem? (i := 37) rfl))
set_option maxRecDepth 100000 in
theorem kw2726 : Cond.methodLink "NativeWorksModel" 1532 ⟨"NativeWorksModel", "strings", "(II)V"⟩ ∈ rTs := List.mem_append_left _ (rBm56 (List.mem_of_getElem? (i := 38) rfl))
set_option maxRecDepth 100000 in
theorem kw2727 : Cond.instanceMethod ⟨"NativeWorksModel", "strings", "(II)V"⟩ ∈ rTs := List.mem_append_left _ (rBm56 (List.mem_of_getElem? (i := 39) rfl))
set_option maxRecDepth 100000 in
theorem kw2728 : Cond.selects "NativeWorksModel" ⟨"NativeWorksModel", "strings", "(II)V"⟩ ⟨"NativeWorksModel", "strings", "(II)V"⟩ ∈ rTs := List.mem_append_left _ (rBm56 (List.mem_of_getElem? (i := 40) rfl))
set_option maxRecDepth 100000 in
theorem kw2729 : Cond.code ⟨"NativeWorksModel", "placeTerms", "()Z"⟩ prog_14_method_90_code 2 (Option.some FieldType.boolean) ∈ rTs := List.mem_append_left _ (rBm56 (List.mem_of_getElem? (i := 41) rfl))
set_option maxRecDepth 100000 in
theorem kw2730 : Cond.fieldLink "NativeWorksModel" 989 "NativeWorksModel" "terms" "I" ∈ rTs := List.mem_append_left _ (rBm56 (List.mem_of_getElem? (i := 42) rfl))
set_option maxRecDepth 100000 in
theorem kw2731 : Cond.code ⟨"NativeWorksModel", "place", "()I"⟩ prog_14_method_137_code 5 (Option.some FieldType.int) ∈ rTs := List.mem_append_left _ (rBm56 (List.mem_of_getElem? (i := 43) rfl))
set_option maxRecDepth 100000 in
theorem kw2732 : Cond.code ⟨"NativeWorksModel", "place", "(II)I"⟩ prog_14_method_109_code 2 (Option.some FieldType.int) ∈ rTs := List.mem_append_left _ (rBm56 (List.mem_of_getElem? (i := 44) rfl))
set_option maxRecDepth 100000 in
theorem kw2733 : Cond.methodLink "NativeWorksModel" 1332 ⟨"NativeWorksModel", "setPlace", "(II)V"⟩ ∈ rTs := List.mem_append_left _ (rBm56 (List.mem_of_getElem? (i := 45) rfl))
set_option maxRecDepth 100000 in
theorem kw2734 : Cond.instanceMethod ⟨"NativeWorksModel", "setPlace", "(II)V"⟩ ∈ rTs := List.mem_append_left _ (rBm56 (List.mem_of_getElem? (i := 46) rfl))
set_option maxRecDepth 100000 in
theorem kw2735 : Cond.selects "NativeWorksModel" ⟨"NativeWorksModel", "setPlace", "(II)V"⟩ ⟨"NativeWorksModel", "setPlace", "(II)V"⟩ ∈ rTs := List.mem_append_left _ (rBm56 (List.mem_of_getElem? (i := 47) rfl))
set_option maxRecDepth 100000 in
theorem kw2736 : Cond.code ⟨"NativeWorksModel", "pop", "()J"⟩ prog_14_method_183_code 3 (Option.some FieldType.long) ∈ rTs := List.mem_append_left _ (rBm57 (List.mem_of_getElem? (i := 0) rfl))
set_option maxRecDepth 100000 in
theorem kw2737 : Cond.methodLink "NativeWorksModel" 1353 ⟨"NativeWorksModel", "wordAt", "(JI)J"⟩ ∈ rTs := List.mem_append_left _ (rBm57 (List.mem_of_getElem? (i := 1) rfl))
set_option maxRecDepth 100000 in
theorem kw2738 : Cond.instanceMethod ⟨"NativeWorksModel", "wordAt", "(JI)J"⟩ ∈ rTs := List.mem_append_left _ (rBm57 (List.mem_of_getElem? (i := 2) rfl))
set_option maxRecDepth 100000 in
theorem kw2739 : Cond.selects "NativeWorksModel" ⟨"NativeWorksModel", "wordAt", "(JI)J"⟩ ⟨"NativeWorksModel", "wordAt", "(JI)J"⟩ ∈ rTs := List.mem_append_left _ (rBm57 (List.mem_of_getElem? (i := 3) rfl))
set_option maxRecDepth 100000 in
theorem kw2740 : Cond.code ⟨"NativeWorksModel", "product", "(I)V"⟩ prog_14_method_180_code 9 (Option.none : Option FieldType) ∈ rTs := List.mem_append_left _ (rBm57 (List.mem_of_getElem? (i := 4) rfl))
set_option maxRecDepth 100000 in
theorem kw2741 : Cond.code ⟨"NativeWorksModel", "push", "(J)V"⟩ prog_14_method_182_code 3 (Option.none : Option FieldType) ∈ rTs := List.mem_append_left _ (rBm57 (List.mem_of_getElem? (i := 5) rfl))
set_option maxRecDepth 100000 in
theorem kw2742 : Cond.methodLink "NativeWorksModel" 1362 ⟨"NativeWorksModel", "store", "(JIJ)V"⟩ ∈ rTs := List.mem_append_left _ (rBm57 (List.mem_of_getElem? (i := 6) rfl))
set_option maxRecDepth 100000 in
theorem kw2743 : Cond.instanceMethod ⟨"NativeWorksModel", "store", "(JIJ)V"⟩ ∈ rTs := List.mem_append_left _ (rBm57 (List.mem_of_getElem? (i := 7) rfl))
set_option maxRecDepth 100000 in
theorem kw2744 : Cond.selects "NativeWorksModel" ⟨"NativeWorksModel", "store", "(JIJ)V"⟩ ⟨"NativeWorksModel", "store", "(JIJ)V"⟩ ∈ rTs := List.mem_append_left _ (rBm57 (List.mem_of_getElem? (i := 8) rfl))
set_option maxRecDepth 100000 in
theorem kw2745 : Cond.code ⟨"NativeWorksModel", "putBytes", "(JI)V"⟩ prog_14_method_112_code 5 (Option.none : Option FieldType) ∈ rTs := List.mem_append_left _ (rBm57 (List.mem_of_getElem? (i := 9) rfl))
set_option maxRecDepth 100000 in
theorem kw2746 : Cond.code ⟨"NativeWorksModel", "putText", "(I)I"⟩ prog_14_method_79_code 4 (Option.some FieldType.int) ∈ rTs := List.mem_append_left _ (rBm57 (List.mem_of_getElem? (i := 10) rfl))
set_option maxRecDepth 100000 in
theorem kw2747 : Cond.methodLink "NativeWorksModel" 723 ⟨"NativeWorksModel", "characte\x72", "(II)I"⟩ ∈ rTs := List.mem_append_left _ (rBm57 (List.mem_of_getElem? (i := 11) rfl))
set_option maxRecDepth 100000 in
theorem kw2748 : Cond.instanceMethod ⟨"NativeWorksModel", "characte\x72", "(II)I"⟩ ∈ rTs := List.mem_append_left _ (rBm57 (List.mem_of_getElem? (i := 12) rfl))
set_option maxRecDepth 100000 in
theorem kw2749 : Cond.selects "NativeWorksModel" ⟨"NativeWorksModel", "characte\x72", "(II)I"⟩ ⟨"NativeWorksModel", "characte\x72", "(II)I"⟩ ∈ rTs := List.mem_append_left _ (rBm57 (List.mem_of_getElem? (i := 13) rfl))
set_option maxRecDepth 100000 in
theorem kw2750 : Cond.code ⟨"NativeWorksModel", "put", "(IIJ)V"⟩ prog_14_method_165_code 5 (Option.none : Option FieldType) ∈ rTs := List.mem_append_left _ (rBm57 (List.mem_of_getElem? (i := 14) rfl))
set_option maxRecDepth 100000 in
theorem kw2751 : Cond.methodLink "NativeWorksModel" 1343 ⟨"NativeWorksModel", "registerAt", "(I)I"⟩ ∈ rTs := List.mem_append_left _ (rBm57 (List.mem_of_getElem? (i := 15) rfl))
set_option maxRecDepth 100000 in
theorem kw2752 : Cond.instanceMethod ⟨"NativeWorksModel", "registerAt", "(I)I"⟩ ∈ rTs := List.mem_append_left _ (rBm57 (List.mem_of_getElem? (i := 16) rfl))
set_option maxRecDepth 100000 in
theorem kw2753 : Cond.selects "NativeWorksModel" ⟨"NativeWorksModel", "registerAt", "(I)I"⟩ ⟨"NativeWorksModel", "registerAt", "(I)I"⟩ ∈ rTs := List.mem_append_left _ (rBm57 (List.mem_of_getElem? (i := 17) rfl))
set_option maxRecDepth 100000 in
theorem kw2754 : Cond.code ⟨"NativeWorksModel", "put", "(JI)V"⟩ prog_14_method_64_code 5 (Option.none : Option FieldType) ∈ rTs := List.mem_append_left _ (rBm57 (List.mem_of_getElem? (i := 18) rfl))
set_option maxRecDepth 100000 in
theorem kw2755 : Cond.code ⟨"NativeWorksModel", "readAddress", "(II)Z"⟩ prog_14_method_89_code 8 (Option.some FieldType.boolean) ∈ rTs := List.mem_append_left _ (rBm57 (List.mem_of_getElem? (i := 19) rfl))
set_option maxRecDepth 100000 in
theorem kw2756 : Cond.code ⟨"NativeWorksModel", "readLine", "()V"⟩ prog_14_method_66_code 5 (Option.none : Option FieldType) ∈ rTs := List.mem_append_left _ (rBm57 (List.mem_of_getElem? (i := 20) rfl))
set_option maxRecDepth 100000 in
theorem kw2757 : Cond.methodLink "NativeWorksModel" 854 ⟨"NativeWorksModel", "expand", "()V"⟩ ∈ rTs := List.mem_append_left _ (rBm57 (List.mem_of_getElem? (i := 21) rfl))
set_option maxRecDepth 100000 in
theorem kw2758 : Cond.instanceMethod ⟨"NativeWorksModel", "expand", "()V"⟩ ∈ rTs := List.mem_append_left _ (rBm57 (List.mem_of_getElem? (i := 22) rfl))
set_option maxRecDepth 100000 in
theorem kw2759 : Cond.selects "NativeWorksModel" ⟨"NativeWorksModel", "expand", "()V"⟩ ⟨"NativeWorksModel", "expand", "()V"⟩ ∈ rTs := List.mem_append_left _ (rBm57 (List.mem_of_getElem? (i := 23) rfl))
set_option maxRecDepth 100000 in
theorem kw2760 : Cond.methodLink "NativeWorksModel" 857 ⟨"NativeWorksModel", "readTokens", "()V"⟩ ∈ rTs := List.mem_append_left _ (rBm57 (List.mem_of_getElem? (i := 24) rfl))
set_option maxRecDepth 100000 in
theorem kw2761 : Cond.instanceMethod ⟨"NativeWorksModel", "readTokens", "()V"⟩ ∈ rTs := List.mem_append_left _ (rBm57 (List.mem_of_getElem? (i := 25) rfl))
set_option maxRecDepth 100000 in
theorem kw2762 : Cond.selects "NativeWorksModel" ⟨"NativeWorksModel", "readTokens", "()V"⟩ ⟨"NativeWorksModel", "readTokens", "()V"⟩ ∈ rTs := List.mem_append_left _ (rBm57 (List.mem_of_getElem? (i := 26) rfl))
set_option maxRecDepth 100000 in
theorem kw2763 : Cond.methodLink "NativeWorksModel" 867 ⟨"NativeWorksModel", "nesting", "(III)V"⟩ ∈ rTs := List.mem_append_left _ (rBm57 (List.mem_of_getElem? (i := 27) rfl))
set_option maxRecDepth 100000 in
theorem kw2764 : Cond.instanceMethod ⟨"NativeWorksModel", "nesting", "(III)V"⟩ ∈ rTs := List.mem_append_left _ (rBm57 (List.mem_of_getElem? (i := 28) rfl))
set_option maxRecDepth 100000 in
theorem kw2765 : Cond.selects "NativeWorksModel" ⟨"NativeWorksModel", "nesting", "(III)V"⟩ ⟨"NativeWorksModel", "nesting", "(III)V"⟩ ∈ rTs := List.mem_append_left _ (rBm57 (List.mem_of_getElem? (i := 29) rfl))
set_option maxRecDepth 100000 in
theorem kw2766 : Cond.methodLink "NativeWorksModel" 870 ⟨"NativeWorksModel", "labels", "(II)V"⟩ ∈ rTs := List.mem_append_left _ (rBm57 (List.mem_of_getElem? (i := 30) rfl))
set_option maxRecDepth 100000 in
theorem kw2767 : Cond.instanceMethod ⟨"NativeWorksModel", "labels", "(II)V"⟩ ∈ rTs := List.mem_append_left _ (rBm57 (List.mem_of_getElem? (i := 31) rfl))
set_option maxRecDepth 100000 in
theorem kw2768 : Cond.selects "NativeWorksModel" ⟨"NativeWorksModel", "labels", "(II)V"⟩ ⟨"NativeWorksModel", "labels", "(II)V"⟩ ∈ rTs := List.mem_append_left _ (rBm57 (List.mem_of_getElem? (i := 32) rfl))
set_option maxRecDepth 100000 in
theorem kw2769 : Cond.methodLink "NativeWorksModel" 874 ⟨"NativeWorksModel", "act", "(III)V"⟩ ∈ rTs := List.mem_append_left _ (rBm57 (List.mem_of_getElem? (i := 33) rfl))
set_option maxRecDepth 100000 in
theorem kw2770 : Cond.instanceMethod ⟨"NativeWorksModel", "act", "(III)V"⟩ ∈ rTs := List.mem_append_left _ (rBm57 (List.mem_of_getElem? (i := 34) rfl))
set_option maxRecDepth 100000 in
theorem kw2771 : Cond.selects "NativeWorksModel" ⟨"NativeWorksModel", "act", "(III)V"⟩ ⟨"NativeWorksModel", "act", "(III)V"⟩ ∈ rTs := List.mem_append_left _ (rBm57 (List.mem_of_getElem? (i := 35) rfl))
set_option maxRecDepth 100000 in
theorem kw2772 : Cond.methodLink "NativeWorksModel" 877 ⟨"NativeWorksModel", "room", "()V"⟩ ∈ rTs := List.mem_append_left _ (rBm57 (List.mem_of_getElem? (i := 36) rfl))
set_option maxRecDepth 100000 in
theorem kw2773 : Cond.instanceMethod ⟨"NativeWorksModel", "room", "()V"⟩ ∈ rTs := List.mem_append_left _ (rBm57 (List.mem_of_getElem? (i := 37) rfl))
set_option maxRecDepth 100000 in
theorem kw2774 : Cond.selects "NativeWorksModel" ⟨"NativeWorksModel", "room", "()V"⟩ ⟨"NativeWorksModel", "room", "()V"⟩ ∈ rTs := List.mem_append_left _ (rBm57 (List.mem_of_getElem? (i := 38) rfl))
set_option maxRecDepth 100000 in
theorem kw2775 : Cond.code ⟨"NativeWorksModel", "readOperands", "(I)Z"⟩ prog_14_method_88_code 6 (Option.some FieldType.boolean) ∈ rTs := List.mem_append_left _ (rBm57 (List.mem_of_getElem? (i := 39) rfl))
set_option maxRecDepth 100000 in
theorem kw2776 : Cond.code ⟨"NativeWorksModel", "readTokens", "()V"⟩ prog_14_method_37_code 3 (Option.none : Option FieldType) ∈ rTs := List.mem_append_left _ (rBm57 (List.mem_of_getElem? (i := 40) rfl))
set_option maxRecDepth 100000 in
theorem kw2777 : Cond.methodLink "NativeWorksModel" 730 ⟨"NativeWorksModel", "readToken", "(I)I"⟩ ∈ rTs := List.mem_append_left _ (rBm57 (List.mem_of_getElem? (i := 41) rfl))
set_option maxRecDepth 100000 in
theorem kw2778 : Cond.instanceMethod ⟨"NativeWorksModel", "readToken", "(I)I"⟩ ∈ rTs := List.mem_append_left _ (rBm57 (List.mem_of_getElem? (i := 42) rfl))
set_option maxRecDepth 100000 in
theorem kw2779 : Cond.selects "NativeWorksModel" ⟨"NativeWorksModel", "readToken", "(I)I"⟩ ⟨"NativeWorksModel", "readToken", "(I)I"⟩ ∈ rTs := List.mem_append_left _ (rBm57 (List.mem_of_getElem? (i := 43) rfl))
set_option maxRecDepth 100000 in
theorem kw2780 : Cond.code ⟨"NativeWorksModel", "readToken", "(I)I"⟩ prog_14_method_36_code 5 (Option.some FieldType.int) ∈ rTs := List.mem_append_left _ (rBm57 (List.mem_of_getElem? (i := 44) rfl))
set_option maxRecDepth 100000 in
theorem kw2781 : Cond.methodLink "NativeWorksModel" 720 ⟨"NativeWorksModel", "numberToken", "(I)I"⟩ ∈ rTs := List.mem_append_left _ (rBm57 (List.mem_of_getElem? (i := 45) rfl))
set_option maxRecDepth 100000 in
theorem kw2782 : Cond.instanceMethod ⟨"NativeWorksModel", "numberToken", "(I)I"⟩ ∈ rTs := List.mem_append_left _ (rBm57 (List.mem_of_getElem? (i := 46) rfl))
set_option maxRecDepth 100000 in
theorem kw2783 : Cond.selects "NativeWorksModel" ⟨"NativeWorksModel", "numberToken", "(I)I"⟩ ⟨"NativeWorksModel", "numberToken", "(I)I"⟩ ∈ rTs := List.mem_append_left _ (rBm57 (List.mem_of_getElem? (i := 47) rfl))
set_option maxRecDepth 100000 in
theorem kw2784 : Cond.constantLong "NativeWorksModel" 728 (lN 257) ∈ rTs := List.mem_append_left _ (rBm58 (List.mem_of_getElem? (i := 0) (by decide +kernel)))
set_option maxRecDepth 100000 in
theorem kw2785 : Cond.code ⟨"NativeWorksModel", "reduce", "()V"⟩ prog_14_method_57_code 10 (Option.none : Option FieldType) ∈ rTs := List.mem_append_left _ (rBm58 (List.mem_of_getElem? (i := 1) rfl))
set_option maxRecDepth 100000 in
theorem kw2786 : Cond.code ⟨"NativeWorksModel", "registerAt", "(I)I"⟩ prog_14_method_162_code 2 (Option.some FieldType.int) ∈ rTs := List.mem_append_left _ (rBm58 (List.mem_of_getElem? (i := 2) rfl))
set_option maxRecDepth 100000 in
theorem kw2787 : Cond.code ⟨"NativeWorksModel", "registerOf", "(J)I"⟩ prog_14_method_20_code 4 (Option.some FieldType.int) ∈ rTs := List.mem_append_left _ (rBm58 (List.mem_of_getElem? (i := 3) rfl))
set_option maxRecDepth 100000 in
theorem kw2788 : Cond.code ⟨"NativeWorksModel", "resolved", "(II)J"⟩ prog_14_method_139_code 6 (Option.some FieldType.long) ∈ rTs := List.mem_append_left _ (rBm58 (List.mem_of_getElem? (i := 4) rfl))
set_option maxRecDepth 100000 in
theorem kw2789 : Cond.code ⟨"NativeWorksModel", "room", "()V"⟩ prog_14_method_62_code 1 (Option.none : Option FieldType) ∈ rTs := List.mem_append_left _ (rBm58 (List.mem_of_getElem? (i := 5) rfl))
set_option maxRecDepth 100000 in
theorem kw2790 : Cond.methodLink "NativeWorksModel" 1563 ⟨"NativeWorksModel", "step", "()Z"⟩ ∈ rTs := List.mem_append_left _ (rBm58 (List.mem_of_getElem? (i := 6) rfl))
set_option maxRecDepth 100000 in
theorem kw2791 : Cond.instanceMethod ⟨"NativeWorksModel", "step", "()Z"⟩ ∈ rTs := List.mem_append_left _ (rBm58 (List.mem_of_getElem? (i := 7) rfl))
set_option maxRecDepth 100000 in
theorem kw2792 : Cond.selects "NativeWorksModel" ⟨"NativeWorksModel", "step", "()Z"⟩ ⟨"NativeWorksModel", "step", "()Z"⟩ ∈ rTs := List.mem_append_left _ (rBm58 (List.mem_of_getElem? (i := 8) rfl))
set_option maxRecDepth 100000 in
theorem kw2793 : Cond.code ⟨"NativeWorksModel", "service", "()V"⟩ prog_14_method_190_code 12 (Option.none : Option FieldType) ∈ rTs := List.mem_append_left _ (rBm58 (List.mem_of_getElem? (i := 9) rfl))
set_option maxRecDepth 100000 in
theorem kw2794 : Cond.methodLink "NativeWorksModel" 1475 ⟨"NativeWorksModel", "may", "(JJZ)Z"⟩ ∈ rTs := List.mem_append_left _ (rBm58 (List.mem_of_getElem? (i := 10) rfl))
set_option maxRecDepth 100000 in
theorem kw2795 : Cond.instanceMethod ⟨"NativeWorksModel", "may", "(JJZ)Z"⟩ ∈ rTs := List.mem_append_left _ (rBm58 (List.mem_of_getElem? (i := 11) rfl))
set_option maxRecDepth 100000 in
theorem kw2796 : Cond.selects "NativeWorksModel" ⟨"NativeWorksModel", "may", "(JJZ)Z"⟩ ⟨"NativeWorksModel", "may", "(JJZ)Z"⟩ ∈ rTs := List.mem_append_left _ (rBm58 (List.mem_of_getElem? (i := 12) rfl))
set_option maxRecDepth 100000 in
theorem kw2797 : Cond.constantLong "NativeWorksModel" 1479 (lN 18446744073709551602) ∈ rTs := List.mem_append_left _ (rBm58 (List.mem_of_getElem? (i := 13) (by decide +kernel)))
set_option maxRecDepth 100000 in
theorem kw2798 : Cond.constantLong "NativeWorksModel" 1484 (lN 18446744073709551588) ∈ rTs := List.mem_append_left _ (rBm58 (List.mem_of_getElem? (i := 14) (by decide +kernel)))
set_option maxRecDepth 100000 in
theorem kw2799 : Cond.constantLong "NativeWorksModel" 1486 (lN 12) ∈ rTs := List.mem_append_left _ (rBm58 (List.mem_of_getElem? (i := 15) (by decide +kernel)))
set_option maxRecDepth 100000 in
theorem kw2800 : Cond.constantLong "NativeWorksModel" 1488 (lN 60) ∈ rTs := List.mem_append_left _ (rBm58 (List.mem_of_getElem? (i := 16) (by decide +kernel)))
set_option maxRecDepth 100000 in
theorem kw2801 : Cond.constantLong "NativeWorksModel" 1490 (lN 18446744073709551578) ∈ rTs := List.mem_append_left _ (rBm58 (List.mem_of_getElem? (i := 17) (by decide +kernel)))
set_option maxRecDepth 100000 in
theorem kw2802 : Cond.code ⟨"NativeWorksModel", "setFlags", "(J)V"⟩ prog_14_method_172_code 3 (Option.none : Option FieldType) ∈ rTs := List.mem_append_left _ (rBm58 (List.mem_of_getElem? (i := 18) rfl))
set_option maxRecDepth 100000 in
theorem kw2803 : Cond.code ⟨"NativeWorksModel", "setPlace", "(II)V"⟩ prog_14_method_154_code 3 (Option.none : Option FieldType) ∈ rTs := List.mem_append_left _ (rBm58 (List.mem_of_getElem? (i := 19) rfl))
set_option maxRecDepth 100000 in
theorem kw2804 : Cond.code ⟨"NativeWorksModel", "setRegiste\x72", "(IIJ)V"⟩ prog_14_method_164_code 5 (Option.none : Option FieldType) ∈ rTs := List.mem_append_left _ (rBm58 (List.mem_of_getElem? (i := 20) rfl))
set_option maxRecDepth 100000 in
theorem kw2805 : Cond.constantLong "NativeWorksModel" 1356 (lN 18446744073709551360) ∈ rTs := List.mem_append_left _ (rBm58 (List.mem_of_getElem? (i := 21) (by decide +kernel)))
set_option maxRecDepth 100000 in
theorem kw2806 : Cond.code ⟨"NativeWorksModel", "shift", "(II)V"⟩ prog_14_method_181_code 15 (Option.none : Option FieldType) ∈ rTs := List.mem_append_left _ (rBm58 (List.mem_of_getElem? (i := 22) rfl))
set_option maxRecDepth 100000 in
theorem kw2807 : Cond.methodLink "NativeWorksModel" 1140 ⟨"NativeWorksModel", "isNea\x72", "(I)Z"⟩ ∈ rTs := List.mem_append_left _ (rBm58 (List.mem_of_getElem? (i := 23) rfl))
set_option maxRecDepth 100000 in
theorem kw2808 : Cond.instanceMethod ⟨"NativeWorksModel", "isNea\x72", "(I)Z"⟩ ∈ rTs := List.mem_append_left _ (rBm58 (List.mem_of_getElem? (i := 24) rfl))
set_option maxRecDepth 100000 in
theorem kw2809 : Cond.selects "NativeWorksModel" ⟨"NativeWorksModel", "isNea\x72", "(I)Z"⟩ ⟨"NativeWorksModel", "isNea\x72", "(I)Z"⟩ ∈ rTs := List.mem_append_left _ (rBm58 (List.mem_of_getElem? (i := 25) rfl))
set_option maxRecDepth 100000 in
theorem kw2810 : Cond.constantLong "NativeWorksModel" 1146 (lN 18446744073709551488) ∈ rTs := List.mem_append_left _ (rBm58 (List.mem_of_getElem? (i := 26) (by decide +kernel)))
set_option maxRecDepth 100000 in
theorem kw2811 : Cond.constantLong "NativeWorksModel" 1148 (lN 127) ∈ rTs := List.mem_append_left _ (rBm58 (List.mem_of_getElem? (i := 27) (by decide +kernel)))
set_option maxRecDepth 100000 in
theorem kw2812 : Cond.code ⟨"NativeWorksModel", "single", "(II)V"⟩ prog_14_method_175_code 8 (Option.none : Option FieldType) ∈ rTs := List.mem_append_left _ (rBm58 (List.mem_of_getElem? (i := 28) rfl))
set_option maxRecDepth 100000 in
theorem kw2813 : Cond.code ⟨"NativeWorksModel", "split", "(I)V"⟩ prog_14_method_69_code 11 (Option.none : Option FieldType) ∈ rTs := List.mem_append_left _ (rBm58 (List.mem_of_getElem? (i := 29) rfl))
set_option maxRecDepth 100000 in
theorem kw2814 : Cond.code ⟨"NativeWorksModel", "spread", "(II)V"⟩ prog_14_method_185_code 5 (Option.none : Option FieldType) ∈ rTs := List.mem_append_left _ (rBm58 (List.mem_of_getElem? (i := 30) rfl))
set_option maxRecDepth 100000 in
theorem kw2815 : Cond.code ⟨"NativeWorksModel", "standsFo\x72", "(I)I"⟩ prog_14_method_131_code 3 (Option.some FieldType.int) ∈ rTs := List.mem_append_left _ (rBm58 (List.mem_of_getElem? (i := 31) rfl))
set_option maxRecDepth 100000 in
theorem kw2816 : Cond.methodLink "NativeWorksModel" 745 ⟨"NativeWorksModel", "isCalled", "(I)Z"⟩ ∈ rTs := List.mem_append_left _ (rBm58 (List.mem_of_getElem? (i := 32) rfl))
set_option maxRecDepth 100000 in
theorem kw2817 : Cond.instanceMethod ⟨"NativeWorksModel", "isCalled", "(I)Z"⟩ ∈ rTs := List.mem_append_left _ (rBm58 (List.mem_of_getElem? (i := 33) rfl))
set_option maxRecDepth 100000 in
theorem kw2818 : Cond.selects "NativeWorksModel" ⟨"NativeWorksModel", "isCalled", "(I)Z"⟩ ⟨"NativeWorksModel", "isCalled", "(I)Z"⟩ ∈ rTs := List.mem_append_left _ (rBm58 (List.mem_of_getElem? (i := 34) rfl))
set_option maxRecDepth 100000 in
theorem kw2819 : Cond.code ⟨"NativeWorksModel", "statement", "(II)I"⟩ prog_14_method_63_code 4 (Option.some FieldType.int) ∈ rTs := List.mem_append_left _ (rBm58 (List.mem_of_getElem? (i := 35) rfl))
set_option maxRecDepth 100000 in
theorem kw2820 : Cond.code ⟨"NativeWorksModel", "step", "()Z"⟩ prog_14_method_193_code 6 (Option.some FieldType.boolean) ∈ rTs := List.mem_append_left _ (rBm58 (List.mem_of_getElem? (i := 36) rfl))
set_option maxRecDepth 100000 in
theorem kw2821 : Cond.fieldLink "NativeWorksModel" 1318 "NativeWorksModel" "haltValue" "J" ∈ rTs := List.mem_append_left _ (rBm58 (List.mem_of_getElem? (i := 37) rfl))
set_option maxRecDepth 100000 in
theorem kw2822 : Cond.methodLink "NativeWorksModel" 1464 ⟨"NativeWorksModel", "bytesOf", "(J)I"⟩ ∈ rTs := List.mem_append_left _ (rBm58 (List.mem_of_getElem? (i := 38) rfl))
set_option maxRecDepth 100000 in
theorem kw2823 : Cond.static ⟨"NativeWorksModel", "bytesOf", "(J)I"⟩ ∈ rTs := List.mem_append_left _ (rBm58 (List.mem_of_getElem? (i := 39) rfl))
set_option maxRecDepth 100000 in
theorem kw2824 : Cond.methodLink "NativeWorksModel" 1541 ⟨"NativeWorksModel", "perform", "()V"⟩ ∈ rTs := List.mem_append_left _ (rBm58 (List.mem_of_getElem? (i := 40) rfl))
set_option maxRecDepth 100000 in
theorem kw2825 : Cond.instanceMethod ⟨"NativeWorksModel", "perform", "()V"⟩ ∈ rTs := List.mem_append_left _ (rBm58 (List.mem_of_getElem? (i := 41) rfl))
set_option maxRecDepth 100000 in
theorem kw2826 : Cond.selects "NativeWorksModel" ⟨"NativeWorksModel", "perform", "()V"⟩ ⟨"NativeWorksModel", "perform", "()V"⟩ ∈ rTs := List.mem_append_left _ (rBm58 (List.mem_of_getElem? (i := 42) rfl))
set_option maxRecDepth 100000 in
theorem kw2827 : Cond.code ⟨"NativeWorksModel", "stopWith", "(IJ)V"⟩ prog_14_method_155_code 4 (Option.none : Option FieldType) ∈ rTs := List.mem_append_left _ (rBm58 (List.mem_of_getElem? (i := 43) rfl))
set_option maxRecDepth 100000 in
theorem kw2828 : Cond.code ⟨"NativeWorksModel", "store", "(JIJ)V"⟩ prog_14_method_157_code 7 (Option.none : Option FieldType) ∈ rTs := List.mem_append_left _ (rBm58 (List.mem_of_getElem? (i := 44) rfl))
set_option maxRecDepth 100000 in
theorem kw2829 : Cond.code ⟨"NativeWorksModel", "strings", "(II)V"⟩ prog_14_method_188_code 7 (Option.none : Option FieldType) ∈ rTs := List.mem_append_left _ (rBm58 (List.mem_of_getElem? (i := 45) rfl))
set_option maxRecDepth 100000 in
theorem kw2830 : Cond.code ⟨"NativeWorksModel", "structure", "(II)V"⟩ prog_14_method_83_code 9 (Option.none : Option FieldType) ∈ rTs := List.mem_append_left _ (rBm58 (List.mem_of_getElem? (i := 46) rfl))
set_option maxRecDepth 100000 in
theorem kw2831 : Cond.methodLink "NativeWorksModel" 961 ⟨"NativeWorksModel", "macro", "(I)V"⟩ ∈ rTs := List.mem_append_left _ (rBm58 (List.mem_of_getElem? (i := 47) rfl))
set_option maxRecDepth 100000 in
theorem kw2832 : Cond.instanceMethod ⟨"NativeWorksModel", "macro", "(I)V"⟩ ∈ rTs := List.mem_append_left _ (rBm59 (List.mem_of_getElem? (i := 0) rfl))
set_option maxRecDepth 100000 in
theorem kw2833 : Cond.selects "NativeWorksModel" ⟨"NativeWorksModel", "macro", "(I)V"⟩ ⟨"NativeWorksModel", "macro", "(I)V"⟩ ∈ rTs := List.mem_append_left _ (rBm59 (List.mem_of_getElem? (i := 1) rfl))
set_option maxRecDepth 100000 in
theorem kw2834 : Cond.code ⟨"NativeWorksModel", "subtract", "(JJZI)J"⟩ prog_14_method_169_code 9 (Option.some FieldType.long) ∈ rTs := List.mem_append_left _ (rBm59 (List.mem_of_getElem? (i := 2) rfl))
set_option maxRecDepth 100000 in
theorem kw2835 : Cond.code ⟨"NativeWorksModel", "suits", "(II)Z"⟩ prog_14_method_110_code 4 (Option.some FieldType.boolean) ∈ rTs := List.mem_append_left _ (rBm59 (List.mem_of_getElem? (i := 3) rfl))
set_option maxRecDepth 100000 in
theorem kw2836 : Cond.methodLink "NativeWorksModel" 1113 ⟨"NativeWorksModel", "place", "(II)I"⟩ ∈ rTs := List.mem_append_left _ (rBm59 (List.mem_of_getElem? (i := 4) rfl))
set_option maxRecDepth 100000 in
theorem kw2837 : Cond.static ⟨"NativeWorksModel", "place", "(II)I"⟩ ∈ rTs := List.mem_append_left _ (rBm59 (List.mem_of_getElem? (i := 5) rfl))
set_option maxRecDepth 100000 in
theorem kw2838 : Cond.methodLink "NativeWorksModel" 1116 ⟨"NativeWorksModel", "holds", "(I)Z"⟩ ∈ rTs := List.mem_append_left _ (rBm59 (List.mem_of_getElem? (i := 6) rfl))
set_option maxRecDepth 100000 in
theorem kw2839 : Cond.instanceMethod ⟨"NativeWorksModel", "holds", "(I)Z"⟩ ∈ rTs := List.mem_append_left _ (rBm59 (List.mem_of_getElem? (i := 7) rfl))
set_option maxRecDepth 100000 in
theorem kw2840 : Cond.selects "NativeWorksModel" ⟨"NativeWorksModel", "holds", "(I)Z"⟩ ⟨"NativeWorksModel", "holds", "(I)Z"⟩ ∈ rTs := List.mem_append_left _ (rBm59 (List.mem_of_getElem? (i := 8) rfl))
set_option maxRecDepth 100000 in
theorem kw2841 : Cond.code ⟨"NativeWorksModel", "symbolFo\x72", "()I"⟩ prog_14_method_44_code 5 (Option.some FieldType.int) ∈ rTs := List.mem_append_left _ (rBm59 (List.mem_of_getElem? (i := 9) rfl))
set_option maxRecDepth 100000 in
theorem kw2842 : Cond.constantLong "NativeWorksModel" 758 (lN 31) ∈ rTs := List.mem_append_left _ (rBm59 (List.mem_of_getElem? (i := 10) (by decide +kernel)))
set_option maxRecDepth 100000 in
theorem kw2843 : Cond.code ⟨"NativeWorksModel", "symbolNamed", "()I"⟩ prog_14_method_43_code 2 (Option.some FieldType.int) ∈ rTs := List.mem_append_left _ (rBm59 (List.mem_of_getElem? (i := 11) rfl))
set_option maxRecDepth 100000 in
theorem kw2844 : Cond.code ⟨"NativeWorksModel", "takeName", "(I)V"⟩ prog_14_method_41_code 4 (Option.none : Option FieldType) ∈ rTs := List.mem_append_left _ (rBm59 (List.mem_of_getElem? (i := 12) rfl))
set_option maxRecDepth 100000 in
theorem kw2845 : Cond.code ⟨"NativeWorksModel", "takePlain", "(I)V"⟩ prog_14_method_47_code 3 (Option.none : Option FieldType) ∈ rTs := List.mem_append_left _ (rBm59 (List.mem_of_getElem? (i := 13) rfl))
set_option maxRecDepth 100000 in
theorem kw2846 : Cond.methodLink "NativeWorksModel" 1201 ⟨"NativeWorksModel", "isWanted", "(I)Z"⟩ ∈ rTs := List.mem_append_left _ (rBm59 (List.mem_of_getElem? (i := 14) rfl))
set_option maxRecDepth 100000 in
theorem kw2847 : Cond.instanceMethod ⟨"NativeWorksModel", "isWanted", "(I)Z"⟩ ∈ rTs := List.mem_append_left _ (rBm59 (List.mem_of_getElem? (i := 15) rfl))
set_option maxRecDepth 100000 in
theorem kw2848 : Cond.selects "NativeWorksModel" ⟨"NativeWorksModel", "isWanted", "(I)Z"⟩ ⟨"NativeWorksModel", "isWanted", "(I)Z"⟩ ∈ rTs := List.mem_append_left _ (rBm59 (List.mem_of_getElem? (i := 16) rfl))
set_option maxRecDepth 100000 in
theorem kw2849 : Cond.code ⟨"NativeWorksModel", "take", "(II)J"⟩ prog_14_method_163_code 4 (Option.some FieldType.long) ∈ rTs := List.mem_append_left _ (rBm59 (List.mem_of_getElem? (i := 17) rfl))
set_option maxRecDepth 100000 in
theorem kw2850 : Cond.code ⟨"NativeWorksModel", "textLength", "(I)I"⟩ prog_14_method_78_code 4 (Option.some FieldType.int) ∈ rTs := List.mem_append_left _ (rBm59 (List.mem_of_getElem? (i := 18) rfl))
set_option maxRecDepth 100000 in
theorem kw2851 : Cond.code ⟨"NativeWorksModel", "togethe\x72", "(II)V"⟩ prog_14_method_187_code 9 (Option.none : Option FieldType) ∈ rTs := List.mem_append_left _ (rBm59 (List.mem_of_getElem? (i := 19) rfl))
set_option maxRecDepth 100000 in
theorem kw2852 : Cond.code ⟨"NativeWorksModel", "token", "(IIIJ)V"⟩ prog_14_method_33_code 6 (Option.none : Option FieldType) ∈ rTs := List.mem_append_left _ (rBm59 (List.mem_of_getElem? (i := 20) rfl))
set_option maxRecDepth 100000 in
theorem kw2853 : Cond.code ⟨"NativeWorksModel", "tries", "(I)Z"⟩ prog_14_method_114_code 14 (Option.some FieldType.boolean) ∈ rTs := List.mem_append_left _ (rBm59 (List.mem_of_getElem? (i := 21) rfl))
set_option maxRecDepth 100000 in
theorem kw2854 : Cond.methodLink "NativeWorksModel" 1125 ⟨"NativeWorksModel", "allows", "(II)Z"⟩ ∈ rTs := List.mem_append_left _ (rBm59 (List.mem_of_getElem? (i := 22) rfl))
set_option maxRecDepth 100000 in
theorem kw2855 : Cond.static ⟨"NativeWorksModel", "allows", "(II)Z"⟩ ∈ rTs := List.mem_append_left _ (rBm59 (List.mem_of_getElem? (i := 23) rfl))
set_option maxRecDepth 100000 in
theorem kw2856 : Cond.methodLink "NativeWorksModel" 1128 ⟨"NativeWorksModel", "suits", "(II)Z"⟩ ∈ rTs := List.mem_append_left _ (rBm59 (List.mem_of_getElem? (i := 24) rfl))
set_option maxRecDepth 100000 in
theorem kw2857 : Cond.instanceMethod ⟨"NativeWorksModel", "suits", "(II)Z"⟩ ∈ rTs := List.mem_append_left _ (rBm59 (List.mem_of_getElem? (i := 25) rfl))
set_option maxRecDepth 100000 in
theorem kw2858 : Cond.selects "NativeWorksModel" ⟨"NativeWorksModel", "suits", "(II)Z"⟩ ⟨"NativeWorksModel", "suits", "(II)Z"⟩ ∈ rTs := List.mem_append_left _ (rBm59 (List.mem_of_getElem? (i := 26) rfl))
set_option maxRecDepth 100000 in
theorem kw2859 : Cond.methodLink "NativeWorksModel" 1131 ⟨"NativeWorksModel", "hasForm", "(I)Z"⟩ ∈ rTs := List.mem_append_left _ (rBm59 (List.mem_of_getElem? (i := 27) rfl))
set_option maxRecDepth 100000 in
theorem kw2860 : Cond.static ⟨"NativeWorksModel", "hasForm", "(I)Z"⟩ ∈ rTs := List.mem_append_left _ (rBm59 (List.mem_of_getElem? (i := 28) rfl))
set_option maxRecDepth 100000 in
theorem kw2861 : Cond.methodLink "NativeWorksModel" 1134 ⟨"NativeWorksModel", "memoryOf", "(I)V"⟩ ∈ rTs := List.mem_append_left _ (rBm59 (List.mem_of_getElem? (i := 29) rfl))
set_option maxRecDepth 100000 in
theorem kw2862 : Cond.instanceMethod ⟨"NativeWorksModel", "memoryOf", "(I)V"⟩ ∈ rTs := List.mem_append_left _ (rBm59 (List.mem_of_getElem? (i := 30) rfl))
set_option maxRecDepth 100000 in
theorem kw2863 : Cond.selects "NativeWorksModel" ⟨"NativeWorksModel", "memoryOf", "(I)V"⟩ ⟨"NativeWorksModel", "memoryOf", "(I)V"⟩ ∈ rTs := List.mem_append_left _ (rBm59 (List.mem_of_getElem? (i := 31) rfl))
set_option maxRecDepth 100000 in
theorem kw2864 : Cond.methodLink "NativeWorksModel" 1168 ⟨"NativeWorksModel", "readLine", "()V"⟩ ∈ rTs := List.mem_append_left _ (rBm59 (List.mem_of_getElem? (i := 32) rfl))
set_option maxRecDepth 100000 in
theorem kw2865 : Cond.instanceMethod ⟨"NativeWorksModel", "readLine", "()V"⟩ ∈ rTs := List.mem_append_left _ (rBm59 (List.mem_of_getElem? (i := 33) rfl))
set_option maxRecDepth 100000 in
theorem kw2866 : Cond.selects "NativeWorksModel" ⟨"NativeWorksModel", "readLine", "()V"⟩ ⟨"NativeWorksModel", "readLine", "()V"⟩ ∈ rTs := List.mem_append_left _ (rBm59 (List.mem_of_getElem? (i := 34) rfl))
set_option maxRecDepth 100000 in
theorem kw2867 : Cond.code ⟨"NativeWorksModel", "valueOf", "(JII)V"⟩ prog_14_method_56_code 5 (Option.none : Option FieldType) ∈ rTs := List.mem_append_left _ (rBm59 (List.mem_of_getElem? (i := 35) rfl))
set_option maxRecDepth 100000 in
theorem kw2868 : Cond.code ⟨"NativeWorksModel", "waitFo\x72", "(IIIIIIJ)V"⟩ prog_14_method_65_code 10 (Option.none : Option FieldType) ∈ rTs := List.mem_append_left _ (rBm59 (List.mem_of_getElem? (i := 36) rfl))
set_option maxRecDepth 100000 in
theorem kw2869 : Cond.code ⟨"NativeWorksModel", "waitUnit", "(I)I"⟩ prog_14_method_135_code 3 (Option.some FieldType.int) ∈ rTs := List.mem_append_left _ (rBm59 (List.mem_of_getElem? (i := 37) rfl))
set_option maxRecDepth 100000 in
theorem kw2870 : Cond.code ⟨"NativeWorksModel", "wordAt", "(JI)J"⟩ prog_14_method_156_code 8 (Option.some FieldType.long) ∈ rTs := List.mem_append_left _ (rBm59 (List.mem_of_getElem? (i := 38) rfl))
set_option maxRecDepth 100000 in
theorem kw2871 : Cond.code ⟨"NativeWorksModel", "wordOf", "(J)I"⟩ prog_14_method_19_code 4 (Option.some FieldType.int) ∈ rTs := List.mem_append_left _ (rBm59 (List.mem_of_getElem? (i := 39) rfl))
set_option maxRecDepth 100000 in
theorem kw2872 : Cond.code ⟨"NativeWorksModel", "zsp", "(JI)V"⟩ prog_14_method_167_code 4 (Option.none : Option FieldType) ∈ rTs := List.mem_append_left _ (rBm59 (List.mem_of_getElem? (i := 40) rfl))
set_option maxRecDepth 100000 in
theorem kw2873 : Cond.methodLink "NativeWorksModel" 1375 ⟨"java/lang/Long", "bitCount", "(J)I"⟩ ∈ rTs := List.mem_append_left _ (rBm59 (List.mem_of_getElem? (i := 41) rfl))
set_option maxRecDepth 100000 in
theorem kw2874 : Cond.fieldLink "NativeWorks" 114 "NativeWorks$Linke\x72" "length" "I" ∈ rTs := List.mem_append_left _ (rBm59 (List.mem_of_getElem? (i := 42) rfl))
set_option maxRecDepth 100000 in
theorem kw2875 : Cond.methodLink "NativeWorks" 143 ⟨"NativeWorks$Machine", "boot", "(LNativeWorks$Linker;)V"⟩ ∈ rTs := List.mem_append_left _ (rBm59 (List.mem_of_getElem? (i := 43) rfl))
set_option maxRecDepth 100000 in
theorem kw2876 : Cond.instanceMethod ⟨"NativeWorks$Machine", "boot", "(LNativeWorks$Linker;)V"⟩ ∈ rTs := List.mem_append_left _ (rBm59 (List.mem_of_getElem? (i := 44) rfl))
set_option maxRecDepth 100000 in
theorem kw2877 : Cond.selects "NativeWorks$Machine" ⟨"NativeWorks$Machine", "boot", "(LNativeWorks$Linker;)V"⟩ ⟨"NativeWorks$Machine", "boot", "(LNativeWorks$Linker;)V"⟩ ∈ rTs := List.mem_append_left _ (rBm59 (List.mem_of_getElem? (i := 45) rfl))
set_option maxRecDepth 100000 in
theorem kw2878 : Cond.fieldLink "NativeWorks" 147 "NativeWorks$Linke\x72" "start" "I" ∈ rTs := List.mem_append_left _ (rBm59 (List.mem_of_getElem? (i := 46) rfl))
set_option maxRecDepth 100000 in
theorem kw2879 : Cond.fieldLink "NativeWorks" 95 "NativeWorks$Units" "rows" "[[I" ∈ rTs := List.mem_append_left _ (rBm59 (List.mem_of_getElem? (i := 47) rfl))
set_option maxRecDepth 100000 in
theorem kw2880 : Cond.fieldLink "NativeWorks" 99 "NativeWorks$Units" "bytes" "[B" ∈ rTs := List.mem_append_left _ (rBm60 (List.mem_of_getElem? (i := 0) rfl))
set_option maxRecDepth 100000 in
theorem kw2881 : Cond.fieldLink "NativeWorks" 215 "NativeWorks$Machine" "output" "[B" ∈ rTs := List.mem_append_left _ (rBm60 (List.mem_of_getElem? (i := 1) rfl))
set_option maxRecDepth 100000 in
theorem kw2882 : Cond.methodLink "NativeWorks" 197 ⟨"NativeWorks$Memory", "numbe\x72", "(JI)J"⟩ ∈ rTs := List.mem_append_left _ (rBm60 (List.mem_of_getElem? (i := 2) rfl))
set_option maxRecDepth 100000 in
theorem kw2883 : Cond.methodLink "NativeWorks" 201 ⟨"NativeWorks$Memory", "change", "(JIJ)V"⟩ ∈ rTs := List.mem_append_left _ (rBm60 (List.mem_of_getElem? (i := 3) rfl))
set_option maxRecDepth 100000 in
theorem kw2884 : Cond.methodLink "NativeWorks" 170 ⟨"NativeWorks$Machine", "go", "(I)I"⟩ ∈ rTs := List.mem_append_left _ (rBm60 (List.mem_of_getElem? (i := 4) rfl))
set_option maxRecDepth 100000 in
theorem kw2885 : Cond.instanceMethod ⟨"NativeWorks$Machine", "go", "(I)I"⟩ ∈ rTs := List.mem_append_left _ (rBm60 (List.mem_of_getElem? (i := 5) rfl))
set_option maxRecDepth 100000 in
theorem kw2886 : Cond.selects "NativeWorks$Machine" ⟨"NativeWorks$Machine", "go", "(I)I"⟩ ⟨"NativeWorks$Machine", "go", "(I)I"⟩ ∈ rTs := List.mem_append_left _ (rBm60 (List.mem_of_getElem? (i := 6) rfl))
set_option maxRecDepth 100000 in
theorem kw2887 : Cond.fieldLink "NativeWorks" 133 "NativeWorks$Linke\x72" "addresses" "[J" ∈ rTs := List.mem_append_left _ (rBm60 (List.mem_of_getElem? (i := 7) rfl))
set_option maxRecDepth 100000 in
theorem kw2888 : Cond.fieldLink "NativeWorks" 85 "NativeWorks$Assemble\x72" "faultLine" "I" ∈ rTs := List.mem_append_left _ (rBm60 (List.mem_of_getElem? (i := 8) rfl))
set_option maxRecDepth 100000 in
theorem kw2889 : Cond.code ⟨"java/lang/Intege\x72", "numberOfLeadingZeros", "(I)I"⟩ prog_25_method_47_code 2 (Option.some FieldType.int) ∈ rTs := List.mem_append_left _ (rBm60 (List.mem_of_getElem? (i := 9) rfl))
set_option maxRecDepth 100000 in
theorem kw2890 : Cond.constant "java/lang/Intege\x72" 264 (nI 65536) ∈ rTs := List.mem_append_left _ (rBm60 (List.mem_of_getElem? (i := 10) (by decide +kernel)))
set_option maxRecDepth 100000 in
theorem kw2891 : Cond.code ⟨"java/lang/Intege\x72", "numberOfTrailingZeros", "(I)I"⟩ prog_25_method_48_code 2 (Option.some FieldType.int) ∈ rTs := List.mem_append_left _ (rBm60 (List.mem_of_getElem? (i := 11) rfl))
set_option maxRecDepth 100000 in
theorem kw2892 : Cond.constant "java/lang/Intege\x72" 274 (nI 65280) ∈ rTs := List.mem_append_left _ (rBm60 (List.mem_of_getElem? (i := 12) (by decide +kernel)))
set_option maxRecDepth 100000 in
theorem kw2893 : Cond.constantLong "java/lang/Long" 314 (lN 6148914691236517205) ∈ rTs := List.mem_append_left _ (rBm60 (List.mem_of_getElem? (i := 13) (by decide +kernel)))
set_option maxRecDepth 100000 in
theorem kw2894 : Cond.constantLong "java/lang/Long" 316 (lN 3689348814741910323) ∈ rTs := List.mem_append_left _ (rBm60 (List.mem_of_getElem? (i := 14) (by decide +kernel)))
set_option maxRecDepth 100000 in
theorem kw2895 : Cond.constantLong "java/lang/Long" 318 (lN 1085102592571150095) ∈ rTs := List.mem_append_left _ (rBm60 (List.mem_of_getElem? (i := 15) (by decide +kernel)))
set_option maxRecDepth 100000 in
theorem kw2896 : Cond.constantLong "java/lang/Long" 168 (lN 9223372036854775808) ∈ rTs := List.mem_append_left _ (rBm60 (List.mem_of_getElem? (i := 16) (by decide +kernel)))
set_option maxRecDepth 100000 in
theorem kw2897 : Cond.methodLink "java/lang/Long" 302 ⟨"java/lang/Long", "compare", "(JJ)I"⟩ ∈ rTs := List.mem_append_left _ (rBm60 (List.mem_of_getElem? (i := 17) rfl))
set_option maxRecDepth 100000 in
theorem kw2898 : Cond.static ⟨"java/lang/Long", "compare", "(JJ)I"⟩ ∈ rTs := List.mem_append_left _ (rBm60 (List.mem_of_getElem? (i := 18) rfl))
set_option maxRecDepth 100000 in
theorem kw2899 : Cond.code ⟨"java/lang/Long", "compare", "(JJ)I"⟩ prog_26_method_42_code 4 (Option.some FieldType.int) ∈ rTs := List.mem_append_left _ (rBm60 (List.mem_of_getElem? (i := 19) rfl))
set_option maxRecDepth 100000 in
theorem kw2900 : Cond.constantLong "java/lang/Long" 306 (lN 18446744073709551615) ∈ rTs := List.mem_append_left _ (rBm60 (List.mem_of_getElem? (i := 20) (by decide +kernel)))
set_option maxRecDepth 100000 in
theorem kw2901 : Cond.methodLink "java/lang/Long" 308 ⟨"java/lang/Intege\x72", "numberOfLeadingZeros", "(I)I"⟩ ∈ rTs := List.mem_append_left _ (rBm60 (List.mem_of_getElem? (i := 21) rfl))
set_option maxRecDepth 100000 in
theorem kw2902 : Cond.static ⟨"java/lang/Intege\x72", "numberOfLeadingZeros", "(I)I"⟩ ∈ rTs := List.mem_append_left _ (rBm60 (List.mem_of_getElem? (i := 22) rfl))
set_option maxRecDepth 100000 in
theorem kw2903 : Cond.methodLink "java/lang/Long" 311 ⟨"java/lang/Intege\x72", "numberOfTrailingZeros", "(I)I"⟩ ∈ rTs := List.mem_append_left _ (rBm60 (List.mem_of_getElem? (i := 23) rfl))
set_option maxRecDepth 100000 in
theorem kw2904 : Cond.static ⟨"java/lang/Intege\x72", "numberOfTrailingZeros", "(I)I"⟩ ∈ rTs := List.mem_append_left _ (rBm60 (List.mem_of_getElem? (i := 24) rfl))
set_option maxRecDepth 100000 in
theorem kw2905 : Cond.constantLong "java/lang/Long" 327 (lN 71777214294589695) ∈ rTs := List.mem_append_left _ (rBm60 (List.mem_of_getElem? (i := 25) (by decide +kernel)))
set_option maxRecDepth 100000 in
theorem kw2906 : Cond.constantLong "java/lang/Long" 329 (lN 4294901760) ∈ rTs := List.mem_append_left _ (rBm60 (List.mem_of_getElem? (i := 26) (by decide +kernel)))
set_option maxRecDepth 100000 in
theorem kw2907 : Cond.constantLong "java/lang/Math" 138 (lN 4294967295) ∈ rTs := List.mem_append_left _ (rBm60 (List.mem_of_getElem? (i := 27) (by decide +kernel)))
set_option maxRecDepth 100000 in
theorem kwObj : Cond.code Lib.objectInit ⟨#[0xb1]⟩ 1 none ∈ rTs := kMem 0 (by decide +kernel)
set_option maxRecDepth 100000 in
theorem kGood : ∀ w ∈ rTs, goodWord w = true := List.all_eq_true.mp (by decide +kernel)
def rNs : List Cond := [Cond.arrayOver (FieldType.array FieldType.int), Cond.arrayOver (FieldType.object "java/lang/String"), Cond.arrayOver (FieldType.array FieldType.byte), Cond.methodLinkNest "NativeWorksModel" 293 ⟨"NativeWorksModel$Code", "<init>", "()V"⟩ "NativeWorksModel", Cond.fieldLinkNest "NativeWorksModel" 1251 "NativeWorksModel$Code" "end" "I" "NativeWorksModel", Cond.declares ⟨"java/lang/RuntimeException", "<init>", "(Ljava/lang/String;)V"⟩, Cond.declares ⟨"java/lang/Exception", "<init>", "(Ljava/lang/String;)V"⟩, Cond.declares ⟨"java/lang/Throwable", "<init>", "(Ljava/lang/String;)V"⟩, Cond.castable "java/lang/IllegalStateException" "java/lang/IllegalStateException", Cond.castable "java/util/NoSuchElementException" "java/util/NoSuchElementException", Cond.castable "java/lang/IllegalArgumentException" "java/lang/IllegalArgumentException", Cond.fieldLinkNest "NativeWorksModel" 1289 "NativeWorksModel$Code" "shape" "[J" "NativeWorksModel", Cond.fieldLinkNest "NativeWorksModel" 1279 "NativeWorksModel$Code" "displacement" "[J" "NativeWorksModel", Cond.fieldLinkNest "NativeWorksModel" 1254 "NativeWorksModel$Code" "many" "I" "NativeWorksModel", Cond.fieldLinkNest "NativeWorksModel" 1257 "NativeWorksModel$Code" "start" "J" "NativeWorksModel", Cond.fieldLinkNest "NativeWorksModel" 1259 "NativeWorksModel$Code" "textEnd" "I" "NativeWorksModel", Cond.fieldLinkNest "NativeWorksModel" 1262 "NativeWorksModel$Code" "rodataBegin" "I" "NativeWorksModel", Cond.fieldLinkNest "NativeWorksModel" 1265 "NativeWorksModel$Code" "rodataEnd" "I" "NativeWorksModel", Cond.fieldLinkNest "NativeWorksModel" 1268 "NativeWorksModel$Code" "dataBegin" "I" "NativeWorksModel", Cond.fieldLinkNest "NativeWorksModel" 1271 "NativeWorksModel$Code" "dataEnd" "I" "NativeWorksModel", Cond.fieldLinkNest "NativeWorksModel" 1281 "NativeWorksModel$Code" "numbe\x72" "[J" "NativeWorksModel", Cond.fieldLinkNest "NativeWorksModel" 1286 "NativeWorksModel$Code" "address" "[I" "NativeWorksModel", Cond.fieldLinkNest "NativeWorksModel" 1292 "NativeWorksModel$Code" "where" "[I" "NativeWorksModel"]
theorem kn0 : Cond.arrayOver (FieldType.array FieldType.int) ∈ rNs := List.mem_of_getElem? (i := 0) rfl
theorem kn1 : Cond.arrayOver (FieldType.object "java/lang/String") ∈ rNs := List.mem_of_getElem? (i := 1) rfl
theorem kn2 : Cond.arrayOver (FieldType.array FieldType.byte) ∈ rNs := List.mem_of_getElem? (i := 2) rfl
theorem kn3 : Cond.methodLinkNest "NativeWorksModel" 293 ⟨"NativeWorksModel$Code", "<init>", "()V"⟩ "NativeWorksModel" ∈ rNs := List.mem_of_getElem? (i := 3) rfl
theorem kn4 : Cond.fieldLinkNest "NativeWorksModel" 1251 "NativeWorksModel$Code" "end" "I" "NativeWorksModel" ∈ rNs := List.mem_of_getElem? (i := 4) rfl
theorem kn5 : Cond.declares ⟨"java/lang/RuntimeException", "<init>", "(Ljava/lang/String;)V"⟩ ∈ rNs := List.mem_of_getElem? (i := 5) rfl
theorem kn6 : Cond.declares ⟨"java/lang/Exception", "<init>", "(Ljava/lang/String;)V"⟩ ∈ rNs := List.mem_of_getElem? (i := 6) rfl
theorem kn7 : Cond.declares ⟨"java/lang/Throwable", "<init>", "(Ljava/lang/String;)V"⟩ ∈ rNs := List.mem_of_getElem? (i := 7) rfl
theorem kn8 : Cond.castable "java/lang/IllegalStateException" "java/lang/IllegalStateException" ∈ rNs := List.mem_of_getElem? (i := 8) rfl
theorem kn9 : Cond.castable "java/util/NoSuchElementException" "java/util/NoSuchElementException" ∈ rNs := List.mem_of_getElem? (i := 9) rfl
theorem kn10 : Cond.castable "java/lang/IllegalArgumentException" "java/lang/IllegalArgumentException" ∈ rNs := List.mem_of_getElem? (i := 10) rfl
theorem kn11 : Cond.fieldLinkNest "NativeWorksModel" 1289 "NativeWorksModel$Code" "shape" "[J" "NativeWorksModel" ∈ rNs := List.mem_of_getElem? (i := 11) rfl
theorem kn12 : Cond.fieldLinkNest "NativeWorksModel" 1279 "NativeWorksModel$Code" "displacement" "[J" "NativeWorksModel" ∈ rNs := List.mem_of_getElem? (i := 12) rfl
theorem kn13 : Cond.fieldLinkNest "NativeWorksModel" 1254 "NativeWorksModel$Code" "many" "I" "NativeWorksModel" ∈ rNs := List.mem_of_getElem? (i := 13) rfl
theorem kn14 : Cond.fieldLinkNest "NativeWorksModel" 1257 "NativeWorksModel$Code" "start" "J" "NativeWorksModel" ∈ rNs := List.mem_of_getElem? (i := 14) rfl
theorem kn15 : Cond.fieldLinkNest "NativeWorksModel" 1259 "NativeWorksModel$Code" "textEnd" "I" "NativeWorksModel" ∈ rNs := List.mem_of_getElem? (i := 15) rfl
theorem kn16 : Cond.fieldLinkNest "NativeWorksModel" 1262 "NativeWorksModel$Code" "rodataBegin" "I" "NativeWorksModel" ∈ rNs := List.mem_of_getElem? (i := 16) rfl
theorem kn17 : Cond.fieldLinkNest "NativeWorksModel" 1265 "NativeWorksModel$Code" "rodataEnd" "I" "NativeWorksModel" ∈ rNs := List.mem_of_getElem? (i := 17) rfl
theorem kn18 : Cond.fieldLinkNest "NativeWorksModel" 1268 "NativeWorksModel$Code" "dataBegin" "I" "NativeWorksModel" ∈ rNs := List.mem_of_getElem? (i := 18) rfl
theorem kn19 : Cond.fieldLinkNest "NativeWorksModel" 1271 "NativeWorksModel$Code" "dataEnd" "I" "NativeWorksModel" ∈ rNs := List.mem_of_getElem? (i := 19) rfl
theorem kn20 : Cond.fieldLinkNest "NativeWorksModel" 1281 "NativeWorksModel$Code" "numbe\x72" "[J" "NativeWorksModel" ∈ rNs := List.mem_of_getElem? (i := 20) rfl
theorem kn21 : Cond.fieldLinkNest "NativeWorksModel" 1286 "NativeWorksModel$Code" "address" "[I" "NativeWorksModel" ∈ rNs := List.mem_of_getElem? (i := 21) rfl
theorem kn22 : Cond.fieldLinkNest "NativeWorksModel" 1292 "NativeWorksModel$Code" "where" "[I" "NativeWorksModel" ∈ rNs := List.mem_of_getElem? (i := 22) rfl
