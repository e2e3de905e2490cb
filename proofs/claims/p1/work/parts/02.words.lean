/-! THE WORDS THAT THE REACHED METHODS NEED -/
set_option maxRecDepth 100000 in
def rBase : List Cond := [Cond.code ⟨"java/lang/Object", "<init>", "()V"⟩ object_method_1_code 1 (Option.none : Option FieldType),
  Cond.methodLink "NativeWorks$Names" 3 ⟨"java/lang/Object", "<init>", "()V"⟩,
  Cond.instanceMethod ⟨"java/lang/Object", "<init>", "()V"⟩,
  Cond.arrayClass FieldType.byte,
  Cond.fieldLink "NativeWorks$Names" 9 "NativeWorks$Names" "letters" "[B",
  Cond.arrayClass FieldType.int,
  Cond.fieldLink "NativeWorks$Names" 15 "NativeWorks$Names" "from" "[I",
  Cond.fieldLink "NativeWorks$Names" 19 "NativeWorks$Names" "olde\x72" "[I",
  Cond.fieldLink "NativeWorks$Names" 22 "NativeWorks$Names" "slot" "[I",
  Cond.fieldLink "NativeWorks$Names" 25 "NativeWorks$Names" "newest" "[I",
  Cond.code ⟨"java/util/Arrays", "fill", "([II)V"⟩ prog_38_method_103_code 4 (Option.none : Option FieldType),
  Cond.methodLink "NativeWorks$Names" 28 ⟨"java/util/Arrays", "fill", "([II)V"⟩,
  Cond.static ⟨"java/util/Arrays", "fill", "([II)V"⟩,
  Cond.initialized "java/util/Arrays",
  Cond.fieldLink "NativeWorks$Names" 34 "NativeWorks$Names" "count" "I",
  Cond.methodLink "NativeWorks$Units" 3 ⟨"java/lang/Object", "<init>", "()V"⟩,
  Cond.classLink "NativeWorks$Units" 9 "NativeWorks$Names",
  Cond.instantiable "NativeWorks$Names" 6,
  Cond.initialized "NativeWorks$Names",
  Cond.constant "NativeWorks$Units" 13 129024,
  Cond.code ⟨"NativeWorks$Names", "<init>", "(II)V"⟩ prog_9_method_1_code 3 (Option.none : Option FieldType),
  Cond.methodLink "NativeWorks$Units" 14 ⟨"NativeWorks$Names", "<init>", "(II)V"⟩,
  Cond.instanceMethod ⟨"NativeWorks$Names", "<init>", "(II)V"⟩,
  Cond.fieldLink "NativeWorks$Units" 17 "NativeWorks$Units" "names" "LNativeWorks$Names;",
  Cond.classLink "NativeWorks$Units" 21 "[[I",
  Cond.fieldLink "NativeWorks$Units" 23 "NativeWorks$Units" "symbols" "[[I",
  Cond.arrayClass FieldType.long,
  Cond.fieldLink "NativeWorks$Units" 26 "NativeWorks$Units" "constants" "[J",
  Cond.fieldLink "NativeWorks$Units" 30 "NativeWorks$Units" "labels" "[I",
  Cond.fieldLink "NativeWorks$Units" 34 "NativeWorks$Units" "statements" "[[I",
  Cond.fieldLink "NativeWorks$Units" 37 "NativeWorks$Units" "waits" "[[I",
  Cond.fieldLink "NativeWorks$Units" 40 "NativeWorks$Units" "waitNumbers" "[J",
  Cond.constant "NativeWorks$Units" 43 131072,
  Cond.fieldLink "NativeWorks$Units" 44 "NativeWorks$Units" "put" "[B",
  Cond.fieldLink "NativeWorks$Units" 48 "NativeWorks$Units" "bytes" "[B",
  Cond.fieldLink "NativeWorks$Units" 51 "NativeWorks$Units" "rows" "[[I",
  Cond.fieldLink "NativeWorks$Units" 54 "NativeWorks$Units" "ends" "[I",
  Cond.fieldLink "java/lang/String" 38 "java/lang/String" "COMPACT_STRINGS" "Z",
  Cond.fieldLink "java/lang/String" 15 "java/lang/String" "code\x72" "B",
  Cond.fieldLink "java/lang/String" 9 "java/lang/String" "value" "[B",
  Cond.code ⟨"java/lang/String", "code\x72", "()B"⟩ prog_30_method_152_code 1 (Option.some FieldType.byte),
  Cond.methodLink "java/lang/String" 335 ⟨"java/lang/String", "code\x72", "()B"⟩,
  Cond.instanceMethod ⟨"java/lang/String", "code\x72", "()B"⟩,
  Cond.selects "java/lang/String" ⟨"java/lang/String", "code\x72", "()B"⟩ ⟨"java/lang/String", "code\x72", "()B"⟩,
  Cond.initialized "java/lang/String",
  Cond.fieldLink "java/lang/String" 1053 "jdk/internal/util/Preconditions" "SIOOBE_FORMATTER" "Ljava/util/function/BiFunction;",
  Cond.code ⟨"jdk/internal/util/Preconditions", "checkIndex", "(IILjava/util/function/BiFunction;)I"⟩ prog_41_method_11_code 3 (Option.some FieldType.int),
  Cond.methodLink "java/lang/String" 1059 ⟨"jdk/internal/util/Preconditions", "checkIndex", "(IILjava/util/function/BiFunction;)I"⟩,
  Cond.static ⟨"jdk/internal/util/Preconditions", "checkIndex", "(IILjava/util/function/BiFunction;)I"⟩,
  Cond.initialized "jdk/internal/util/Preconditions",
  Cond.code ⟨"java/lang/String", "checkIndex", "(II)V"⟩ prog_30_method_155_code 2 (Option.none : Option FieldType),
  Cond.methodLink "java/lang/StringLatin1" 9 ⟨"java/lang/String", "checkIndex", "(II)V"⟩,
  Cond.static ⟨"java/lang/String", "checkIndex", "(II)V"⟩,
  Cond.code ⟨"java/lang/String", "isLatin1", "()Z"⟩ prog_30_method_154_code 1 (Option.some FieldType.boolean),
  Cond.methodLink "java/lang/String" 492 ⟨"java/lang/String", "isLatin1", "()Z"⟩,
  Cond.instanceMethod ⟨"java/lang/String", "isLatin1", "()Z"⟩,
  Cond.selects "java/lang/String" ⟨"java/lang/String", "isLatin1", "()Z"⟩ ⟨"java/lang/String", "isLatin1", "()Z"⟩,
  Cond.code ⟨"java/lang/StringLatin1", "charAt", "([BI)C"⟩ prog_32_method_2_code 2 (Option.some FieldType.char),
  Cond.methodLink "java/lang/String" 495 ⟨"java/lang/StringLatin1", "charAt", "([BI)C"⟩,
  Cond.static ⟨"java/lang/StringLatin1", "charAt", "([BI)C"⟩,
  Cond.initialized "java/lang/StringLatin1",
  Cond.methodLink "NativeWorks$Names" 38 ⟨"java/lang/System", "arraycopy", "(Ljava/lang/Object;ILjava/lang/Object;II)V"⟩,
  Cond.native ⟨"java/lang/System", "arraycopy", "(Ljava/lang/Object;ILjava/lang/Object;II)V"⟩,
  Cond.static ⟨"java/lang/System", "arraycopy", "(Ljava/lang/Object;ILjava/lang/Object;II)V"⟩,
  Cond.initialized "java/lang/System",
  Cond.code ⟨"java/lang/String", "length", "()I"⟩ prog_30_method_54_code 1 (Option.some FieldType.int),
  Cond.methodLink "NativeWorks$Line" 76 ⟨"java/lang/String", "length", "()I"⟩,
  Cond.instanceMethod ⟨"java/lang/String", "length", "()I"⟩,
  Cond.selects "java/lang/String" ⟨"java/lang/String", "length", "()I"⟩ ⟨"java/lang/String", "length", "()I"⟩,
  Cond.fieldLink "NativeWorks$Line" 11 "NativeWorks$Line" "text" "[B",
  Cond.code ⟨"java/lang/String", "charAt", "(I)C"⟩ prog_30_method_56_code 2 (Option.some FieldType.char),
  Cond.methodLink "NativeWorks$Line" 82 ⟨"java/lang/String", "charAt", "(I)C"⟩,
  Cond.instanceMethod ⟨"java/lang/String", "charAt", "(I)C"⟩,
  Cond.selects "java/lang/String" ⟨"java/lang/String", "charAt", "(I)C"⟩ ⟨"java/lang/String", "charAt", "(I)C"⟩,
  Cond.fieldLink "NativeWorks$Line" 20 "NativeWorks$Line" "words" "LNativeWorks$Names;",
  Cond.code ⟨"NativeWorks$Names", "add", "([BII)I"⟩ prog_9_method_3_code 6 (Option.some FieldType.int),
  Cond.methodLink "NativeWorks$Line" 86 ⟨"NativeWorks$Names", "add", "([BII)I"⟩,
  Cond.instanceMethod ⟨"NativeWorks$Names", "add", "([BII)I"⟩,
  Cond.selects "NativeWorks$Names" ⟨"NativeWorks$Names", "add", "([BII)I"⟩ ⟨"NativeWorks$Names", "add", "([BII)I"⟩,
  Cond.methodLink "NativeWorks$Line" 3 ⟨"java/lang/Object", "<init>", "()V"⟩,
  Cond.classLink "NativeWorks$Line" 15 "NativeWorks$Names",
  Cond.methodLink "NativeWorks$Line" 17 ⟨"NativeWorks$Names", "<init>", "(II)V"⟩,
  Cond.fieldLink "NativeWorks$Line" 24 "NativeWorks$Line" "kind" "[I",
  Cond.fieldLink "NativeWorks$Line" 28 "NativeWorks$Line" "value" "[J",
  Cond.fieldLink "NativeWorks$Line" 32 "NativeWorks$Line" "from" "[I",
  Cond.fieldLink "NativeWorks$Line" 35 "NativeWorks$Line" "to" "[I",
  Cond.code ⟨"NativeWorks$Line", "teach", "(Ljava/lang/String;)V"⟩ prog_5_method_2_code 4 (Option.none : Option FieldType),
  Cond.methodLink "NativeWorks$Line" 40 ⟨"NativeWorks$Line", "teach", "(Ljava/lang/String;)V"⟩,
  Cond.instanceMethod ⟨"NativeWorks$Line", "teach", "(Ljava/lang/String;)V"⟩,
  Cond.selects "NativeWorks$Line" ⟨"NativeWorks$Line", "teach", "(Ljava/lang/String;)V"⟩ ⟨"NativeWorks$Line", "teach", "(Ljava/lang/String;)V"⟩,
  Cond.initialized "NativeWorks$Line",
  Cond.methodLink "NativeWorks$Source" 3 ⟨"java/lang/Object", "<init>", "()V"⟩,
  Cond.fieldLink "NativeWorks$Source" 9 "NativeWorks$Source" "bytes" "[B",
  Cond.fieldLink "NativeWorks$Source" 15 "NativeWorks$Source" "words" "LNativeWorks$Names;",
  Cond.constant "NativeWorks$Source" 19 65538,
  Cond.fieldLink "NativeWorks$Source" 20 "NativeWorks$Source" "lineAt" "[I",
  Cond.constant "NativeWorks$Source" 24 65537,
  Cond.fieldLink "NativeWorks$Source" 25 "NativeWorks$Source" "sorts" "[B",
  Cond.fieldLink "NativeWorks$Source" 28 "NativeWorks$Source" "ifEnds" "[I",
  Cond.fieldLink "NativeWorks$Source" 31 "NativeWorks$Source" "elses" "[I",
  Cond.fieldLink "NativeWorks$Source" 34 "NativeWorks$Source" "reptEnds" "[I",
  Cond.classLink "NativeWorks$Source" 37 "NativeWorks$Names",
  Cond.constant "NativeWorks$Source" 39 65536,
  Cond.methodLink "NativeWorks$Source" 40 ⟨"NativeWorks$Names", "<init>", "(II)V"⟩,
  Cond.fieldLink "NativeWorks$Source" 43 "NativeWorks$Source" "macros" "LNativeWorks$Names;",
  Cond.fieldLink "NativeWorks$Source" 46 "NativeWorks$Source" "bodyFrom" "[I",
  Cond.fieldLink "NativeWorks$Source" 49 "NativeWorks$Source" "bodyTo" "[I",
  Cond.fieldLink "NativeWorks$Source" 52 "NativeWorks$Source" "firstParamete\x72" "[I",
  Cond.constant "NativeWorks$Source" 55 32768,
  Cond.fieldLink "NativeWorks$Source" 56 "NativeWorks$Source" "parameterFrom" "[I",
  Cond.fieldLink "NativeWorks$Source" 59 "NativeWorks$Source" "parameterTo" "[I",
  Cond.fieldLink "NativeWorks$Source" 62 "NativeWorks$Source" "lines" "I",
  Cond.methodLink "NativeWorks$Reade\x72" 3 ⟨"java/lang/Object", "<init>", "()V"⟩,
  Cond.fieldLink "NativeWorks$Reade\x72" 9 "NativeWorks$Reade\x72" "source" "LNativeWorks$Source;",
  Cond.fieldLink "NativeWorks$Reade\x72" 15 "NativeWorks$Reade\x72" "line" "LNativeWorks$Line;",
  Cond.fieldLink "NativeWorks$Reade\x72" 19 "NativeWorks$Reade\x72" "first" "[I",
  Cond.fieldLink "NativeWorks$Reade\x72" 23 "NativeWorks$Reade\x72" "end" "[I",
  Cond.fieldLink "NativeWorks$Reade\x72" 26 "NativeWorks$Reade\x72" "next" "[I",
  Cond.fieldLink "NativeWorks$Reade\x72" 29 "NativeWorks$Reade\x72" "left" "[I",
  Cond.fieldLink "NativeWorks$Reade\x72" 32 "NativeWorks$Reade\x72" "make\x72" "[I",
  Cond.fieldLink "NativeWorks$Reade\x72" 35 "NativeWorks$Reade\x72" "ifsBelow" "[I",
  Cond.fieldLink "NativeWorks$Reade\x72" 38 "NativeWorks$Reade\x72" "macro" "[I",
  Cond.fieldLink "NativeWorks$Reade\x72" 41 "NativeWorks$Reade\x72" "made" "[I",
  Cond.fieldLink "NativeWorks$Reade\x72" 46 "NativeWorks$Reade\x72" "arguments" "[B",
  Cond.fieldLink "NativeWorks$Reade\x72" 50 "NativeWorks$Reade\x72" "argumentFrom" "[I",
  Cond.fieldLink "NativeWorks$Reade\x72" 53 "NativeWorks$Reade\x72" "argumentTo" "[I",
  Cond.arrayClass FieldType.boolean,
  Cond.fieldLink "NativeWorks$Reade\x72" 56 "NativeWorks$Reade\x72" "elseRead" "[Z",
  Cond.methodLink "NativeWorks$Expression" 3 ⟨"java/lang/Object", "<init>", "()V"⟩,
  Cond.fieldLink "NativeWorks$Expression" 9 "NativeWorks$Expression" "line" "LNativeWorks$Line;",
  Cond.fieldLink "NativeWorks$Expression" 15 "NativeWorks$Expression" "units" "LNativeWorks$Units;",
  Cond.fieldLink "NativeWorks$Expression" 21 "NativeWorks$Expression" "numbe\x72" "[J",
  Cond.fieldLink "NativeWorks$Expression" 25 "NativeWorks$Expression" "plus" "[I",
  Cond.fieldLink "NativeWorks$Expression" 29 "NativeWorks$Expression" "minus" "[I",
  Cond.fieldLink "NativeWorks$Expression" 32 "NativeWorks$Expression" "signs" "[I",
  Cond.fieldLink "NativeWorks$Expression" 35 "NativeWorks$Expression" "name" "[B",
  Cond.fieldLink "NativeWorks$Expression" 39 "NativeWorks$Expression" "latest" "[B",
  Cond.fieldLink "NativeWorks$Instruction" 18 "NativeWorks$Instruction" "rows" "[I",
  Cond.fieldLink "NativeWorks$Instruction" 53 "NativeWorks$Instruction" "L_AT" "[I",
  Cond.code ⟨"NativeWorks$Instruction", "isConditional", "(I)Z"⟩ prog_4_method_3_code 1 (Option.some FieldType.boolean),
  Cond.methodLink "NativeWorks$Instruction" 56 ⟨"NativeWorks$Instruction", "isConditional", "(I)Z"⟩,
  Cond.static ⟨"NativeWorks$Instruction", "isConditional", "(I)Z"⟩,
  Cond.initialized "NativeWorks$Instruction",
  Cond.fieldLink "NativeWorks$Instruction" 24 "NativeWorks$Instruction" "rowAt" "[I",
  Cond.methodLink "NativeWorks$Instruction" 3 ⟨"java/lang/Object", "<init>", "()V"⟩,
  Cond.fieldLink "NativeWorks$Instruction" 9 "NativeWorks$Instruction" "ARITHMETIC" "[I",
  Cond.fieldLink "NativeWorks$Instruction" 15 "NativeWorks$Instruction" "TABLE" "[I",
  Cond.fieldLink "NativeWorks$Instruction" 21 "NativeWorks$Instruction" "firstRow" "[I",
  Cond.fieldLink "NativeWorks$Instruction" 27 "NativeWorks$Instruction" "kind" "[I",
  Cond.fieldLink "NativeWorks$Instruction" 30 "NativeWorks$Instruction" "reg" "[I",
  Cond.fieldLink "NativeWorks$Instruction" 33 "NativeWorks$Instruction" "bytes" "[B",
  Cond.methodLink "NativeWorks$Instruction" 37 ⟨"java/util/Arrays", "fill", "([II)V"⟩,
  Cond.methodLink "NativeWorks$Instruction" 43 ⟨"java/lang/System", "arraycopy", "(Ljava/lang/Object;ILjava/lang/Object;II)V"⟩,
  Cond.code ⟨"NativeWorks$Instruction", "ente\x72", "(I)V"⟩ prog_4_method_2_code 8 (Option.none : Option FieldType),
  Cond.methodLink "NativeWorks$Instruction" 49 ⟨"NativeWorks$Instruction", "ente\x72", "(I)V"⟩,
  Cond.instanceMethod ⟨"NativeWorks$Instruction", "ente\x72", "(I)V"⟩,
  Cond.selects "NativeWorks$Instruction" ⟨"NativeWorks$Instruction", "ente\x72", "(I)V"⟩ ⟨"NativeWorks$Instruction", "ente\x72", "(I)V"⟩,
  Cond.methodLink "NativeWorks$Assemble\x72" 3 ⟨"java/lang/Object", "<init>", "()V"⟩,
  Cond.classLink "NativeWorks$Assemble\x72" 9 "NativeWorks$Line",
  Cond.instantiable "NativeWorks$Line" 10,
  Cond.code ⟨"NativeWorks$Line", "<init>", "()V"⟩ prog_5_method_1_code 1 (Option.none : Option FieldType),
  Cond.methodLink "NativeWorks$Assemble\x72" 11 ⟨"NativeWorks$Line", "<init>", "()V"⟩,
  Cond.instanceMethod ⟨"NativeWorks$Line", "<init>", "()V"⟩,
  Cond.fieldLink "NativeWorks$Assemble\x72" 12 "NativeWorks$Assemble\x72" "line" "LNativeWorks$Line;",
  Cond.fieldLink "NativeWorks$Assemble\x72" 18 "NativeWorks$Assemble\x72" "units" "LNativeWorks$Units;",
  Cond.classLink "NativeWorks$Assemble\x72" 22 "NativeWorks$Reade\x72",
  Cond.instantiable "NativeWorks$Reade\x72" 20,
  Cond.initialized "NativeWorks$Reade\x72",
  Cond.classLink "NativeWorks$Assemble\x72" 24 "NativeWorks$Source",
  Cond.instantiable "NativeWorks$Source" 14,
  Cond.initialized "NativeWorks$Source",
  Cond.fieldLink "NativeWorks$Assemble\x72" 26 "NativeWorks$Line" "words" "LNativeWorks$Names;",
  Cond.code ⟨"NativeWorks$Source", "<init>", "([BLNativeWorks$Names;)V"⟩ prog_11_method_1_code 3 (Option.none : Option FieldType),
  Cond.methodLink "NativeWorks$Assemble\x72" 30 ⟨"NativeWorks$Source", "<init>", "([BLNativeWorks$Names;)V"⟩,
  Cond.instanceMethod ⟨"NativeWorks$Source", "<init>", "([BLNativeWorks$Names;)V"⟩,
  Cond.code ⟨"NativeWorks$Reade\x72", "<init>", "(LNativeWorks$Source;LNativeWorks$Line;)V"⟩ prog_10_method_1_code 3 (Option.none : Option FieldType),
  Cond.methodLink "NativeWorks$Assemble\x72" 33 ⟨"NativeWorks$Reade\x72", "<init>", "(LNativeWorks$Source;LNativeWorks$Line;)V"⟩,
  Cond.instanceMethod ⟨"NativeWorks$Reade\x72", "<init>", "(LNativeWorks$Source;LNativeWorks$Line;)V"⟩,
  Cond.fieldLink "NativeWorks$Assemble\x72" 36 "NativeWorks$Assemble\x72" "reade\x72" "LNativeWorks$Reader;",
  Cond.classLink "NativeWorks$Assemble\x72" 40 "NativeWorks$Expression",
  Cond.instantiable "NativeWorks$Expression" 11,
  Cond.initialized "NativeWorks$Expression",
  Cond.code ⟨"NativeWorks$Expression", "<init>", "(LNativeWorks$Line;LNativeWorks$Units;)V"⟩ prog_3_method_1_code 3 (Option.none : Option FieldType),
  Cond.methodLink "NativeWorks$Assemble\x72" 42 ⟨"NativeWorks$Expression", "<init>", "(LNativeWorks$Line;LNativeWorks$Units;)V"⟩,
  Cond.instanceMethod ⟨"NativeWorks$Expression", "<init>", "(LNativeWorks$Line;LNativeWorks$Units;)V"⟩,
  Cond.fieldLink "NativeWorks$Assemble\x72" 45 "NativeWorks$Assemble\x72" "expression" "LNativeWorks$Expression;",
  Cond.classLink "NativeWorks$Assemble\x72" 49 "NativeWorks$Instruction",
  Cond.instantiable "NativeWorks$Instruction" 21,
  Cond.code ⟨"NativeWorks$Instruction", "<init>", "()V"⟩ prog_4_method_1_code 6 (Option.none : Option FieldType),
  Cond.methodLink "NativeWorks$Assemble\x72" 51 ⟨"NativeWorks$Instruction", "<init>", "()V"⟩,
  Cond.instanceMethod ⟨"NativeWorks$Instruction", "<init>", "()V"⟩,
  Cond.fieldLink "NativeWorks$Assemble\x72" 52 "NativeWorks$Assemble\x72" "instruction" "LNativeWorks$Instruction;",
  Cond.fieldLink "NativeWorks$Assemble\x72" 56 "NativeWorks$Assemble\x72" "told" "[I",
  Cond.methodLink "NativeWorks$Linke\x72" 3 ⟨"java/lang/Object", "<init>", "()V"⟩,
  Cond.fieldLink "NativeWorks$Linke\x72" 9 "NativeWorks$Linke\x72" "units" "LNativeWorks$Units;",
  Cond.fieldLink "NativeWorks$Linke\x72" 17 "NativeWorks$Linke\x72" "taken" "[Z",
  Cond.fieldLink "NativeWorks$Linke\x72" 21 "NativeWorks$Linke\x72" "needed" "[Z",
  Cond.fieldLink "NativeWorks$Linke\x72" 24 "NativeWorks$Linke\x72" "places" "[I",
  Cond.fieldLink "NativeWorks$Linke\x72" 28 "NativeWorks$Linke\x72" "stands" "[I",
  Cond.fieldLink "NativeWorks$Linke\x72" 31 "NativeWorks$Linke\x72" "from" "[I",
  Cond.fieldLink "NativeWorks$Linke\x72" 34 "NativeWorks$Linke\x72" "to" "[I",
  Cond.constant "NativeWorks$Linke\x72" 37 131072,
  Cond.fieldLink "NativeWorks$Linke\x72" 38 "NativeWorks$Linke\x72" "bytes" "[B",
  Cond.fieldLink "NativeWorks$Linke\x72" 42 "NativeWorks$Linke\x72" "origins" "[I",
  Cond.classLink "NativeWorks$Linke\x72" 45 "NativeWorks$Names",
  Cond.constant "NativeWorks$Linke\x72" 47 129024,
  Cond.methodLink "NativeWorks$Linke\x72" 48 ⟨"NativeWorks$Names", "<init>", "(II)V"⟩,
  Cond.fieldLink "NativeWorks$Linke\x72" 51 "NativeWorks$Linke\x72" "names" "LNativeWorks$Names;",
  Cond.fieldLink "NativeWorks$Linke\x72" 55 "NativeWorks$Linke\x72" "addresses" "[J",
  Cond.methodLink "NativeWorks$Linke\x72" 59 ⟨"java/util/Arrays", "fill", "([II)V"⟩,
  Cond.methodLink "NativeWorks$Memory" 3 ⟨"java/lang/Object", "<init>", "()V"⟩,
  Cond.constant "NativeWorks$Memory" 13 196608,
  Cond.fieldLink "NativeWorks$Memory" 14 "NativeWorks$Memory" "low" "[B",
  Cond.constant "NativeWorks$Memory" 18 65536,
  Cond.fieldLink "NativeWorks$Memory" 19 "NativeWorks$Memory" "stack" "[B",
  Cond.constant "NativeWorks$Memory" 22 131072,
  Cond.fieldLink "NativeWorks$Memory" 23 "NativeWorks$Memory" "begins" "[Z",
  Cond.fieldLink "NativeWorks$Memory" 27 "NativeWorks$Memory" "loaded" "Z",
  Cond.constantLong "NativeWorks$Memory" 31 4194304,
  Cond.fieldLink "NativeWorks$Memory" 33 "NativeWorks$Memory" "heap" "J",
  Cond.fieldLink "NativeWorks$Memory" 37 "NativeWorks$Memory" "end" "J",
  Cond.methodLink "NativeWorks$Machine" 3 ⟨"java/lang/Object", "<init>", "()V"⟩,
  Cond.classLink "NativeWorks$Machine" 9 "NativeWorks$Memory",
  Cond.instantiable "NativeWorks$Memory" 12,
  Cond.initialized "NativeWorks$Memory",
  Cond.code ⟨"NativeWorks$Memory", "<init>", "()V"⟩ prog_8_method_1_code 1 (Option.none : Option FieldType),
  Cond.methodLink "NativeWorks$Machine" 11 ⟨"NativeWorks$Memory", "<init>", "()V"⟩,
  Cond.instanceMethod ⟨"NativeWorks$Memory", "<init>", "()V"⟩,
  Cond.fieldLink "NativeWorks$Machine" 12 "NativeWorks$Machine" "memory" "LNativeWorks$Memory;",
  Cond.classLink "NativeWorks$Machine" 18 "NativeWorks$Instruction",
  Cond.methodLink "NativeWorks$Machine" 20 ⟨"NativeWorks$Instruction", "<init>", "()V"⟩,
  Cond.fieldLink "NativeWorks$Machine" 21 "NativeWorks$Machine" "it" "LNativeWorks$Instruction;",
  Cond.fieldLink "NativeWorks$Machine" 25 "NativeWorks$Machine" "\x72" "[J",
  Cond.constant "NativeWorks$Machine" 29 65536,
  Cond.fieldLink "NativeWorks$Machine" 30 "NativeWorks$Machine" "input" "[B",
  Cond.fieldLink "NativeWorks$Machine" 34 "NativeWorks$Machine" "output" "[B",
  Cond.fieldLink "NativeWorks$Machine" 37 "NativeWorks$Machine" "stops" "[J",
  Cond.methodLink "NativeWorks" 1 ⟨"java/lang/Object", "<init>", "()V"⟩,
  Cond.constant "NativeWorks" 9 65536,
  Cond.classLink "NativeWorks" 10 "NativeWorks$Units",
  Cond.instantiable "NativeWorks$Units" 19,
  Cond.initialized "NativeWorks$Units",
  Cond.code ⟨"NativeWorks$Units", "<init>", "()V"⟩ prog_12_method_1_code 1 (Option.none : Option FieldType),
  Cond.methodLink "NativeWorks" 12 ⟨"NativeWorks$Units", "<init>", "()V"⟩,
  Cond.instanceMethod ⟨"NativeWorks$Units", "<init>", "()V"⟩,
  Cond.fieldLink "NativeWorks" 13 "NativeWorks" "tape" "[B",
  Cond.fieldLink "NativeWorks" 17 "NativeWorks" "units" "LNativeWorks$Units;",
  Cond.classLink "NativeWorks" 21 "NativeWorks$Assemble\x72",
  Cond.instantiable "NativeWorks$Assemble\x72" 15,
  Cond.initialized "NativeWorks$Assemble\x72",
  Cond.code ⟨"NativeWorks$Assemble\x72", "<init>", "([BLNativeWorks$Units;)V"⟩ prog_2_method_1_code 4 (Option.none : Option FieldType),
  Cond.methodLink "NativeWorks" 23 ⟨"NativeWorks$Assemble\x72", "<init>", "([BLNativeWorks$Units;)V"⟩,
  Cond.instanceMethod ⟨"NativeWorks$Assemble\x72", "<init>", "([BLNativeWorks$Units;)V"⟩,
  Cond.fieldLink "NativeWorks" 26 "NativeWorks" "assemble\x72" "LNativeWorks$Assembler;",
  Cond.classLink "NativeWorks" 30 "NativeWorks$Linke\x72",
  Cond.instantiable "NativeWorks$Linke\x72" 18,
  Cond.initialized "NativeWorks$Linke\x72",
  Cond.code ⟨"NativeWorks$Linke\x72", "<init>", "(LNativeWorks$Units;)V"⟩ prog_6_method_1_code 2 (Option.none : Option FieldType),
  Cond.methodLink "NativeWorks" 32 ⟨"NativeWorks$Linke\x72", "<init>", "(LNativeWorks$Units;)V"⟩,
  Cond.instanceMethod ⟨"NativeWorks$Linke\x72", "<init>", "(LNativeWorks$Units;)V"⟩,
  Cond.fieldLink "NativeWorks" 35 "NativeWorks" "linke\x72" "LNativeWorks$Linker;",
  Cond.classLink "NativeWorks" 39 "NativeWorks$Machine",
  Cond.instantiable "NativeWorks$Machine" 17,
  Cond.initialized "NativeWorks$Machine",
  Cond.code ⟨"NativeWorks$Machine", "<init>", "()V"⟩ prog_7_method_1_code 1 (Option.none : Option FieldType),
  Cond.methodLink "NativeWorks" 41 ⟨"NativeWorks$Machine", "<init>", "()V"⟩,
  Cond.instanceMethod ⟨"NativeWorks$Machine", "<init>", "()V"⟩,
  Cond.fieldLink "NativeWorks" 42 "NativeWorks" "machine" "LNativeWorks$Machine;",
  Cond.fieldLink "NativeWorks" 46 "NativeWorks" "fed" "I",
  Cond.fieldLink "NativeWorks" 50 "NativeWorks" "faultKind" "I",
  Cond.fieldLink "NativeWorks" 53 "NativeWorks" "faultLine" "I",
  Cond.fieldLink "NativeWorks" 56 "NativeWorks" "faultUnit" "I",
  Cond.methodLink "NativeWorksModel$Code" 3 ⟨"java/lang/Object", "<init>", "()V"⟩,
  Cond.fieldLink "NativeWorksModel$Code" 9 "NativeWorksModel$Code" "address" "[I",
  Cond.fieldLink "NativeWorksModel$Code" 15 "NativeWorksModel$Code" "where" "[I",
  Cond.fieldLink "NativeWorksModel$Code" 18 "NativeWorksModel$Code" "shape" "[J",
  Cond.fieldLink "NativeWorksModel$Code" 22 "NativeWorksModel$Code" "displacement" "[J",
  Cond.fieldLink "NativeWorksModel$Code" 25 "NativeWorksModel$Code" "numbe\x72" "[J",
  Cond.code ⟨"jdk/internal/util/Preconditions", "checkFromToIndex", "(IIILjava/util/function/BiFunction;)I"⟩ prog_41_method_12_code 4 (Option.some FieldType.int),
  Cond.methodLink "java/lang/String" 1062 ⟨"jdk/internal/util/Preconditions", "checkFromToIndex", "(IIILjava/util/function/BiFunction;)I"⟩,
  Cond.static ⟨"jdk/internal/util/Preconditions", "checkFromToIndex", "(IIILjava/util/function/BiFunction;)I"⟩,
  Cond.code ⟨"java/util/Arrays", "checkLength", "(II)V"⟩ prog_38_method_131_code 2 (Option.none : Option FieldType),
  Cond.methodLink "java/util/Arrays" 343 ⟨"java/util/Arrays", "checkLength", "(II)V"⟩,
  Cond.static ⟨"java/util/Arrays", "checkLength", "(II)V"⟩,
  Cond.methodLink "java/util/Arrays" 304 ⟨"java/lang/Math", "min", "(II)I"⟩,
  Cond.static ⟨"java/lang/Math", "min", "(II)I"⟩,
  Cond.initialized "java/lang/Math",
  Cond.code ⟨"java/lang/Math", "min", "(II)I"⟩ prog_27_method_69_code 2 (Option.some FieldType.int),
  Cond.methodLink "java/util/Arrays" 150 ⟨"java/lang/System", "arraycopy", "(Ljava/lang/Object;ILjava/lang/Object;II)V"⟩,
  Cond.code ⟨"java/util/Arrays", "copyOfRangeByte", "([BII)[B"⟩ prog_38_method_133_code 5 (Option.some (FieldType.array FieldType.byte)),
  Cond.methodLink "java/util/Arrays" 339 ⟨"java/util/Arrays", "copyOfRangeByte", "([BII)[B"⟩,
  Cond.static ⟨"java/util/Arrays", "copyOfRangeByte", "([BII)[B"⟩,
  Cond.methodLink "java/lang/String" 1 ⟨"java/lang/Object", "<init>", "()V"⟩,
  Cond.classLink "java/lang/StringLatin1" 1 "java/lang/String",
  Cond.instantiable "java/lang/String" 4,
  Cond.code ⟨"java/util/Arrays", "copyOfRange", "([BII)[B"⟩ prog_38_method_132_code 3 (Option.some (FieldType.array FieldType.byte)),
  Cond.methodLink "java/lang/StringLatin1" 232 ⟨"java/util/Arrays", "copyOfRange", "([BII)[B"⟩,
  Cond.static ⟨"java/util/Arrays", "copyOfRange", "([BII)[B"⟩,
  Cond.code ⟨"java/lang/String", "<init>", "([BB)V"⟩ prog_30_method_151_code 3 (Option.none : Option FieldType),
  Cond.methodLink "java/lang/StringLatin1" 112 ⟨"java/lang/String", "<init>", "([BB)V"⟩,
  Cond.instanceMethod ⟨"java/lang/String", "<init>", "([BB)V"⟩,
  Cond.methodLink "java/lang/String" 505 ⟨"java/lang/String", "length", "()I"⟩,
  Cond.code ⟨"java/lang/String", "checkBoundsBeginEnd", "(III)V"⟩ prog_30_method_158_code 3 (Option.none : Option FieldType),
  Cond.methodLink "java/lang/String" 521 ⟨"java/lang/String", "checkBoundsBeginEnd", "(III)V"⟩,
  Cond.static ⟨"java/lang/String", "checkBoundsBeginEnd", "(III)V"⟩,
  Cond.code ⟨"java/lang/StringLatin1", "newString", "([BII)Ljava/lang/String;"⟩ prog_32_method_47_code 3 (Option.some (FieldType.object "java/lang/String")),
  Cond.methodLink "java/lang/String" 685 ⟨"java/lang/StringLatin1", "newString", "([BII)Ljava/lang/String;"⟩,
  Cond.static ⟨"java/lang/StringLatin1", "newString", "([BII)Ljava/lang/String;"⟩,
  Cond.methodLink "NativeWorksModel" 469 ⟨"java/lang/String", "length", "()I"⟩,
  Cond.methodLink "NativeWorksModel" 475 ⟨"java/lang/String", "charAt", "(I)C"⟩,
  Cond.fieldLink "NativeWorksModel" 14 "NativeWorksModel" "wordName" "[J",
  Cond.fieldLink "NativeWorksModel" 483 "NativeWorksModel" "words" "I",
  Cond.code ⟨"NativeWorksModel", "pack", "(Ljava/lang/String;)J"⟩ prog_14_method_2_code 4 (Option.some FieldType.long),
  Cond.methodLink "NativeWorksModel" 419 ⟨"NativeWorksModel", "pack", "(Ljava/lang/String;)J"⟩,
  Cond.static ⟨"NativeWorksModel", "pack", "(Ljava/lang/String;)J"⟩,
  Cond.initialized "NativeWorksModel",
  Cond.fieldLink "NativeWorksModel" 21 "NativeWorksModel" "wordCode" "[I",
  Cond.code ⟨"java/lang/String", "substring", "(II)Ljava/lang/String;"⟩ prog_30_method_92_code 5 (Option.some (FieldType.object "java/lang/String")),
  Cond.methodLink "NativeWorksModel" 479 ⟨"java/lang/String", "substring", "(II)Ljava/lang/String;"⟩,
  Cond.instanceMethod ⟨"java/lang/String", "substring", "(II)Ljava/lang/String;"⟩,
  Cond.selects "java/lang/String" ⟨"java/lang/String", "substring", "(II)Ljava/lang/String;"⟩ ⟨"java/lang/String", "substring", "(II)Ljava/lang/String;"⟩,
  Cond.code ⟨"NativeWorksModel", "word", "(Ljava/lang/String;I)V"⟩ prog_14_method_4_code 3 (Option.none : Option FieldType),
  Cond.methodLink "NativeWorksModel" 370 ⟨"NativeWorksModel", "word", "(Ljava/lang/String;I)V"⟩,
  Cond.instanceMethod ⟨"NativeWorksModel", "word", "(Ljava/lang/String;I)V"⟩,
  Cond.selects "NativeWorksModel" ⟨"NativeWorksModel", "word", "(Ljava/lang/String;I)V"⟩ ⟨"NativeWorksModel", "word", "(Ljava/lang/String;I)V"⟩,
  Cond.methodLink "java/lang/AbstractStringBuilde\x72" 3 ⟨"java/lang/Object", "<init>", "()V"⟩,
  Cond.fieldLink "java/lang/AbstractStringBuilde\x72" 18 "java/lang/String" "COMPACT_STRINGS" "Z",
  Cond.fieldLink "java/lang/AbstractStringBuilde\x72" 15 "java/lang/AbstractStringBuilde\x72" "value" "[B",
  Cond.fieldLink "java/lang/AbstractStringBuilde\x72" 22 "java/lang/AbstractStringBuilde\x72" "code\x72" "B",
  Cond.code ⟨"java/lang/AbstractStringBuilde\x72", "<init>", "(I)V"⟩ prog_17_method_2_code 2 (Option.none : Option FieldType),
  Cond.methodLink "java/lang/StringBuilde\x72" 1 ⟨"java/lang/AbstractStringBuilde\x72", "<init>", "(I)V"⟩,
  Cond.instanceMethod ⟨"java/lang/AbstractStringBuilde\x72", "<init>", "(I)V"⟩,
  Cond.initialized "java/lang/AbstractStringBuilde\x72",
  Cond.methodLink "java/lang/AbstractStringBuilde\x72" 40 ⟨"java/lang/String", "code\x72", "()B"⟩,
  Cond.methodLink "java/lang/String" 212 ⟨"java/lang/System", "arraycopy", "(Ljava/lang/Object;ILjava/lang/Object;II)V"⟩,
  Cond.code ⟨"java/lang/AbstractStringBuilde\x72", "inflateIfNeededFo\x72", "(Ljava/lang/String;)V"⟩ prog_17_method_71_code 2 (Option.none : Option FieldType),
  Cond.methodLink "java/lang/AbstractStringBuilde\x72" 397 ⟨"java/lang/AbstractStringBuilde\x72", "inflateIfNeededFo\x72", "(Ljava/lang/String;)V"⟩,
  Cond.sameMethod "java/lang/AbstractStringBuilde\x72" "java/lang/AbstractStringBuilde\x72" "inflateIfNeededFo\x72" "(Ljava/lang/String;)V",
  Cond.selects "java/lang/StringBuilde\x72" ⟨"java/lang/AbstractStringBuilde\x72", "inflateIfNeededFo\x72", "(Ljava/lang/String;)V"⟩ ⟨"java/lang/AbstractStringBuilde\x72", "inflateIfNeededFo\x72", "(Ljava/lang/String;)V"⟩,
  Cond.instanceMethod ⟨"java/lang/AbstractStringBuilde\x72", "inflateIfNeededFo\x72", "(Ljava/lang/String;)V"⟩,
  Cond.code ⟨"java/lang/String", "getBytes", "([BIB)V"⟩ prog_30_method_147_code 4 (Option.none : Option FieldType),
  Cond.methodLink "java/lang/AbstractStringBuilde\x72" 399 ⟨"java/lang/String", "getBytes", "([BIB)V"⟩,
  Cond.instanceMethod ⟨"java/lang/String", "getBytes", "([BIB)V"⟩,
  Cond.selects "java/lang/String" ⟨"java/lang/String", "getBytes", "([BIB)V"⟩ ⟨"java/lang/String", "getBytes", "([BIB)V"⟩,
  Cond.methodLink "java/lang/AbstractStringBuilde\x72" 32 ⟨"java/lang/String", "length", "()I"⟩,
  Cond.fieldLink "java/lang/AbstractStringBuilde\x72" 79 "java/lang/AbstractStringBuilde\x72" "count" "I",
  Cond.code ⟨"java/lang/AbstractStringBuilde\x72", "ensureCapacityInternal", "(I)V"⟩ prog_17_method_9_code 3 (Option.none : Option FieldType),
  Cond.methodLink "java/lang/AbstractStringBuilde\x72" 100 ⟨"java/lang/AbstractStringBuilde\x72", "ensureCapacityInternal", "(I)V"⟩,
  Cond.sameMethod "java/lang/AbstractStringBuilde\x72" "java/lang/AbstractStringBuilde\x72" "ensureCapacityInternal" "(I)V",
  Cond.selects "java/lang/StringBuilde\x72" ⟨"java/lang/AbstractStringBuilde\x72", "ensureCapacityInternal", "(I)V"⟩ ⟨"java/lang/AbstractStringBuilde\x72", "ensureCapacityInternal", "(I)V"⟩,
  Cond.instanceMethod ⟨"java/lang/AbstractStringBuilde\x72", "ensureCapacityInternal", "(I)V"⟩,
  Cond.code ⟨"java/lang/AbstractStringBuilde\x72", "putStringAt", "(ILjava/lang/String;)V"⟩ prog_17_method_73_code 3 (Option.none : Option FieldType),
  Cond.methodLink "java/lang/AbstractStringBuilde\x72" 208 ⟨"java/lang/AbstractStringBuilde\x72", "putStringAt", "(ILjava/lang/String;)V"⟩,
  Cond.sameMethod "java/lang/AbstractStringBuilde\x72" "java/lang/AbstractStringBuilde\x72" "putStringAt" "(ILjava/lang/String;)V",
  Cond.selects "java/lang/StringBuilde\x72" ⟨"java/lang/AbstractStringBuilde\x72", "putStringAt", "(ILjava/lang/String;)V"⟩ ⟨"java/lang/AbstractStringBuilde\x72", "putStringAt", "(ILjava/lang/String;)V"⟩,
  Cond.instanceMethod ⟨"java/lang/AbstractStringBuilde\x72", "putStringAt", "(ILjava/lang/String;)V"⟩,
  Cond.code ⟨"java/lang/AbstractStringBuilde\x72", "append", "(Ljava/lang/String;)Ljava/lang/AbstractStringBuilder;"⟩ prog_17_method_22_code 3 (Option.some (FieldType.object "java/lang/AbstractStringBuilde\x72")),
  Cond.methodLink "java/lang/StringBuilde\x72" 29 ⟨"java/lang/AbstractStringBuilde\x72", "append", "(Ljava/lang/String;)Ljava/lang/AbstractStringBuilder;"⟩,
  Cond.sameMethod "java/lang/AbstractStringBuilde\x72" "java/lang/AbstractStringBuilde\x72" "append" "(Ljava/lang/String;)Ljava/lang/AbstractStringBuilder;",
  Cond.superclass "java/lang/StringBuilde\x72" "java/lang/AbstractStringBuilde\x72",
  Cond.instanceMethod ⟨"java/lang/AbstractStringBuilde\x72", "append", "(Ljava/lang/String;)Ljava/lang/AbstractStringBuilder;"⟩,
  Cond.code ⟨"java/lang/AbstractStringBuilde\x72", "length", "()I"⟩ prog_17_method_6_code 1 (Option.some FieldType.int),
  Cond.methodLink "java/lang/StringBuilde\x72" 343 ⟨"java/lang/AbstractStringBuilde\x72", "length", "()I"⟩,
  Cond.sameMethod "java/lang/AbstractStringBuilde\x72" "java/lang/AbstractStringBuilde\x72" "length" "()I",
  Cond.instanceMethod ⟨"java/lang/AbstractStringBuilde\x72", "length", "()I"⟩,
  Cond.code ⟨"java/lang/AbstractStringBuilde\x72", "getValue", "()[B"⟩ prog_17_method_64_code 1 (Option.some (FieldType.array FieldType.byte)),
  Cond.methodLink "java/lang/String" 552 ⟨"java/lang/AbstractStringBuilde\x72", "getValue", "()[B"⟩,
  Cond.sameMethod "java/lang/AbstractStringBuilde\x72" "java/lang/AbstractStringBuilde\x72" "getValue" "()[B",
  Cond.selects "java/lang/StringBuilde\x72" ⟨"java/lang/AbstractStringBuilde\x72", "getValue", "()[B"⟩ ⟨"java/lang/AbstractStringBuilde\x72", "getValue", "()[B"⟩,
  Cond.instanceMethod ⟨"java/lang/AbstractStringBuilde\x72", "getValue", "()[B"⟩,
  Cond.code ⟨"java/lang/StringBuilde\x72", "length", "()I"⟩ prog_31_method_93_code 1 (Option.some FieldType.int),
  Cond.methodLink "java/lang/String" 549 ⟨"java/lang/AbstractStringBuilde\x72", "length", "()I"⟩,
  Cond.selects "java/lang/StringBuilde\x72" ⟨"java/lang/AbstractStringBuilde\x72", "length", "()I"⟩ ⟨"java/lang/StringBuilde\x72", "length", "()I"⟩,
  Cond.instanceMethod ⟨"java/lang/StringBuilde\x72", "length", "()I"⟩,
  Cond.initialized "java/lang/StringBuilde\x72",
  Cond.code ⟨"java/lang/AbstractStringBuilde\x72", "isLatin1", "()Z"⟩ prog_17_method_68_code 1 (Option.some FieldType.boolean),
  Cond.methodLink "java/lang/String" 1047 ⟨"java/lang/AbstractStringBuilde\x72", "isLatin1", "()Z"⟩,
  Cond.sameMethod "java/lang/AbstractStringBuilde\x72" "java/lang/AbstractStringBuilde\x72" "isLatin1" "()Z",
  Cond.selects "java/lang/StringBuilde\x72" ⟨"java/lang/AbstractStringBuilde\x72", "isLatin1", "()Z"⟩ ⟨"java/lang/AbstractStringBuilde\x72", "isLatin1", "()Z"⟩,
  Cond.instanceMethod ⟨"java/lang/AbstractStringBuilde\x72", "isLatin1", "()Z"⟩,
  Cond.methodLink "java/lang/String" 54 ⟨"java/util/Arrays", "copyOfRange", "([BII)[B"⟩,
  Cond.code ⟨"java/lang/String", "<init>", "(Ljava/lang/AbstractStringBuilder;Ljava/lang/Void;)V"⟩ prog_30_method_150_code 5 (Option.none : Option FieldType),
  Cond.methodLink "java/lang/String" 489 ⟨"java/lang/String", "<init>", "(Ljava/lang/AbstractStringBuilder;Ljava/lang/Void;)V"⟩,
  Cond.instanceMethod ⟨"java/lang/String", "<init>", "(Ljava/lang/AbstractStringBuilder;Ljava/lang/Void;)V"⟩,
  Cond.classLink "java/lang/StringBuilde\x72" 18 "java/lang/String",
  Cond.code ⟨"java/lang/String", "<init>", "(Ljava/lang/StringBuilder;)V"⟩ prog_30_method_53_code 2 (Option.none : Option FieldType),
  Cond.methodLink "java/lang/StringBuilde\x72" 137 ⟨"java/lang/String", "<init>", "(Ljava/lang/StringBuilder;)V"⟩,
  Cond.instanceMethod ⟨"java/lang/String", "<init>", "(Ljava/lang/StringBuilder;)V"⟩,
  Cond.classLink "NativeWorksModel" 530 "java/lang/StringBuilde\x72",
  Cond.instantiable "java/lang/StringBuilde\x72" 4,
  Cond.code ⟨"java/lang/StringBuilde\x72", "<init>", "()V"⟩ prog_31_method_1_code 1 (Option.none : Option FieldType),
  Cond.methodLink "NativeWorksModel" 532 ⟨"java/lang/StringBuilde\x72", "<init>", "()V"⟩,
  Cond.instanceMethod ⟨"java/lang/StringBuilde\x72", "<init>", "()V"⟩,
  Cond.code ⟨"java/lang/StringBuilde\x72", "append", "(Ljava/lang/String;)Ljava/lang/StringBuilder;"⟩ prog_31_method_7_code 2 (Option.some (FieldType.object "java/lang/StringBuilde\x72")),
  Cond.methodLink "NativeWorksModel" 533 ⟨"java/lang/StringBuilde\x72", "append", "(Ljava/lang/String;)Ljava/lang/StringBuilder;"⟩,
  Cond.instanceMethod ⟨"java/lang/StringBuilde\x72", "append", "(Ljava/lang/String;)Ljava/lang/StringBuilder;"⟩,
  Cond.selects "java/lang/StringBuilde\x72" ⟨"java/lang/StringBuilde\x72", "append", "(Ljava/lang/String;)Ljava/lang/StringBuilder;"⟩ ⟨"java/lang/StringBuilde\x72", "append", "(Ljava/lang/String;)Ljava/lang/StringBuilder;"⟩,
  Cond.code ⟨"java/lang/StringBuilde\x72", "toString", "()Ljava/lang/String;"⟩ prog_31_method_42_code 1 (Option.some (FieldType.object "java/lang/String")),
  Cond.methodLink "NativeWorksModel" 537 ⟨"java/lang/StringBuilde\x72", "toString", "()Ljava/lang/String;"⟩,
  Cond.instanceMethod ⟨"java/lang/StringBuilde\x72", "toString", "()Ljava/lang/String;"⟩,
  Cond.selects "java/lang/StringBuilde\x72" ⟨"java/lang/StringBuilde\x72", "toString", "()Ljava/lang/String;"⟩ ⟨"java/lang/StringBuilde\x72", "toString", "()Ljava/lang/String;"⟩,
  Cond.classLink "NativeWorksModel" 470 "java/lang/String",
  Cond.code ⟨"NativeWorksModel", "joined", "(Ljava/lang/String;Ljava/lang/String;)Ljava/lang/String;"⟩ prog_14_method_6_code 2 (Option.some (FieldType.object "java/lang/String")),
  Cond.methodLink "NativeWorksModel" 526 ⟨"NativeWorksModel", "joined", "(Ljava/lang/String;Ljava/lang/String;)Ljava/lang/String;"⟩,
  Cond.static ⟨"NativeWorksModel", "joined", "(Ljava/lang/String;Ljava/lang/String;)Ljava/lang/String;"⟩,
  Cond.fieldLink "NativeWorksModel" 18 "NativeWorksModel" "registerName" "[J",
  Cond.fieldLink "NativeWorksModel" 605 "NativeWorksModel" "registers" "I",
  Cond.fieldLink "NativeWorksModel" 25 "NativeWorksModel" "registerCode" "[I",
  Cond.fieldLink "java/lang/Intege\x72" 83 "java/lang/Intege\x72" "DigitOnes" "[B",
  Cond.fieldLink "java/lang/Intege\x72" 87 "java/lang/Intege\x72" "DigitTens" "[B",
  Cond.code ⟨"java/lang/Intege\x72", "stringSize", "(I)I"⟩ prog_25_method_13_code 4 (Option.some FieldType.int),
  Cond.methodLink "java/lang/AbstractStringBuilde\x72" 245 ⟨"java/lang/Intege\x72", "stringSize", "(I)I"⟩,
  Cond.static ⟨"java/lang/Intege\x72", "stringSize", "(I)I"⟩,
  Cond.initialized "java/lang/Intege\x72",
  Cond.methodLink "java/lang/AbstractStringBuilde\x72" 83 ⟨"java/lang/AbstractStringBuilde\x72", "isLatin1", "()Z"⟩,
  Cond.code ⟨"java/lang/Intege\x72", "getChars", "(II[B)I"⟩ prog_25_method_12_code 7 (Option.some FieldType.int),
  Cond.methodLink "java/lang/AbstractStringBuilde\x72" 248 ⟨"java/lang/Intege\x72", "getChars", "(II[B)I"⟩,
  Cond.static ⟨"java/lang/Intege\x72", "getChars", "(II[B)I"⟩,
  Cond.code ⟨"java/lang/AbstractStringBuilde\x72", "append", "(I)Ljava/lang/AbstractStringBuilder;"⟩ prog_17_method_32_code 4 (Option.some (FieldType.object "java/lang/AbstractStringBuilde\x72")),
  Cond.methodLink "java/lang/StringBuilde\x72" 53 ⟨"java/lang/AbstractStringBuilde\x72", "append", "(I)Ljava/lang/AbstractStringBuilder;"⟩,
  Cond.sameMethod "java/lang/AbstractStringBuilde\x72" "java/lang/AbstractStringBuilde\x72" "append" "(I)Ljava/lang/AbstractStringBuilder;",
  Cond.instanceMethod ⟨"java/lang/AbstractStringBuilde\x72", "append", "(I)Ljava/lang/AbstractStringBuilder;"⟩,
  Cond.code ⟨"java/lang/StringBuilde\x72", "append", "(I)Ljava/lang/StringBuilder;"⟩ prog_31_method_15_code 2 (Option.some (FieldType.object "java/lang/StringBuilde\x72")),
  Cond.methodLink "NativeWorksModel" 543 ⟨"java/lang/StringBuilde\x72", "append", "(I)Ljava/lang/StringBuilder;"⟩,
  Cond.instanceMethod ⟨"java/lang/StringBuilde\x72", "append", "(I)Ljava/lang/StringBuilder;"⟩,
  Cond.selects "java/lang/StringBuilde\x72" ⟨"java/lang/StringBuilde\x72", "append", "(I)Ljava/lang/StringBuilder;"⟩ ⟨"java/lang/StringBuilde\x72", "append", "(I)Ljava/lang/StringBuilder;"⟩,
  Cond.code ⟨"NativeWorksModel", "registerNamed", "(Ljava/lang/String;I)V"⟩ prog_14_method_9_code 3 (Option.none : Option FieldType),
  Cond.methodLink "NativeWorksModel" 594 ⟨"NativeWorksModel", "registerNamed", "(Ljava/lang/String;I)V"⟩,
  Cond.instanceMethod ⟨"NativeWorksModel", "registerNamed", "(Ljava/lang/String;I)V"⟩,
  Cond.selects "NativeWorksModel" ⟨"NativeWorksModel", "registerNamed", "(Ljava/lang/String;I)V"⟩ ⟨"NativeWorksModel", "registerNamed", "(Ljava/lang/String;I)V"⟩,
  Cond.code ⟨"NativeWorksModel", "numbered", "(ILjava/lang/String;)Ljava/lang/String;"⟩ prog_14_method_7_code 2 (Option.some (FieldType.object "java/lang/String")),
  Cond.methodLink "NativeWorksModel" 599 ⟨"NativeWorksModel", "numbered", "(ILjava/lang/String;)Ljava/lang/String;"⟩,
  Cond.static ⟨"NativeWorksModel", "numbered", "(ILjava/lang/String;)Ljava/lang/String;"⟩,
  Cond.fieldLink "NativeWorksModel" 258 "NativeWorksModel" "rowOp" "[I",
  Cond.fieldLink "NativeWorksModel" 1075 "NativeWorksModel" "rows" "I",
  Cond.fieldLink "NativeWorksModel" 261 "NativeWorksModel" "rowSizes" "[I",
  Cond.fieldLink "NativeWorksModel" 264 "NativeWorksModel" "rowPattern" "[I",
  Cond.fieldLink "NativeWorksModel" 267 "NativeWorksModel" "rowLead" "[I",
  Cond.fieldLink "NativeWorksModel" 270 "NativeWorksModel" "rowCode" "[I",
  Cond.fieldLink "NativeWorksModel" 273 "NativeWorksModel" "rowTell" "[I",
  Cond.fieldLink "NativeWorksModel" 276 "NativeWorksModel" "rowNumbe\x72" "[I",
  Cond.code ⟨"NativeWorksModel", "row", "(IIIIIII)V"⟩ prog_14_method_102_code 8 (Option.none : Option FieldType),
  Cond.methodLink "NativeWorksModel" 1103 ⟨"NativeWorksModel", "row", "(IIIIIII)V"⟩,
  Cond.instanceMethod ⟨"NativeWorksModel", "row", "(IIIIIII)V"⟩,
  Cond.selects "NativeWorksModel" ⟨"NativeWorksModel", "row", "(IIIIIII)V"⟩ ⟨"NativeWorksModel", "row", "(IIIIIII)V"⟩,
  Cond.code ⟨"NativeWorksModel", "fillRest", "()V"⟩ prog_14_method_104_code 2 (Option.none : Option FieldType),
  Cond.methodLink "NativeWorksModel" 1107 ⟨"NativeWorksModel", "fillRest", "()V"⟩,
  Cond.instanceMethod ⟨"NativeWorksModel", "fillRest", "()V"⟩,
  Cond.selects "NativeWorksModel" ⟨"NativeWorksModel", "fillRest", "()V"⟩ ⟨"NativeWorksModel", "fillRest", "()V"⟩,
  Cond.methodLink "NativeWorksModel" 1 ⟨"java/lang/Object", "<init>", "()V"⟩,
  Cond.constant "NativeWorksModel" 9 65536,
  Cond.fieldLink "NativeWorksModel" 10 "NativeWorksModel" "tape" "[B",
  Cond.fieldLink "NativeWorksModel" 28 "NativeWorksModel" "symbolUnit" "[I",
  Cond.fieldLink "NativeWorksModel" 31 "NativeWorksModel" "isLibrary" "[Z",
  Cond.fieldLink "NativeWorksModel" 35 "NativeWorksModel" "firstItem" "[I",
  Cond.fieldLink "NativeWorksModel" 38 "NativeWorksModel" "firstSymbol" "[I",
  Cond.fieldLink "NativeWorksModel" 41 "NativeWorksModel" "firstWait" "[I",
  Cond.fieldLink "NativeWorksModel" 44 "NativeWorksModel" "sectionSize" "[I",
  Cond.fieldLink "NativeWorksModel" 47 "NativeWorksModel" "kept" "[Z",
  Cond.fieldLink "NativeWorksModel" 50 "NativeWorksModel" "faultUnit" "I",
  Cond.constant "NativeWorksModel" 54 129024,
  Cond.fieldLink "NativeWorksModel" 55 "NativeWorksModel" "pool" "[B",
  Cond.fieldLink "NativeWorksModel" 58 "NativeWorksModel" "nameAt" "[I",
  Cond.fieldLink "NativeWorksModel" 61 "NativeWorksModel" "nameLength" "[I",
  Cond.fieldLink "NativeWorksModel" 64 "NativeWorksModel" "nameSum" "[J",
  Cond.fieldLink "NativeWorksModel" 67 "NativeWorksModel" "labelItem" "[I",
  Cond.fieldLink "NativeWorksModel" 70 "NativeWorksModel" "isConstant" "[Z",
  Cond.fieldLink "NativeWorksModel" 73 "NativeWorksModel" "isUsed" "[Z",
  Cond.fieldLink "NativeWorksModel" 76 "NativeWorksModel" "isGlobal" "[Z",
  Cond.fieldLink "NativeWorksModel" 79 "NativeWorksModel" "isWeak" "[Z",
  Cond.fieldLink "NativeWorksModel" 82 "NativeWorksModel" "constant" "[J",
  Cond.fieldLink "NativeWorksModel" 85 "NativeWorksModel" "itemKind" "[B",
  Cond.fieldLink "NativeWorksModel" 88 "NativeWorksModel" "itemSection" "[B",
  Cond.fieldLink "NativeWorksModel" 91 "NativeWorksModel" "itemLine" "[I",
  Cond.fieldLink "NativeWorksModel" 94 "NativeWorksModel" "itemSize" "[I",
  Cond.fieldLink "NativeWorksModel" 97 "NativeWorksModel" "itemOffset" "[I",
  Cond.fieldLink "NativeWorksModel" 100 "NativeWorksModel" "itemData" "[I",
  Cond.fieldLink "NativeWorksModel" 103 "NativeWorksModel" "itemShape" "[J",
  Cond.fieldLink "NativeWorksModel" 106 "NativeWorksModel" "itemDisplacement" "[I",
  Cond.fieldLink "NativeWorksModel" 109 "NativeWorksModel" "itemNumbe\x72" "[J",
  Cond.constant "NativeWorksModel" 112 132172,
  Cond.fieldLink "NativeWorksModel" 113 "NativeWorksModel" "data" "[B",
  Cond.fieldLink "NativeWorksModel" 116 "NativeWorksModel" "waitItem" "[I",
  Cond.fieldLink "NativeWorksModel" 119 "NativeWorksModel" "waitAt" "[I",
  Cond.fieldLink "NativeWorksModel" 122 "NativeWorksModel" "waitPlus" "[I",
  Cond.fieldLink "NativeWorksModel" 125 "NativeWorksModel" "waitMinus" "[I",
  Cond.fieldLink "NativeWorksModel" 128 "NativeWorksModel" "waitSize" "[B",
  Cond.fieldLink "NativeWorksModel" 131 "NativeWorksModel" "waitWhat" "[B",
  Cond.fieldLink "NativeWorksModel" 134 "NativeWorksModel" "waitConstant" "[J",
  Cond.fieldLink "NativeWorksModel" 137 "NativeWorksModel" "line" "[B",
  Cond.fieldLink "NativeWorksModel" 140 "NativeWorksModel" "frameKind" "[I",
  Cond.fieldLink "NativeWorksModel" 143 "NativeWorksModel" "frameStop" "[I",
  Cond.fieldLink "NativeWorksModel" 146 "NativeWorksModel" "frameStopLine" "[I",
  Cond.fieldLink "NativeWorksModel" 149 "NativeWorksModel" "frameBody" "[I",
  Cond.fieldLink "NativeWorksModel" 152 "NativeWorksModel" "frameBodyLine" "[I",
  Cond.fieldLink "NativeWorksModel" 155 "NativeWorksModel" "frameLeft" "[I",
  Cond.fieldLink "NativeWorksModel" 158 "NativeWorksModel" "frameOwn" "[I",
  Cond.fieldLink "NativeWorksModel" 161 "NativeWorksModel" "frameMacro" "[I",
  Cond.fieldLink "NativeWorksModel" 164 "NativeWorksModel" "frameNumbe\x72" "[I",
  Cond.fieldLink "NativeWorksModel" 167 "NativeWorksModel" "frameElse" "[Z",
  Cond.classLink "NativeWorksModel" 170 "[[B",
  Cond.fieldLink "NativeWorksModel" 172 "NativeWorksModel" "argument" "[[B",
  Cond.classLink "NativeWorksModel" 175 "[[I",
  Cond.fieldLink "NativeWorksModel" 177 "NativeWorksModel" "argumentAt" "[[I",
  Cond.fieldLink "NativeWorksModel" 180 "NativeWorksModel" "arguments" "[I",
  Cond.fieldLink "NativeWorksModel" 183 "NativeWorksModel" "macroName" "[I",
  Cond.fieldLink "NativeWorksModel" 186 "NativeWorksModel" "macroLength" "[I",
  Cond.fieldLink "NativeWorksModel" 189 "NativeWorksModel" "macroParameters" "[I",
  Cond.fieldLink "NativeWorksModel" 192 "NativeWorksModel" "macroBody" "[I",
  Cond.fieldLink "NativeWorksModel" 195 "NativeWorksModel" "macroBodyLine" "[I",
  Cond.fieldLink "NativeWorksModel" 198 "NativeWorksModel" "macroEnd" "[I",
  Cond.fieldLink "NativeWorksModel" 201 "NativeWorksModel" "macroEndLine" "[I",
  Cond.fieldLink "NativeWorksModel" 204 "NativeWorksModel" "token" "[I",
  Cond.fieldLink "NativeWorksModel" 207 "NativeWorksModel" "tokenStart" "[I",
  Cond.fieldLink "NativeWorksModel" 210 "NativeWorksModel" "tokenLength" "[I",
  Cond.fieldLink "NativeWorksModel" 213 "NativeWorksModel" "tokenValue" "[J",
  Cond.fieldLink "NativeWorksModel" 216 "NativeWorksModel" "name" "[B",
  Cond.fieldLink "NativeWorksModel" 219 "NativeWorksModel" "value" "[J",
  Cond.fieldLink "NativeWorksModel" 222 "NativeWorksModel" "plus" "[I",
  Cond.fieldLink "NativeWorksModel" 225 "NativeWorksModel" "minus" "[I",
  Cond.fieldLink "NativeWorksModel" 228 "NativeWorksModel" "operato\x72" "[I",
  Cond.fieldLink "NativeWorksModel" 231 "NativeWorksModel" "piece" "[I",
  Cond.fieldLink "NativeWorksModel" 234 "NativeWorksModel" "spanPlus" "[I",
  Cond.fieldLink "NativeWorksModel" 237 "NativeWorksModel" "spanMinus" "[I",
  Cond.fieldLink "NativeWorksModel" 240 "NativeWorksModel" "spanLine" "[I",
  Cond.fieldLink "NativeWorksModel" 243 "NativeWorksModel" "kind" "[I",
  Cond.fieldLink "NativeWorksModel" 246 "NativeWorksModel" "registe\x72" "[I",
  Cond.fieldLink "NativeWorksModel" 249 "NativeWorksModel" "told" "[I",
  Cond.fieldLink "NativeWorksModel" 252 "NativeWorksModel" "from" "[I",
  Cond.fieldLink "NativeWorksModel" 255 "NativeWorksModel" "to" "[I",
  Cond.fieldLink "NativeWorksModel" 279 "NativeWorksModel" "best" "[B",
  Cond.fieldLink "NativeWorksModel" 282 "NativeWorksModel" "trial" "[B",
  Cond.fieldLink "NativeWorksModel" 285 "NativeWorksModel" "termRegiste\x72" "[I",
  Cond.fieldLink "NativeWorksModel" 288 "NativeWorksModel" "termScale" "[I",
  Cond.classLink "NativeWorksModel" 291 "NativeWorksModel$Code",
  Cond.instantiable "NativeWorksModel$Code" 13,
  Cond.initialized "NativeWorksModel$Code",
  Cond.code ⟨"NativeWorksModel$Code", "<init>", "()V"⟩ prog_15_method_1_code 1 (Option.none : Option FieldType),
  Cond.instanceMethod ⟨"NativeWorksModel$Code", "<init>", "()V"⟩,
  Cond.fieldLink "NativeWorksModel" 294 "NativeWorksModel" "image" "LNativeWorksModel$Code;",
  Cond.fieldLink "NativeWorksModel" 298 "NativeWorksModel" "code" "LNativeWorksModel$Code;",
  Cond.constant "NativeWorksModel" 301 131072,
  Cond.fieldLink "NativeWorksModel" 302 "NativeWorksModel" "imageBytes" "[B",
  Cond.fieldLink "NativeWorksModel" 305 "NativeWorksModel" "taken" "[Z",
  Cond.fieldLink "NativeWorksModel" 308 "NativeWorksModel" "needed" "[Z",
  Cond.fieldLink "NativeWorksModel" 311 "NativeWorksModel" "addressOf" "[I",
  Cond.fieldLink "NativeWorksModel" 314 "NativeWorksModel" "imagePool" "[B",
  Cond.fieldLink "NativeWorksModel" 317 "NativeWorksModel" "imageNameAt" "[I",
  Cond.fieldLink "NativeWorksModel" 320 "NativeWorksModel" "imageNameLength" "[I",
  Cond.fieldLink "NativeWorksModel" 323 "NativeWorksModel" "imageNameAddress" "[I",
  Cond.fieldLink "NativeWorksModel" 326 "NativeWorksModel" "memory" "[B",
  Cond.fieldLink "NativeWorksModel" 329 "NativeWorksModel" "heap" "[B",
  Cond.fieldLink "NativeWorksModel" 332 "NativeWorksModel" "stack" "[B",
  Cond.fieldLink "NativeWorksModel" 335 "NativeWorksModel" "given" "[B",
  Cond.fieldLink "NativeWorksModel" 338 "NativeWorksModel" "shown" "[B",
  Cond.fieldLink "NativeWorksModel" 341 "NativeWorksModel" "registers0" "[J",
  Cond.fieldLink "NativeWorksModel" 344 "NativeWorksModel" "kept0" "[J",
  Cond.fieldLink "NativeWorksModel" 347 "NativeWorksModel" "places" "[J",
  Cond.code ⟨"NativeWorksModel", "wordsOf", "(Ljava/lang/String;I)V"⟩ prog_14_method_3_code 6 (Option.none : Option FieldType),
  Cond.methodLink "NativeWorksModel" 352 ⟨"NativeWorksModel", "wordsOf", "(Ljava/lang/String;I)V"⟩,
  Cond.instanceMethod ⟨"NativeWorksModel", "wordsOf", "(Ljava/lang/String;I)V"⟩,
  Cond.selects "NativeWorksModel" ⟨"NativeWorksModel", "wordsOf", "(Ljava/lang/String;I)V"⟩ ⟨"NativeWorksModel", "wordsOf", "(Ljava/lang/String;I)V"⟩,
  Cond.code ⟨"NativeWorksModel", "conditions", "(Ljava/lang/String;I)V"⟩ prog_14_method_5_code 5 (Option.none : Option FieldType),
  Cond.methodLink "NativeWorksModel" 360 ⟨"NativeWorksModel", "conditions", "(Ljava/lang/String;I)V"⟩,
  Cond.instanceMethod ⟨"NativeWorksModel", "conditions", "(Ljava/lang/String;I)V"⟩,
  Cond.selects "NativeWorksModel" ⟨"NativeWorksModel", "conditions", "(Ljava/lang/String;I)V"⟩ ⟨"NativeWorksModel", "conditions", "(Ljava/lang/String;I)V"⟩,
  Cond.constant "NativeWorksModel" 369 262181,
  Cond.constant "NativeWorksModel" 375 524325,
  Cond.constant "NativeWorksModel" 378 262182,
  Cond.constant "NativeWorksModel" 381 524326,
  Cond.constant "NativeWorksModel" 386 65586,
  Cond.constant "NativeWorksModel" 389 262194,
  Cond.constant "NativeWorksModel" 392 524338,
  Cond.constant "NativeWorksModel" 395 65587,
  Cond.constant "NativeWorksModel" 398 262195,
  Cond.constant "NativeWorksModel" 401 524339,
  Cond.code ⟨"NativeWorksModel", "registerNames", "()V"⟩ prog_14_method_8_code 5 (Option.none : Option FieldType),
  Cond.methodLink "NativeWorksModel" 414 ⟨"NativeWorksModel", "registerNames", "()V"⟩,
  Cond.instanceMethod ⟨"NativeWorksModel", "registerNames", "()V"⟩,
  Cond.selects "NativeWorksModel" ⟨"NativeWorksModel", "registerNames", "()V"⟩ ⟨"NativeWorksModel", "registerNames", "()V"⟩,
  Cond.fieldLink "NativeWorksModel" 423 "NativeWorksModel" "textWord" "J",
  Cond.fieldLink "NativeWorksModel" 429 "NativeWorksModel" "rodataWord" "J",
  Cond.fieldLink "NativeWorksModel" 433 "NativeWorksModel" "dataWord" "J",
  Cond.fieldLink "NativeWorksModel" 438 "NativeWorksModel" "bssWord" "J",
  Cond.fieldLink "NativeWorksModel" 441 "NativeWorksModel" "byteWord" "J",
  Cond.fieldLink "NativeWorksModel" 444 "NativeWorksModel" "dwordWord" "J",
  Cond.fieldLink "NativeWorksModel" 447 "NativeWorksModel" "qwordWord" "J",
  Cond.fieldLink "NativeWorksModel" 450 "NativeWorksModel" "relWord" "J",
  Cond.fieldLink "NativeWorksModel" 453 "NativeWorksModel" "equWord" "J",
  Cond.fieldLink "NativeWorksModel" 458 "NativeWorksModel" "repWord" "J",
  Cond.fieldLink "NativeWorksModel" 463 "NativeWorksModel" "startWord" "J",
  Cond.code ⟨"NativeWorksModel", "fillTable", "()V"⟩ prog_14_method_103_code 3 (Option.none : Option FieldType),
  Cond.methodLink "NativeWorksModel" 466 ⟨"NativeWorksModel", "fillTable", "()V"⟩,
  Cond.instanceMethod ⟨"NativeWorksModel", "fillTable", "()V"⟩,
  Cond.selects "NativeWorksModel" ⟨"NativeWorksModel", "fillTable", "()V"⟩ ⟨"NativeWorksModel", "fillTable", "()V"⟩]
def rTs : List Cond := rBase ++ (u_ws RJ0 TJ0 4 ++ (u_ws RJ4 TJ4 4 ++ (u_ws RX0 TX0 15 ++ (u_ws RX1 TX1 11 ++ (u_ws RX2 TX2 21 ++ (u_ws RX3 TX3 10 ++ (u_ws RX4 TX4 18 ++ (u_ws RX5 TX5 17 ++ (u_ws RX6 TX6 12 ++ (u_ws RX7 TX7 6 ++ (u_ws RX8 TX8 20 ++ (u_ws RX9 TX9 14 ++ (u_ws RX10 TX10 19 ++ (u_ws RX11 TX11 9 ++ (u_ws RX12 TX12 13 ++ (u_ws RX13 TX13 205))))))))))))))))
theorem kMem {w : Cond} (i : Nat) (h : rBase[i]? = some w) : w ∈ rTs := List.mem_append_left _ (List.mem_of_getElem? h)
theorem inJ0 : ∀ w ∈ u_ws RJ0 TJ0 4, w ∈ rTs := fun _ h => List.mem_append_right _ (List.mem_append_left _ h)
theorem kc0 : vwCl[0]? = some (RJ0, TJ0, 4) := rfl
theorem inJ4 : ∀ w ∈ u_ws RJ4 TJ4 4, w ∈ rTs := fun _ h => List.mem_append_right _ (List.mem_append_right _ (List.mem_append_left _ h))
theorem kc1 : vwCl[1]? = some (RJ4, TJ4, 4) := rfl
theorem inX0 : ∀ w ∈ u_ws RX0 TX0 15, w ∈ rTs := fun _ h => List.mem_append_right _ (List.mem_append_right _ (List.mem_append_right _ (List.mem_append_left _ h)))
theorem kc2 : vwCl[2]? = some (RX0, TX0, 15) := rfl
theorem inX1 : ∀ w ∈ u_ws RX1 TX1 11, w ∈ rTs := fun _ h => List.mem_append_right _ (List.mem_append_right _ (List.mem_append_right _ (List.mem_append_right _ (List.mem_append_left _ h))))
theorem kc3 : vwCl[3]? = some (RX1, TX1, 11) := rfl
theorem inX2 : ∀ w ∈ u_ws RX2 TX2 21, w ∈ rTs := fun _ h => List.mem_append_right _ (List.mem_append_right _ (List.mem_append_right _ (List.mem_append_right _ (List.mem_append_right _ (List.mem_append_left _ h)))))
theorem kc4 : vwCl[4]? = some (RX2, TX2, 21) := rfl
theorem inX3 : ∀ w ∈ u_ws RX3 TX3 10, w ∈ rTs := fun _ h => List.mem_append_right _ (List.mem_append_right _ (List.mem_append_right _ (List.mem_append_right _ (List.mem_append_right _ (List.mem_append_right _ (List.mem_append_left _ h))))))
theorem kc5 : vwCl[5]? = some (RX3, TX3, 10) := rfl
theorem inX4 : ∀ w ∈ u_ws RX4 TX4 18, w ∈ rTs := fun _ h => List.mem_append_right _ (List.mem_append_right _ (List.mem_append_right _ (List.mem_append_right _ (List.mem_append_right _ (List.mem_append_right _ (List.mem_append_right _ (List.mem_append_left _ h)))))))
theorem kc6 : vwCl[6]? = some (RX4, TX4, 18) := rfl
theorem inX5 : ∀ w ∈ u_ws RX5 TX5 17, w ∈ rTs := fun _ h => List.mem_append_right _ (List.mem_append_right _ (List.mem_append_right _ (List.mem_append_right _ (List.mem_append_right _ (List.mem_append_right _ (List.mem_append_right _ (List.mem_append_right _ (List.mem_append_left _ h))))))))
theorem kc7 : vwCl[7]? = some (RX5, TX5, 17) := rfl
theorem inX6 : ∀ w ∈ u_ws RX6 TX6 12, w ∈ rTs := fun _ h => List.mem_append_right _ (List.mem_append_right _ (List.mem_append_right _ (List.mem_append_right _ (List.mem_append_right _ (List.mem_append_right _ (List.mem_append_right _ (List.mem_append_right _ (List.mem_append_right _ (List.mem_append_left _ h)))))))))
theorem kc8 : vwCl[8]? = some (RX6, TX6, 12) := rfl
theorem inX7 : ∀ w ∈ u_ws RX7 TX7 6, w ∈ rTs := fun _ h => List.mem_append_right _ (List.mem_append_right _ (List.mem_append_right _ (List.mem_append_right _ (List.mem_append_right _ (List.mem_append_right _ (List.mem_append_right _ (List.mem_append_right _ (List.mem_append_right _ (List.mem_append_right _ (List.mem_append_left _ h))))))))))
theorem kc9 : vwCl[9]? = some (RX7, TX7, 6) := rfl
theorem inX8 : ∀ w ∈ u_ws RX8 TX8 20, w ∈ rTs := fun _ h => List.mem_append_right _ (List.mem_append_right _ (List.mem_append_right _ (List.mem_append_right _ (List.mem_append_right _ (List.mem_append_right _ (List.mem_append_right _ (List.mem_append_right _ (List.mem_append_right _ (List.mem_append_right _ (List.mem_append_right _ (List.mem_append_left _ h)))))))))))
theorem kc10 : vwCl[10]? = some (RX8, TX8, 20) := rfl
theorem inX9 : ∀ w ∈ u_ws RX9 TX9 14, w ∈ rTs := fun _ h => List.mem_append_right _ (List.mem_append_right _ (List.mem_append_right _ (List.mem_append_right _ (List.mem_append_right _ (List.mem_append_right _ (List.mem_append_right _ (List.mem_append_right _ (List.mem_append_right _ (List.mem_append_right _ (List.mem_append_right _ (List.mem_append_right _ (List.mem_append_left _ h))))))))))))
theorem kc11 : vwCl[11]? = some (RX9, TX9, 14) := rfl
theorem inX10 : ∀ w ∈ u_ws RX10 TX10 19, w ∈ rTs := fun _ h => List.mem_append_right _ (List.mem_append_right _ (List.mem_append_right _ (List.mem_append_right _ (List.mem_append_right _ (List.mem_append_right _ (List.mem_append_right _ (List.mem_append_right _ (List.mem_append_right _ (List.mem_append_right _ (List.mem_append_right _ (List.mem_append_right _ (List.mem_append_right _ (List.mem_append_left _ h)))))))))))))
theorem kc12 : vwCl[12]? = some (RX10, TX10, 19) := rfl
theorem inX11 : ∀ w ∈ u_ws RX11 TX11 9, w ∈ rTs := fun _ h => List.mem_append_right _ (List.mem_append_right _ (List.mem_append_right _ (List.mem_append_right _ (List.mem_append_right _ (List.mem_append_right _ (List.mem_append_right _ (List.mem_append_right _ (List.mem_append_right _ (List.mem_append_right _ (List.mem_append_right _ (List.mem_append_right _ (List.mem_append_right _ (List.mem_append_right _ (List.mem_append_left _ h))))))))))))))
theorem kc13 : vwCl[13]? = some (RX11, TX11, 9) := rfl
theorem inX12 : ∀ w ∈ u_ws RX12 TX12 13, w ∈ rTs := fun _ h => List.mem_append_right _ (List.mem_append_right _ (List.mem_append_right _ (List.mem_append_right _ (List.mem_append_right _ (List.mem_append_right _ (List.mem_append_right _ (List.mem_append_right _ (List.mem_append_right _ (List.mem_append_right _ (List.mem_append_right _ (List.mem_append_right _ (List.mem_append_right _ (List.mem_append_right _ (List.mem_append_right _ (List.mem_append_left _ h)))))))))))))))
theorem kc14 : vwCl[14]? = some (RX12, TX12, 13) := rfl
theorem inX13 : ∀ w ∈ u_ws RX13 TX13 205, w ∈ rTs := fun _ h => List.mem_append_right _ (List.mem_append_right _ (List.mem_append_right _ (List.mem_append_right _ (List.mem_append_right _ (List.mem_append_right _ (List.mem_append_right _ (List.mem_append_right _ (List.mem_append_right _ (List.mem_append_right _ (List.mem_append_right _ (List.mem_append_right _ (List.mem_append_right _ (List.mem_append_right _ (List.mem_append_right _ (List.mem_append_right _ (h))))))))))))))))
theorem kc15 : vwCl[15]? = some (RX13, TX13, 205) := rfl
set_option maxRecDepth 100000 in
theorem kw0 : Cond.code ⟨"java/lang/Object", "<init>", "()V"⟩ object_method_1_code 1 (Option.none : Option FieldType) ∈ rTs := kMem 0 rfl
set_option maxRecDepth 100000 in
theorem kw1 : Cond.methodLink "NativeWorks$Names" 3 ⟨"java/lang/Object", "<init>", "()V"⟩ ∈ rTs := kMem 1 rfl
set_option maxRecDepth 100000 in
theorem kw2 : Cond.instanceMethod ⟨"java/lang/Object", "<init>", "()V"⟩ ∈ rTs := kMem 2 rfl
set_option maxRecDepth 100000 in
theorem kw3 : Cond.arrayClass FieldType.byte ∈ rTs := kMem 3 rfl
set_option maxRecDepth 100000 in
theorem kw4 : Cond.fieldLink "NativeWorks$Names" 9 "NativeWorks$Names" "letters" "[B" ∈ rTs := kMem 4 rfl
set_option maxRecDepth 100000 in
theorem kw5 : Cond.arrayClass FieldType.int ∈ rTs := kMem 5 rfl
set_option maxRecDepth 100000 in
theorem kw6 : Cond.fieldLink "NativeWorks$Names" 15 "NativeWorks$Names" "from" "[I" ∈ rTs := kMem 6 rfl
set_option maxRecDepth 100000 in
theorem kw7 : Cond.fieldLink "NativeWorks$Names" 19 "NativeWorks$Names" "olde\x72" "[I" ∈ rTs := kMem 7 rfl
set_option maxRecDepth 100000 in
theorem kw8 : Cond.fieldLink "NativeWorks$Names" 22 "NativeWorks$Names" "slot" "[I" ∈ rTs := kMem 8 rfl
set_option maxRecDepth 100000 in
theorem kw9 : Cond.fieldLink "NativeWorks$Names" 25 "NativeWorks$Names" "newest" "[I" ∈ rTs := kMem 9 rfl
set_option maxRecDepth 100000 in
theorem kw10 : Cond.code ⟨"java/util/Arrays", "fill", "([II)V"⟩ prog_38_method_103_code 4 (Option.none : Option FieldType) ∈ rTs := kMem 10 rfl
set_option maxRecDepth 100000 in
theorem kw11 : Cond.methodLink "NativeWorks$Names" 28 ⟨"java/util/Arrays", "fill", "([II)V"⟩ ∈ rTs := kMem 11 rfl
set_option maxRecDepth 100000 in
theorem kw12 : Cond.static ⟨"java/util/Arrays", "fill", "([II)V"⟩ ∈ rTs := kMem 12 rfl
set_option maxRecDepth 100000 in
theorem kw13 : Cond.initialized "java/util/Arrays" ∈ rTs := kMem 13 rfl
set_option maxRecDepth 100000 in
theorem kw14 : Cond.fieldLink "NativeWorks$Names" 34 "NativeWorks$Names" "count" "I" ∈ rTs := kMem 14 rfl
set_option maxRecDepth 100000 in
theorem kw15 : Cond.methodLink "NativeWorks$Units" 3 ⟨"java/lang/Object", "<init>", "()V"⟩ ∈ rTs := kMem 15 rfl
set_option maxRecDepth 100000 in
theorem kw16 : Cond.classLink "NativeWorks$Units" 9 "NativeWorks$Names" ∈ rTs := kMem 16 rfl
set_option maxRecDepth 100000 in
theorem kw17 : Cond.instantiable "NativeWorks$Names" 6 ∈ rTs := kMem 17 rfl
set_option maxRecDepth 100000 in
theorem kw18 : Cond.initialized "NativeWorks$Names" ∈ rTs := kMem 18 rfl
set_option maxRecDepth 100000 in
theorem kw19 : Cond.constant "NativeWorks$Units" 13 (nI 129024) ∈ rTs := kMem 19 (by decide +kernel)
set_option maxRecDepth 100000 in
theorem kw20 : Cond.code ⟨"NativeWorks$Names", "<init>", "(II)V"⟩ prog_9_method_1_code 3 (Option.none : Option FieldType) ∈ rTs := kMem 20 rfl
set_option maxRecDepth 100000 in
theorem kw21 : Cond.methodLink "NativeWorks$Units" 14 ⟨"NativeWorks$Names", "<init>", "(II)V"⟩ ∈ rTs := kMem 21 rfl
set_option maxRecDepth 100000 in
theorem kw22 : Cond.instanceMethod ⟨"NativeWorks$Names", "<init>", "(II)V"⟩ ∈ rTs := kMem 22 rfl
set_option maxRecDepth 100000 in
theorem kw23 : Cond.fieldLink "NativeWorks$Units" 17 "NativeWorks$Units" "names" "LNativeWorks$Names;" ∈ rTs := kMem 23 rfl
set_option maxRecDepth 100000 in
theorem kw24 : Cond.classLink "NativeWorks$Units" 21 "[[I" ∈ rTs := kMem 24 rfl
set_option maxRecDepth 100000 in
theorem kw25 : Cond.fieldLink "NativeWorks$Units" 23 "NativeWorks$Units" "symbols" "[[I" ∈ rTs := kMem 25 rfl
set_option maxRecDepth 100000 in
theorem kw26 : Cond.arrayClass FieldType.long ∈ rTs := kMem 26 rfl
set_option maxRecDepth 100000 in
theorem kw27 : Cond.fieldLink "NativeWorks$Units" 26 "NativeWorks$Units" "constants" "[J" ∈ rTs := kMem 27 rfl
set_option maxRecDepth 100000 in
theorem kw28 : Cond.fieldLink "NativeWorks$Units" 30 "NativeWorks$Units" "labels" "[I" ∈ rTs := kMem 28 rfl
set_option maxRecDepth 100000 in
theorem kw29 : Cond.fieldLink "NativeWorks$Units" 34 "NativeWorks$Units" "statements" "[[I" ∈ rTs := kMem 29 rfl
set_option maxRecDepth 100000 in
theorem kw30 : Cond.fieldLink "NativeWorks$Units" 37 "NativeWorks$Units" "waits" "[[I" ∈ rTs := kMem 30 rfl
set_option maxRecDepth 100000 in
theorem kw31 : Cond.fieldLink "NativeWorks$Units" 40 "NativeWorks$Units" "waitNumbers" "[J" ∈ rTs := kMem 31 rfl
set_option maxRecDepth 100000 in
theorem kw32 : Cond.constant "NativeWorks$Units" 43 (nI 131072) ∈ rTs := kMem 32 (by decide +kernel)
set_option maxRecDepth 100000 in
theorem kw33 : Cond.fieldLink "NativeWorks$Units" 44 "NativeWorks$Units" "put" "[B" ∈ rTs := kMem 33 rfl
set_option maxRecDepth 100000 in
theorem kw34 : Cond.fieldLink "NativeWorks$Units" 48 "NativeWorks$Units" "bytes" "[B" ∈ rTs := kMem 34 rfl
set_option maxRecDepth 100000 in
theorem kw35 : Cond.fieldLink "NativeWorks$Units" 51 "NativeWorks$Units" "rows" "[[I" ∈ rTs := kMem 35 rfl
set_option maxRecDepth 100000 in
theorem kw36 : Cond.fieldLink "NativeWorks$Units" 54 "NativeWorks$Units" "ends" "[I" ∈ rTs := kMem 36 rfl
set_option maxRecDepth 100000 in
theorem kw37 : Cond.fieldLink "java/lang/String" 38 "java/lang/String" "COMPACT_STRINGS" "Z" ∈ rTs := kMem 37 rfl
set_option maxRecDepth 100000 in
theorem kw38 : Cond.fieldLink "java/lang/String" 15 "java/lang/String" "code\x72" "B" ∈ rTs := kMem 38 rfl
set_option maxRecDepth 100000 in
theorem kw39 : Cond.fieldLink "java/lang/String" 9 "java/lang/String" "value" "[B" ∈ rTs := kMem 39 rfl
set_option maxRecDepth 100000 in
theorem kw40 : Cond.code ⟨"java/lang/String", "code\x72", "()B"⟩ prog_30_method_152_code 1 (Option.some FieldType.byte) ∈ rTs := kMem 40 rfl
set_option maxRecDepth 100000 in
theorem kw41 : Cond.methodLink "java/lang/String" 335 ⟨"java/lang/String", "code\x72", "()B"⟩ ∈ rTs := kMem 41 rfl
set_option maxRecDepth 100000 in
theorem kw42 : Cond.instanceMethod ⟨"java/lang/String", "code\x72", "()B"⟩ ∈ rTs := kMem 42 rfl
set_option maxRecDepth 100000 in
theorem kw43 : Cond.selects "java/lang/String" ⟨"java/lang/String", "code\x72", "()B"⟩ ⟨"java/lang/String", "code\x72", "()B"⟩ ∈ rTs := kMem 43 rfl
set_option maxRecDepth 100000 in
theorem kw44 : Cond.initialized "java/lang/String" ∈ rTs := kMem 44 rfl
set_option maxRecDepth 100000 in
theorem kw45 : Cond.fieldLink "java/lang/String" 1053 "jdk/internal/util/Preconditions" "SIOOBE_FORMATTER" "Ljava/util/function/BiFunction;" ∈ rTs := kMem 45 rfl
set_option maxRecDepth 100000 in
theorem kw46 : Cond.code ⟨"jdk/internal/util/Preconditions", "checkIndex", "(IILjava/util/function/BiFunction;)I"⟩ prog_41_method_11_code 3 (Option.some FieldType.int) ∈ rTs := kMem 46 rfl
set_option maxRecDepth 100000 in
theorem kw47 : Cond.methodLink "java/lang/String" 1059 ⟨"jdk/internal/util/Preconditions", "checkIndex", "(IILjava/util/function/BiFunction;)I"⟩ ∈ rTs := kMem 47 rfl
set_option maxRecDepth 100000 in
theorem kw48 : Cond.static ⟨"jdk/internal/util/Preconditions", "checkIndex", "(IILjava/util/function/BiFunction;)I"⟩ ∈ rTs := kMem 48 rfl
set_option maxRecDepth 100000 in
theorem kw49 : Cond.initialized "jdk/internal/util/Preconditions" ∈ rTs := kMem 49 rfl
set_option maxRecDepth 100000 in
theorem kw50 : Cond.code ⟨"java/lang/String", "checkIndex", "(II)V"⟩ prog_30_method_155_code 2 (Option.none : Option FieldType) ∈ rTs := kMem 50 rfl
set_option maxRecDepth 100000 in
theorem kw51 : Cond.methodLink "java/lang/StringLatin1" 9 ⟨"java/lang/String", "checkIndex", "(II)V"⟩ ∈ rTs := kMem 51 rfl
set_option maxRecDepth 100000 in
theorem kw52 : Cond.static ⟨"java/lang/String", "checkIndex", "(II)V"⟩ ∈ rTs := kMem 52 rfl
set_option maxRecDepth 100000 in
theorem kw53 : Cond.code ⟨"java/lang/String", "isLatin1", "()Z"⟩ prog_30_method_154_code 1 (Option.some FieldType.boolean) ∈ rTs := kMem 53 rfl
set_option maxRecDepth 100000 in
theorem kw54 : Cond.methodLink "java/lang/String" 492 ⟨"java/lang/String", "isLatin1", "()Z"⟩ ∈ rTs := kMem 54 rfl
set_option maxRecDepth 100000 in
theorem kw55 : Cond.instanceMethod ⟨"java/lang/String", "isLatin1", "()Z"⟩ ∈ rTs := kMem 55 rfl
set_option maxRecDepth 100000 in
theorem kw56 : Cond.selects "java/lang/String" ⟨"java/lang/String", "isLatin1", "()Z"⟩ ⟨"java/lang/String", "isLatin1", "()Z"⟩ ∈ rTs := kMem 56 rfl
set_option maxRecDepth 100000 in
theorem kw57 : Cond.code ⟨"java/lang/StringLatin1", "charAt", "([BI)C"⟩ prog_32_method_2_code 2 (Option.some FieldType.char) ∈ rTs := kMem 57 rfl
set_option maxRecDepth 100000 in
theorem kw58 : Cond.methodLink "java/lang/String" 495 ⟨"java/lang/StringLatin1", "charAt", "([BI)C"⟩ ∈ rTs := kMem 58 rfl
set_option maxRecDepth 100000 in
theorem kw59 : Cond.static ⟨"java/lang/StringLatin1", "charAt", "([BI)C"⟩ ∈ rTs := kMem 59 rfl
set_option maxRecDepth 100000 in
theorem kw60 : Cond.initialized "java/lang/StringLatin1" ∈ rTs := kMem 60 rfl
set_option maxRecDepth 100000 in
theorem kw61 : Cond.methodLink "NativeWorks$Names" 38 ⟨"java/lang/System", "arraycopy", "(Ljava/lang/Object;ILjava/lang/Object;II)V"⟩ ∈ rTs := kMem 61 rfl
set_option maxRecDepth 100000 in
theorem kw62 : Cond.native ⟨"java/lang/System", "arraycopy", "(Ljava/lang/Object;ILjava/lang/Object;II)V"⟩ ∈ rTs := kMem 62 rfl
set_option maxRecDepth 100000 in
theorem kw63 : Cond.static ⟨"java/lang/System", "arraycopy", "(Ljava/lang/Object;ILjava/lang/Object;II)V"⟩ ∈ rTs := kMem 63 rfl
set_option maxRecDepth 100000 in
theorem kw64 : Cond.initialized "java/lang/System" ∈ rTs := kMem 64 rfl
set_option maxRecDepth 100000 in
theorem kw65 : Cond.code ⟨"java/lang/String", "length", "()I"⟩ prog_30_method_54_code 1 (Option.some FieldType.int) ∈ rTs := kMem 65 rfl
set_option maxRecDepth 100000 in
theorem kw66 : Cond.methodLink "NativeWorks$Line" 76 ⟨"java/lang/String", "length", "()I"⟩ ∈ rTs := kMem 66 rfl
set_option maxRecDepth 100000 in
theorem kw67 : Cond.instanceMethod ⟨"java/lang/String", "length", "()I"⟩ ∈ rTs := kMem 67 rfl
set_option maxRecDepth 100000 in
theorem kw68 : Cond.selects "java/lang/String" ⟨"java/lang/String", "length", "()I"⟩ ⟨"java/lang/String", "length", "()I"⟩ ∈ rTs := kMem 68 rfl
set_option maxRecDepth 100000 in
theorem kw69 : Cond.fieldLink "NativeWorks$Line" 11 "NativeWorks$Line" "text" "[B" ∈ rTs := kMem 69 rfl
set_option maxRecDepth 100000 in
theorem kw70 : Cond.code ⟨"java/lang/String", "charAt", "(I)C"⟩ prog_30_method_56_code 2 (Option.some FieldType.char) ∈ rTs := kMem 70 rfl
set_option maxRecDepth 100000 in
theorem kw71 : Cond.methodLink "NativeWorks$Line" 82 ⟨"java/lang/String", "charAt", "(I)C"⟩ ∈ rTs := kMem 71 rfl
set_option maxRecDepth 100000 in
theorem kw72 : Cond.instanceMethod ⟨"java/lang/String", "charAt", "(I)C"⟩ ∈ rTs := kMem 72 rfl
set_option maxRecDepth 100000 in
theorem kw73 : Cond.selects "java/lang/String" ⟨"java/lang/String", "charAt", "(I)C"⟩ ⟨"java/lang/String", "charAt", "(I)C"⟩ ∈ rTs := kMem 73 rfl
set_option maxRecDepth 100000 in
theorem kw74 : Cond.fieldLink "NativeWorks$Line" 20 "NativeWorks$Line" "words" "LNativeWorks$Names;" ∈ rTs := kMem 74 rfl
set_option maxRecDepth 100000 in
theorem kw75 : Cond.code ⟨"NativeWorks$Names", "add", "([BII)I"⟩ prog_9_method_3_code 6 (Option.some FieldType.int) ∈ rTs := kMem 75 rfl
set_option maxRecDepth 100000 in
theorem kw76 : Cond.methodLink "NativeWorks$Line" 86 ⟨"NativeWorks$Names", "add", "([BII)I"⟩ ∈ rTs := kMem 76 rfl
set_option maxRecDepth 100000 in
theorem kw77 : Cond.instanceMethod ⟨"NativeWorks$Names", "add", "([BII)I"⟩ ∈ rTs := kMem 77 rfl
set_option maxRecDepth 100000 in
theorem kw78 : Cond.selects "NativeWorks$Names" ⟨"NativeWorks$Names", "add", "([BII)I"⟩ ⟨"NativeWorks$Names", "add", "([BII)I"⟩ ∈ rTs := kMem 78 rfl
set_option maxRecDepth 100000 in
theorem kw79 : Cond.methodLink "NativeWorks$Line" 3 ⟨"java/lang/Object", "<init>", "()V"⟩ ∈ rTs := kMem 79 rfl
set_option maxRecDepth 100000 in
theorem kw80 : Cond.classLink "NativeWorks$Line" 15 "NativeWorks$Names" ∈ rTs := kMem 80 rfl
set_option maxRecDepth 100000 in
theorem kw81 : Cond.methodLink "NativeWorks$Line" 17 ⟨"NativeWorks$Names", "<init>", "(II)V"⟩ ∈ rTs := kMem 81 rfl
set_option maxRecDepth 100000 in
theorem kw82 : Cond.fieldLink "NativeWorks$Line" 24 "NativeWorks$Line" "kind" "[I" ∈ rTs := kMem 82 rfl
set_option maxRecDepth 100000 in
theorem kw83 : Cond.fieldLink "NativeWorks$Line" 28 "NativeWorks$Line" "value" "[J" ∈ rTs := kMem 83 rfl
set_option maxRecDepth 100000 in
theorem kw84 : Cond.fieldLink "NativeWorks$Line" 32 "NativeWorks$Line" "from" "[I" ∈ rTs := kMem 84 rfl
set_option maxRecDepth 100000 in
theorem kw85 : Cond.fieldLink "NativeWorks$Line" 35 "NativeWorks$Line" "to" "[I" ∈ rTs := kMem 85 rfl
set_option maxRecDepth 100000 in
theorem kw86 : Cond.code ⟨"NativeWorks$Line", "teach", "(Ljava/lang/String;)V"⟩ prog_5_method_2_code 4 (Option.none : Option FieldType) ∈ rTs := kMem 86 rfl
set_option maxRecDepth 100000 in
theorem kw87 : Cond.methodLink "NativeWorks$Line" 40 ⟨"NativeWorks$Line", "teach", "(Ljava/lang/String;)V"⟩ ∈ rTs := kMem 87 rfl
set_option maxRecDepth 100000 in
theorem kw88 : Cond.instanceMethod ⟨"NativeWorks$Line", "teach", "(Ljava/lang/String;)V"⟩ ∈ rTs := kMem 88 rfl
set_option maxRecDepth 100000 in
theorem kw89 : Cond.selects "NativeWorks$Line" ⟨"NativeWorks$Line", "teach", "(Ljava/lang/String;)V"⟩ ⟨"NativeWorks$Line", "teach", "(Ljava/lang/String;)V"⟩ ∈ rTs := kMem 89 rfl
set_option maxRecDepth 100000 in
theorem kw90 : Cond.initialized "NativeWorks$Line" ∈ rTs := kMem 90 rfl
set_option maxRecDepth 100000 in
theorem kw91 : Cond.methodLink "NativeWorks$Source" 3 ⟨"java/lang/Object", "<init>", "()V"⟩ ∈ rTs := kMem 91 rfl
set_option maxRecDepth 100000 in
theorem kw92 : Cond.fieldLink "NativeWorks$Source" 9 "NativeWorks$Source" "bytes" "[B" ∈ rTs := kMem 92 rfl
set_option maxRecDepth 100000 in
theorem kw93 : Cond.fieldLink "NativeWorks$Source" 15 "NativeWorks$Source" "words" "LNativeWorks$Names;" ∈ rTs := kMem 93 rfl
set_option maxRecDepth 100000 in
theorem kw94 : Cond.constant "NativeWorks$Source" 19 (nI 65538) ∈ rTs := kMem 94 (by decide +kernel)
set_option maxRecDepth 100000 in
theorem kw95 : Cond.fieldLink "NativeWorks$Source" 20 "NativeWorks$Source" "lineAt" "[I" ∈ rTs := kMem 95 rfl
set_option maxRecDepth 100000 in
theorem kw96 : Cond.constant "NativeWorks$Source" 24 (nI 65537) ∈ rTs := kMem 96 (by decide +kernel)
set_option maxRecDepth 100000 in
theorem kw97 : Cond.fieldLink "NativeWorks$Source" 25 "NativeWorks$Source" "sorts" "[B" ∈ rTs := kMem 97 rfl
set_option maxRecDepth 100000 in
theorem kw98 : Cond.fieldLink "NativeWorks$Source" 28 "NativeWorks$Source" "ifEnds" "[I" ∈ rTs := kMem 98 rfl
set_option maxRecDepth 100000 in
theorem kw99 : Cond.fieldLink "NativeWorks$Source" 31 "NativeWorks$Source" "elses" "[I" ∈ rTs := kMem 99 rfl
set_option maxRecDepth 100000 in
theorem kw100 : Cond.fieldLink "NativeWorks$Source" 34 "NativeWorks$Source" "reptEnds" "[I" ∈ rTs := kMem 100 rfl
set_option maxRecDepth 100000 in
theorem kw101 : Cond.classLink "NativeWorks$Source" 37 "NativeWorks$Names" ∈ rTs := kMem 101 rfl
set_option maxRecDepth 100000 in
theorem kw102 : Cond.constant "NativeWorks$Source" 39 (nI 65536) ∈ rTs := kMem 102 (by decide +kernel)
set_option maxRecDepth 100000 in
theorem kw103 : Cond.methodLink "NativeWorks$Source" 40 ⟨"NativeWorks$Names", "<init>", "(II)V"⟩ ∈ rTs := kMem 103 rfl
set_option maxRecDepth 100000 in
theorem kw104 : Cond.fieldLink "NativeWorks$Source" 43 "NativeWorks$Source" "macros" "LNativeWorks$Names;" ∈ rTs := kMem 104 rfl
set_option maxRecDepth 100000 in
theorem kw105 : Cond.fieldLink "NativeWorks$Source" 46 "NativeWorks$Source" "bodyFrom" "[I" ∈ rTs := kMem 105 rfl
set_option maxRecDepth 100000 in
theorem kw106 : Cond.fieldLink "NativeWorks$Source" 49 "NativeWorks$Source" "bodyTo" "[I" ∈ rTs := kMem 106 rfl
set_option maxRecDepth 100000 in
theorem kw107 : Cond.fieldLink "NativeWorks$Source" 52 "NativeWorks$Source" "firstParamete\x72" "[I" ∈ rTs := kMem 107 rfl
set_option maxRecDepth 100000 in
theorem kw108 : Cond.constant "NativeWorks$Source" 55 (nI 32768) ∈ rTs := kMem 108 (by decide +kernel)
set_option maxRecDepth 100000 in
theorem kw109 : Cond.fieldLink "NativeWorks$Source" 56 "NativeWorks$Source" "parameterFrom" "[I" ∈ rTs := kMem 109 rfl
set_option maxRecDepth 100000 in
theorem kw110 : Cond.fieldLink "NativeWorks$Source" 59 "NativeWorks$Source" "parameterTo" "[I" ∈ rTs := kMem 110 rfl
set_option maxRecDepth 100000 in
theorem kw111 : Cond.fieldLink "NativeWorks$Source" 62 "NativeWorks$Source" "lines" "I" ∈ rTs := kMem 111 rfl
set_option maxRecDepth 100000 in
theorem kw112 : Cond.methodLink "NativeWorks$Reade\x72" 3 ⟨"java/lang/Object", "<init>", "()V"⟩ ∈ rTs := kMem 112 rfl
set_option maxRecDepth 100000 in
theorem kw113 : Cond.fieldLink "NativeWorks$Reade\x72" 9 "NativeWorks$Reade\x72" "source" "LNativeWorks$Source;" ∈ rTs := kMem 113 rfl
set_option maxRecDepth 100000 in
theorem kw114 : Cond.fieldLink "NativeWorks$Reade\x72" 15 "NativeWorks$Reade\x72" "line" "LNativeWorks$Line;" ∈ rTs := kMem 114 rfl
set_option maxRecDepth 100000 in
theorem kw115 : Cond.fieldLink "NativeWorks$Reade\x72" 19 "NativeWorks$Reade\x72" "first" "[I" ∈ rTs := kMem 115 rfl
set_option maxRecDepth 100000 in
theorem kw116 : Cond.fieldLink "NativeWorks$Reade\x72" 23 "NativeWorks$Reade\x72" "end" "[I" ∈ rTs := kMem 116 rfl
set_option maxRecDepth 100000 in
theorem kw117 : Cond.fieldLink "NativeWorks$Reade\x72" 26 "NativeWorks$Reade\x72" "next" "[I" ∈ rTs := kMem 117 rfl
set_option maxRecDepth 100000 in
theorem kw118 : Cond.fieldLink "NativeWorks$Reade\x72" 29 "NativeWorks$Reade\x72" "left" "[I" ∈ rTs := kMem 118 rfl
set_option maxRecDepth 100000 in
theorem kw119 : Cond.fieldLink "NativeWorks$Reade\x72" 32 "NativeWorks$Reade\x72" "make\x72" "[I" ∈ rTs := kMem 119 rfl
set_option maxRecDepth 100000 in
theorem kw120 : Cond.fieldLink "NativeWorks$Reade\x72" 35 "NativeWorks$Reade\x72" "ifsBelow" "[I" ∈ rTs := kMem 120 rfl
set_option maxRecDepth 100000 in
theorem kw121 : Cond.fieldLink "NativeWorks$Reade\x72" 38 "NativeWorks$Reade\x72" "macro" "[I" ∈ rTs := kMem 121 rfl
set_option maxRecDepth 100000 in
theorem kw122 : Cond.fieldLink "NativeWorks$Reade\x72" 41 "NativeWorks$Reade\x72" "made" "[I" ∈ rTs := kMem 122 rfl
set_option maxRecDepth 100000 in
theorem kw123 : Cond.fieldLink "NativeWorks$Reade\x72" 46 "NativeWorks$Reade\x72" "arguments" "[B" ∈ rTs := kMem 123 rfl
set_option maxRecDepth 100000 in
theorem kw124 : Cond.fieldLink "NativeWorks$Reade\x72" 50 "NativeWorks$Reade\x72" "argumentFrom" "[I" ∈ rTs := kMem 124 rfl
set_option maxRecDepth 100000 in
theorem kw125 : Cond.fieldLink "NativeWorks$Reade\x72" 53 "NativeWorks$Reade\x72" "argumentTo" "[I" ∈ rTs := kMem 125 rfl
set_option maxRecDepth 100000 in
theorem kw126 : Cond.arrayClass FieldType.boolean ∈ rTs := kMem 126 rfl
set_option maxRecDepth 100000 in
theorem kw127 : Cond.fieldLink "NativeWorks$Reade\x72" 56 "NativeWorks$Reade\x72" "elseRead" "[Z" ∈ rTs := kMem 127 rfl
set_option maxRecDepth 100000 in
theorem kw128 : Cond.methodLink "NativeWorks$Expression" 3 ⟨"java/lang/Object", "<init>", "()V"⟩ ∈ rTs := kMem 128 rfl
set_option maxRecDepth 100000 in
theorem kw129 : Cond.fieldLink "NativeWorks$Expression" 9 "NativeWorks$Expression" "line" "LNativeWorks$Line;" ∈ rTs := kMem 129 rfl
set_option maxRecDepth 100000 in
theorem kw130 : Cond.fieldLink "NativeWorks$Expression" 15 "NativeWorks$Expression" "units" "LNativeWorks$Units;" ∈ rTs := kMem 130 rfl
set_option maxRecDepth 100000 in
theorem kw131 : Cond.fieldLink "NativeWorks$Expression" 21 "NativeWorks$Expression" "numbe\x72" "[J" ∈ rTs := kMem 131 rfl
set_option maxRecDepth 100000 in
theorem kw132 : Cond.fieldLink "NativeWorks$Expression" 25 "NativeWorks$Expression" "plus" "[I" ∈ rTs := kMem 132 rfl
set_option maxRecDepth 100000 in
theorem kw133 : Cond.fieldLink "NativeWorks$Expression" 29 "NativeWorks$Expression" "minus" "[I" ∈ rTs := kMem 133 rfl
set_option maxRecDepth 100000 in
theorem kw134 : Cond.fieldLink "NativeWorks$Expression" 32 "NativeWorks$Expression" "signs" "[I" ∈ rTs := kMem 134 rfl
set_option maxRecDepth 100000 in
theorem kw135 : Cond.fieldLink "NativeWorks$Expression" 35 "NativeWorks$Expression" "name" "[B" ∈ rTs := kMem 135 rfl
set_option maxRecDepth 100000 in
theorem kw136 : Cond.fieldLink "NativeWorks$Expression" 39 "NativeWorks$Expression" "latest" "[B" ∈ rTs := kMem 136 rfl
set_option maxRecDepth 100000 in
theorem kw137 : Cond.fieldLink "NativeWorks$Instruction" 18 "NativeWorks$Instruction" "rows" "[I" ∈ rTs := kMem 137 rfl
set_option maxRecDepth 100000 in
theorem kw138 : Cond.fieldLink "NativeWorks$Instruction" 53 "NativeWorks$Instruction" "L_AT" "[I" ∈ rTs := kMem 138 rfl
set_option maxRecDepth 100000 in
theorem kw139 : Cond.code ⟨"NativeWorks$Instruction", "isConditional", "(I)Z"⟩ prog_4_method_3_code 1 (Option.some FieldType.boolean) ∈ rTs := kMem 139 rfl
set_option maxRecDepth 100000 in
theorem kw140 : Cond.methodLink "NativeWorks$Instruction" 56 ⟨"NativeWorks$Instruction", "isConditional", "(I)Z"⟩ ∈ rTs := kMem 140 rfl
set_option maxRecDepth 100000 in
theorem kw141 : Cond.static ⟨"NativeWorks$Instruction", "isConditional", "(I)Z"⟩ ∈ rTs := kMem 141 rfl
set_option maxRecDepth 100000 in
theorem kw142 : Cond.initialized "NativeWorks$Instruction" ∈ rTs := kMem 142 rfl
set_option maxRecDepth 100000 in
theorem kw143 : Cond.fieldLink "NativeWorks$Instruction" 24 "NativeWorks$Instruction" "rowAt" "[I" ∈ rTs := kMem 143 rfl
set_option maxRecDepth 100000 in
theorem kw144 : Cond.methodLink "NativeWorks$Instruction" 3 ⟨"java/lang/Object", "<init>", "()V"⟩ ∈ rTs := kMem 144 rfl
set_option maxRecDepth 100000 in
theorem kw145 : Cond.fieldLink "NativeWorks$Instruction" 9 "NativeWorks$Instruction" "ARITHMETIC" "[I" ∈ rTs := kMem 145 rfl
set_option maxRecDepth 100000 in
theorem kw146 : Cond.fieldLink "NativeWorks$Instruction" 15 "NativeWorks$Instruction" "TABLE" "[I" ∈ rTs := kMem 146 rfl
set_option maxRecDepth 100000 in
theorem kw147 : Cond.fieldLink "NativeWorks$Instruction" 21 "NativeWorks$Instruction" "firstRow" "[I" ∈ rTs := kMem 147 rfl
set_option maxRecDepth 100000 in
theorem kw148 : Cond.fieldLink "NativeWorks$Instruction" 27 "NativeWorks$Instruction" "kind" "[I" ∈ rTs := kMem 148 rfl
set_option maxRecDepth 100000 in
theorem kw149 : Cond.fieldLink "NativeWorks$Instruction" 30 "NativeWorks$Instruction" "reg" "[I" ∈ rTs := kMem 149 rfl
set_option maxRecDepth 100000 in
theorem kw150 : Cond.fieldLink "NativeWorks$Instruction" 33 "NativeWorks$Instruction" "bytes" "[B" ∈ rTs := kMem 150 rfl
set_option maxRecDepth 100000 in
theorem kw151 : Cond.methodLink "NativeWorks$Instruction" 37 ⟨"java/util/Arrays", "fill", "([II)V"⟩ ∈ rTs := kMem 151 rfl
set_option maxRecDepth 100000 in
theorem kw152 : Cond.methodLink "NativeWorks$Instruction" 43 ⟨"java/lang/System", "arraycopy", "(Ljava/lang/Object;ILjava/lang/Object;II)V"⟩ ∈ rTs := kMem 152 rfl
set_option maxRecDepth 100000 in
theorem kw153 : Cond.code ⟨"NativeWorks$Instruction", "ente\x72", "(I)V"⟩ prog_4_method_2_code 8 (Option.none : Option FieldType) ∈ rTs := kMem 153 rfl
set_option maxRecDepth 100000 in
theorem kw154 : Cond.methodLink "NativeWorks$Instruction" 49 ⟨"NativeWorks$Instruction", "ente\x72", "(I)V"⟩ ∈ rTs := kMem 154 rfl
set_option maxRecDepth 100000 in
theorem kw155 : Cond.instanceMethod ⟨"NativeWorks$Instruction", "ente\x72", "(I)V"⟩ ∈ rTs := kMem 155 rfl
set_option maxRecDepth 100000 in
theorem kw156 : Cond.selects "NativeWorks$Instruction" ⟨"NativeWorks$Instruction", "ente\x72", "(I)V"⟩ ⟨"NativeWorks$Instruction", "ente\x72", "(I)V"⟩ ∈ rTs := kMem 156 rfl
set_option maxRecDepth 100000 in
theorem kw157 : Cond.methodLink "NativeWorks$Assemble\x72" 3 ⟨"java/lang/Object", "<init>", "()V"⟩ ∈ rTs := kMem 157 rfl
set_option maxRecDepth 100000 in
theorem kw158 : Cond.classLink "NativeWorks$Assemble\x72" 9 "NativeWorks$Line" ∈ rTs := kMem 158 rfl
set_option maxRecDepth 100000 in
theorem kw159 : Cond.instantiable "NativeWorks$Line" 10 ∈ rTs := kMem 159 rfl
set_option maxRecDepth 100000 in
theorem kw160 : Cond.code ⟨"NativeWorks$Line", "<init>", "()V"⟩ prog_5_method_1_code 1 (Option.none : Option FieldType) ∈ rTs := kMem 160 rfl
set_option maxRecDepth 100000 in
theorem kw161 : Cond.methodLink "NativeWorks$Assemble\x72" 11 ⟨"NativeWorks$Line", "<init>", "()V"⟩ ∈ rTs := kMem 161 rfl
set_option maxRecDepth 100000 in
theorem kw162 : Cond.instanceMethod ⟨"NativeWorks$Line", "<init>", "()V"⟩ ∈ rTs := kMem 162 rfl
set_option maxRecDepth 100000 in
theorem kw163 : Cond.fieldLink "NativeWorks$Assemble\x72" 12 "NativeWorks$Assemble\x72" "line" "LNativeWorks$Line;" ∈ rTs := kMem 163 rfl
set_option maxRecDepth 100000 in
theorem kw164 : Cond.fieldLink "NativeWorks$Assemble\x72" 18 "NativeWorks$Assemble\x72" "units" "LNativeWorks$Units;" ∈ rTs := kMem 164 rfl
set_option maxRecDepth 100000 in
theorem kw165 : Cond.classLink "NativeWorks$Assemble\x72" 22 "NativeWorks$Reade\x72" ∈ rTs := kMem 165 rfl
set_option maxRecDepth 100000 in
theorem kw166 : Cond.instantiable "NativeWorks$Reade\x72" 20 ∈ rTs := kMem 166 rfl
set_option maxRecDepth 100000 in
theorem kw167 : Cond.initialized "NativeWorks$Reade\x72" ∈ rTs := kMem 167 rfl
set_option maxRecDepth 100000 in
theorem kw168 : Cond.classLink "NativeWorks$Assemble\x72" 24 "NativeWorks$Source" ∈ rTs := kMem 168 rfl
set_option maxRecDepth 100000 in
theorem kw169 : Cond.instantiable "NativeWorks$Source" 14 ∈ rTs := kMem 169 rfl
set_option maxRecDepth 100000 in
theorem kw170 : Cond.initialized "NativeWorks$Source" ∈ rTs := kMem 170 rfl
set_option maxRecDepth 100000 in
theorem kw171 : Cond.fieldLink "NativeWorks$Assemble\x72" 26 "NativeWorks$Line" "words" "LNativeWorks$Names;" ∈ rTs := kMem 171 rfl
set_option maxRecDepth 100000 in
theorem kw172 : Cond.code ⟨"NativeWorks$Source", "<init>", "([BLNativeWorks$Names;)V"⟩ prog_11_method_1_code 3 (Option.none : Option FieldType) ∈ rTs := kMem 172 rfl
set_option maxRecDepth 100000 in
theorem kw173 : Cond.methodLink "NativeWorks$Assemble\x72" 30 ⟨"NativeWorks$Source", "<init>", "([BLNativeWorks$Names;)V"⟩ ∈ rTs := kMem 173 rfl
set_option maxRecDepth 100000 in
theorem kw174 : Cond.instanceMethod ⟨"NativeWorks$Source", "<init>", "([BLNativeWorks$Names;)V"⟩ ∈ rTs := kMem 174 rfl
set_option maxRecDepth 100000 in
theorem kw175 : Cond.code ⟨"NativeWorks$Reade\x72", "<init>", "(LNativeWorks$Source;LNativeWorks$Line;)V"⟩ prog_10_method_1_code 3 (Option.none : Option FieldType) ∈ rTs := kMem 175 rfl
set_option maxRecDepth 100000 in
theorem kw176 : Cond.methodLink "NativeWorks$Assemble\x72" 33 ⟨"NativeWorks$Reade\x72", "<init>", "(LNativeWorks$Source;LNativeWorks$Line;)V"⟩ ∈ rTs := kMem 176 rfl
set_option maxRecDepth 100000 in
theorem kw177 : Cond.instanceMethod ⟨"NativeWorks$Reade\x72", "<init>", "(LNativeWorks$Source;LNativeWorks$Line;)V"⟩ ∈ rTs := kMem 177 rfl
set_option maxRecDepth 100000 in
theorem kw178 : Cond.fieldLink "NativeWorks$Assemble\x72" 36 "NativeWorks$Assemble\x72" "reade\x72" "LNativeWorks$Reader;" ∈ rTs := kMem 178 rfl
set_option maxRecDepth 100000 in
theorem kw179 : Cond.classLink "NativeWorks$Assemble\x72" 40 "NativeWorks$Expression" ∈ rTs := kMem 179 rfl
set_option maxRecDepth 100000 in
theorem kw180 : Cond.instantiable "NativeWorks$Expression" 11 ∈ rTs := kMem 180 rfl
set_option maxRecDepth 100000 in
theorem kw181 : Cond.initialized "NativeWorks$Expression" ∈ rTs := kMem 181 rfl
set_option maxRecDepth 100000 in
theorem kw182 : Cond.code ⟨"NativeWorks$Expression", "<init>", "(LNativeWorks$Line;LNativeWorks$Units;)V"⟩ prog_3_method_1_code 3 (Option.none : Option FieldType) ∈ rTs := kMem 182 rfl
set_option maxRecDepth 100000 in
theorem kw183 : Cond.methodLink "NativeWorks$Assemble\x72" 42 ⟨"NativeWorks$Expression", "<init>", "(LNativeWorks$Line;LNativeWorks$Units;)V"⟩ ∈ rTs := kMem 183 rfl
set_option maxRecDepth 100000 in
theorem kw184 : Cond.instanceMethod ⟨"NativeWorks$Expression", "<init>", "(LNativeWorks$Line;LNativeWorks$Units;)V"⟩ ∈ rTs := kMem 184 rfl
set_option maxRecDepth 100000 in
theorem kw185 : Cond.fieldLink "NativeWorks$Assemble\x72" 45 "NativeWorks$Assemble\x72" "expression" "LNativeWorks$Expression;" ∈ rTs := kMem 185 rfl
set_option maxRecDepth 100000 in
theorem kw186 : Cond.classLink "NativeWorks$Assemble\x72" 49 "NativeWorks$Instruction" ∈ rTs := kMem 186 rfl
set_option maxRecDepth 100000 in
theorem kw187 : Cond.instantiable "NativeWorks$Instruction" 21 ∈ rTs := kMem 187 rfl
set_option maxRecDepth 100000 in
theorem kw188 : Cond.code ⟨"NativeWorks$Instruction", "<init>", "()V"⟩ prog_4_method_1_code 6 (Option.none : Option FieldType) ∈ rTs := kMem 188 rfl
set_option maxRecDepth 100000 in
theorem kw189 : Cond.methodLink "NativeWorks$Assemble\x72" 51 ⟨"NativeWorks$Instruction", "<init>", "()V"⟩ ∈ rTs := kMem 189 rfl
set_option maxRecDepth 100000 in
theorem kw190 : Cond.instanceMethod ⟨"NativeWorks$Instruction", "<init>", "()V"⟩ ∈ rTs := kMem 190 rfl
set_option maxRecDepth 100000 in
theorem kw191 : Cond.fieldLink "NativeWorks$Assemble\x72" 52 "NativeWorks$Assemble\x72" "instruction" "LNativeWorks$Instruction;" ∈ rTs := kMem 191 rfl
set_option maxRecDepth 100000 in
theorem kw192 : Cond.fieldLink "NativeWorks$Assemble\x72" 56 "NativeWorks$Assemble\x72" "told" "[I" ∈ rTs := kMem 192 rfl
set_option maxRecDepth 100000 in
theorem kw193 : Cond.methodLink "NativeWorks$Linke\x72" 3 ⟨"java/lang/Object", "<init>", "()V"⟩ ∈ rTs := kMem 193 rfl
set_option maxRecDepth 100000 in
theorem kw194 : Cond.fieldLink "NativeWorks$Linke\x72" 9 "NativeWorks$Linke\x72" "units" "LNativeWorks$Units;" ∈ rTs := kMem 194 rfl
set_option maxRecDepth 100000 in
theorem kw195 : Cond.fieldLink "NativeWorks$Linke\x72" 17 "NativeWorks$Linke\x72" "taken" "[Z" ∈ rTs := kMem 195 rfl
set_option maxRecDepth 100000 in
theorem kw196 : Cond.fieldLink "NativeWorks$Linke\x72" 21 "NativeWorks$Linke\x72" "needed" "[Z" ∈ rTs := kMem 196 rfl
set_option maxRecDepth 100000 in
theorem kw197 : Cond.fieldLink "NativeWorks$Linke\x72" 24 "NativeWorks$Linke\x72" "places" "[I" ∈ rTs := kMem 197 rfl
set_option maxRecDepth 100000 in
theorem kw198 : Cond.fieldLink "NativeWorks$Linke\x72" 28 "NativeWorks$Linke\x72" "stands" "[I" ∈ rTs := kMem 198 rfl
set_option maxRecDepth 100000 in
theorem kw199 : Cond.fieldLink "NativeWorks$Linke\x72" 31 "NativeWorks$Linke\x72" "from" "[I" ∈ rTs := kMem 199 rfl
set_option maxRecDepth 100000 in
theorem kw200 : Cond.fieldLink "NativeWorks$Linke\x72" 34 "NativeWorks$Linke\x72" "to" "[I" ∈ rTs := kMem 200 rfl
set_option maxRecDepth 100000 in
theorem kw201 : Cond.constant "NativeWorks$Linke\x72" 37 (nI 131072) ∈ rTs := kMem 201 (by decide +kernel)
set_option maxRecDepth 100000 in
theorem kw202 : Cond.fieldLink "NativeWorks$Linke\x72" 38 "NativeWorks$Linke\x72" "bytes" "[B" ∈ rTs := kMem 202 rfl
set_option maxRecDepth 100000 in
theorem kw203 : Cond.fieldLink "NativeWorks$Linke\x72" 42 "NativeWorks$Linke\x72" "origins" "[I" ∈ rTs := kMem 203 rfl
set_option maxRecDepth 100000 in
theorem kw204 : Cond.classLink "NativeWorks$Linke\x72" 45 "NativeWorks$Names" ∈ rTs := kMem 204 rfl
set_option maxRecDepth 100000 in
theorem kw205 : Cond.constant "NativeWorks$Linke\x72" 47 (nI 129024) ∈ rTs := kMem 205 (by decide +kernel)
set_option maxRecDepth 100000 in
theorem kw206 : Cond.methodLink "NativeWorks$Linke\x72" 48 ⟨"NativeWorks$Names", "<init>", "(II)V"⟩ ∈ rTs := kMem 206 rfl
set_option maxRecDepth 100000 in
theorem kw207 : Cond.fieldLink "NativeWorks$Linke\x72" 51 "NativeWorks$Linke\x72" "names" "LNativeWorks$Names;" ∈ rTs := kMem 207 rfl
set_option maxRecDepth 100000 in
theorem kw208 : Cond.fieldLink "NativeWorks$Linke\x72" 55 "NativeWorks$Linke\x72" "addresses" "[J" ∈ rTs := kMem 208 rfl
set_option maxRecDepth 100000 in
theorem kw209 : Cond.methodLink "NativeWorks$Linke\x72" 59 ⟨"java/util/Arrays", "fill", "([II)V"⟩ ∈ rTs := kMem 209 rfl
set_option maxRecDepth 100000 in
theorem kw210 : Cond.methodLink "NativeWorks$Memory" 3 ⟨"java/lang/Object", "<init>", "()V"⟩ ∈ rTs := kMem 210 rfl
set_option maxRecDepth 100000 in
theorem kw211 : Cond.constant "NativeWorks$Memory" 13 (nI 196608) ∈ rTs := kMem 211 (by decide +kernel)
set_option maxRecDepth 100000 in
theorem kw212 : Cond.fieldLink "NativeWorks$Memory" 14 "NativeWorks$Memory" "low" "[B" ∈ rTs := kMem 212 rfl
set_option maxRecDepth 100000 in
theorem kw213 : Cond.constant "NativeWorks$Memory" 18 (nI 65536) ∈ rTs := kMem 213 (by decide +kernel)
set_option maxRecDepth 100000 in
theorem kw214 : Cond.fieldLink "NativeWorks$Memory" 19 "NativeWorks$Memory" "stack" "[B" ∈ rTs := kMem 214 rfl
set_option maxRecDepth 100000 in
theorem kw215 : Cond.constant "NativeWorks$Memory" 22 (nI 131072) ∈ rTs := kMem 215 (by decide +kernel)
set_option maxRecDepth 100000 in
theorem kw216 : Cond.fieldLink "NativeWorks$Memory" 23 "NativeWorks$Memory" "begins" "[Z" ∈ rTs := kMem 216 rfl
set_option maxRecDepth 100000 in
theorem kw217 : Cond.fieldLink "NativeWorks$Memory" 27 "NativeWorks$Memory" "loaded" "Z" ∈ rTs := kMem 217 rfl
set_option maxRecDepth 100000 in
theorem kw218 : Cond.constantLong "NativeWorks$Memory" 31 (lN 4194304) ∈ rTs := kMem 218 (by decide +kernel)
set_option maxRecDepth 100000 in
theorem kw219 : Cond.fieldLink "NativeWorks$Memory" 33 "NativeWorks$Memory" "heap" "J" ∈ rTs := kMem 219 rfl
set_option maxRecDepth 100000 in
theorem kw220 : Cond.fieldLink "NativeWorks$Memory" 37 "NativeWorks$Memory" "end" "J" ∈ rTs := kMem 220 rfl
set_option maxRecDepth 100000 in
theorem kw221 : Cond.methodLink "NativeWorks$Machine" 3 ⟨"java/lang/Object", "<init>", "()V"⟩ ∈ rTs := kMem 221 rfl
set_option maxRecDepth 100000 in
theorem kw222 : Cond.classLink "NativeWorks$Machine" 9 "NativeWorks$Memory" ∈ rTs := kMem 222 rfl
set_option maxRecDepth 100000 in
theorem kw223 : Cond.instantiable "NativeWorks$Memory" 12 ∈ rTs := kMem 223 rfl
set_option maxRecDepth 100000 in
theorem kw224 : Cond.initialized "NativeWorks$Memory" ∈ rTs := kMem 224 rfl
set_option maxRecDepth 100000 in
theorem kw225 : Cond.code ⟨"NativeWorks$Memory", "<init>", "()V"⟩ prog_8_method_1_code 1 (Option.none : Option FieldType) ∈ rTs := kMem 225 rfl
set_option maxRecDepth 100000 in
theorem kw226 : Cond.methodLink "NativeWorks$Machine" 11 ⟨"NativeWorks$Memory", "<init>", "()V"⟩ ∈ rTs := kMem 226 rfl
set_option maxRecDepth 100000 in
theorem kw227 : Cond.instanceMethod ⟨"NativeWorks$Memory", "<init>", "()V"⟩ ∈ rTs := kMem 227 rfl
set_option maxRecDepth 100000 in
theorem kw228 : Cond.fieldLink "NativeWorks$Machine" 12 "NativeWorks$Machine" "memory" "LNativeWorks$Memory;" ∈ rTs := kMem 228 rfl
set_option maxRecDepth 100000 in
theorem kw229 : Cond.classLink "NativeWorks$Machine" 18 "NativeWorks$Instruction" ∈ rTs := kMem 229 rfl
set_option maxRecDepth 100000 in
theorem kw230 : Cond.methodLink "NativeWorks$Machine" 20 ⟨"NativeWorks$Instruction", "<init>", "()V"⟩ ∈ rTs := kMem 230 rfl
set_option maxRecDepth 100000 in
theorem kw231 : Cond.fieldLink "NativeWorks$Machine" 21 "NativeWorks$Machine" "it" "LNativeWorks$Instruction;" ∈ rTs := kMem 231 rfl
set_option maxRecDepth 100000 in
theorem kw232 : Cond.fieldLink "NativeWorks$Machine" 25 "NativeWorks$Machine" "\x72" "[J" ∈ rTs := kMem 232 rfl
set_option maxRecDepth 100000 in
theorem kw233 : Cond.constant "NativeWorks$Machine" 29 (nI 65536) ∈ rTs := kMem 233 (by decide +kernel)
set_option maxRecDepth 100000 in
theorem kw234 : Cond.fieldLink "NativeWorks$Machine" 30 "NativeWorks$Machine" "input" "[B" ∈ rTs := kMem 234 rfl
set_option maxRecDepth 100000 in
theorem kw235 : Cond.fieldLink "NativeWorks$Machine" 34 "NativeWorks$Machine" "output" "[B" ∈ rTs := kMem 235 rfl
set_option maxRecDepth 100000 in
theorem kw236 : Cond.fieldLink "NativeWorks$Machine" 37 "NativeWorks$Machine" "stops" "[J" ∈ rTs := kMem 236 rfl
set_option maxRecDepth 100000 in
theorem kw237 : Cond.methodLink "NativeWorks" 1 ⟨"java/lang/Object", "<init>", "()V"⟩ ∈ rTs := kMem 237 rfl
set_option maxRecDepth 100000 in
theorem kw238 : Cond.constant "NativeWorks" 9 (nI 65536) ∈ rTs := kMem 238 (by decide +kernel)
set_option maxRecDepth 100000 in
theorem kw239 : Cond.classLink "NativeWorks" 10 "NativeWorks$Units" ∈ rTs := kMem 239 rfl
set_option maxRecDepth 100000 in
theorem kw240 : Cond.instantiable "NativeWorks$Units" 19 ∈ rTs := kMem 240 rfl
set_option maxRecDepth 100000 in
theorem kw241 : Cond.initialized "NativeWorks$Units" ∈ rTs := kMem 241 rfl
set_option maxRecDepth 100000 in
theorem kw242 : Cond.code ⟨"NativeWorks$Units", "<init>", "()V"⟩ prog_12_method_1_code 1 (Option.none : Option FieldType) ∈ rTs := kMem 242 rfl
set_option maxRecDepth 100000 in
theorem kw243 : Cond.methodLink "NativeWorks" 12 ⟨"NativeWorks$Units", "<init>", "()V"⟩ ∈ rTs := kMem 243 rfl
set_option maxRecDepth 100000 in
theorem kw244 : Cond.instanceMethod ⟨"NativeWorks$Units", "<init>", "()V"⟩ ∈ rTs := kMem 244 rfl
set_option maxRecDepth 100000 in
theorem kw245 : Cond.fieldLink "NativeWorks" 13 "NativeWorks" "tape" "[B" ∈ rTs := kMem 245 rfl
set_option maxRecDepth 100000 in
theorem kw246 : Cond.fieldLink "NativeWorks" 17 "NativeWorks" "units" "LNativeWorks$Units;" ∈ rTs := kMem 246 rfl
set_option maxRecDepth 100000 in
theorem kw247 : Cond.classLink "NativeWorks" 21 "NativeWorks$Assemble\x72" ∈ rTs := kMem 247 rfl
set_option maxRecDepth 100000 in
theorem kw248 : Cond.instantiable "NativeWorks$Assemble\x72" 15 ∈ rTs := kMem 248 rfl
set_option maxRecDepth 100000 in
theorem kw249 : Cond.initialized "NativeWorks$Assemble\x72" ∈ rTs := kMem 249 rfl
set_option maxRecDepth 100000 in
theorem kw250 : Cond.code ⟨"NativeWorks$Assemble\x72", "<init>", "([BLNativeWorks$Units;)V"⟩ prog_2_method_1_code 4 (Option.none : Option FieldType) ∈ rTs := kMem 250 rfl
set_option maxRecDepth 100000 in
theorem kw251 : Cond.methodLink "NativeWorks" 23 ⟨"NativeWorks$Assemble\x72", "<init>", "([BLNativeWorks$Units;)V"⟩ ∈ rTs := kMem 251 rfl
set_option maxRecDepth 100000 in
theorem kw252 : Cond.instanceMethod ⟨"NativeWorks$Assemble\x72", "<init>", "([BLNativeWorks$Units;)V"⟩ ∈ rTs := kMem 252 rfl
set_option maxRecDepth 100000 in
theorem kw253 : Cond.fieldLink "NativeWorks" 26 "NativeWorks" "assemble\x72" "LNativeWorks$Assembler;" ∈ rTs := kMem 253 rfl
set_option maxRecDepth 100000 in
theorem kw254 : Cond.classLink "NativeWorks" 30 "NativeWorks$Linke\x72" ∈ rTs := kMem 254 rfl
set_option maxRecDepth 100000 in
theorem kw255 : Cond.instantiable "NativeWorks$Linke\x72" 18 ∈ rTs := kMem 255 rfl
set_option maxRecDepth 100000 in
theorem kw256 : Cond.initialized "NativeWorks$Linke\x72" ∈ rTs := kMem 256 rfl
set_option maxRecDepth 100000 in
theorem kw257 : Cond.code ⟨"NativeWorks$Linke\x72", "<init>", "(LNativeWorks$Units;)V"⟩ prog_6_method_1_code 2 (Option.none : Option FieldType) ∈ rTs := kMem 257 rfl
set_option maxRecDepth 100000 in
theorem kw258 : Cond.methodLink "NativeWorks" 32 ⟨"NativeWorks$Linke\x72", "<init>", "(LNativeWorks$Units;)V"⟩ ∈ rTs := kMem 258 rfl
set_option maxRecDepth 100000 in
theorem kw259 : Cond.instanceMethod ⟨"NativeWorks$Linke\x72", "<init>", "(LNativeWorks$Units;)V"⟩ ∈ rTs := kMem 259 rfl
set_option maxRecDepth 100000 in
theorem kw260 : Cond.fieldLink "NativeWorks" 35 "NativeWorks" "linke\x72" "LNativeWorks$Linker;" ∈ rTs := kMem 260 rfl
set_option maxRecDepth 100000 in
theorem kw261 : Cond.classLink "NativeWorks" 39 "NativeWorks$Machine" ∈ rTs := kMem 261 rfl
set_option maxRecDepth 100000 in
theorem kw262 : Cond.instantiable "NativeWorks$Machine" 17 ∈ rTs := kMem 262 rfl
set_option maxRecDepth 100000 in
theorem kw263 : Cond.initialized "NativeWorks$Machine" ∈ rTs := kMem 263 rfl
set_option maxRecDepth 100000 in
theorem kw264 : Cond.code ⟨"NativeWorks$Machine", "<init>", "()V"⟩ prog_7_method_1_code 1 (Option.none : Option FieldType) ∈ rTs := kMem 264 rfl
set_option maxRecDepth 100000 in
theorem kw265 : Cond.methodLink "NativeWorks" 41 ⟨"NativeWorks$Machine", "<init>", "()V"⟩ ∈ rTs := kMem 265 rfl
set_option maxRecDepth 100000 in
theorem kw266 : Cond.instanceMethod ⟨"NativeWorks$Machine", "<init>", "()V"⟩ ∈ rTs := kMem 266 rfl
set_option maxRecDepth 100000 in
theorem kw267 : Cond.fieldLink "NativeWorks" 42 "NativeWorks" "machine" "LNativeWorks$Machine;" ∈ rTs := kMem 267 rfl
set_option maxRecDepth 100000 in
theorem kw268 : Cond.fieldLink "NativeWorks" 46 "NativeWorks" "fed" "I" ∈ rTs := kMem 268 rfl
set_option maxRecDepth 100000 in
theorem kw269 : Cond.fieldLink "NativeWorks" 50 "NativeWorks" "faultKind" "I" ∈ rTs := kMem 269 rfl
set_option maxRecDepth 100000 in
theorem kw270 : Cond.fieldLink "NativeWorks" 53 "NativeWorks" "faultLine" "I" ∈ rTs := kMem 270 rfl
set_option maxRecDepth 100000 in
theorem kw271 : Cond.fieldLink "NativeWorks" 56 "NativeWorks" "faultUnit" "I" ∈ rTs := kMem 271 rfl
set_option maxRecDepth 100000 in
theorem kw272 : Cond.methodLink "NativeWorksModel$Code" 3 ⟨"java/lang/Object", "<init>", "()V"⟩ ∈ rTs := kMem 272 rfl
set_option maxRecDepth 100000 in
theorem kw273 : Cond.fieldLink "NativeWorksModel$Code" 9 "NativeWorksModel$Code" "address" "[I" ∈ rTs := kMem 273 rfl
set_option maxRecDepth 100000 in
theorem kw274 : Cond.fieldLink "NativeWorksModel$Code" 15 "NativeWorksModel$Code" "where" "[I" ∈ rTs := kMem 274 rfl
set_option maxRecDepth 100000 in
theorem kw275 : Cond.fieldLink "NativeWorksModel$Code" 18 "NativeWorksModel$Code" "shape" "[J" ∈ rTs := kMem 275 rfl
set_option maxRecDepth 100000 in
theorem kw276 : Cond.fieldLink "NativeWorksModel$Code" 22 "NativeWorksModel$Code" "displacement" "[J" ∈ rTs := kMem 276 rfl
set_option maxRecDepth 100000 in
theorem kw277 : Cond.fieldLink "NativeWorksModel$Code" 25 "NativeWorksModel$Code" "numbe\x72" "[J" ∈ rTs := kMem 277 rfl
set_option maxRecDepth 100000 in
theorem kw278 : Cond.code ⟨"jdk/internal/util/Preconditions", "checkFromToIndex", "(IIILjava/util/function/BiFunction;)I"⟩ prog_41_method_12_code 4 (Option.some FieldType.int) ∈ rTs := kMem 278 rfl
set_option maxRecDepth 100000 in
theorem kw279 : Cond.methodLink "java/lang/String" 1062 ⟨"jdk/internal/util/Preconditions", "checkFromToIndex", "(IIILjava/util/function/BiFunction;)I"⟩ ∈ rTs := kMem 279 rfl
set_option maxRecDepth 100000 in
theorem kw280 : Cond.static ⟨"jdk/internal/util/Preconditions", "checkFromToIndex", "(IIILjava/util/function/BiFunction;)I"⟩ ∈ rTs := kMem 280 rfl
set_option maxRecDepth 100000 in
theorem kw281 : Cond.code ⟨"java/util/Arrays", "checkLength", "(II)V"⟩ prog_38_method_131_code 2 (Option.none : Option FieldType) ∈ rTs := kMem 281 rfl
set_option maxRecDepth 100000 in
theorem kw282 : Cond.methodLink "java/util/Arrays" 343 ⟨"java/util/Arrays", "checkLength", "(II)V"⟩ ∈ rTs := kMem 282 rfl
set_option maxRecDepth 100000 in
theorem kw283 : Cond.static ⟨"java/util/Arrays", "checkLength", "(II)V"⟩ ∈ rTs := kMem 283 rfl
set_option maxRecDepth 100000 in
theorem kw284 : Cond.methodLink "java/util/Arrays" 304 ⟨"java/lang/Math", "min", "(II)I"⟩ ∈ rTs := kMem 284 rfl
set_option maxRecDepth 100000 in
theorem kw285 : Cond.static ⟨"java/lang/Math", "min", "(II)I"⟩ ∈ rTs := kMem 285 rfl
set_option maxRecDepth 100000 in
theorem kw286 : Cond.initialized "java/lang/Math" ∈ rTs := kMem 286 rfl
set_option maxRecDepth 100000 in
theorem kw287 : Cond.code ⟨"java/lang/Math", "min", "(II)I"⟩ prog_27_method_69_code 2 (Option.some FieldType.int) ∈ rTs := kMem 287 rfl
set_option maxRecDepth 100000 in
theorem kw288 : Cond.methodLink "java/util/Arrays" 150 ⟨"java/lang/System", "arraycopy", "(Ljava/lang/Object;ILjava/lang/Object;II)V"⟩ ∈ rTs := kMem 288 rfl
set_option maxRecDepth 100000 in
theorem kw289 : Cond.code ⟨"java/util/Arrays", "copyOfRangeByte", "([BII)[B"⟩ prog_38_method_133_code 5 (Option.some (FieldType.array FieldType.byte)) ∈ rTs := kMem 289 rfl
set_option maxRecDepth 100000 in
theorem kw290 : Cond.methodLink "java/util/Arrays" 339 ⟨"java/util/Arrays", "copyOfRangeByte", "([BII)[B"⟩ ∈ rTs := kMem 290 rfl
set_option maxRecDepth 100000 in
theorem kw291 : Cond.static ⟨"java/util/Arrays", "copyOfRangeByte", "([BII)[B"⟩ ∈ rTs := kMem 291 rfl
set_option maxRecDepth 100000 in
theorem kw292 : Cond.methodLink "java/lang/String" 1 ⟨"java/lang/Object", "<init>", "()V"⟩ ∈ rTs := kMem 292 rfl
set_option maxRecDepth 100000 in
theorem kw293 : Cond.classLink "java/lang/StringLatin1" 1 "java/lang/String" ∈ rTs := kMem 293 rfl
set_option maxRecDepth 100000 in
theorem kw294 : Cond.instantiable "java/lang/String" 4 ∈ rTs := kMem 294 rfl
set_option maxRecDepth 100000 in
theorem kw295 : Cond.code ⟨"java/util/Arrays", "copyOfRange", "([BII)[B"⟩ prog_38_method_132_code 3 (Option.some (FieldType.array FieldType.byte)) ∈ rTs := kMem 295 rfl
set_option maxRecDepth 100000 in
theorem kw296 : Cond.methodLink "java/lang/StringLatin1" 232 ⟨"java/util/Arrays", "copyOfRange", "([BII)[B"⟩ ∈ rTs := kMem 296 rfl
set_option maxRecDepth 100000 in
theorem kw297 : Cond.static ⟨"java/util/Arrays", "copyOfRange", "([BII)[B"⟩ ∈ rTs := kMem 297 rfl
set_option maxRecDepth 100000 in
theorem kw298 : Cond.code ⟨"java/lang/String", "<init>", "([BB)V"⟩ prog_30_method_151_code 3 (Option.none : Option FieldType) ∈ rTs := kMem 298 rfl
set_option maxRecDepth 100000 in
theorem kw299 : Cond.methodLink "java/lang/StringLatin1" 112 ⟨"java/lang/String", "<init>", "([BB)V"⟩ ∈ rTs := kMem 299 rfl
set_option maxRecDepth 100000 in
theorem kw300 : Cond.instanceMethod ⟨"java/lang/String", "<init>", "([BB)V"⟩ ∈ rTs := kMem 300 rfl
set_option maxRecDepth 100000 in
theorem kw301 : Cond.methodLink "java/lang/String" 505 ⟨"java/lang/String", "length", "()I"⟩ ∈ rTs := kMem 301 rfl
set_option maxRecDepth 100000 in
theorem kw302 : Cond.code ⟨"java/lang/String", "checkBoundsBeginEnd", "(III)V"⟩ prog_30_method_158_code 3 (Option.none : Option FieldType) ∈ rTs := kMem 302 rfl
set_option maxRecDepth 100000 in
theorem kw303 : Cond.methodLink "java/lang/String" 521 ⟨"java/lang/String", "checkBoundsBeginEnd", "(III)V"⟩ ∈ rTs := kMem 303 rfl
set_option maxRecDepth 100000 in
theorem kw304 : Cond.static ⟨"java/lang/String", "checkBoundsBeginEnd", "(III)V"⟩ ∈ rTs := kMem 304 rfl
set_option maxRecDepth 100000 in
theorem kw305 : Cond.code ⟨"java/lang/StringLatin1", "newString", "([BII)Ljava/lang/String;"⟩ prog_32_method_47_code 3 (Option.some (FieldType.object "java/lang/String")) ∈ rTs := kMem 305 rfl
set_option maxRecDepth 100000 in
theorem kw306 : Cond.methodLink "java/lang/String" 685 ⟨"java/lang/StringLatin1", "newString", "([BII)Ljava/lang/String;"⟩ ∈ rTs := kMem 306 rfl
set_option maxRecDepth 100000 in
theorem kw307 : Cond.static ⟨"java/lang/StringLatin1", "newString", "([BII)Ljava/lang/String;"⟩ ∈ rTs := kMem 307 rfl
set_option maxRecDepth 100000 in
theorem kw308 : Cond.methodLink "NativeWorksModel" 469 ⟨"java/lang/String", "length", "()I"⟩ ∈ rTs := kMem 308 rfl
set_option maxRecDepth 100000 in
theorem kw309 : Cond.methodLink "NativeWorksModel" 475 ⟨"java/lang/String", "charAt", "(I)C"⟩ ∈ rTs := kMem 309 rfl
set_option maxRecDepth 100000 in
theorem kw310 : Cond.fieldLink "NativeWorksModel" 14 "NativeWorksModel" "wordName" "[J" ∈ rTs := kMem 310 rfl
set_option maxRecDepth 100000 in
theorem kw311 : Cond.fieldLink "NativeWorksModel" 483 "NativeWorksModel" "words" "I" ∈ rTs := kMem 311 rfl
set_option maxRecDepth 100000 in
theorem kw312 : Cond.code ⟨"NativeWorksModel", "pack", "(Ljava/lang/String;)J"⟩ prog_14_method_2_code 4 (Option.some FieldType.long) ∈ rTs := kMem 312 rfl
set_option maxRecDepth 100000 in
theorem kw313 : Cond.methodLink "NativeWorksModel" 419 ⟨"NativeWorksModel", "pack", "(Ljava/lang/String;)J"⟩ ∈ rTs := kMem 313 rfl
set_option maxRecDepth 100000 in
theorem kw314 : Cond.static ⟨"NativeWorksModel", "pack", "(Ljava/lang/String;)J"⟩ ∈ rTs := kMem 314 rfl
set_option maxRecDepth 100000 in
theorem kw315 : Cond.initialized "NativeWorksModel" ∈ rTs := kMem 315 rfl
set_option maxRecDepth 100000 in
theorem kw316 : Cond.fieldLink "NativeWorksModel" 21 "NativeWorksModel" "wordCode" "[I" ∈ rTs := kMem 316 rfl
set_option maxRecDepth 100000 in
theorem kw317 : Cond.code ⟨"java/lang/String", "substring", "(II)Ljava/lang/String;"⟩ prog_30_method_92_code 5 (Option.some (FieldType.object "java/lang/String")) ∈ rTs := kMem 317 rfl
set_option maxRecDepth 100000 in
theorem kw318 : Cond.methodLink "NativeWorksModel" 479 ⟨"java/lang/String", "substring", "(II)Ljava/lang/String;"⟩ ∈ rTs := kMem 318 rfl
set_option maxRecDepth 100000 in
theorem kw319 : Cond.instanceMethod ⟨"java/lang/String", "substring", "(II)Ljava/lang/String;"⟩ ∈ rTs := kMem 319 rfl
set_option maxRecDepth 100000 in
theorem kw320 : Cond.selects "java/lang/String" ⟨"java/lang/String", "substring", "(II)Ljava/lang/String;"⟩ ⟨"java/lang/String", "substring", "(II)Ljava/lang/String;"⟩ ∈ rTs := kMem 320 rfl
set_option maxRecDepth 100000 in
theorem kw321 : Cond.code ⟨"NativeWorksModel", "word", "(Ljava/lang/String;I)V"⟩ prog_14_method_4_code 3 (Option.none : Option FieldType) ∈ rTs := kMem 321 rfl
set_option maxRecDepth 100000 in
theorem kw322 : Cond.methodLink "NativeWorksModel" 370 ⟨"NativeWorksModel", "word", "(Ljava/lang/String;I)V"⟩ ∈ rTs := kMem 322 rfl
set_option maxRecDepth 100000 in
theorem kw323 : Cond.instanceMethod ⟨"NativeWorksModel", "word", "(Ljava/lang/String;I)V"⟩ ∈ rTs := kMem 323 rfl
set_option maxRecDepth 100000 in
theorem kw324 : Cond.selects "NativeWorksModel" ⟨"NativeWorksModel", "word", "(Ljava/lang/String;I)V"⟩ ⟨"NativeWorksModel", "word", "(Ljava/lang/String;I)V"⟩ ∈ rTs := kMem 324 rfl
set_option maxRecDepth 100000 in
theorem kw325 : Cond.methodLink "java/lang/AbstractStringBuilde\x72" 3 ⟨"java/lang/Object", "<init>", "()V"⟩ ∈ rTs := kMem 325 rfl
set_option maxRecDepth 100000 in
theorem kw326 : Cond.fieldLink "java/lang/AbstractStringBuilde\x72" 18 "java/lang/String" "COMPACT_STRINGS" "Z" ∈ rTs := kMem 326 rfl
set_option maxRecDepth 100000 in
theorem kw327 : Cond.fieldLink "java/lang/AbstractStringBuilde\x72" 15 "java/lang/AbstractStringBuilde\x72" "value" "[B" ∈ rTs := kMem 327 rfl
set_option maxRecDepth 100000 in
theorem kw328 : Cond.fieldLink "java/lang/AbstractStringBuilde\x72" 22 "java/lang/AbstractStringBuilde\x72" "code\x72" "B" ∈ rTs := kMem 328 rfl
set_option maxRecDepth 100000 in
theorem kw329 : Cond.code ⟨"java/lang/AbstractStringBuilde\x72", "<init>", "(I)V"⟩ prog_17_method_2_code 2 (Option.none : Option FieldType) ∈ rTs := kMem 329 rfl
set_option maxRecDepth 100000 in
theorem kw330 : Cond.methodLink "java/lang/StringBuilde\x72" 1 ⟨"java/lang/AbstractStringBuilde\x72", "<init>", "(I)V"⟩ ∈ rTs := kMem 330 rfl
set_option maxRecDepth 100000 in
theorem kw331 : Cond.instanceMethod ⟨"java/lang/AbstractStringBuilde\x72", "<init>", "(I)V"⟩ ∈ rTs := kMem 331 rfl
set_option maxRecDepth 100000 in
theorem kw332 : Cond.initialized "java/lang/AbstractStringBuilde\x72" ∈ rTs := kMem 332 rfl
set_option maxRecDepth 100000 in
theorem kw333 : Cond.methodLink "java/lang/AbstractStringBuilde\x72" 40 ⟨"java/lang/String", "code\x72", "()B"⟩ ∈ rTs := kMem 333 rfl
set_option maxRecDepth 100000 in
theorem kw334 : Cond.methodLink "java/lang/String" 212 ⟨"java/lang/System", "arraycopy", "(Ljava/lang/Object;ILjava/lang/Object;II)V"⟩ ∈ rTs := kMem 334 rfl
set_option maxRecDepth 100000 in
theorem kw335 : Cond.code ⟨"java/lang/AbstractStringBuilde\x72", "inflateIfNeededFo\x72", "(Ljava/lang/String;)V"⟩ prog_17_method_71_code 2 (Option.none : Option FieldType) ∈ rTs := kMem 335 rfl
set_option maxRecDepth 100000 in
theorem kw336 : Cond.methodLink "java/lang/AbstractStringBuilde\x72" 397 ⟨"java/lang/AbstractStringBuilde\x72", "inflateIfNeededFo\x72", "(Ljava/lang/String;)V"⟩ ∈ rTs := kMem 336 rfl
set_option maxRecDepth 100000 in
theorem kw337 : Cond.sameMethod "java/lang/AbstractStringBuilde\x72" "java/lang/AbstractStringBuilde\x72" "inflateIfNeededFo\x72" "(Ljava/lang/String;)V" ∈ rTs := kMem 337 rfl
set_option maxRecDepth 100000 in
theorem kw338 : Cond.selects "java/lang/StringBuilde\x72" ⟨"java/lang/AbstractStringBuilde\x72", "inflateIfNeededFo\x72", "(Ljava/lang/String;)V"⟩ ⟨"java/lang/AbstractStringBuilde\x72", "inflateIfNeededFo\x72", "(Ljava/lang/String;)V"⟩ ∈ rTs := kMem 338 rfl
set_option maxRecDepth 100000 in
theorem kw339 : Cond.instanceMethod ⟨"java/lang/AbstractStringBuilde\x72", "inflateIfNeededFo\x72", "(Ljava/lang/String;)V"⟩ ∈ rTs := kMem 339 rfl
set_option maxRecDepth 100000 in
theorem kw340 : Cond.code ⟨"java/lang/String", "getBytes", "([BIB)V"⟩ prog_30_method_147_code 4 (Option.none : Option FieldType) ∈ rTs := kMem 340 rfl
set_option maxRecDepth 100000 in
theorem kw341 : Cond.methodLink "java/lang/AbstractStringBuilde\x72" 399 ⟨"java/lang/String", "getBytes", "([BIB)V"⟩ ∈ rTs := kMem 341 rfl
set_option maxRecDepth 100000 in
theorem kw342 : Cond.instanceMethod ⟨"java/lang/String", "getBytes", "([BIB)V"⟩ ∈ rTs := kMem 342 rfl
set_option maxRecDepth 100000 in
theorem kw343 : Cond.selects "java/lang/String" ⟨"java/lang/String", "getBytes", "([BIB)V"⟩ ⟨"java/lang/String", "getBytes", "([BIB)V"⟩ ∈ rTs := kMem 343 rfl
set_option maxRecDepth 100000 in
theorem kw344 : Cond.methodLink "java/lang/AbstractStringBuilde\x72" 32 ⟨"java/lang/String", "length", "()I"⟩ ∈ rTs := kMem 344 rfl
set_option maxRecDepth 100000 in
theorem kw345 : Cond.fieldLink "java/lang/AbstractStringBuilde\x72" 79 "java/lang/AbstractStringBuilde\x72" "count" "I" ∈ rTs := kMem 345 rfl
set_option maxRecDepth 100000 in
theorem kw346 : Cond.code ⟨"java/lang/AbstractStringBuilde\x72", "ensureCapacityInternal", "(I)V"⟩ prog_17_method_9_code 3 (Option.none : Option FieldType) ∈ rTs := kMem 346 rfl
set_option maxRecDepth 100000 in
theorem kw347 : Cond.methodLink "java/lang/AbstractStringBuilde\x72" 100 ⟨"java/lang/AbstractStringBuilde\x72", "ensureCapacityInternal", "(I)V"⟩ ∈ rTs := kMem 347 rfl
set_option maxRecDepth 100000 in
theorem kw348 : Cond.sameMethod "java/lang/AbstractStringBuilde\x72" "java/lang/AbstractStringBuilde\x72" "ensureCapacityInternal" "(I)V" ∈ rTs := kMem 348 rfl
set_option maxRecDepth 100000 in
theorem kw349 : Cond.selects "java/lang/StringBuilde\x72" ⟨"java/lang/AbstractStringBuilde\x72", "ensureCapacityInternal", "(I)V"⟩ ⟨"java/lang/AbstractStringBuilde\x72", "ensureCapacityInternal", "(I)V"⟩ ∈ rTs := kMem 349 rfl
set_option maxRecDepth 100000 in
theorem kw350 : Cond.instanceMethod ⟨"java/lang/AbstractStringBuilde\x72", "ensureCapacityInternal", "(I)V"⟩ ∈ rTs := kMem 350 rfl
set_option maxRecDepth 100000 in
theorem kw351 : Cond.code ⟨"java/lang/AbstractStringBuilde\x72", "putStringAt", "(ILjava/lang/String;)V"⟩ prog_17_method_73_code 3 (Option.none : Option FieldType) ∈ rTs := kMem 351 rfl
set_option maxRecDepth 100000 in
theorem kw352 : Cond.methodLink "java/lang/AbstractStringBuilde\x72" 208 ⟨"java/lang/AbstractStringBuilde\x72", "putStringAt", "(ILjava/lang/String;)V"⟩ ∈ rTs := kMem 352 rfl
set_option maxRecDepth 100000 in
theorem kw353 : Cond.sameMethod "java/lang/AbstractStringBuilde\x72" "java/lang/AbstractStringBuilde\x72" "putStringAt" "(ILjava/lang/String;)V" ∈ rTs := kMem 353 rfl
set_option maxRecDepth 100000 in
theorem kw354 : Cond.selects "java/lang/StringBuilde\x72" ⟨"java/lang/AbstractStringBuilde\x72", "putStringAt", "(ILjava/lang/String;)V"⟩ ⟨"java/lang/AbstractStringBuilde\x72", "putStringAt", "(ILjava/lang/String;)V"⟩ ∈ rTs := kMem 354 rfl
set_option maxRecDepth 100000 in
theorem kw355 : Cond.instanceMethod ⟨"java/lang/AbstractStringBuilde\x72", "putStringAt", "(ILjava/lang/String;)V"⟩ ∈ rTs := kMem 355 rfl
set_option maxRecDepth 100000 in
theorem kw356 : Cond.code ⟨"java/lang/AbstractStringBuilde\x72", "append", "(Ljava/lang/String;)Ljava/lang/AbstractStringBuilder;"⟩ prog_17_method_22_code 3 (Option.some (FieldType.object "java/lang/AbstractStringBuilde\x72")) ∈ rTs := kMem 356 rfl
set_option maxRecDepth 100000 in
theorem kw357 : Cond.methodLink "java/lang/StringBuilde\x72" 29 ⟨"java/lang/AbstractStringBuilde\x72", "append", "(Ljava/lang/String;)Ljava/lang/AbstractStringBuilder;"⟩ ∈ rTs := kMem 357 rfl
set_option maxRecDepth 100000 in
theorem kw358 : Cond.sameMethod "java/lang/AbstractStringBuilde\x72" "java/lang/AbstractStringBuilde\x72" "append" "(Ljava/lang/String;)Ljava/lang/AbstractStringBuilder;" ∈ rTs := kMem 358 rfl
set_option maxRecDepth 100000 in
theorem kw359 : Cond.superclass "java/lang/StringBuilde\x72" "java/lang/AbstractStringBuilde\x72" ∈ rTs := kMem 359 rfl
set_option maxRecDepth 100000 in
theorem kw360 : Cond.instanceMethod ⟨"java/lang/AbstractStringBuilde\x72", "append", "(Ljava/lang/String;)Ljava/lang/AbstractStringBuilder;"⟩ ∈ rTs := kMem 360 rfl
set_option maxRecDepth 100000 in
theorem kw361 : Cond.code ⟨"java/lang/AbstractStringBuilde\x72", "length", "()I"⟩ prog_17_method_6_code 1 (Option.some FieldType.int) ∈ rTs := kMem 361 rfl
set_option maxRecDepth 100000 in
theorem kw362 : Cond.methodLink "java/lang/StringBuilde\x72" 343 ⟨"java/lang/AbstractStringBuilde\x72", "length", "()I"⟩ ∈ rTs := kMem 362 rfl
set_option maxRecDepth 100000 in
theorem kw363 : Cond.sameMethod "java/lang/AbstractStringBuilde\x72" "java/lang/AbstractStringBuilde\x72" "length" "()I" ∈ rTs := kMem 363 rfl
set_option maxRecDepth 100000 in
theorem kw364 : Cond.instanceMethod ⟨"java/lang/AbstractStringBuilde\x72", "length", "()I"⟩ ∈ rTs := kMem 364 rfl
set_option maxRecDepth 100000 in
theorem kw365 : Cond.code ⟨"java/lang/AbstractStringBuilde\x72", "getValue", "()[B"⟩ prog_17_method_64_code 1 (Option.some (FieldType.array FieldType.byte)) ∈ rTs := kMem 365 rfl
set_option maxRecDepth 100000 in
theorem kw366 : Cond.methodLink "java/lang/String" 552 ⟨"java/lang/AbstractStringBuilde\x72", "getValue", "()[B"⟩ ∈ rTs := kMem 366 rfl
set_option maxRecDepth 100000 in
theorem kw367 : Cond.sameMethod "java/lang/AbstractStringBuilde\x72" "java/lang/AbstractStringBuilde\x72" "getValue" "()[B" ∈ rTs := kMem 367 rfl
set_option maxRecDepth 100000 in
theorem kw368 : Cond.selects "java/lang/StringBuilde\x72" ⟨"java/lang/AbstractStringBuilde\x72", "getValue", "()[B"⟩ ⟨"java/lang/AbstractStringBuilde\x72", "getValue", "()[B"⟩ ∈ rTs := kMem 368 rfl
set_option maxRecDepth 100000 in
theorem kw369 : Cond.instanceMethod ⟨"java/lang/AbstractStringBuilde\x72", "getValue", "()[B"⟩ ∈ rTs := kMem 369 rfl
set_option maxRecDepth 100000 in
theorem kw370 : Cond.code ⟨"java/lang/StringBuilde\x72", "length", "()I"⟩ prog_31_method_93_code 1 (Option.some FieldType.int) ∈ rTs := kMem 370 rfl
set_option maxRecDepth 100000 in
theorem kw371 : Cond.methodLink "java/lang/String" 549 ⟨"java/lang/AbstractStringBuilde\x72", "length", "()I"⟩ ∈ rTs := kMem 371 rfl
set_option maxRecDepth 100000 in
theorem kw372 : Cond.selects "java/lang/StringBuilde\x72" ⟨"java/lang/AbstractStringBuilde\x72", "length", "()I"⟩ ⟨"java/lang/StringBuilde\x72", "length", "()I"⟩ ∈ rTs := kMem 372 rfl
set_option maxRecDepth 100000 in
theorem kw373 : Cond.instanceMethod ⟨"java/lang/StringBuilde\x72", "length", "()I"⟩ ∈ rTs := kMem 373 rfl
set_option maxRecDepth 100000 in
theorem kw374 : Cond.initialized "java/lang/StringBuilde\x72" ∈ rTs := kMem 374 rfl
set_option maxRecDepth 100000 in
theorem kw375 : Cond.code ⟨"java/lang/AbstractStringBuilde\x72", "isLatin1", "()Z"⟩ prog_17_method_68_code 1 (Option.some FieldType.boolean) ∈ rTs := kMem 375 rfl
set_option maxRecDepth 100000 in
theorem kw376 : Cond.methodLink "java/lang/String" 1047 ⟨"java/lang/AbstractStringBuilde\x72", "isLatin1", "()Z"⟩ ∈ rTs := kMem 376 rfl
set_option maxRecDepth 100000 in
theorem kw377 : Cond.sameMethod "java/lang/AbstractStringBuilde\x72" "java/lang/AbstractStringBuilde\x72" "isLatin1" "()Z" ∈ rTs := kMem 377 rfl
set_option maxRecDepth 100000 in
theorem kw378 : Cond.selects "java/lang/StringBuilde\x72" ⟨"java/lang/AbstractStringBuilde\x72", "isLatin1", "()Z"⟩ ⟨"java/lang/AbstractStringBuilde\x72", "isLatin1", "()Z"⟩ ∈ rTs := kMem 378 rfl
set_option maxRecDepth 100000 in
theorem kw379 : Cond.instanceMethod ⟨"java/lang/AbstractStringBuilde\x72", "isLatin1", "()Z"⟩ ∈ rTs := kMem 379 rfl
set_option maxRecDepth 100000 in
theorem kw380 : Cond.methodLink "java/lang/String" 54 ⟨"java/util/Arrays", "copyOfRange", "([BII)[B"⟩ ∈ rTs := kMem 380 rfl
set_option maxRecDepth 100000 in
theorem kw381 : Cond.code ⟨"java/lang/String", "<init>", "(Ljava/lang/AbstractStringBuilder;Ljava/lang/Void;)V"⟩ prog_30_method_150_code 5 (Option.none : Option FieldType) ∈ rTs := kMem 381 rfl
set_option maxRecDepth 100000 in
theorem kw382 : Cond.methodLink "java/lang/String" 489 ⟨"java/lang/String", "<init>", "(Ljava/lang/AbstractStringBuilder;Ljava/lang/Void;)V"⟩ ∈ rTs := kMem 382 rfl
set_option maxRecDepth 100000 in
theorem kw383 : Cond.instanceMethod ⟨"java/lang/String", "<init>", "(Ljava/lang/AbstractStringBuilder;Ljava/lang/Void;)V"⟩ ∈ rTs := kMem 383 rfl
set_option maxRecDepth 100000 in
theorem kw384 : Cond.classLink "java/lang/StringBuilde\x72" 18 "java/lang/String" ∈ rTs := kMem 384 rfl
set_option maxRecDepth 100000 in
theorem kw385 : Cond.code ⟨"java/lang/String", "<init>", "(Ljava/lang/StringBuilder;)V"⟩ prog_30_method_53_code 2 (Option.none : Option FieldType) ∈ rTs := kMem 385 rfl
set_option maxRecDepth 100000 in
theorem kw386 : Cond.methodLink "java/lang/StringBuilde\x72" 137 ⟨"java/lang/String", "<init>", "(Ljava/lang/StringBuilder;)V"⟩ ∈ rTs := kMem 386 rfl
set_option maxRecDepth 100000 in
theorem kw387 : Cond.instanceMethod ⟨"java/lang/String", "<init>", "(Ljava/lang/StringBuilder;)V"⟩ ∈ rTs := kMem 387 rfl
set_option maxRecDepth 100000 in
theorem kw388 : Cond.classLink "NativeWorksModel" 530 "java/lang/StringBuilde\x72" ∈ rTs := kMem 388 rfl
set_option maxRecDepth 100000 in
theorem kw389 : Cond.instantiable "java/lang/StringBuilde\x72" 4 ∈ rTs := kMem 389 rfl
set_option maxRecDepth 100000 in
theorem kw390 : Cond.code ⟨"java/lang/StringBuilde\x72", "<init>", "()V"⟩ prog_31_method_1_code 1 (Option.none : Option FieldType) ∈ rTs := kMem 390 rfl
set_option maxRecDepth 100000 in
theorem kw391 : Cond.methodLink "NativeWorksModel" 532 ⟨"java/lang/StringBuilde\x72", "<init>", "()V"⟩ ∈ rTs := kMem 391 rfl
set_option maxRecDepth 100000 in
theorem kw392 : Cond.instanceMethod ⟨"java/lang/StringBuilde\x72", "<init>", "()V"⟩ ∈ rTs := kMem 392 rfl
set_option maxRecDepth 100000 in
theorem kw393 : Cond.code ⟨"java/lang/StringBuilde\x72", "append", "(Ljava/lang/String;)Ljava/lang/StringBuilder;"⟩ prog_31_method_7_code 2 (Option.some (FieldType.object "java/lang/StringBuilde\x72")) ∈ rTs := kMem 393 rfl
set_option maxRecDepth 100000 in
theorem kw394 : Cond.methodLink "NativeWorksModel" 533 ⟨"java/lang/StringBuilde\x72", "append", "(Ljava/lang/String;)Ljava/lang/StringBuilder;"⟩ ∈ rTs := kMem 394 rfl
set_option maxRecDepth 100000 in
theorem kw395 : Cond.instanceMethod ⟨"java/lang/StringBuilde\x72", "append", "(Ljava/lang/String;)Ljava/lang/StringBuilder;"⟩ ∈ rTs := kMem 395 rfl
set_option maxRecDepth 100000 in
theorem kw396 : Cond.selects "java/lang/StringBuilde\x72" ⟨"java/lang/StringBuilde\x72", "append", "(Ljava/lang/String;)Ljava/lang/StringBuilder;"⟩ ⟨"java/lang/StringBuilde\x72", "append", "(Ljava/lang/String;)Ljava/lang/StringBuilder;"⟩ ∈ rTs := kMem 396 rfl
set_option maxRecDepth 100000 in
theorem kw397 : Cond.code ⟨"java/lang/StringBuilde\x72", "toString", "()Ljava/lang/String;"⟩ prog_31_method_42_code 1 (Option.some (FieldType.object "java/lang/String")) ∈ rTs := kMem 397 rfl
set_option maxRecDepth 100000 in
theorem kw398 : Cond.methodLink "NativeWorksModel" 537 ⟨"java/lang/StringBuilde\x72", "toString", "()Ljava/lang/String;"⟩ ∈ rTs := kMem 398 rfl
set_option maxRecDepth 100000 in
theorem kw399 : Cond.instanceMethod ⟨"java/lang/StringBuilde\x72", "toString", "()Ljava/lang/String;"⟩ ∈ rTs := kMem 399 rfl
set_option maxRecDepth 100000 in
theorem kw400 : Cond.selects "java/lang/StringBuilde\x72" ⟨"java/lang/StringBuilde\x72", "toString", "()Ljava/lang/String;"⟩ ⟨"java/lang/StringBuilde\x72", "toString", "()Ljava/lang/String;"⟩ ∈ rTs := kMem 400 rfl
set_option maxRecDepth 100000 in
theorem kw401 : Cond.classLink "NativeWorksModel" 470 "java/lang/String" ∈ rTs := kMem 401 rfl
set_option maxRecDepth 100000 in
theorem kw402 : Cond.code ⟨"NativeWorksModel", "joined", "(Ljava/lang/String;Ljava/lang/String;)Ljava/lang/String;"⟩ prog_14_method_6_code 2 (Option.some (FieldType.object "java/lang/String")) ∈ rTs := kMem 402 rfl
set_option maxRecDepth 100000 in
theorem kw403 : Cond.methodLink "NativeWorksModel" 526 ⟨"NativeWorksModel", "joined", "(Ljava/lang/String;Ljava/lang/String;)Ljava/lang/String;"⟩ ∈ rTs := kMem 403 rfl
set_option maxRecDepth 100000 in
theorem kw404 : Cond.static ⟨"NativeWorksModel", "joined", "(Ljava/lang/String;Ljava/lang/String;)Ljava/lang/String;"⟩ ∈ rTs := kMem 404 rfl
set_option maxRecDepth 100000 in
theorem kw405 : Cond.fieldLink "NativeWorksModel" 18 "NativeWorksModel" "registerName" "[J" ∈ rTs := kMem 405 rfl
set_option maxRecDepth 100000 in
theorem kw406 : Cond.fieldLink "NativeWorksModel" 605 "NativeWorksModel" "registers" "I" ∈ rTs := kMem 406 rfl
set_option maxRecDepth 100000 in
theorem kw407 : Cond.fieldLink "NativeWorksModel" 25 "NativeWorksModel" "registerCode" "[I" ∈ rTs := kMem 407 rfl
set_option maxRecDepth 100000 in
theorem kw408 : Cond.fieldLink "java/lang/Intege\x72" 83 "java/lang/Intege\x72" "DigitOnes" "[B" ∈ rTs := kMem 408 rfl
set_option maxRecDepth 100000 in
theorem kw409 : Cond.fieldLink "java/lang/Intege\x72" 87 "java/lang/Intege\x72" "DigitTens" "[B" ∈ rTs := kMem 409 rfl
set_option maxRecDepth 100000 in
theorem kw410 : Cond.code ⟨"java/lang/Intege\x72", "stringSize", "(I)I"⟩ prog_25_method_13_code 4 (Option.some FieldType.int) ∈ rTs := kMem 410 rfl
set_option maxRecDepth 100000 in
theorem kw411 : Cond.methodLink "java/lang/AbstractStringBuilde\x72" 245 ⟨"java/lang/Intege\x72", "stringSize", "(I)I"⟩ ∈ rTs := kMem 411 rfl
set_option maxRecDepth 100000 in
theorem kw412 : Cond.static ⟨"java/lang/Intege\x72", "stringSize", "(I)I"⟩ ∈ rTs := kMem 412 rfl
set_option maxRecDepth 100000 in
theorem kw413 : Cond.initialized "java/lang/Intege\x72" ∈ rTs := kMem 413 rfl
set_option maxRecDepth 100000 in
theorem kw414 : Cond.methodLink "java/lang/AbstractStringBuilde\x72" 83 ⟨"java/lang/AbstractStringBuilde\x72", "isLatin1", "()Z"⟩ ∈ rTs := kMem 414 rfl
set_option maxRecDepth 100000 in
theorem kw415 : Cond.code ⟨"java/lang/Intege\x72", "getChars", "(II[B)I"⟩ prog_25_method_12_code 7 (Option.some FieldType.int) ∈ rTs := kMem 415 rfl
set_option maxRecDepth 100000 in
theorem kw416 : Cond.methodLink "java/lang/AbstractStringBuilde\x72" 248 ⟨"java/lang/Intege\x72", "getChars", "(II[B)I"⟩ ∈ rTs := kMem 416 rfl
set_option maxRecDepth 100000 in
theorem kw417 : Cond.static ⟨"java/lang/Intege\x72", "getChars", "(II[B)I"⟩ ∈ rTs := kMem 417 rfl
set_option maxRecDepth 100000 in
theorem kw418 : Cond.code ⟨"java/lang/AbstractStringBuilde\x72", "append", "(I)Ljava/lang/AbstractStringBuilder;"⟩ prog_17_method_32_code 4 (Option.some (FieldType.object "java/lang/AbstractStringBuilde\x72")) ∈ rTs := kMem 418 rfl
set_option maxRecDepth 100000 in
theorem kw419 : Cond.methodLink "java/lang/StringBuilde\x72" 53 ⟨"java/lang/AbstractStringBuilde\x72", "append", "(I)Ljava/lang/AbstractStringBuilder;"⟩ ∈ rTs := kMem 419 rfl
set_option maxRecDepth 100000 in
theorem kw420 : Cond.sameMethod "java/lang/AbstractStringBuilde\x72" "java/lang/AbstractStringBuilde\x72" "append" "(I)Ljava/lang/AbstractStringBuilder;" ∈ rTs := kMem 420 rfl
set_option maxRecDepth 100000 in
theorem kw421 : Cond.instanceMethod ⟨"java/lang/AbstractStringBuilde\x72", "append", "(I)Ljava/lang/AbstractStringBuilder;"⟩ ∈ rTs := kMem 421 rfl
set_option maxRecDepth 100000 in
theorem kw422 : Cond.code ⟨"java/lang/StringBuilde\x72", "append", "(I)Ljava/lang/StringBuilder;"⟩ prog_31_method_15_code 2 (Option.some (FieldType.object "java/lang/StringBuilde\x72")) ∈ rTs := kMem 422 rfl
set_option maxRecDepth 100000 in
theorem kw423 : Cond.methodLink "NativeWorksModel" 543 ⟨"java/lang/StringBuilde\x72", "append", "(I)Ljava/lang/StringBuilder;"⟩ ∈ rTs := kMem 423 rfl
set_option maxRecDepth 100000 in
theorem kw424 : Cond.instanceMethod ⟨"java/lang/StringBuilde\x72", "append", "(I)Ljava/lang/StringBuilder;"⟩ ∈ rTs := kMem 424 rfl
set_option maxRecDepth 100000 in
theorem kw425 : Cond.selects "java/lang/StringBuilde\x72" ⟨"java/lang/StringBuilde\x72", "append", "(I)Ljava/lang/StringBuilder;"⟩ ⟨"java/lang/StringBuilde\x72", "append", "(I)Ljava/lang/StringBuilder;"⟩ ∈ rTs := kMem 425 rfl
set_option maxRecDepth 100000 in
theorem kw426 : Cond.code ⟨"NativeWorksModel", "registerNamed", "(Ljava/lang/String;I)V"⟩ prog_14_method_9_code 3 (Option.none : Option FieldType) ∈ rTs := kMem 426 rfl
set_option maxRecDepth 100000 in
theorem kw427 : Cond.methodLink "NativeWorksModel" 594 ⟨"NativeWorksModel", "registerNamed", "(Ljava/lang/String;I)V"⟩ ∈ rTs := kMem 427 rfl
set_option maxRecDepth 100000 in
theorem kw428 : Cond.instanceMethod ⟨"NativeWorksModel", "registerNamed", "(Ljava/lang/String;I)V"⟩ ∈ rTs := kMem 428 rfl
set_option maxRecDepth 100000 in
theorem kw429 : Cond.selects "NativeWorksModel" ⟨"NativeWorksModel", "registerNamed", "(Ljava/lang/String;I)V"⟩ ⟨"NativeWorksModel", "registerNamed", "(Ljava/lang/String;I)V"⟩ ∈ rTs := kMem 429 rfl
set_option maxRecDepth 100000 in
theorem kw430 : Cond.code ⟨"NativeWorksModel", "numbered", "(ILjava/lang/String;)Ljava/lang/String;"⟩ prog_14_method_7_code 2 (Option.some (FieldType.object "java/lang/String")) ∈ rTs := kMem 430 rfl
set_option maxRecDepth 100000 in
theorem kw431 : Cond.methodLink "NativeWorksModel" 599 ⟨"NativeWorksModel", "numbered", "(ILjava/lang/String;)Ljava/lang/String;"⟩ ∈ rTs := kMem 431 rfl
set_option maxRecDepth 100000 in
theorem kw432 : Cond.static ⟨"NativeWorksModel", "numbered", "(ILjava/lang/String;)Ljava/lang/String;"⟩ ∈ rTs := kMem 432 rfl
set_option maxRecDepth 100000 in
theorem kw433 : Cond.fieldLink "NativeWorksModel" 258 "NativeWorksModel" "rowOp" "[I" ∈ rTs := kMem 433 rfl
set_option maxRecDepth 100000 in
theorem kw434 : Cond.fieldLink "NativeWorksModel" 1075 "NativeWorksModel" "rows" "I" ∈ rTs := kMem 434 rfl
set_option maxRecDepth 100000 in
theorem kw435 : Cond.fieldLink "NativeWorksModel" 261 "NativeWorksModel" "rowSizes" "[I" ∈ rTs := kMem 435 rfl
set_option maxRecDepth 100000 in
theorem kw436 : Cond.fieldLink "NativeWorksModel" 264 "NativeWorksModel" "rowPattern" "[I" ∈ rTs := kMem 436 rfl
set_option maxRecDepth 100000 in
theorem kw437 : Cond.fieldLink "NativeWorksModel" 267 "NativeWorksModel" "rowLead" "[I" ∈ rTs := kMem 437 rfl
set_option maxRecDepth 100000 in
theorem kw438 : Cond.fieldLink "NativeWorksModel" 270 "NativeWorksModel" "rowCode" "[I" ∈ rTs := kMem 438 rfl
set_option maxRecDepth 100000 in
theorem kw439 : Cond.fieldLink "NativeWorksModel" 273 "NativeWorksModel" "rowTell" "[I" ∈ rTs := kMem 439 rfl
set_option maxRecDepth 100000 in
theorem kw440 : Cond.fieldLink "NativeWorksModel" 276 "NativeWorksModel" "rowNumbe\x72" "[I" ∈ rTs := kMem 440 rfl
set_option maxRecDepth 100000 in
theorem kw441 : Cond.code ⟨"NativeWorksModel", "row", "(IIIIIII)V"⟩ prog_14_method_102_code 8 (Option.none : Option FieldType) ∈ rTs := kMem 441 rfl
set_option maxRecDepth 100000 in
theorem kw442 : Cond.methodLink "NativeWorksModel" 1103 ⟨"NativeWorksModel", "row", "(IIIIIII)V"⟩ ∈ rTs := kMem 442 rfl
set_option maxRecDepth 100000 in
theorem kw443 : Cond.instanceMethod ⟨"NativeWorksModel", "row", "(IIIIIII)V"⟩ ∈ rTs := kMem 443 rfl
set_option maxRecDepth 100000 in
theorem kw444 : Cond.selects "NativeWorksModel" ⟨"NativeWorksModel", "row", "(IIIIIII)V"⟩ ⟨"NativeWorksModel", "row", "(IIIIIII)V"⟩ ∈ rTs := kMem 444 rfl
set_option maxRecDepth 100000 in
theorem kw445 : Cond.code ⟨"NativeWorksModel", "fillRest", "()V"⟩ prog_14_method_104_code 2 (Option.none : Option FieldType) ∈ rTs := kMem 445 rfl
set_option maxRecDepth 100000 in
theorem kw446 : Cond.methodLink "NativeWorksModel" 1107 ⟨"NativeWorksModel", "fillRest", "()V"⟩ ∈ rTs := kMem 446 rfl
set_option maxRecDepth 100000 in
theorem kw447 : Cond.instanceMethod ⟨"NativeWorksModel", "fillRest", "()V"⟩ ∈ rTs := kMem 447 rfl
set_option maxRecDepth 100000 in
theorem kw448 : Cond.selects "NativeWorksModel" ⟨"NativeWorksModel", "fillRest", "()V"⟩ ⟨"NativeWorksModel", "fillRest", "()V"⟩ ∈ rTs := kMem 448 rfl
set_option maxRecDepth 100000 in
theorem kw449 : Cond.methodLink "NativeWorksModel" 1 ⟨"java/lang/Object", "<init>", "()V"⟩ ∈ rTs := kMem 449 rfl
set_option maxRecDepth 100000 in
theorem kw450 : Cond.constant "NativeWorksModel" 9 (nI 65536) ∈ rTs := kMem 450 (by decide +kernel)
set_option maxRecDepth 100000 in
theorem kw451 : Cond.fieldLink "NativeWorksModel" 10 "NativeWorksModel" "tape" "[B" ∈ rTs := kMem 451 rfl
set_option maxRecDepth 100000 in
theorem kw452 : Cond.fieldLink "NativeWorksModel" 28 "NativeWorksModel" "symbolUnit" "[I" ∈ rTs := kMem 452 rfl
set_option maxRecDepth 100000 in
theorem kw453 : Cond.fieldLink "NativeWorksModel" 31 "NativeWorksModel" "isLibrary" "[Z" ∈ rTs := kMem 453 rfl
set_option maxRecDepth 100000 in
theorem kw454 : Cond.fieldLink "NativeWorksModel" 35 "NativeWorksModel" "firstItem" "[I" ∈ rTs := kMem 454 rfl
set_option maxRecDepth 100000 in
theorem kw455 : Cond.fieldLink "NativeWorksModel" 38 "NativeWorksModel" "firstSymbol" "[I" ∈ rTs := kMem 455 rfl
set_option maxRecDepth 100000 in
theorem kw456 : Cond.fieldLink "NativeWorksModel" 41 "NativeWorksModel" "firstWait" "[I" ∈ rTs := kMem 456 rfl
set_option maxRecDepth 100000 in
theorem kw457 : Cond.fieldLink "NativeWorksModel" 44 "NativeWorksModel" "sectionSize" "[I" ∈ rTs := kMem 457 rfl
set_option maxRecDepth 100000 in
theorem kw458 : Cond.fieldLink "NativeWorksModel" 47 "NativeWorksModel" "kept" "[Z" ∈ rTs := kMem 458 rfl
set_option maxRecDepth 100000 in
theorem kw459 : Cond.fieldLink "NativeWorksModel" 50 "NativeWorksModel" "faultUnit" "I" ∈ rTs := kMem 459 rfl
set_option maxRecDepth 100000 in
theorem kw460 : Cond.constant "NativeWorksModel" 54 (nI 129024) ∈ rTs := kMem 460 (by decide +kernel)
set_option maxRecDepth 100000 in
theorem kw461 : Cond.fieldLink "NativeWorksModel" 55 "NativeWorksModel" "pool" "[B" ∈ rTs := kMem 461 rfl
set_option maxRecDepth 100000 in
theorem kw462 : Cond.fieldLink "NativeWorksModel" 58 "NativeWorksModel" "nameAt" "[I" ∈ rTs := kMem 462 rfl
set_option maxRecDepth 100000 in
theorem kw463 : Cond.fieldLink "NativeWorksModel" 61 "NativeWorksModel" "nameLength" "[I" ∈ rTs := kMem 463 rfl
set_option maxRecDepth 100000 in
theorem kw464 : Cond.fieldLink "NativeWorksModel" 64 "NativeWorksModel" "nameSum" "[J" ∈ rTs := kMem 464 rfl
set_option maxRecDepth 100000 in
theorem kw465 : Cond.fieldLink "NativeWorksModel" 67 "NativeWorksModel" "labelItem" "[I" ∈ rTs := kMem 465 rfl
set_option maxRecDepth 100000 in
theorem kw466 : Cond.fieldLink "NativeWorksModel" 70 "NativeWorksModel" "isConstant" "[Z" ∈ rTs := kMem 466 rfl
set_option maxRecDepth 100000 in
theorem kw467 : Cond.fieldLink "NativeWorksModel" 73 "NativeWorksModel" "isUsed" "[Z" ∈ rTs := kMem 467 rfl
set_option maxRecDepth 100000 in
theorem kw468 : Cond.fieldLink "NativeWorksModel" 76 "NativeWorksModel" "isGlobal" "[Z" ∈ rTs := kMem 468 rfl
set_option maxRecDepth 100000 in
theorem kw469 : Cond.fieldLink "NativeWorksModel" 79 "NativeWorksModel" "isWeak" "[Z" ∈ rTs := kMem 469 rfl
set_option maxRecDepth 100000 in
theorem kw470 : Cond.fieldLink "NativeWorksModel" 82 "NativeWorksModel" "constant" "[J" ∈ rTs := kMem 470 rfl
set_option maxRecDepth 100000 in
theorem kw471 : Cond.fieldLink "NativeWorksModel" 85 "NativeWorksModel" "itemKind" "[B" ∈ rTs := kMem 471 rfl
set_option maxRecDepth 100000 in
theorem kw472 : Cond.fieldLink "NativeWorksModel" 88 "NativeWorksModel" "itemSection" "[B" ∈ rTs := kMem 472 rfl
set_option maxRecDepth 100000 in
theorem kw473 : Cond.fieldLink "NativeWorksModel" 91 "NativeWorksModel" "itemLine" "[I" ∈ rTs := kMem 473 rfl
set_option maxRecDepth 100000 in
theorem kw474 : Cond.fieldLink "NativeWorksModel" 94 "NativeWorksModel" "itemSize" "[I" ∈ rTs := kMem 474 rfl
set_option maxRecDepth 100000 in
theorem kw475 : Cond.fieldLink "NativeWorksModel" 97 "NativeWorksModel" "itemOffset" "[I" ∈ rTs := kMem 475 rfl
set_option maxRecDepth 100000 in
theorem kw476 : Cond.fieldLink "NativeWorksModel" 100 "NativeWorksModel" "itemData" "[I" ∈ rTs := kMem 476 rfl
set_option maxRecDepth 100000 in
theorem kw477 : Cond.fieldLink "NativeWorksModel" 103 "NativeWorksModel" "itemShape" "[J" ∈ rTs := kMem 477 rfl
set_option maxRecDepth 100000 in
theorem kw478 : Cond.fieldLink "NativeWorksModel" 106 "NativeWorksModel" "itemDisplacement" "[I" ∈ rTs := kMem 478 rfl
set_option maxRecDepth 100000 in
theorem kw479 : Cond.fieldLink "NativeWorksModel" 109 "NativeWorksModel" "itemNumbe\x72" "[J" ∈ rTs := kMem 479 rfl
set_option maxRecDepth 100000 in
theorem kw480 : Cond.constant "NativeWorksModel" 112 (nI 132172) ∈ rTs := kMem 480 (by decide +kernel)
set_option maxRecDepth 100000 in
theorem kw481 : Cond.fieldLink "NativeWorksModel" 113 "NativeWorksModel" "data" "[B" ∈ rTs := kMem 481 rfl
set_option maxRecDepth 100000 in
theorem kw482 : Cond.fieldLink "NativeWorksModel" 116 "NativeWorksModel" "waitItem" "[I" ∈ rTs := kMem 482 rfl
set_option maxRecDepth 100000 in
theorem kw483 : Cond.fieldLink "NativeWorksModel" 119 "NativeWorksModel" "waitAt" "[I" ∈ rTs := kMem 483 rfl
set_option maxRecDepth 100000 in
theorem kw484 : Cond.fieldLink "NativeWorksModel" 122 "NativeWorksModel" "waitPlus" "[I" ∈ rTs := kMem 484 rfl
set_option maxRecDepth 100000 in
theorem kw485 : Cond.fieldLink "NativeWorksModel" 125 "NativeWorksModel" "waitMinus" "[I" ∈ rTs := kMem 485 rfl
set_option maxRecDepth 100000 in
theorem kw486 : Cond.fieldLink "NativeWorksModel" 128 "NativeWorksModel" "waitSize" "[B" ∈ rTs := kMem 486 rfl
set_option maxRecDepth 100000 in
theorem kw487 : Cond.fieldLink "NativeWorksModel" 131 "NativeWorksModel" "waitWhat" "[B" ∈ rTs := kMem 487 rfl
set_option maxRecDepth 100000 in
theorem kw488 : Cond.fieldLink "NativeWorksModel" 134 "NativeWorksModel" "waitConstant" "[J" ∈ rTs := kMem 488 rfl
set_option maxRecDepth 100000 in
theorem kw489 : Cond.fieldLink "NativeWorksModel" 137 "NativeWorksModel" "line" "[B" ∈ rTs := kMem 489 rfl
set_option maxRecDepth 100000 in
theorem kw490 : Cond.fieldLink "NativeWorksModel" 140 "NativeWorksModel" "frameKind" "[I" ∈ rTs := kMem 490 rfl
set_option maxRecDepth 100000 in
theorem kw491 : Cond.fieldLink "NativeWorksModel" 143 "NativeWorksModel" "frameStop" "[I" ∈ rTs := kMem 491 rfl
set_option maxRecDepth 100000 in
theorem kw492 : Cond.fieldLink "NativeWorksModel" 146 "NativeWorksModel" "frameStopLine" "[I" ∈ rTs := kMem 492 rfl
set_option maxRecDepth 100000 in
theorem kw493 : Cond.fieldLink "NativeWorksModel" 149 "NativeWorksModel" "frameBody" "[I" ∈ rTs := kMem 493 rfl
set_option maxRecDepth 100000 in
theorem kw494 : Cond.fieldLink "NativeWorksModel" 152 "NativeWorksModel" "frameBodyLine" "[I" ∈ rTs := kMem 494 rfl
set_option maxRecDepth 100000 in
theorem kw495 : Cond.fieldLink "NativeWorksModel" 155 "NativeWorksModel" "frameLeft" "[I" ∈ rTs := kMem 495 rfl
set_option maxRecDepth 100000 in
theorem kw496 : Cond.fieldLink "NativeWorksModel" 158 "NativeWorksModel" "frameOwn" "[I" ∈ rTs := kMem 496 rfl
set_option maxRecDepth 100000 in
theorem kw497 : Cond.fieldLink "NativeWorksModel" 161 "NativeWorksModel" "frameMacro" "[I" ∈ rTs := kMem 497 rfl
set_option maxRecDepth 100000 in
theorem kw498 : Cond.fieldLink "NativeWorksModel" 164 "NativeWorksModel" "frameNumbe\x72" "[I" ∈ rTs := kMem 498 rfl
set_option maxRecDepth 100000 in
theorem kw499 : Cond.fieldLink "NativeWorksModel" 167 "NativeWorksModel" "frameElse" "[Z" ∈ rTs := kMem 499 rfl
set_option maxRecDepth 100000 in
theorem kw500 : Cond.classLink "NativeWorksModel" 170 "[[B" ∈ rTs := kMem 500 rfl
set_option maxRecDepth 100000 in
theorem kw501 : Cond.fieldLink "NativeWorksModel" 172 "NativeWorksModel" "argument" "[[B" ∈ rTs := kMem 501 rfl
set_option maxRecDepth 100000 in
theorem kw502 : Cond.classLink "NativeWorksModel" 175 "[[I" ∈ rTs := kMem 502 rfl
set_option maxRecDepth 100000 in
theorem kw503 : Cond.fieldLink "NativeWorksModel" 177 "NativeWorksModel" "argumentAt" "[[I" ∈ rTs := kMem 503 rfl
set_option maxRecDepth 100000 in
theorem kw504 : Cond.fieldLink "NativeWorksModel" 180 "NativeWorksModel" "arguments" "[I" ∈ rTs := kMem 504 rfl
set_option maxRecDepth 100000 in
theorem kw505 : Cond.fieldLink "NativeWorksModel" 183 "NativeWorksModel" "macroName" "[I" ∈ rTs := kMem 505 rfl
set_option maxRecDepth 100000 in
theorem kw506 : Cond.fieldLink "NativeWorksModel" 186 "NativeWorksModel" "macroLength" "[I" ∈ rTs := kMem 506 rfl
set_option maxRecDepth 100000 in
theorem kw507 : Cond.fieldLink "NativeWorksModel" 189 "NativeWorksModel" "macroParameters" "[I" ∈ rTs := kMem 507 rfl
set_option maxRecDepth 100000 in
theorem kw508 : Cond.fieldLink "NativeWorksModel" 192 "NativeWorksModel" "macroBody" "[I" ∈ rTs := kMem 508 rfl
set_option maxRecDepth 100000 in
theorem kw509 : Cond.fieldLink "NativeWorksModel" 195 "NativeWorksModel" "macroBodyLine" "[I" ∈ rTs := kMem 509 rfl
set_option maxRecDepth 100000 in
theorem kw510 : Cond.fieldLink "NativeWorksModel" 198 "NativeWorksModel" "macroEnd" "[I" ∈ rTs := kMem 510 rfl
set_option maxRecDepth 100000 in
theorem kw511 : Cond.fieldLink "NativeWorksModel" 201 "NativeWorksModel" "macroEndLine" "[I" ∈ rTs := kMem 511 rfl
set_option maxRecDepth 100000 in
theorem kw512 : Cond.fieldLink "NativeWorksModel" 204 "NativeWorksModel" "token" "[I" ∈ rTs := kMem 512 rfl
set_option maxRecDepth 100000 in
theorem kw513 : Cond.fieldLink "NativeWorksModel" 207 "NativeWorksModel" "tokenStart" "[I" ∈ rTs := kMem 513 rfl
set_option maxRecDepth 100000 in
theorem kw514 : Cond.fieldLink "NativeWorksModel" 210 "NativeWorksModel" "tokenLength" "[I" ∈ rTs := kMem 514 rfl
set_option maxRecDepth 100000 in
theorem kw515 : Cond.fieldLink "NativeWorksModel" 213 "NativeWorksModel" "tokenValue" "[J" ∈ rTs := kMem 515 rfl
set_option maxRecDepth 100000 in
theorem kw516 : Cond.fieldLink "NativeWorksModel" 216 "NativeWorksModel" "name" "[B" ∈ rTs := kMem 516 rfl
set_option maxRecDepth 100000 in
theorem kw517 : Cond.fieldLink "NativeWorksModel" 219 "NativeWorksModel" "value" "[J" ∈ rTs := kMem 517 rfl
set_option maxRecDepth 100000 in
theorem kw518 : Cond.fieldLink "NativeWorksModel" 222 "NativeWorksModel" "plus" "[I" ∈ rTs := kMem 518 rfl
set_option maxRecDepth 100000 in
theorem kw519 : Cond.fieldLink "NativeWorksModel" 225 "NativeWorksModel" "minus" "[I" ∈ rTs := kMem 519 rfl
set_option maxRecDepth 100000 in
theorem kw520 : Cond.fieldLink "NativeWorksModel" 228 "NativeWorksModel" "operato\x72" "[I" ∈ rTs := kMem 520 rfl
set_option maxRecDepth 100000 in
theorem kw521 : Cond.fieldLink "NativeWorksModel" 231 "NativeWorksModel" "piece" "[I" ∈ rTs := kMem 521 rfl
set_option maxRecDepth 100000 in
theorem kw522 : Cond.fieldLink "NativeWorksModel" 234 "NativeWorksModel" "spanPlus" "[I" ∈ rTs := kMem 522 rfl
set_option maxRecDepth 100000 in
theorem kw523 : Cond.fieldLink "NativeWorksModel" 237 "NativeWorksModel" "spanMinus" "[I" ∈ rTs := kMem 523 rfl
set_option maxRecDepth 100000 in
theorem kw524 : Cond.fieldLink "NativeWorksModel" 240 "NativeWorksModel" "spanLine" "[I" ∈ rTs := kMem 524 rfl
set_option maxRecDepth 100000 in
theorem kw525 : Cond.fieldLink "NativeWorksModel" 243 "NativeWorksModel" "kind" "[I" ∈ rTs := kMem 525 rfl
set_option maxRecDepth 100000 in
theorem kw526 : Cond.fieldLink "NativeWorksModel" 246 "NativeWorksModel" "registe\x72" "[I" ∈ rTs := kMem 526 rfl
set_option maxRecDepth 100000 in
theorem kw527 : Cond.fieldLink "NativeWorksModel" 249 "NativeWorksModel" "told" "[I" ∈ rTs := kMem 527 rfl
set_option maxRecDepth 100000 in
theorem kw528 : Cond.fieldLink "NativeWorksModel" 252 "NativeWorksModel" "from" "[I" ∈ rTs := kMem 528 rfl
set_option maxRecDepth 100000 in
theorem kw529 : Cond.fieldLink "NativeWorksModel" 255 "NativeWorksModel" "to" "[I" ∈ rTs := kMem 529 rfl
set_option maxRecDepth 100000 in
theorem kw530 : Cond.fieldLink "NativeWorksModel" 279 "NativeWorksModel" "best" "[B" ∈ rTs := kMem 530 rfl
set_option maxRecDepth 100000 in
theorem kw531 : Cond.fieldLink "NativeWorksModel" 282 "NativeWorksModel" "trial" "[B" ∈ rTs := kMem 531 rfl
set_option maxRecDepth 100000 in
theorem kw532 : Cond.fieldLink "NativeWorksModel" 285 "NativeWorksModel" "termRegiste\x72" "[I" ∈ rTs := kMem 532 rfl
set_option maxRecDepth 100000 in
theorem kw533 : Cond.fieldLink "NativeWorksModel" 288 "NativeWorksModel" "termScale" "[I" ∈ rTs := kMem 533 rfl
set_option maxRecDepth 100000 in
theorem kw534 : Cond.classLink "NativeWorksModel" 291 "NativeWorksModel$Code" ∈ rTs := kMem 534 rfl
set_option maxRecDepth 100000 in
theorem kw535 : Cond.instantiable "NativeWorksModel$Code" 13 ∈ rTs := kMem 535 rfl
set_option maxRecDepth 100000 in
theorem kw536 : Cond.initialized "NativeWorksModel$Code" ∈ rTs := kMem 536 rfl
set_option maxRecDepth 100000 in
theorem kw537 : Cond.code ⟨"NativeWorksModel$Code", "<init>", "()V"⟩ prog_15_method_1_code 1 (Option.none : Option FieldType) ∈ rTs := kMem 537 rfl
set_option maxRecDepth 100000 in
theorem kw538 : Cond.instanceMethod ⟨"NativeWorksModel$Code", "<init>", "()V"⟩ ∈ rTs := kMem 538 rfl
set_option maxRecDepth 100000 in
theorem kw539 : Cond.fieldLink "NativeWorksModel" 294 "NativeWorksModel" "image" "LNativeWorksModel$Code;" ∈ rTs := kMem 539 rfl
set_option maxRecDepth 100000 in
theorem kw540 : Cond.fieldLink "NativeWorksModel" 298 "NativeWorksModel" "code" "LNativeWorksModel$Code;" ∈ rTs := kMem 540 rfl
set_option maxRecDepth 100000 in
theorem kw541 : Cond.constant "NativeWorksModel" 301 (nI 131072) ∈ rTs := kMem 541 (by decide +kernel)
set_option maxRecDepth 100000 in
theorem kw542 : Cond.fieldLink "NativeWorksModel" 302 "NativeWorksModel" "imageBytes" "[B" ∈ rTs := kMem 542 rfl
set_option maxRecDepth 100000 in
theorem kw543 : Cond.fieldLink "NativeWorksModel" 305 "NativeWorksModel" "taken" "[Z" ∈ rTs := kMem 543 rfl
set_option maxRecDepth 100000 in
theorem kw544 : Cond.fieldLink "NativeWorksModel" 308 "NativeWorksModel" "needed" "[Z" ∈ rTs := kMem 544 rfl
set_option maxRecDepth 100000 in
theorem kw545 : Cond.fieldLink "NativeWorksModel" 311 "NativeWorksModel" "addressOf" "[I" ∈ rTs := kMem 545 rfl
set_option maxRecDepth 100000 in
theorem kw546 : Cond.fieldLink "NativeWorksModel" 314 "NativeWorksModel" "imagePool" "[B" ∈ rTs := kMem 546 rfl
set_option maxRecDepth 100000 in
theorem kw547 : Cond.fieldLink "NativeWorksModel" 317 "NativeWorksModel" "imageNameAt" "[I" ∈ rTs := kMem 547 rfl
set_option maxRecDepth 100000 in
theorem kw548 : Cond.fieldLink "NativeWorksModel" 320 "NativeWorksModel" "imageNameLength" "[I" ∈ rTs := kMem 548 rfl
set_option maxRecDepth 100000 in
theorem kw549 : Cond.fieldLink "NativeWorksModel" 323 "NativeWorksModel" "imageNameAddress" "[I" ∈ rTs := kMem 549 rfl
set_option maxRecDepth 100000 in
theorem kw550 : Cond.fieldLink "NativeWorksModel" 326 "NativeWorksModel" "memory" "[B" ∈ rTs := kMem 550 rfl
set_option maxRecDepth 100000 in
theorem kw551 : Cond.fieldLink "NativeWorksModel" 329 "NativeWorksModel" "heap" "[B" ∈ rTs := kMem 551 rfl
set_option maxRecDepth 100000 in
theorem kw552 : Cond.fieldLink "NativeWorksModel" 332 "NativeWorksModel" "stack" "[B" ∈ rTs := kMem 552 rfl
set_option maxRecDepth 100000 in
theorem kw553 : Cond.fieldLink "NativeWorksModel" 335 "NativeWorksModel" "given" "[B" ∈ rTs := kMem 553 rfl
set_option maxRecDepth 100000 in
theorem kw554 : Cond.fieldLink "NativeWorksModel" 338 "NativeWorksModel" "shown" "[B" ∈ rTs := kMem 554 rfl
set_option maxRecDepth 100000 in
theorem kw555 : Cond.fieldLink "NativeWorksModel" 341 "NativeWorksModel" "registers0" "[J" ∈ rTs := kMem 555 rfl
set_option maxRecDepth 100000 in
theorem kw556 : Cond.fieldLink "NativeWorksModel" 344 "NativeWorksModel" "kept0" "[J" ∈ rTs := kMem 556 rfl
set_option maxRecDepth 100000 in
theorem kw557 : Cond.fieldLink "NativeWorksModel" 347 "NativeWorksModel" "places" "[J" ∈ rTs := kMem 557 rfl
set_option maxRecDepth 100000 in
theorem kw558 : Cond.code ⟨"NativeWorksModel", "wordsOf", "(Ljava/lang/String;I)V"⟩ prog_14_method_3_code 6 (Option.none : Option FieldType) ∈ rTs := kMem 558 rfl
set_option maxRecDepth 100000 in
theorem kw559 : Cond.methodLink "NativeWorksModel" 352 ⟨"NativeWorksModel", "wordsOf", "(Ljava/lang/String;I)V"⟩ ∈ rTs := kMem 559 rfl
set_option maxRecDepth 100000 in
theorem kw560 : Cond.instanceMethod ⟨"NativeWorksModel", "wordsOf", "(Ljava/lang/String;I)V"⟩ ∈ rTs := kMem 560 rfl
set_option maxRecDepth 100000 in
theorem kw561 : Cond.selects "NativeWorksModel" ⟨"NativeWorksModel", "wordsOf", "(Ljava/lang/String;I)V"⟩ ⟨"NativeWorksModel", "wordsOf", "(Ljava/lang/String;I)V"⟩ ∈ rTs := kMem 561 rfl
set_option maxRecDepth 100000 in
theorem kw562 : Cond.code ⟨"NativeWorksModel", "conditions", "(Ljava/lang/String;I)V"⟩ prog_14_method_5_code 5 (Option.none : Option FieldType) ∈ rTs := kMem 562 rfl
set_option maxRecDepth 100000 in
theorem kw563 : Cond.methodLink "NativeWorksModel" 360 ⟨"NativeWorksModel", "conditions", "(Ljava/lang/String;I)V"⟩ ∈ rTs := kMem 563 rfl
set_option maxRecDepth 100000 in
theorem kw564 : Cond.instanceMethod ⟨"NativeWorksModel", "conditions", "(Ljava/lang/String;I)V"⟩ ∈ rTs := kMem 564 rfl
set_option maxRecDepth 100000 in
theorem kw565 : Cond.selects "NativeWorksModel" ⟨"NativeWorksModel", "conditions", "(Ljava/lang/String;I)V"⟩ ⟨"NativeWorksModel", "conditions", "(Ljava/lang/String;I)V"⟩ ∈ rTs := kMem 565 rfl
set_option maxRecDepth 100000 in
theorem kw566 : Cond.constant "NativeWorksModel" 369 (nI 262181) ∈ rTs := kMem 566 (by decide +kernel)
set_option maxRecDepth 100000 in
theorem kw567 : Cond.constant "NativeWorksModel" 375 (nI 524325) ∈ rTs := kMem 567 (by decide +kernel)
set_option maxRecDepth 100000 in
theorem kw568 : Cond.constant "NativeWorksModel" 378 (nI 262182) ∈ rTs := kMem 568 (by decide +kernel)
set_option maxRecDepth 100000 in
theorem kw569 : Cond.constant "NativeWorksModel" 381 (nI 524326) ∈ rTs := kMem 569 (by decide +kernel)
set_option maxRecDepth 100000 in
theorem kw570 : Cond.constant "NativeWorksModel" 386 (nI 65586) ∈ rTs := kMem 570 (by decide +kernel)
set_option maxRecDepth 100000 in
theorem kw571 : Cond.constant "NativeWorksModel" 389 (nI 262194) ∈ rTs := kMem 571 (by decide +kernel)
set_option maxRecDepth 100000 in
theorem kw572 : Cond.constant "NativeWorksModel" 392 (nI 524338) ∈ rTs := kMem 572 (by decide +kernel)
set_option maxRecDepth 100000 in
theorem kw573 : Cond.constant "NativeWorksModel" 395 (nI 65587) ∈ rTs := kMem 573 (by decide +kernel)
set_option maxRecDepth 100000 in
theorem kw574 : Cond.constant "NativeWorksModel" 398 (nI 262195) ∈ rTs := kMem 574 (by decide +kernel)
set_option maxRecDepth 100000 in
theorem kw575 : Cond.constant "NativeWorksModel" 401 (nI 524339) ∈ rTs := kMem 575 (by decide +kernel)
set_option maxRecDepth 100000 in
theorem kw576 : Cond.code ⟨"NativeWorksModel", "registerNames", "()V"⟩ prog_14_method_8_code 5 (Option.none : Option FieldType) ∈ rTs := kMem 576 rfl
set_option maxRecDepth 100000 in
theorem kw577 : Cond.methodLink "NativeWorksModel" 414 ⟨"NativeWorksModel", "registerNames", "()V"⟩ ∈ rTs := kMem 577 rfl
set_option maxRecDepth 100000 in
theorem kw578 : Cond.instanceMethod ⟨"NativeWorksModel", "registerNames", "()V"⟩ ∈ rTs := kMem 578 rfl
set_option maxRecDepth 100000 in
theorem kw579 : Cond.selects "NativeWorksModel" ⟨"NativeWorksModel", "registerNames", "()V"⟩ ⟨"NativeWorksModel", "registerNames", "()V"⟩ ∈ rTs := kMem 579 rfl
set_option maxRecDepth 100000 in
theorem kw580 : Cond.fieldLink "NativeWorksModel" 423 "NativeWorksModel" "textWord" "J" ∈ rTs := kMem 580 rfl
set_option maxRecDepth 100000 in
theorem kw581 : Cond.fieldLink "NativeWorksModel" 429 "NativeWorksModel" "rodataWord" "J" ∈ rTs := kMem 581 rfl
set_option maxRecDepth 100000 in
theorem kw582 : Cond.fieldLink "NativeWorksModel" 433 "NativeWorksModel" "dataWord" "J" ∈ rTs := kMem 582 rfl
set_option maxRecDepth 100000 in
theorem kw583 : Cond.fieldLink "NativeWorksModel" 438 "NativeWorksModel" "bssWord" "J" ∈ rTs := kMem 583 rfl
set_option maxRecDepth 100000 in
theorem kw584 : Cond.fieldLink "NativeWorksModel" 441 "NativeWorksModel" "byteWord" "J" ∈ rTs := kMem 584 rfl
set_option maxRecDepth 100000 in
theorem kw585 : Cond.fieldLink "NativeWorksModel" 444 "NativeWorksModel" "dwordWord" "J" ∈ rTs := kMem 585 rfl
set_option maxRecDepth 100000 in
theorem kw586 : Cond.fieldLink "NativeWorksModel" 447 "NativeWorksModel" "qwordWord" "J" ∈ rTs := kMem 586 rfl
set_option maxRecDepth 100000 in
theorem kw587 : Cond.fieldLink "NativeWorksModel" 450 "NativeWorksModel" "relWord" "J" ∈ rTs := kMem 587 rfl
set_option maxRecDepth 100000 in
theorem kw588 : Cond.fieldLink "NativeWorksModel" 453 "NativeWorksModel" "equWord" "J" ∈ rTs := kMem 588 rfl
set_option maxRecDepth 100000 in
theorem kw589 : Cond.fieldLink "NativeWorksModel" 458 "NativeWorksModel" "repWord" "J" ∈ rTs := kMem 589 rfl
set_option maxRecDepth 100000 in
theorem kw590 : Cond.fieldLink "NativeWorksModel" 463 "NativeWorksModel" "startWord" "J" ∈ rTs := kMem 590 rfl
set_option maxRecDepth 100000 in
theorem kw591 : Cond.code ⟨"NativeWorksModel", "fillTable", "()V"⟩ prog_14_method_103_code 3 (Option.none : Option FieldType) ∈ rTs := kMem 591 rfl
set_option maxRecDepth 100000 in
theorem kw592 : Cond.methodLink "NativeWorksModel" 466 ⟨"NativeWorksModel", "fillTable", "()V"⟩ ∈ rTs := kMem 592 rfl
set_option maxRecDepth 100000 in
theorem kw593 : Cond.instanceMethod ⟨"NativeWorksModel", "fillTable", "()V"⟩ ∈ rTs := kMem 593 rfl
set_option maxRecDepth 100000 in
theorem kw594 : Cond.selects "NativeWorksModel" ⟨"NativeWorksModel", "fillTable", "()V"⟩ ⟨"NativeWorksModel", "fillTable", "()V"⟩ ∈ rTs := kMem 594 rfl
set_option maxRecDepth 100000 in
theorem kwObj : Cond.code Lib.objectInit ⟨#[0xb1]⟩ 1 none ∈ rTs := kMem 0 (by decide +kernel)
set_option maxRecDepth 100000 in
theorem kGood : ∀ w ∈ rTs, goodWord w = true := List.all_eq_true.mp (by decide +kernel)
def rNs : List Cond := [Cond.arrayOver (FieldType.array FieldType.int), Cond.arrayOver (FieldType.object "java/lang/String"), Cond.arrayOver (FieldType.array FieldType.byte), Cond.methodLinkNest "NativeWorksModel" 293 ⟨"NativeWorksModel$Code", "<init>", "()V"⟩ "NativeWorksModel"]
theorem kn0 : Cond.arrayOver (FieldType.array FieldType.int) ∈ rNs := List.mem_of_getElem? (i := 0) rfl
theorem kn1 : Cond.arrayOver (FieldType.object "java/lang/String") ∈ rNs := List.mem_of_getElem? (i := 1) rfl
theorem kn2 : Cond.arrayOver (FieldType.array FieldType.byte) ∈ rNs := List.mem_of_getElem? (i := 2) rfl
theorem kn3 : Cond.methodLinkNest "NativeWorksModel" 293 ⟨"NativeWorksModel$Code", "<init>", "()V"⟩ "NativeWorksModel" ∈ rNs := List.mem_of_getElem? (i := 3) rfl
