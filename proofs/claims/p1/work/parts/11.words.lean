/-! THE WORDS THAT THE REACHED METHODS NEED -/
set_option maxRecDepth 100000 in
def rBase : List Cond := [Cond.code ⟨"java/lang/Object", "<init>", "()V"⟩ object_method_1_code 1 (Option.none : Option FieldType),
  Cond.methodLink "NativeWorks$Names" 3 ⟨"java/lang/Object", "<init>", "()V"⟩,
  Cond.instanceMethod ⟨"java/lang/Object", "<init>", "()V"⟩,
  Cond.arrayClass FieldType.byte,
  Cond.fieldLink "NativeWorks$Names" 9 "NativeWorks$Names" "letters" "[B",
  Cond.arrayClass FieldType.int,
  Cond.fieldLink "NativeWorks$Names" 15 "NativeWorks$Names" "from" "[I",
  Cond.fieldLink "NativeWorks$Names" 19 "NativeWorks$Names" "olde\x72" "[I",
  Cond.fieldLink "NativeWorks$Names" 22 "NativeWorks$Names" "slot" "[I",
  Cond.fieldLink "NativeWorks$Names" 25 "NativeWorks$Names" "newest" "[I",
  Cond.code ⟨"java/util/Arrays", "fill", "([II)V"⟩ prog_38_method_103_code 4 (Option.none : Option FieldType),
  Cond.methodLink "NativeWorks$Names" 28 ⟨"java/util/Arrays", "fill", "([II)V"⟩,
  Cond.static ⟨"java/util/Arrays", "fill", "([II)V"⟩,
  Cond.initialized "java/util/Arrays",
  Cond.fieldLink "NativeWorks$Names" 34 "NativeWorks$Names" "count" "I",
  Cond.methodLink "NativeWorks$Units" 3 ⟨"java/lang/Object", "<init>", "()V"⟩,
  Cond.classLink "NativeWorks$Units" 9 "NativeWorks$Names",
  Cond.instantiable "NativeWorks$Names" 6,
  Cond.initialized "NativeWorks$Names",
  Cond.constant "NativeWorks$Units" 13 129024,
  Cond.code ⟨"NativeWorks$Names", "<init>", "(II)V"⟩ prog_9_method_1_code 3 (Option.none : Option FieldType),
  Cond.methodLink "NativeWorks$Units" 14 ⟨"NativeWorks$Names", "<init>", "(II)V"⟩,
  Cond.instanceMethod ⟨"NativeWorks$Names", "<init>", "(II)V"⟩,
  Cond.fieldLink "NativeWorks$Units" 17 "NativeWorks$Units" "names" "LNativeWorks$Names;",
  Cond.classLink "NativeWorks$Units" 21 "[[I",
  Cond.fieldLink "NativeWorks$Units" 23 "NativeWorks$Units" "symbols" "[[I",
  Cond.arrayClass FieldType.long,
  Cond.fieldLink "NativeWorks$Units" 26 "NativeWorks$Units" "constants" "[J",
  Cond.fieldLink "NativeWorks$Units" 30 "NativeWorks$Units" "labels" "[I",
  Cond.fieldLink "NativeWorks$Units" 34 "NativeWorks$Units" "statements" "[[I",
  Cond.fieldLink "NativeWorks$Units" 37 "NativeWorks$Units" "waits" "[[I",
  Cond.fieldLink "NativeWorks$Units" 40 "NativeWorks$Units" "waitNumbers" "[J",
  Cond.constant "NativeWorks$Units" 43 131072,
  Cond.fieldLink "NativeWorks$Units" 44 "NativeWorks$Units" "put" "[B",
  Cond.fieldLink "NativeWorks$Units" 48 "NativeWorks$Units" "bytes" "[B",
  Cond.fieldLink "NativeWorks$Units" 51 "NativeWorks$Units" "rows" "[[I",
  Cond.fieldLink "NativeWorks$Units" 54 "NativeWorks$Units" "ends" "[I",
  Cond.fieldLink "java/lang/String" 38 "java/lang/String" "COMPACT_STRINGS" "Z",
  Cond.fieldLink "java/lang/String" 15 "java/lang/String" "code\x72" "B",
  Cond.fieldLink "java/lang/String" 9 "java/lang/String" "value" "[B",
  Cond.code ⟨"java/lang/String", "code\x72", "()B"⟩ prog_30_method_152_code 1 (Option.some FieldType.byte),
  Cond.methodLink "java/lang/String" 335 ⟨"java/lang/String", "code\x72", "()B"⟩,
  Cond.instanceMethod ⟨"java/lang/String", "code\x72", "()B"⟩,
  Cond.selects "java/lang/String" ⟨"java/lang/String", "code\x72", "()B"⟩ ⟨"java/lang/String", "code\x72", "()B"⟩,
  Cond.initialized "java/lang/String",
  Cond.fieldLink "java/lang/String" 1053 "jdk/internal/util/Preconditions" "SIOOBE_FORMATTER" "Ljava/util/function/BiFunction;",
  Cond.code ⟨"jdk/internal/util/Preconditions", "checkIndex", "(IILjava/util/function/BiFunction;)I"⟩ prog_41_method_11_code 3 (Option.some FieldType.int),
  Cond.methodLink "java/lang/String" 1059 ⟨"jdk/internal/util/Preconditions", "checkIndex", "(IILjava/util/function/BiFunction;)I"⟩,
  Cond.static ⟨"jdk/internal/util/Preconditions", "checkIndex", "(IILjava/util/function/BiFunction;)I"⟩,
  Cond.initialized "jdk/internal/util/Preconditions",
  Cond.code ⟨"java/lang/String", "checkIndex", "(II)V"⟩ prog_30_method_155_code 2 (Option.none : Option FieldType),
  Cond.methodLink "java/lang/StringLatin1" 9 ⟨"java/lang/String", "checkIndex", "(II)V"⟩,
  Cond.static ⟨"java/lang/String", "checkIndex", "(II)V"⟩,
  Cond.code ⟨"java/lang/String", "isLatin1", "()Z"⟩ prog_30_method_154_code 1 (Option.some FieldType.boolean),
  Cond.methodLink "java/lang/String" 492 ⟨"java/lang/String", "isLatin1", "()Z"⟩,
  Cond.instanceMethod ⟨"java/lang/String", "isLatin1", "()Z"⟩,
  Cond.selects "java/lang/String" ⟨"java/lang/String", "isLatin1", "()Z"⟩ ⟨"java/lang/String", "isLatin1", "()Z"⟩,
  Cond.code ⟨"java/lang/StringLatin1", "charAt", "([BI)C"⟩ prog_32_method_2_code 2 (Option.some FieldType.char),
  Cond.methodLink "java/lang/String" 495 ⟨"java/lang/StringLatin1", "charAt", "([BI)C"⟩,
  Cond.static ⟨"java/lang/StringLatin1", "charAt", "([BI)C"⟩,
  Cond.initialized "java/lang/StringLatin1",
  Cond.methodLink "NativeWorks$Names" 38 ⟨"java/lang/System", "arraycopy", "(Ljava/lang/Object;ILjava/lang/Object;II)V"⟩,
  Cond.native ⟨"java/lang/System", "arraycopy", "(Ljava/lang/Object;ILjava/lang/Object;II)V"⟩,
  Cond.static ⟨"java/lang/System", "arraycopy", "(Ljava/lang/Object;ILjava/lang/Object;II)V"⟩,
  Cond.initialized "java/lang/System",
  Cond.code ⟨"java/lang/String", "length", "()I"⟩ prog_30_method_54_code 1 (Option.some FieldType.int),
  Cond.methodLink "NativeWorks$Line" 76 ⟨"java/lang/String", "length", "()I"⟩,
  Cond.instanceMethod ⟨"java/lang/String", "length", "()I"⟩,
  Cond.selects "java/lang/String" ⟨"java/lang/String", "length", "()I"⟩ ⟨"java/lang/String", "length", "()I"⟩,
  Cond.fieldLink "NativeWorks$Line" 11 "NativeWorks$Line" "text" "[B",
  Cond.code ⟨"java/lang/String", "charAt", "(I)C"⟩ prog_30_method_56_code 2 (Option.some FieldType.char),
  Cond.methodLink "NativeWorks$Line" 82 ⟨"java/lang/String", "charAt", "(I)C"⟩,
  Cond.instanceMethod ⟨"java/lang/String", "charAt", "(I)C"⟩,
  Cond.selects "java/lang/String" ⟨"java/lang/String", "charAt", "(I)C"⟩ ⟨"java/lang/String", "charAt", "(I)C"⟩,
  Cond.fieldLink "NativeWorks$Line" 20 "NativeWorks$Line" "words" "LNativeWorks$Names;",
  Cond.code ⟨"NativeWorks$Names", "add", "([BII)I"⟩ prog_9_method_3_code 6 (Option.some FieldType.int),
  Cond.methodLink "NativeWorks$Line" 86 ⟨"NativeWorks$Names", "add", "([BII)I"⟩,
  Cond.instanceMethod ⟨"NativeWorks$Names", "add", "([BII)I"⟩,
  Cond.selects "NativeWorks$Names" ⟨"NativeWorks$Names", "add", "([BII)I"⟩ ⟨"NativeWorks$Names", "add", "([BII)I"⟩,
  Cond.methodLink "NativeWorks$Line" 3 ⟨"java/lang/Object", "<init>", "()V"⟩,
  Cond.classLink "NativeWorks$Line" 15 "NativeWorks$Names",
  Cond.methodLink "NativeWorks$Line" 17 ⟨"NativeWorks$Names", "<init>", "(II)V"⟩,
  Cond.fieldLink "NativeWorks$Line" 24 "NativeWorks$Line" "kind" "[I",
  Cond.fieldLink "NativeWorks$Line" 28 "NativeWorks$Line" "value" "[J",
  Cond.fieldLink "NativeWorks$Line" 32 "NativeWorks$Line" "from" "[I",
  Cond.fieldLink "NativeWorks$Line" 35 "NativeWorks$Line" "to" "[I",
  Cond.code ⟨"NativeWorks$Line", "teach", "(Ljava/lang/String;)V"⟩ prog_5_method_2_code 4 (Option.none : Option FieldType),
  Cond.methodLink "NativeWorks$Line" 40 ⟨"NativeWorks$Line", "teach", "(Ljava/lang/String;)V"⟩,
  Cond.instanceMethod ⟨"NativeWorks$Line", "teach", "(Ljava/lang/String;)V"⟩,
  Cond.selects "NativeWorks$Line" ⟨"NativeWorks$Line", "teach", "(Ljava/lang/String;)V"⟩ ⟨"NativeWorks$Line", "teach", "(Ljava/lang/String;)V"⟩,
  Cond.initialized "NativeWorks$Line",
  Cond.methodLink "NativeWorks$Source" 3 ⟨"java/lang/Object", "<init>", "()V"⟩,
  Cond.fieldLink "NativeWorks$Source" 9 "NativeWorks$Source" "bytes" "[B",
  Cond.fieldLink "NativeWorks$Source" 15 "NativeWorks$Source" "words" "LNativeWorks$Names;",
  Cond.constant "NativeWorks$Source" 19 65538,
  Cond.fieldLink "NativeWorks$Source" 20 "NativeWorks$Source" "lineAt" "[I",
  Cond.constant "NativeWorks$Source" 24 65537,
  Cond.fieldLink "NativeWorks$Source" 25 "NativeWorks$Source" "sorts" "[B",
  Cond.fieldLink "NativeWorks$Source" 28 "NativeWorks$Source" "ifEnds" "[I",
  Cond.fieldLink "NativeWorks$Source" 31 "NativeWorks$Source" "elses" "[I",
  Cond.fieldLink "NativeWorks$Source" 34 "NativeWorks$Source" "reptEnds" "[I",
  Cond.classLink "NativeWorks$Source" 37 "NativeWorks$Names",
  Cond.constant "NativeWorks$Source" 39 65536,
  Cond.methodLink "NativeWorks$Source" 40 ⟨"NativeWorks$Names", "<init>", "(II)V"⟩,
  Cond.fieldLink "NativeWorks$Source" 43 "NativeWorks$Source" "macros" "LNativeWorks$Names;",
  Cond.fieldLink "NativeWorks$Source" 46 "NativeWorks$Source" "bodyFrom" "[I",
  Cond.fieldLink "NativeWorks$Source" 49 "NativeWorks$Source" "bodyTo" "[I",
  Cond.fieldLink "NativeWorks$Source" 52 "NativeWorks$Source" "firstParamete\x72" "[I",
  Cond.constant "NativeWorks$Source" 55 32768,
  Cond.fieldLink "NativeWorks$Source" 56 "NativeWorks$Source" "parameterFrom" "[I",
  Cond.fieldLink "NativeWorks$Source" 59 "NativeWorks$Source" "parameterTo" "[I",
  Cond.fieldLink "NativeWorks$Source" 62 "NativeWorks$Source" "lines" "I",
  Cond.methodLink "NativeWorks$Reade\x72" 3 ⟨"java/lang/Object", "<init>", "()V"⟩,
  Cond.fieldLink "NativeWorks$Reade\x72" 9 "NativeWorks$Reade\x72" "source" "LNativeWorks$Source;",
  Cond.fieldLink "NativeWorks$Reade\x72" 15 "NativeWorks$Reade\x72" "line" "LNativeWorks$Line;",
  Cond.fieldLink "NativeWorks$Reade\x72" 19 "NativeWorks$Reade\x72" "first" "[I",
  Cond.fieldLink "NativeWorks$Reade\x72" 23 "NativeWorks$Reade\x72" "end" "[I",
  Cond.fieldLink "NativeWorks$Reade\x72" 26 "NativeWorks$Reade\x72" "next" "[I",
  Cond.fieldLink "NativeWorks$Reade\x72" 29 "NativeWorks$Reade\x72" "left" "[I",
  Cond.fieldLink "NativeWorks$Reade\x72" 32 "NativeWorks$Reade\x72" "make\x72" "[I",
  Cond.fieldLink "NativeWorks$Reade\x72" 35 "NativeWorks$Reade\x72" "ifsBelow" "[I",
  Cond.fieldLink "NativeWorks$Reade\x72" 38 "NativeWorks$Reade\x72" "macro" "[I",
  Cond.fieldLink "NativeWorks$Reade\x72" 41 "NativeWorks$Reade\x72" "made" "[I",
  Cond.fieldLink "NativeWorks$Reade\x72" 46 "NativeWorks$Reade\x72" "arguments" "[B",
  Cond.fieldLink "NativeWorks$Reade\x72" 50 "NativeWorks$Reade\x72" "argumentFrom" "[I",
  Cond.fieldLink "NativeWorks$Reade\x72" 53 "NativeWorks$Reade\x72" "argumentTo" "[I",
  Cond.arrayClass FieldType.boolean,
  Cond.fieldLink "NativeWorks$Reade\x72" 56 "NativeWorks$Reade\x72" "elseRead" "[Z",
  Cond.methodLink "NativeWorks$Expression" 3 ⟨"java/lang/Object", "<init>", "()V"⟩,
  Cond.fieldLink "NativeWorks$Expression" 9 "NativeWorks$Expression" "line" "LNativeWorks$Line;",
  Cond.fieldLink "NativeWorks$Expression" 15 "NativeWorks$Expression" "units" "LNativeWorks$Units;",
  Cond.fieldLink "NativeWorks$Expression" 21 "NativeWorks$Expression" "numbe\x72" "[J",
  Cond.fieldLink "NativeWorks$Expression" 25 "NativeWorks$Expression" "plus" "[I",
  Cond.fieldLink "NativeWorks$Expression" 29 "NativeWorks$Expression" "minus" "[I",
  Cond.fieldLink "NativeWorks$Expression" 32 "NativeWorks$Expression" "signs" "[I",
  Cond.fieldLink "NativeWorks$Expression" 35 "NativeWorks$Expression" "name" "[B",
  Cond.fieldLink "NativeWorks$Expression" 39 "NativeWorks$Expression" "latest" "[B",
  Cond.fieldLink "NativeWorks$Instruction" 18 "NativeWorks$Instruction" "rows" "[I",
  Cond.fieldLink "NativeWorks$Instruction" 53 "NativeWorks$Instruction" "L_AT" "[I",
  Cond.code ⟨"NativeWorks$Instruction", "isConditional", "(I)Z"⟩ prog_4_method_3_code 1 (Option.some FieldType.boolean),
  Cond.methodLink "NativeWorks$Instruction" 56 ⟨"NativeWorks$Instruction", "isConditional", "(I)Z"⟩,
  Cond.static ⟨"NativeWorks$Instruction", "isConditional", "(I)Z"⟩,
  Cond.initialized "NativeWorks$Instruction",
  Cond.fieldLink "NativeWorks$Instruction" 24 "NativeWorks$Instruction" "rowAt" "[I",
  Cond.methodLink "NativeWorks$Instruction" 3 ⟨"java/lang/Object", "<init>", "()V"⟩,
  Cond.fieldLink "NativeWorks$Instruction" 9 "NativeWorks$Instruction" "ARITHMETIC" "[I",
  Cond.fieldLink "NativeWorks$Instruction" 15 "NativeWorks$Instruction" "TABLE" "[I",
  Cond.fieldLink "NativeWorks$Instruction" 21 "NativeWorks$Instruction" "firstRow" "[I",
  Cond.fieldLink "NativeWorks$Instruction" 27 "NativeWorks$Instruction" "kind" "[I",
  Cond.fieldLink "NativeWorks$Instruction" 30 "NativeWorks$Instruction" "reg" "[I",
  Cond.fieldLink "NativeWorks$Instruction" 33 "NativeWorks$Instruction" "bytes" "[B",
  Cond.methodLink "NativeWorks$Instruction" 37 ⟨"java/util/Arrays", "fill", "([II)V"⟩,
  Cond.methodLink "NativeWorks$Instruction" 43 ⟨"java/lang/System", "arraycopy", "(Ljava/lang/Object;ILjava/lang/Object;II)V"⟩,
  Cond.code ⟨"NativeWorks$Instruction", "ente\x72", "(I)V"⟩ prog_4_method_2_code 8 (Option.none : Option FieldType),
  Cond.methodLink "NativeWorks$Instruction" 49 ⟨"NativeWorks$Instruction", "ente\x72", "(I)V"⟩,
  Cond.instanceMethod ⟨"NativeWorks$Instruction", "ente\x72", "(I)V"⟩,
  Cond.selects "NativeWorks$Instruction" ⟨"NativeWorks$Instruction", "ente\x72", "(I)V"⟩ ⟨"NativeWorks$Instruction", "ente\x72", "(I)V"⟩,
  Cond.methodLink "NativeWorks$Assemble\x72" 3 ⟨"java/lang/Object", "<init>", "()V"⟩,
  Cond.classLink "NativeWorks$Assemble\x72" 9 "NativeWorks$Line",
  Cond.instantiable "NativeWorks$Line" 10,
  Cond.code ⟨"NativeWorks$Line", "<init>", "()V"⟩ prog_5_method_1_code 1 (Option.none : Option FieldType),
  Cond.methodLink "NativeWorks$Assemble\x72" 11 ⟨"NativeWorks$Line", "<init>", "()V"⟩,
  Cond.instanceMethod ⟨"NativeWorks$Line", "<init>", "()V"⟩,
  Cond.fieldLink "NativeWorks$Assemble\x72" 12 "NativeWorks$Assemble\x72" "line" "LNativeWorks$Line;",
  Cond.fieldLink "NativeWorks$Assemble\x72" 18 "NativeWorks$Assemble\x72" "units" "LNativeWorks$Units;",
  Cond.classLink "NativeWorks$Assemble\x72" 22 "NativeWorks$Reade\x72",
  Cond.instantiable "NativeWorks$Reade\x72" 20,
  Cond.initialized "NativeWorks$Reade\x72",
  Cond.classLink "NativeWorks$Assemble\x72" 24 "NativeWorks$Source",
  Cond.instantiable "NativeWorks$Source" 14,
  Cond.initialized "NativeWorks$Source",
  Cond.fieldLink "NativeWorks$Assemble\x72" 26 "NativeWorks$Line" "words" "LNativeWorks$Names;",
  Cond.code ⟨"NativeWorks$Source", "<init>", "([BLNativeWorks$Names;)V"⟩ prog_11_method_1_code 3 (Option.none : Option FieldType),
  Cond.methodLink "NativeWorks$Assemble\x72" 30 ⟨"NativeWorks$Source", "<init>", "([BLNativeWorks$Names;)V"⟩,
  Cond.instanceMethod ⟨"NativeWorks$Source", "<init>", "([BLNativeWorks$Names;)V"⟩,
  Cond.code ⟨"NativeWorks$Reade\x72", "<init>", "(LNativeWorks$Source;LNativeWorks$Line;)V"⟩ prog_10_method_1_code 3 (Option.none : Option FieldType),
  Cond.methodLink "NativeWorks$Assemble\x72" 33 ⟨"NativeWorks$Reade\x72", "<init>", "(LNativeWorks$Source;LNativeWorks$Line;)V"⟩,
  Cond.instanceMethod ⟨"NativeWorks$Reade\x72", "<init>", "(LNativeWorks$Source;LNativeWorks$Line;)V"⟩,
  Cond.fieldLink "NativeWorks$Assemble\x72" 36 "NativeWorks$Assemble\x72" "reade\x72" "LNativeWorks$Reader;",
  Cond.classLink "NativeWorks$Assemble\x72" 40 "NativeWorks$Expression",
  Cond.instantiable "NativeWorks$Expression" 11,
  Cond.initialized "NativeWorks$Expression",
  Cond.code ⟨"NativeWorks$Expression", "<init>", "(LNativeWorks$Line;LNativeWorks$Units;)V"⟩ prog_3_method_1_code 3 (Option.none : Option FieldType),
  Cond.methodLink "NativeWorks$Assemble\x72" 42 ⟨"NativeWorks$Expression", "<init>", "(LNativeWorks$Line;LNativeWorks$Units;)V"⟩,
  Cond.instanceMethod ⟨"NativeWorks$Expression", "<init>", "(LNativeWorks$Line;LNativeWorks$Units;)V"⟩,
  Cond.fieldLink "NativeWorks$Assemble\x72" 45 "NativeWorks$Assemble\x72" "expression" "LNativeWorks$Expression;",
  Cond.classLink "NativeWorks$Assemble\x72" 49 "NativeWorks$Instruction",
  Cond.instantiable "NativeWorks$Instruction" 21,
  Cond.code ⟨"NativeWorks$Instruction", "<init>", "()V"⟩ prog_4_method_1_code 6 (Option.none : Option FieldType),
  Cond.methodLink "NativeWorks$Assemble\x72" 51 ⟨"NativeWorks$Instruction", "<init>", "()V"⟩,
  Cond.instanceMethod ⟨"NativeWorks$Instruction", "<init>", "()V"⟩,
  Cond.fieldLink "NativeWorks$Assemble\x72" 52 "NativeWorks$Assemble\x72" "instruction" "LNativeWorks$Instruction;",
  Cond.fieldLink "NativeWorks$Assemble\x72" 56 "NativeWorks$Assemble\x72" "told" "[I",
  Cond.methodLink "NativeWorks$Linke\x72" 3 ⟨"java/lang/Object", "<init>", "()V"⟩,
  Cond.fieldLink "NativeWorks$Linke\x72" 9 "NativeWorks$Linke\x72" "units" "LNativeWorks$Units;",
  Cond.fieldLink "NativeWorks$Linke\x72" 17 "NativeWorks$Linke\x72" "taken" "[Z",
  Cond.fieldLink "NativeWorks$Linke\x72" 21 "NativeWorks$Linke\x72" "needed" "[Z",
  Cond.fieldLink "NativeWorks$Linke\x72" 24 "NativeWorks$Linke\x72" "places" "[I",
  Cond.fieldLink "NativeWorks$Linke\x72" 28 "NativeWorks$Linke\x72" "stands" "[I",
  Cond.fieldLink "NativeWorks$Linke\x72" 31 "NativeWorks$Linke\x72" "from" "[I",
  Cond.fieldLink "NativeWorks$Linke\x72" 34 "NativeWorks$Linke\x72" "to" "[I",
  Cond.constant "NativeWorks$Linke\x72" 37 131072,
  Cond.fieldLink "NativeWorks$Linke\x72" 38 "NativeWorks$Linke\x72" "bytes" "[B",
  Cond.fieldLink "NativeWorks$Linke\x72" 42 "NativeWorks$Linke\x72" "origins" "[I",
  Cond.classLink "NativeWorks$Linke\x72" 45 "NativeWorks$Names",
  Cond.constant "NativeWorks$Linke\x72" 47 129024,
  Cond.methodLink "NativeWorks$Linke\x72" 48 ⟨"NativeWorks$Names", "<init>", "(II)V"⟩,
  Cond.fieldLink "NativeWorks$Linke\x72" 51 "NativeWorks$Linke\x72" "names" "LNativeWorks$Names;",
  Cond.fieldLink "NativeWorks$Linke\x72" 55 "NativeWorks$Linke\x72" "addresses" "[J",
  Cond.methodLink "NativeWorks$Linke\x72" 59 ⟨"java/util/Arrays", "fill", "([II)V"⟩,
  Cond.methodLink "NativeWorks$Memory" 3 ⟨"java/lang/Object", "<init>", "()V"⟩,
  Cond.constant "NativeWorks$Memory" 13 196608,
  Cond.fieldLink "NativeWorks$Memory" 14 "NativeWorks$Memory" "low" "[B",
  Cond.constant "NativeWorks$Memory" 18 65536,
  Cond.fieldLink "NativeWorks$Memory" 19 "NativeWorks$Memory" "stack" "[B",
  Cond.constant "NativeWorks$Memory" 22 131072,
  Cond.fieldLink "NativeWorks$Memory" 23 "NativeWorks$Memory" "begins" "[Z",
  Cond.fieldLink "NativeWorks$Memory" 27 "NativeWorks$Memory" "loaded" "Z",
  Cond.constantLong "NativeWorks$Memory" 31 4194304,
  Cond.fieldLink "NativeWorks$Memory" 33 "NativeWorks$Memory" "heap" "J",
  Cond.fieldLink "NativeWorks$Memory" 37 "NativeWorks$Memory" "end" "J",
  Cond.methodLink "NativeWorks$Machine" 3 ⟨"java/lang/Object", "<init>", "()V"⟩,
  Cond.classLink "NativeWorks$Machine" 9 "NativeWorks$Memory",
  Cond.instantiable "NativeWorks$Memory" 12,
  Cond.initialized "NativeWorks$Memory",
  Cond.code ⟨"NativeWorks$Memory", "<init>", "()V"⟩ prog_8_method_1_code 1 (Option.none : Option FieldType),
  Cond.methodLink "NativeWorks$Machine" 11 ⟨"NativeWorks$Memory", "<init>", "()V"⟩,
  Cond.instanceMethod ⟨"NativeWorks$Memory", "<init>", "()V"⟩,
  Cond.fieldLink "NativeWorks$Machine" 12 "NativeWorks$Machine" "memory" "LNativeWorks$Memory;",
  Cond.classLink "NativeWorks$Machine" 18 "NativeWorks$Instruction",
  Cond.methodLink "NativeWorks$Machine" 20 ⟨"NativeWorks$Instruction", "<init>", "()V"⟩,
  Cond.fieldLink "NativeWorks$Machine" 21 "NativeWorks$Machine" "it" "LNativeWorks$Instruction;",
  Cond.fieldLink "NativeWorks$Machine" 25 "NativeWorks$Machine" "\x72" "[J",
  Cond.constant "NativeWorks$Machine" 29 65536,
  Cond.fieldLink "NativeWorks$Machine" 30 "NativeWorks$Machine" "input" "[B",
  Cond.fieldLink "NativeWorks$Machine" 34 "NativeWorks$Machine" "output" "[B",
  Cond.fieldLink "NativeWorks$Machine" 37 "NativeWorks$Machine" "stops" "[J",
  Cond.methodLink "NativeWorks" 1 ⟨"java/lang/Object", "<init>", "()V"⟩,
  Cond.constant "NativeWorks" 9 65536,
  Cond.classLink "NativeWorks" 10 "NativeWorks$Units",
  Cond.instantiable "NativeWorks$Units" 19,
  Cond.initialized "NativeWorks$Units",
  Cond.code ⟨"NativeWorks$Units", "<init>", "()V"⟩ prog_12_method_1_code 1 (Option.none : Option FieldType),
  Cond.methodLink "NativeWorks" 12 ⟨"NativeWorks$Units", "<init>", "()V"⟩,
  Cond.instanceMethod ⟨"NativeWorks$Units", "<init>", "()V"⟩,
  Cond.fieldLink "NativeWorks" 13 "NativeWorks" "tape" "[B",
  Cond.fieldLink "NativeWorks" 17 "NativeWorks" "units" "LNativeWorks$Units;",
  Cond.classLink "NativeWorks" 21 "NativeWorks$Assemble\x72",
  Cond.instantiable "NativeWorks$Assemble\x72" 15,
  Cond.initialized "NativeWorks$Assemble\x72",
  Cond.code ⟨"NativeWorks$Assemble\x72", "<init>", "([BLNativeWorks$Units;)V"⟩ prog_2_method_1_code 4 (Option.none : Option FieldType),
  Cond.methodLink "NativeWorks" 23 ⟨"NativeWorks$Assemble\x72", "<init>", "([BLNativeWorks$Units;)V"⟩,
  Cond.instanceMethod ⟨"NativeWorks$Assemble\x72", "<init>", "([BLNativeWorks$Units;)V"⟩,
  Cond.fieldLink "NativeWorks" 26 "NativeWorks" "assemble\x72" "LNativeWorks$Assembler;",
  Cond.classLink "NativeWorks" 30 "NativeWorks$Linke\x72",
  Cond.instantiable "NativeWorks$Linke\x72" 18,
  Cond.initialized "NativeWorks$Linke\x72",
  Cond.code ⟨"NativeWorks$Linke\x72", "<init>", "(LNativeWorks$Units;)V"⟩ prog_6_method_1_code 2 (Option.none : Option FieldType),
  Cond.methodLink "NativeWorks" 32 ⟨"NativeWorks$Linke\x72", "<init>", "(LNativeWorks$Units;)V"⟩,
  Cond.instanceMethod ⟨"NativeWorks$Linke\x72", "<init>", "(LNativeWorks$Units;)V"⟩,
  Cond.fieldLink "NativeWorks" 35 "NativeWorks" "linke\x72" "LNativeWorks$Linker;",
  Cond.classLink "NativeWorks" 39 "NativeWorks$Machine",
  Cond.instantiable "NativeWorks$Machine" 17,
  Cond.initialized "NativeWorks$Machine",
  Cond.code ⟨"NativeWorks$Machine", "<init>", "()V"⟩ prog_7_method_1_code 1 (Option.none : Option FieldType),
  Cond.methodLink "NativeWorks" 41 ⟨"NativeWorks$Machine", "<init>", "()V"⟩,
  Cond.instanceMethod ⟨"NativeWorks$Machine", "<init>", "()V"⟩,
  Cond.fieldLink "NativeWorks" 42 "NativeWorks" "machine" "LNativeWorks$Machine;",
  Cond.fieldLink "NativeWorks" 46 "NativeWorks" "fed" "I",
  Cond.fieldLink "NativeWorks" 50 "NativeWorks" "faultKind" "I",
  Cond.fieldLink "NativeWorks" 53 "NativeWorks" "faultLine" "I",
  Cond.fieldLink "NativeWorks" 56 "NativeWorks" "faultUnit" "I",
  Cond.methodLink "NativeWorksModel$Code" 3 ⟨"java/lang/Object", "<init>", "()V"⟩,
  Cond.fieldLink "NativeWorksModel$Code" 9 "NativeWorksModel$Code" "address" "[I",
  Cond.fieldLink "NativeWorksModel$Code" 15 "NativeWorksModel$Code" "where" "[I",
  Cond.fieldLink "NativeWorksModel$Code" 18 "NativeWorksModel$Code" "shape" "[J",
  Cond.fieldLink "NativeWorksModel$Code" 22 "NativeWorksModel$Code" "displacement" "[J",
  Cond.fieldLink "NativeWorksModel$Code" 25 "NativeWorksModel$Code" "numbe\x72" "[J",
  Cond.code ⟨"jdk/internal/util/Preconditions", "checkFromToIndex", "(IIILjava/util/function/BiFunction;)I"⟩ prog_41_method_12_code 4 (Option.some FieldType.int),
  Cond.methodLink "java/lang/String" 1062 ⟨"jdk/internal/util/Preconditions", "checkFromToIndex", "(IIILjava/util/function/BiFunction;)I"⟩,
  Cond.static ⟨"jdk/internal/util/Preconditions", "checkFromToIndex", "(IIILjava/util/function/BiFunction;)I"⟩,
  Cond.code ⟨"java/util/Arrays", "checkLength", "(II)V"⟩ prog_38_method_131_code 2 (Option.none : Option FieldType),
  Cond.methodLink "java/util/Arrays" 343 ⟨"java/util/Arrays", "checkLength", "(II)V"⟩,
  Cond.static ⟨"java/util/Arrays", "checkLength", "(II)V"⟩,
  Cond.code ⟨"java/lang/Math", "min", "(II)I"⟩ prog_27_method_69_code 2 (Option.some FieldType.int),
  Cond.methodLink "java/util/Arrays" 304 ⟨"java/lang/Math", "min", "(II)I"⟩,
  Cond.static ⟨"java/lang/Math", "min", "(II)I"⟩,
  Cond.initialized "java/lang/Math",
  Cond.methodLink "java/util/Arrays" 150 ⟨"java/lang/System", "arraycopy", "(Ljava/lang/Object;ILjava/lang/Object;II)V"⟩,
  Cond.code ⟨"java/util/Arrays", "copyOfRangeByte", "([BII)[B"⟩ prog_38_method_133_code 5 (Option.some (FieldType.array FieldType.byte)),
  Cond.methodLink "java/util/Arrays" 339 ⟨"java/util/Arrays", "copyOfRangeByte", "([BII)[B"⟩,
  Cond.static ⟨"java/util/Arrays", "copyOfRangeByte", "([BII)[B"⟩,
  Cond.methodLink "java/lang/String" 1 ⟨"java/lang/Object", "<init>", "()V"⟩,
  Cond.classLink "java/lang/StringLatin1" 1 "java/lang/String",
  Cond.instantiable "java/lang/String" 4,
  Cond.code ⟨"java/util/Arrays", "copyOfRange", "([BII)[B"⟩ prog_38_method_132_code 3 (Option.some (FieldType.array FieldType.byte)),
  Cond.methodLink "java/lang/StringLatin1" 232 ⟨"java/util/Arrays", "copyOfRange", "([BII)[B"⟩,
  Cond.static ⟨"java/util/Arrays", "copyOfRange", "([BII)[B"⟩,
  Cond.code ⟨"java/lang/String", "<init>", "([BB)V"⟩ prog_30_method_151_code 3 (Option.none : Option FieldType),
  Cond.methodLink "java/lang/StringLatin1" 112 ⟨"java/lang/String", "<init>", "([BB)V"⟩,
  Cond.instanceMethod ⟨"java/lang/String", "<init>", "([BB)V"⟩,
  Cond.methodLink "java/lang/String" 505 ⟨"java/lang/String", "length", "()I"⟩,
  Cond.code ⟨"java/lang/String", "checkBoundsBeginEnd", "(III)V"⟩ prog_30_method_158_code 3 (Option.none : Option FieldType),
  Cond.methodLink "java/lang/String" 521 ⟨"java/lang/String", "checkBoundsBeginEnd", "(III)V"⟩,
  Cond.static ⟨"java/lang/String", "checkBoundsBeginEnd", "(III)V"⟩,
  Cond.code ⟨"java/lang/StringLatin1", "newString", "([BII)Ljava/lang/String;"⟩ prog_32_method_47_code 3 (Option.some (FieldType.object "java/lang/String")),
  Cond.methodLink "java/lang/String" 685 ⟨"java/lang/StringLatin1", "newString", "([BII)Ljava/lang/String;"⟩,
  Cond.static ⟨"java/lang/StringLatin1", "newString", "([BII)Ljava/lang/String;"⟩,
  Cond.methodLink "NativeWorksModel" 469 ⟨"java/lang/String", "length", "()I"⟩,
  Cond.methodLink "NativeWorksModel" 475 ⟨"java/lang/String", "charAt", "(I)C"⟩,
  Cond.fieldLink "NativeWorksModel" 14 "NativeWorksModel" "wordName" "[J",
  Cond.fieldLink "NativeWorksModel" 483 "NativeWorksModel" "words" "I",
  Cond.code ⟨"NativeWorksModel", "pack", "(Ljava/lang/String;)J"⟩ prog_14_method_2_code 4 (Option.some FieldType.long),
  Cond.methodLink "NativeWorksModel" 419 ⟨"NativeWorksModel", "pack", "(Ljava/lang/String;)J"⟩,
  Cond.static ⟨"NativeWorksModel", "pack", "(Ljava/lang/String;)J"⟩,
  Cond.initialized "NativeWorksModel",
  Cond.fieldLink "NativeWorksModel" 21 "NativeWorksModel" "wordCode" "[I",
  Cond.code ⟨"java/lang/String", "substring", "(II)Ljava/lang/String;"⟩ prog_30_method_92_code 5 (Option.some (FieldType.object "java/lang/String")),
  Cond.methodLink "NativeWorksModel" 479 ⟨"java/lang/String", "substring", "(II)Ljava/lang/String;"⟩,
  Cond.instanceMethod ⟨"java/lang/String", "substring", "(II)Ljava/lang/String;"⟩,
  Cond.selects "java/lang/String" ⟨"java/lang/String", "substring", "(II)Ljava/lang/String;"⟩ ⟨"java/lang/String", "substring", "(II)Ljava/lang/String;"⟩,
  Cond.code ⟨"NativeWorksModel", "word", "(Ljava/lang/String;I)V"⟩ prog_14_method_4_code 3 (Option.none : Option FieldType),
  Cond.methodLink "NativeWorksModel" 370 ⟨"NativeWorksModel", "word", "(Ljava/lang/String;I)V"⟩,
  Cond.instanceMethod ⟨"NativeWorksModel", "word", "(Ljava/lang/String;I)V"⟩,
  Cond.selects "NativeWorksModel" ⟨"NativeWorksModel", "word", "(Ljava/lang/String;I)V"⟩ ⟨"NativeWorksModel", "word", "(Ljava/lang/String;I)V"⟩,
  Cond.methodLink "java/lang/AbstractStringBuilde\x72" 3 ⟨"java/lang/Object", "<init>", "()V"⟩,
  Cond.fieldLink "java/lang/AbstractStringBuilde\x72" 18 "java/lang/String" "COMPACT_STRINGS" "Z",
  Cond.fieldLink "java/lang/AbstractStringBuilde\x72" 15 "java/lang/AbstractStringBuilde\x72" "value" "[B",
  Cond.fieldLink "java/lang/AbstractStringBuilde\x72" 22 "java/lang/AbstractStringBuilde\x72" "code\x72" "B",
  Cond.code ⟨"java/lang/AbstractStringBuilde\x72", "<init>", "(I)V"⟩ prog_17_method_2_code 2 (Option.none : Option FieldType),
  Cond.methodLink "java/lang/StringBuilde\x72" 1 ⟨"java/lang/AbstractStringBuilde\x72", "<init>", "(I)V"⟩,
  Cond.instanceMethod ⟨"java/lang/AbstractStringBuilde\x72", "<init>", "(I)V"⟩,
  Cond.initialized "java/lang/AbstractStringBuilde\x72",
  Cond.methodLink "java/lang/AbstractStringBuilde\x72" 40 ⟨"java/lang/String", "code\x72", "()B"⟩,
  Cond.methodLink "java/lang/String" 212 ⟨"java/lang/System", "arraycopy", "(Ljava/lang/Object;ILjava/lang/Object;II)V"⟩,
  Cond.code ⟨"java/lang/AbstractStringBuilde\x72", "inflateIfNeededFo\x72", "(Ljava/lang/String;)V"⟩ prog_17_method_71_code 2 (Option.none : Option FieldType),
  Cond.methodLink "java/lang/AbstractStringBuilde\x72" 397 ⟨"java/lang/AbstractStringBuilde\x72", "inflateIfNeededFo\x72", "(Ljava/lang/String;)V"⟩,
  Cond.sameMethod "java/lang/AbstractStringBuilde\x72" "java/lang/AbstractStringBuilde\x72" "inflateIfNeededFo\x72" "(Ljava/lang/String;)V",
  Cond.selects "java/lang/StringBuilde\x72" ⟨"java/lang/AbstractStringBuilde\x72", "inflateIfNeededFo\x72", "(Ljava/lang/String;)V"⟩ ⟨"java/lang/AbstractStringBuilde\x72", "inflateIfNeededFo\x72", "(Ljava/lang/String;)V"⟩,
  Cond.instanceMethod ⟨"java/lang/AbstractStringBuilde\x72", "inflateIfNeededFo\x72", "(Ljava/lang/String;)V"⟩,
  Cond.code ⟨"java/lang/String", "getBytes", "([BIB)V"⟩ prog_30_method_147_code 4 (Option.none : Option FieldType),
  Cond.methodLink "java/lang/AbstractStringBuilde\x72" 399 ⟨"java/lang/String", "getBytes", "([BIB)V"⟩,
  Cond.instanceMethod ⟨"java/lang/String", "getBytes", "([BIB)V"⟩,
  Cond.selects "java/lang/String" ⟨"java/lang/String", "getBytes", "([BIB)V"⟩ ⟨"java/lang/String", "getBytes", "([BIB)V"⟩,
  Cond.methodLink "java/lang/AbstractStringBuilde\x72" 32 ⟨"java/lang/String", "length", "()I"⟩,
  Cond.fieldLink "java/lang/AbstractStringBuilde\x72" 79 "java/lang/AbstractStringBuilde\x72" "count" "I",
  Cond.code ⟨"java/lang/AbstractStringBuilde\x72", "ensureCapacityInternal", "(I)V"⟩ prog_17_method_9_code 3 (Option.none : Option FieldType),
  Cond.methodLink "java/lang/AbstractStringBuilde\x72" 100 ⟨"java/lang/AbstractStringBuilde\x72", "ensureCapacityInternal", "(I)V"⟩,
  Cond.sameMethod "java/lang/AbstractStringBuilde\x72" "java/lang/AbstractStringBuilde\x72" "ensureCapacityInternal" "(I)V",
  Cond.selects "java/lang/StringBuilde\x72" ⟨"java/lang/AbstractStringBuilde\x72", "ensureCapacityInternal", "(I)V"⟩ ⟨"java/lang/AbstractStringBuilde\x72", "ensureCapacityInternal", "(I)V"⟩,
  Cond.instanceMethod ⟨"java/lang/AbstractStringBuilde\x72", "ensureCapacityInternal", "(I)V"⟩,
  Cond.code ⟨"java/lang/AbstractStringBuilde\x72", "putStringAt", "(ILjava/lang/String;)V"⟩ prog_17_method_73_code 3 (Option.none : Option FieldType),
  Cond.methodLink "java/lang/AbstractStringBuilde\x72" 208 ⟨"java/lang/AbstractStringBuilde\x72", "putStringAt", "(ILjava/lang/String;)V"⟩,
  Cond.sameMethod "java/lang/AbstractStringBuilde\x72" "java/lang/AbstractStringBuilde\x72" "putStringAt" "(ILjava/lang/String;)V",
  Cond.selects "java/lang/StringBuilde\x72" ⟨"java/lang/AbstractStringBuilde\x72", "putStringAt", "(ILjava/lang/String;)V"⟩ ⟨"java/lang/AbstractStringBuilde\x72", "putStringAt", "(ILjava/lang/String;)V"⟩,
  Cond.instanceMethod ⟨"java/lang/AbstractStringBuilde\x72", "putStringAt", "(ILjava/lang/String;)V"⟩,
  Cond.code ⟨"java/lang/AbstractStringBuilde\x72", "append", "(Ljava/lang/String;)Ljava/lang/AbstractStringBuilder;"⟩ prog_17_method_22_code 3 (Option.some (FieldType.object "java/lang/AbstractStringBuilde\x72")),
  Cond.methodLink "java/lang/StringBuilde\x72" 29 ⟨"java/lang/AbstractStringBuilde\x72", "append", "(Ljava/lang/String;)Ljava/lang/AbstractStringBuilder;"⟩,
  Cond.sameMethod "java/lang/AbstractStringBuilde\x72" "java/lang/AbstractStringBuilde\x72" "append" "(Ljava/lang/String;)Ljava/lang/AbstractStringBuilder;",
  Cond.superclass "java/lang/StringBuilde\x72" "java/lang/AbstractStringBuilde\x72",
  Cond.instanceMethod ⟨"java/lang/AbstractStringBuilde\x72", "append", "(Ljava/lang/String;)Ljava/lang/AbstractStringBuilder;"⟩,
  Cond.code ⟨"java/lang/AbstractStringBuilde\x72", "length", "()I"⟩ prog_17_method_6_code 1 (Option.some FieldType.int),
  Cond.methodLink "java/lang/StringBuilde\x72" 343 ⟨"java/lang/AbstractStringBuilde\x72", "length", "()I"⟩,
  Cond.sameMethod "java/lang/AbstractStringBuilde\x72" "java/lang/AbstractStringBuilde\x72" "length" "()I",
  Cond.instanceMethod ⟨"java/lang/AbstractStringBuilde\x72", "length", "()I"⟩,
  Cond.code ⟨"java/lang/AbstractStringBuilde\x72", "getValue", "()[B"⟩ prog_17_method_64_code 1 (Option.some (FieldType.array FieldType.byte)),
  Cond.methodLink "java/lang/String" 552 ⟨"java/lang/AbstractStringBuilde\x72", "getValue", "()[B"⟩,
  Cond.sameMethod "java/lang/AbstractStringBuilde\x72" "java/lang/AbstractStringBuilde\x72" "getValue" "()[B",
  Cond.selects "java/lang/StringBuilde\x72" ⟨"java/lang/AbstractStringBuilde\x72", "getValue", "()[B"⟩ ⟨"java/lang/AbstractStringBuilde\x72", "getValue", "()[B"⟩,
  Cond.instanceMethod ⟨"java/lang/AbstractStringBuilde\x72", "getValue", "()[B"⟩,
  Cond.code ⟨"java/lang/StringBuilde\x72", "length", "()I"⟩ prog_31_method_93_code 1 (Option.some FieldType.int),
  Cond.methodLink "java/lang/String" 549 ⟨"java/lang/AbstractStringBuilde\x72", "length", "()I"⟩,
  Cond.selects "java/lang/StringBuilde\x72" ⟨"java/lang/AbstractStringBuilde\x72", "length", "()I"⟩ ⟨"java/lang/StringBuilde\x72", "length", "()I"⟩,
  Cond.instanceMethod ⟨"java/lang/StringBuilde\x72", "length", "()I"⟩,
  Cond.initialized "java/lang/StringBuilde\x72",
  Cond.code ⟨"java/lang/AbstractStringBuilde\x72", "isLatin1", "()Z"⟩ prog_17_method_68_code 1 (Option.some FieldType.boolean),
  Cond.methodLink "java/lang/String" 1047 ⟨"java/lang/AbstractStringBuilde\x72", "isLatin1", "()Z"⟩,
  Cond.sameMethod "java/lang/AbstractStringBuilde\x72" "java/lang/AbstractStringBuilde\x72" "isLatin1" "()Z",
  Cond.selects "java/lang/StringBuilde\x72" ⟨"java/lang/AbstractStringBuilde\x72", "isLatin1", "()Z"⟩ ⟨"java/lang/AbstractStringBuilde\x72", "isLatin1", "()Z"⟩,
  Cond.instanceMethod ⟨"java/lang/AbstractStringBuilde\x72", "isLatin1", "()Z"⟩,
  Cond.methodLink "java/lang/String" 54 ⟨"java/util/Arrays", "copyOfRange", "([BII)[B"⟩,
  Cond.code ⟨"java/lang/String", "<init>", "(Ljava/lang/AbstractStringBuilder;Ljava/lang/Void;)V"⟩ prog_30_method_150_code 5 (Option.none : Option FieldType),
  Cond.methodLink "java/lang/String" 489 ⟨"java/lang/String", "<init>", "(Ljava/lang/AbstractStringBuilder;Ljava/lang/Void;)V"⟩,
  Cond.instanceMethod ⟨"java/lang/String", "<init>", "(Ljava/lang/AbstractStringBuilder;Ljava/lang/Void;)V"⟩,
  Cond.classLink "java/lang/StringBuilde\x72" 18 "java/lang/String",
  Cond.code ⟨"java/lang/String", "<init>", "(Ljava/lang/StringBuilder;)V"⟩ prog_30_method_53_code 2 (Option.none : Option FieldType),
  Cond.methodLink "java/lang/StringBuilde\x72" 137 ⟨"java/lang/String", "<init>", "(Ljava/lang/StringBuilder;)V"⟩,
  Cond.instanceMethod ⟨"java/lang/String", "<init>", "(Ljava/lang/StringBuilder;)V"⟩,
  Cond.classLink "NativeWorksModel" 530 "java/lang/StringBuilde\x72",
  Cond.instantiable "java/lang/StringBuilde\x72" 4,
  Cond.code ⟨"java/lang/StringBuilde\x72", "<init>", "()V"⟩ prog_31_method_1_code 1 (Option.none : Option FieldType),
  Cond.methodLink "NativeWorksModel" 532 ⟨"java/lang/StringBuilde\x72", "<init>", "()V"⟩,
  Cond.instanceMethod ⟨"java/lang/StringBuilde\x72", "<init>", "()V"⟩,
  Cond.code ⟨"java/lang/StringBuilde\x72", "append", "(Ljava/lang/String;)Ljava/lang/StringBuilder;"⟩ prog_31_method_7_code 2 (Option.some (FieldType.object "java/lang/StringBuilde\x72")),
  Cond.methodLink "NativeWorksModel" 533 ⟨"java/lang/StringBuilde\x72", "append", "(Ljava/lang/String;)Ljava/lang/StringBuilder;"⟩,
  Cond.instanceMethod ⟨"java/lang/StringBuilde\x72", "append", "(Ljava/lang/String;)Ljava/lang/StringBuilder;"⟩,
  Cond.selects "java/lang/StringBuilde\x72" ⟨"java/lang/StringBuilde\x72", "append", "(Ljava/lang/String;)Ljava/lang/StringBuilder;"⟩ ⟨"java/lang/StringBuilde\x72", "append", "(Ljava/lang/String;)Ljava/lang/StringBuilder;"⟩,
  Cond.code ⟨"java/lang/StringBuilde\x72", "toString", "()Ljava/lang/String;"⟩ prog_31_method_42_code 1 (Option.some (FieldType.object "java/lang/String")),
  Cond.methodLink "NativeWorksModel" 537 ⟨"java/lang/StringBuilde\x72", "toString", "()Ljava/lang/String;"⟩,
  Cond.instanceMethod ⟨"java/lang/StringBuilde\x72", "toString", "()Ljava/lang/String;"⟩,
  Cond.selects "java/lang/StringBuilde\x72" ⟨"java/lang/StringBuilde\x72", "toString", "()Ljava/lang/String;"⟩ ⟨"java/lang/StringBuilde\x72", "toString", "()Ljava/lang/String;"⟩,
  Cond.classLink "NativeWorksModel" 470 "java/lang/String",
  Cond.code ⟨"NativeWorksModel", "joined", "(Ljava/lang/String;Ljava/lang/String;)Ljava/lang/String;"⟩ prog_14_method_6_code 2 (Option.some (FieldType.object "java/lang/String")),
  Cond.methodLink "NativeWorksModel" 526 ⟨"NativeWorksModel", "joined", "(Ljava/lang/String;Ljava/lang/String;)Ljava/lang/String;"⟩,
  Cond.static ⟨"NativeWorksModel", "joined", "(Ljava/lang/String;Ljava/lang/String;)Ljava/lang/String;"⟩,
  Cond.fieldLink "NativeWorksModel" 18 "NativeWorksModel" "registerName" "[J",
  Cond.fieldLink "NativeWorksModel" 605 "NativeWorksModel" "registers" "I",
  Cond.fieldLink "NativeWorksModel" 25 "NativeWorksModel" "registerCode" "[I",
  Cond.fieldLink "java/lang/Intege\x72" 83 "java/lang/Intege\x72" "DigitOnes" "[B",
  Cond.fieldLink "java/lang/Intege\x72" 87 "java/lang/Intege\x72" "DigitTens" "[B",
  Cond.code ⟨"java/lang/Intege\x72", "stringSize", "(I)I"⟩ prog_25_method_13_code 4 (Option.some FieldType.int),
  Cond.methodLink "java/lang/AbstractStringBuilde\x72" 245 ⟨"java/lang/Intege\x72", "stringSize", "(I)I"⟩,
  Cond.static ⟨"java/lang/Intege\x72", "stringSize", "(I)I"⟩,
  Cond.initialized "java/lang/Intege\x72",
  Cond.methodLink "java/lang/AbstractStringBuilde\x72" 83 ⟨"java/lang/AbstractStringBuilde\x72", "isLatin1", "()Z"⟩,
  Cond.code ⟨"java/lang/Intege\x72", "getChars", "(II[B)I"⟩ prog_25_method_12_code 7 (Option.some FieldType.int),
  Cond.methodLink "java/lang/AbstractStringBuilde\x72" 248 ⟨"java/lang/Intege\x72", "getChars", "(II[B)I"⟩,
  Cond.static ⟨"java/lang/Intege\x72", "getChars", "(II[B)I"⟩,
  Cond.code ⟨"java/lang/AbstractStringBuilde\x72", "append", "(I)Ljava/lang/AbstractStringBuilder;"⟩ prog_17_method_32_code 4 (Option.some (FieldType.object "java/lang/AbstractStringBuilde\x72")),
  Cond.methodLink "java/lang/StringBuilde\x72" 53 ⟨"java/lang/AbstractStringBuilde\x72", "append", "(I)Ljava/lang/AbstractStringBuilder;"⟩,
  Cond.sameMethod "java/lang/AbstractStringBuilde\x72" "java/lang/AbstractStringBuilde\x72" "append" "(I)Ljava/lang/AbstractStringBuilder;",
  Cond.instanceMethod ⟨"java/lang/AbstractStringBuilde\x72", "append", "(I)Ljava/lang/AbstractStringBuilder;"⟩,
  Cond.code ⟨"java/lang/StringBuilde\x72", "append", "(I)Ljava/lang/StringBuilder;"⟩ prog_31_method_15_code 2 (Option.some (FieldType.object "java/lang/StringBuilde\x72")),
  Cond.methodLink "NativeWorksModel" 543 ⟨"java/lang/StringBuilde\x72", "append", "(I)Ljava/lang/StringBuilder;"⟩,
  Cond.instanceMethod ⟨"java/lang/StringBuilde\x72", "append", "(I)Ljava/lang/StringBuilder;"⟩,
  Cond.selects "java/lang/StringBuilde\x72" ⟨"java/lang/StringBuilde\x72", "append", "(I)Ljava/lang/StringBuilder;"⟩ ⟨"java/lang/StringBuilde\x72", "append", "(I)Ljava/lang/StringBuilder;"⟩,
  Cond.code ⟨"NativeWorksModel", "registerNamed", "(Ljava/lang/String;I)V"⟩ prog_14_method_9_code 3 (Option.none : Option FieldType),
  Cond.methodLink "NativeWorksModel" 594 ⟨"NativeWorksModel", "registerNamed", "(Ljava/lang/String;I)V"⟩,
  Cond.instanceMethod ⟨"NativeWorksModel", "registerNamed", "(Ljava/lang/String;I)V"⟩,
  Cond.selects "NativeWorksModel" ⟨"NativeWorksModel", "registerNamed", "(Ljava/lang/String;I)V"⟩ ⟨"NativeWorksModel", "registerNamed", "(Ljava/lang/String;I)V"⟩,
  Cond.code ⟨"NativeWorksModel", "numbered", "(ILjava/lang/String;)Ljava/lang/String;"⟩ prog_14_method_7_code 2 (Option.some (FieldType.object "java/lang/String")),
  Cond.methodLink "NativeWorksModel" 599 ⟨"NativeWorksModel", "numbered", "(ILjava/lang/String;)Ljava/lang/String;"⟩,
  Cond.static ⟨"NativeWorksModel", "numbered", "(ILjava/lang/String;)Ljava/lang/String;"⟩,
  Cond.fieldLink "NativeWorksModel" 258 "NativeWorksModel" "rowOp" "[I",
  Cond.fieldLink "NativeWorksModel" 1075 "NativeWorksModel" "rows" "I",
  Cond.fieldLink "NativeWorksModel" 261 "NativeWorksModel" "rowSizes" "[I",
  Cond.fieldLink "NativeWorksModel" 264 "NativeWorksModel" "rowPattern" "[I",
  Cond.fieldLink "NativeWorksModel" 267 "NativeWorksModel" "rowLead" "[I",
  Cond.fieldLink "NativeWorksModel" 270 "NativeWorksModel" "rowCode" "[I",
  Cond.fieldLink "NativeWorksModel" 273 "NativeWorksModel" "rowTell" "[I",
  Cond.fieldLink "NativeWorksModel" 276 "NativeWorksModel" "rowNumbe\x72" "[I",
  Cond.code ⟨"NativeWorksModel", "row", "(IIIIIII)V"⟩ prog_14_method_102_code 8 (Option.none : Option FieldType),
  Cond.methodLink "NativeWorksModel" 1103 ⟨"NativeWorksModel", "row", "(IIIIIII)V"⟩,
  Cond.instanceMethod ⟨"NativeWorksModel", "row", "(IIIIIII)V"⟩,
  Cond.selects "NativeWorksModel" ⟨"NativeWorksModel", "row", "(IIIIIII)V"⟩ ⟨"NativeWorksModel", "row", "(IIIIIII)V"⟩,
  Cond.code ⟨"NativeWorksModel", "fillRest", "()V"⟩ prog_14_method_104_code 2 (Option.none : Option FieldType),
  Cond.methodLink "NativeWorksModel" 1107 ⟨"NativeWorksModel", "fillRest", "()V"⟩,
  Cond.instanceMethod ⟨"NativeWorksModel", "fillRest", "()V"⟩,
  Cond.selects "NativeWorksModel" ⟨"NativeWorksModel", "fillRest", "()V"⟩ ⟨"NativeWorksModel", "fillRest", "()V"⟩,
  Cond.methodLink "NativeWorksModel" 1 ⟨"java/lang/Object", "<init>", "()V"⟩,
  Cond.constant "NativeWorksModel" 9 65536,
  Cond.fieldLink "NativeWorksModel" 10 "NativeWorksModel" "tape" "[B",
  Cond.fieldLink "NativeWorksModel" 28 "NativeWorksModel" "symbolUnit" "[I",
  Cond.fieldLink "NativeWorksModel" 31 "NativeWorksModel" "isLibrary" "[Z",
  Cond.fieldLink "NativeWorksModel" 35 "NativeWorksModel" "firstItem" "[I",
  Cond.fieldLink "NativeWorksModel" 38 "NativeWorksModel" "firstSymbol" "[I",
  Cond.fieldLink "NativeWorksModel" 41 "NativeWorksModel" "firstWait" "[I",
  Cond.fieldLink "NativeWorksModel" 44 "NativeWorksModel" "sectionSize" "[I",
  Cond.fieldLink "NativeWorksModel" 47 "NativeWorksModel" "kept" "[Z",
  Cond.fieldLink "NativeWorksModel" 50 "NativeWorksModel" "faultUnit" "I",
  Cond.constant "NativeWorksModel" 54 129024,
  Cond.fieldLink "NativeWorksModel" 55 "NativeWorksModel" "pool" "[B",
  Cond.fieldLink "NativeWorksModel" 58 "NativeWorksModel" "nameAt" "[I",
  Cond.fieldLink "NativeWorksModel" 61 "NativeWorksModel" "nameLength" "[I",
  Cond.fieldLink "NativeWorksModel" 64 "NativeWorksModel" "nameSum" "[J",
  Cond.fieldLink "NativeWorksModel" 67 "NativeWorksModel" "labelItem" "[I",
  Cond.fieldLink "NativeWorksModel" 70 "NativeWorksModel" "isConstant" "[Z",
  Cond.fieldLink "NativeWorksModel" 73 "NativeWorksModel" "isUsed" "[Z",
  Cond.fieldLink "NativeWorksModel" 76 "NativeWorksModel" "isGlobal" "[Z",
  Cond.fieldLink "NativeWorksModel" 79 "NativeWorksModel" "isWeak" "[Z",
  Cond.fieldLink "NativeWorksModel" 82 "NativeWorksModel" "constant" "[J",
  Cond.fieldLink "NativeWorksModel" 85 "NativeWorksModel" "itemKind" "[B",
  Cond.fieldLink "NativeWorksModel" 88 "NativeWorksModel" "itemSection" "[B",
  Cond.fieldLink "NativeWorksModel" 91 "NativeWorksModel" "itemLine" "[I",
  Cond.fieldLink "NativeWorksModel" 94 "NativeWorksModel" "itemSize" "[I",
  Cond.fieldLink "NativeWorksModel" 97 "NativeWorksModel" "itemOffset" "[I",
  Cond.fieldLink "NativeWorksModel" 100 "NativeWorksModel" "itemData" "[I",
  Cond.fieldLink "NativeWorksModel" 103 "NativeWorksModel" "itemShape" "[J",
  Cond.fieldLink "NativeWorksModel" 106 "NativeWorksModel" "itemDisplacement" "[I",
  Cond.fieldLink "NativeWorksModel" 109 "NativeWorksModel" "itemNumbe\x72" "[J",
  Cond.constant "NativeWorksModel" 112 132172,
  Cond.fieldLink "NativeWorksModel" 113 "NativeWorksModel" "data" "[B",
  Cond.fieldLink "NativeWorksModel" 116 "NativeWorksModel" "waitItem" "[I",
  Cond.fieldLink "NativeWorksModel" 119 "NativeWorksModel" "waitAt" "[I",
  Cond.fieldLink "NativeWorksModel" 122 "NativeWorksModel" "waitPlus" "[I",
  Cond.fieldLink "NativeWorksModel" 125 "NativeWorksModel" "waitMinus" "[I",
  Cond.fieldLink "NativeWorksModel" 128 "NativeWorksModel" "waitSize" "[B",
  Cond.fieldLink "NativeWorksModel" 131 "NativeWorksModel" "waitWhat" "[B",
  Cond.fieldLink "NativeWorksModel" 134 "NativeWorksModel" "waitConstant" "[J",
  Cond.fieldLink "NativeWorksModel" 137 "NativeWorksModel" "line" "[B",
  Cond.fieldLink "NativeWorksModel" 140 "NativeWorksModel" "frameKind" "[I",
  Cond.fieldLink "NativeWorksModel" 143 "NativeWorksModel" "frameStop" "[I",
  Cond.fieldLink "NativeWorksModel" 146 "NativeWorksModel" "frameStopLine" "[I",
  Cond.fieldLink "NativeWorksModel" 149 "NativeWorksModel" "frameBody" "[I",
  Cond.fieldLink "NativeWorksModel" 152 "NativeWorksModel" "frameBodyLine" "[I",
  Cond.fieldLink "NativeWorksModel" 155 "NativeWorksModel" "frameLeft" "[I",
  Cond.fieldLink "NativeWorksModel" 158 "NativeWorksModel" "frameOwn" "[I",
  Cond.fieldLink "NativeWorksModel" 161 "NativeWorksModel" "frameMacro" "[I",
  Cond.fieldLink "NativeWorksModel" 164 "NativeWorksModel" "frameNumbe\x72" "[I",
  Cond.fieldLink "NativeWorksModel" 167 "NativeWorksModel" "frameElse" "[Z",
  Cond.classLink "NativeWorksModel" 170 "[[B",
  Cond.fieldLink "NativeWorksModel" 172 "NativeWorksModel" "argument" "[[B",
  Cond.classLink "NativeWorksModel" 175 "[[I",
  Cond.fieldLink "NativeWorksModel" 177 "NativeWorksModel" "argumentAt" "[[I",
  Cond.fieldLink "NativeWorksModel" 180 "NativeWorksModel" "arguments" "[I",
  Cond.fieldLink "NativeWorksModel" 183 "NativeWorksModel" "macroName" "[I",
  Cond.fieldLink "NativeWorksModel" 186 "NativeWorksModel" "macroLength" "[I",
  Cond.fieldLink "NativeWorksModel" 189 "NativeWorksModel" "macroParameters" "[I",
  Cond.fieldLink "NativeWorksModel" 192 "NativeWorksModel" "macroBody" "[I",
  Cond.fieldLink "NativeWorksModel" 195 "NativeWorksModel" "macroBodyLine" "[I",
  Cond.fieldLink "NativeWorksModel" 198 "NativeWorksModel" "macroEnd" "[I",
  Cond.fieldLink "NativeWorksModel" 201 "NativeWorksModel" "macroEndLine" "[I",
  Cond.fieldLink "NativeWorksModel" 204 "NativeWorksModel" "token" "[I",
  Cond.fieldLink "NativeWorksModel" 207 "NativeWorksModel" "tokenStart" "[I",
  Cond.fieldLink "NativeWorksModel" 210 "NativeWorksModel" "tokenLength" "[I",
  Cond.fieldLink "NativeWorksModel" 213 "NativeWorksModel" "tokenValue" "[J",
  Cond.fieldLink "NativeWorksModel" 216 "NativeWorksModel" "name" "[B",
  Cond.fieldLink "NativeWorksModel" 219 "NativeWorksModel" "value" "[J",
  Cond.fieldLink "NativeWorksModel" 222 "NativeWorksModel" "plus" "[I",
  Cond.fieldLink "NativeWorksModel" 225 "NativeWorksModel" "minus" "[I",
  Cond.fieldLink "NativeWorksModel" 228 "NativeWorksModel" "operato\x72" "[I",
  Cond.fieldLink "NativeWorksModel" 231 "NativeWorksModel" "piece" "[I",
  Cond.fieldLink "NativeWorksModel" 234 "NativeWorksModel" "spanPlus" "[I",
  Cond.fieldLink "NativeWorksModel" 237 "NativeWorksModel" "spanMinus" "[I",
  Cond.fieldLink "NativeWorksModel" 240 "NativeWorksModel" "spanLine" "[I",
  Cond.fieldLink "NativeWorksModel" 243 "NativeWorksModel" "kind" "[I",
  Cond.fieldLink "NativeWorksModel" 246 "NativeWorksModel" "registe\x72" "[I",
  Cond.fieldLink "NativeWorksModel" 249 "NativeWorksModel" "told" "[I",
  Cond.fieldLink "NativeWorksModel" 252 "NativeWorksModel" "from" "[I",
  Cond.fieldLink "NativeWorksModel" 255 "NativeWorksModel" "to" "[I",
  Cond.fieldLink "NativeWorksModel" 279 "NativeWorksModel" "best" "[B",
  Cond.fieldLink "NativeWorksModel" 282 "NativeWorksModel" "trial" "[B",
  Cond.fieldLink "NativeWorksModel" 285 "NativeWorksModel" "termRegiste\x72" "[I",
  Cond.fieldLink "NativeWorksModel" 288 "NativeWorksModel" "termScale" "[I",
  Cond.classLink "NativeWorksModel" 291 "NativeWorksModel$Code",
  Cond.instantiable "NativeWorksModel$Code" 13,
  Cond.initialized "NativeWorksModel$Code",
  Cond.code ⟨"NativeWorksModel$Code", "<init>", "()V"⟩ prog_15_method_1_code 1 (Option.none : Option FieldType),
  Cond.instanceMethod ⟨"NativeWorksModel$Code", "<init>", "()V"⟩,
  Cond.fieldLink "NativeWorksModel" 294 "NativeWorksModel" "image" "LNativeWorksModel$Code;",
  Cond.fieldLink "NativeWorksModel" 298 "NativeWorksModel" "code" "LNativeWorksModel$Code;",
  Cond.constant "NativeWorksModel" 301 131072,
  Cond.fieldLink "NativeWorksModel" 302 "NativeWorksModel" "imageBytes" "[B",
  Cond.fieldLink "NativeWorksModel" 305 "NativeWorksModel" "taken" "[Z",
  Cond.fieldLink "NativeWorksModel" 308 "NativeWorksModel" "needed" "[Z",
  Cond.fieldLink "NativeWorksModel" 311 "NativeWorksModel" "addressOf" "[I",
  Cond.fieldLink "NativeWorksModel" 314 "NativeWorksModel" "imagePool" "[B",
  Cond.fieldLink "NativeWorksModel" 317 "NativeWorksModel" "imageNameAt" "[I",
  Cond.fieldLink "NativeWorksModel" 320 "NativeWorksModel" "imageNameLength" "[I",
  Cond.fieldLink "NativeWorksModel" 323 "NativeWorksModel" "imageNameAddress" "[I",
  Cond.fieldLink "NativeWorksModel" 326 "NativeWorksModel" "memory" "[B",
  Cond.fieldLink "NativeWorksModel" 329 "NativeWorksModel" "heap" "[B",
  Cond.fieldLink "NativeWorksModel" 332 "NativeWorksModel" "stack" "[B",
  Cond.fieldLink "NativeWorksModel" 335 "NativeWorksModel" "given" "[B",
  Cond.fieldLink "NativeWorksModel" 338 "NativeWorksModel" "shown" "[B",
  Cond.fieldLink "NativeWorksModel" 341 "NativeWorksModel" "registers0" "[J",
  Cond.fieldLink "NativeWorksModel" 344 "NativeWorksModel" "kept0" "[J",
  Cond.fieldLink "NativeWorksModel" 347 "NativeWorksModel" "places" "[J",
  Cond.code ⟨"NativeWorksModel", "wordsOf", "(Ljava/lang/String;I)V"⟩ prog_14_method_3_code 6 (Option.none : Option FieldType),
  Cond.methodLink "NativeWorksModel" 352 ⟨"NativeWorksModel", "wordsOf", "(Ljava/lang/String;I)V"⟩,
  Cond.instanceMethod ⟨"NativeWorksModel", "wordsOf", "(Ljava/lang/String;I)V"⟩,
  Cond.selects "NativeWorksModel" ⟨"NativeWorksModel", "wordsOf", "(Ljava/lang/String;I)V"⟩ ⟨"NativeWorksModel", "wordsOf", "(Ljava/lang/String;I)V"⟩,
  Cond.code ⟨"NativeWorksModel", "conditions", "(Ljava/lang/String;I)V"⟩ prog_14_method_5_code 5 (Option.none : Option FieldType),
  Cond.methodLink "NativeWorksModel" 360 ⟨"NativeWorksModel", "conditions", "(Ljava/lang/String;I)V"⟩,
  Cond.instanceMethod ⟨"NativeWorksModel", "conditions", "(Ljava/lang/String;I)V"⟩,
  Cond.selects "NativeWorksModel" ⟨"NativeWorksModel", "conditions", "(Ljava/lang/String;I)V"⟩ ⟨"NativeWorksModel", "conditions", "(Ljava/lang/String;I)V"⟩,
  Cond.constant "NativeWorksModel" 369 262181,
  Cond.constant "NativeWorksModel" 375 524325,
  Cond.constant "NativeWorksModel" 378 262182,
  Cond.constant "NativeWorksModel" 381 524326,
  Cond.constant "NativeWorksModel" 386 65586,
  Cond.constant "NativeWorksModel" 389 262194,
  Cond.constant "NativeWorksModel" 392 524338,
  Cond.constant "NativeWorksModel" 395 65587,
  Cond.constant "NativeWorksModel" 398 262195,
  Cond.constant "NativeWorksModel" 401 524339,
  Cond.code ⟨"NativeWorksModel", "registerNames", "()V"⟩ prog_14_method_8_code 5 (Option.none : Option FieldType),
  Cond.methodLink "NativeWorksModel" 414 ⟨"NativeWorksModel", "registerNames", "()V"⟩,
  Cond.instanceMethod ⟨"NativeWorksModel", "registerNames", "()V"⟩,
  Cond.selects "NativeWorksModel" ⟨"NativeWorksModel", "registerNames", "()V"⟩ ⟨"NativeWorksModel", "registerNames", "()V"⟩,
  Cond.fieldLink "NativeWorksModel" 423 "NativeWorksModel" "textWord" "J",
  Cond.fieldLink "NativeWorksModel" 429 "NativeWorksModel" "rodataWord" "J",
  Cond.fieldLink "NativeWorksModel" 433 "NativeWorksModel" "dataWord" "J",
  Cond.fieldLink "NativeWorksModel" 438 "NativeWorksModel" "bssWord" "J",
  Cond.fieldLink "NativeWorksModel" 441 "NativeWorksModel" "byteWord" "J",
  Cond.fieldLink "NativeWorksModel" 444 "NativeWorksModel" "dwordWord" "J",
  Cond.fieldLink "NativeWorksModel" 447 "NativeWorksModel" "qwordWord" "J",
  Cond.fieldLink "NativeWorksModel" 450 "NativeWorksModel" "relWord" "J",
  Cond.fieldLink "NativeWorksModel" 453 "NativeWorksModel" "equWord" "J",
  Cond.fieldLink "NativeWorksModel" 458 "NativeWorksModel" "repWord" "J",
  Cond.fieldLink "NativeWorksModel" 463 "NativeWorksModel" "startWord" "J",
  Cond.code ⟨"NativeWorksModel", "fillTable", "()V"⟩ prog_14_method_103_code 3 (Option.none : Option FieldType),
  Cond.methodLink "NativeWorksModel" 466 ⟨"NativeWorksModel", "fillTable", "()V"⟩,
  Cond.instanceMethod ⟨"NativeWorksModel", "fillTable", "()V"⟩,
  Cond.selects "NativeWorksModel" ⟨"NativeWorksModel", "fillTable", "()V"⟩ ⟨"NativeWorksModel", "fillTable", "()V"⟩]
def rTs : List Cond := rBase ++ (u_ws RJ0 TJ0 4 ++ (u_ws RJ4 TJ4 4 ++ (u_ws RX0 TX0 15 ++ (u_ws RX1 TX1 11 ++ (u_ws RX2 TX2 21 ++ (u_ws RX3 TX3 10 ++ (u_ws RX4 TX4 18 ++ (u_ws RX5 TX5 17 ++ (u_ws RX6 TX6 12 ++ (u_ws RX7 TX7 6 ++ (u_ws RX8 TX8 20 ++ (u_ws RX9 TX9 14 ++ (u_ws RX10 TX10 19 ++ (u_ws RX11 TX11 9 ++ (u_ws RX12 TX12 13 ++ (u_ws RX13 TX13 205))))))))))))))))
theorem kMem {w : Cond} (i : Nat) (h : rBase[i]? = some w) : w ∈ rTs := List.mem_append_left _ (List.mem_of_getElem? h)
theorem inJ0 : ∀ w ∈ u_ws RJ0 TJ0 4, w ∈ rTs := fun _ h => List.mem_append_right _ (List.mem_append_left _ h)
theorem kc0 : vwCl[0]? = some (RJ0, TJ0, 4) := rfl
theorem inJ4 : ∀ w ∈ u_ws RJ4 TJ4 4, w ∈ rTs := fun _ h => List.mem_append_right _ (List.mem_append_right _ (List.mem_append_left _ h))
theorem kc1 : vwCl[1]? = some (RJ4, TJ4, 4) := rfl
theorem inX0 : ∀ w ∈ u_ws RX0 TX0 15, w ∈ rTs := fun _ h => List.mem_append_right _ (List.mem_append_right _ (List.mem_append_right _ (List.mem_append_left _ h)))
theorem kc2 : vwCl[2]? = some (RX0, TX0, 15) := rfl
theorem inX1 : ∀ w ∈ u_ws RX1 TX1 11, w ∈ rTs := fun _ h => List.mem_append_right _ (List.mem_append_right _ (List.mem_append_right _ (List.mem_append_right _ (List.mem_append_left _ h))))
theorem kc3 : vwCl[3]? = some (RX1, TX1, 11) := rfl
theorem inX2 : ∀ w ∈ u_ws RX2 TX2 21, w ∈ rTs := fun _ h => List.mem_append_right _ (List.mem_append_right _ (List.mem_append_right _ (List.mem_append_right _ (List.mem_append_right _ (List.mem_append_left _ h)))))
theorem kc4 : vwCl[4]? = some (RX2, TX2, 21) := rfl
theorem inX3 : ∀ w ∈ u_ws RX3 TX3 10, w ∈ rTs := fun _ h => List.mem_append_right _ (List.mem_append_right _ (List.mem_append_right _ (List.mem_append_right _ (List.mem_append_right _ (List.mem_append_right _ (List.mem_append_left _ h))))))
theorem kc5 : vwCl[5]? = some (RX3, TX3, 10) := rfl
theorem inX4 : ∀ w ∈ u_ws RX4 TX4 18, w ∈ rTs := fun _ h => List.mem_append_right _ (List.mem_append_right _ (List.mem_append_right _ (List.mem_append_right _ (List.mem_append_right _ (List.mem_append_right _ (List.mem_append_right _ (List.mem_append_left _ h)))))))
theorem kc6 : vwCl[6]? = some (RX4, TX4, 18) := rfl
theorem inX5 : ∀ w ∈ u_ws RX5 TX5 17, w ∈ rTs := fun _ h => List.mem_append_right _ (List.mem_append_right _ (List.mem_append_right _ (List.mem_append_right _ (List.mem_append_right _ (List.mem_append_right _ (List.mem_append_right _ (List.mem_append_right _ (List.mem_append_left _ h))))))))
theorem kc7 : vwCl[7]? = some (RX5, TX5, 17) := rfl
theorem inX6 : ∀ w ∈ u_ws RX6 TX6 12, w ∈ rTs := fun _ h => List.mem_append_right _ (List.mem_append_right _ (List.mem_append_right _ (List.mem_append_right _ (List.mem_append_right _ (List.mem_append_right _ (List.mem_append_right _ (List.mem_append_right _ (List.mem_append_right _ (List.mem_append_left _ h)))))))))
theorem kc8 : vwCl[8]? = some (RX6, TX6, 12) := rfl
theorem inX7 : ∀ w ∈ u_ws RX7 TX7 6, w ∈ rTs := fun _ h => List.mem_append_right _ (List.mem_append_right _ (List.mem_append_right _ (List.mem_append_right _ (List.mem_append_right _ (List.mem_append_right _ (List.mem_append_right _ (List.mem_append_right _ (List.mem_append_right _ (List.mem_append_right _ (List.mem_append_left _ h))))))))))
theorem kc9 : vwCl[9]? = some (RX7, TX7, 6) := rfl
theorem inX8 : ∀ w ∈ u_ws RX8 TX8 20, w ∈ rTs := fun _ h => List.mem_append_right _ (List.mem_append_right _ (List.mem_append_right _ (List.mem_append_right _ (List.mem_append_right _ (List.mem_append_right _ (List.mem_append_right _ (List.mem_append_right _ (List.mem_append_right _ (List.mem_append_right _ (List.mem_append_right _ (List.mem_append_left _ h)))))))))))
theorem kc10 : vwCl[10]? = some (RX8, TX8, 20) := rfl
theorem inX9 : ∀ w ∈ u_ws RX9 TX9 14, w ∈ rTs := fun _ h => List.mem_append_right _ (List.mem_append_right _ (List.mem_append_right _ (List.mem_append_right _ (List.mem_append_right _ (List.mem_append_right _ (List.mem_append_right _ (List.mem_append_right _ (List.mem_append_right _ (List.mem_append_right _ (List.mem_append_right _ (List.mem_append_right _ (List.mem_append_left _ h))))))))))))
theorem kc11 : vwCl[11]? = some (RX9, TX9, 14) := rfl
theorem inX10 : ∀ w ∈ u_ws RX10 TX10 19, w ∈ rTs := fun _ h => List.mem_append_right _ (List.mem_append_right _ (List.mem_append_right _ (List.mem_append_right _ (List.mem_append_right _ (List.mem_append_right _ (List.mem_append_right _ (List.mem_append_right _ (List.mem_append_right _ (List.mem_append_right _ (List.mem_append_right _ (List.mem_append_right _ (List.mem_append_right _ (List.mem_append_left _ h)))))))))))))
theorem kc12 : vwCl[12]? = some (RX10, TX10, 19) := rfl
theorem inX11 : ∀ w ∈ u_ws RX11 TX11 9, w ∈ rTs := fun _ h => List.mem_append_right _ (List.mem_append_right _ (List.mem_append_right _ (List.mem_append_right _ (List.mem_append_right _ (List.mem_append_right _ (List.mem_append_right _ (List.mem_append_right _ (List.mem_append_right _ (List.mem_append_right _ (List.mem_append_right _ (List.mem_append_right _ (List.mem_append_right _ (List.mem_append_right _ (List.mem_append_left _ h))))))))))))))
theorem kc13 : vwCl[13]? = some (RX11, TX11, 9) := rfl
theorem inX12 : ∀ w ∈ u_ws RX12 TX12 13, w ∈ rTs := fun _ h => List.mem_append_right _ (List.mem_append_right _ (List.mem_append_right _ (List.mem_append_right _ (List.mem_append_right _ (List.mem_append_right _ (List.mem_append_right _ (List.mem_append_right _ (List.mem_append_right _ (List.mem_append_right _ (List.mem_append_right _ (List.mem_append_right _ (List.mem_append_right _ (List.mem_append_right _ (List.mem_append_right _ (List.mem_append_left _ h)))))))))))))))
theorem kc14 : vwCl[14]? = some (RX12, TX12, 13) := rfl
theorem inX13 : ∀ w ∈ u_ws RX13 TX13 205, w ∈ rTs := fun _ h => List.mem_append_right _ (List.mem_append_right _ (List.mem_append_right _ (List.mem_append_right _ (List.mem_append_right _ (List.mem_append_right _ (List.mem_append_right _ (List.mem_append_right _ (List.mem_append_right _ (List.mem_append_right _ (List.mem_append_right _ (List.mem_append_right _ (List.mem_append_right _ (List.mem_append_right _ (List.mem_append_right _ (List.mem_append_right _ (h))))))))))))))))
theorem kc15 : vwCl[15]? = some (RX13, TX13, 205) := rfl
set_option maxRecDepth 100000 in
theorem kw0 : Cond.code ⟨"java/lang/Object", "<init>", "()V"⟩ object_method_1_code 1 (Option.none : Option FieldType) ∈ rTs := kMem 0 rfl
set_option maxRecDepth 100000 in
theorem kw1 : Cond.methodLink "NativeWorks$Names" 3 ⟨"java/lang/Object", "<init>", "()V"⟩ ∈ rTs := kMem 1 rfl
set_option maxRecDepth 100000 in
theorem kw2 : Cond.instanceMethod ⟨"java/lang/Object", "<init>", "()V"⟩ ∈ rTs := kMem 2 rfl
set_option maxRecDepth 100000 in
theorem kw3 : Cond.arrayClass FieldType.byte ∈ rTs := kMem 3 rfl
set_option maxRecDepth 100000 in
theorem kw4 : Cond.fieldLink "NativeWorks$Names" 9 "NativeWorks$Names" "letters" "[B" ∈ rTs := kMem 4 rfl
set_option maxRecDepth 100000 in
theorem kw5 : Cond.arrayClass FieldType.int ∈ rTs := kMem 5 rfl
set_option maxRecDepth 100000 in
theorem kw6 : Cond.fieldLink "NativeWorks$Names" 15 "NativeWorks$Names" "from" "[I" ∈ rTs := kMem 6 rfl
set_option maxRecDepth 100000 in
theorem kw7 : Cond.fieldLink "NativeWorks$Names" 19 "NativeWorks$Names" "olde\x72" "[I" ∈ rTs := kMem 7 rfl
set_option maxRecDepth 100000 in
theorem kw8 : Cond.fieldLink "NativeWorks$Names" 22 "NativeWorks$Names" "slot" "[I" ∈ rTs := kMem 8 rfl
set_option maxRecDepth 100000 in
theorem kw9 : Cond.fieldLink "NativeWorks$Names" 25 "NativeWorks$Names" "newest" "[I" ∈ rTs := kMem 9 rfl
set_option maxRecDepth 100000 in
theorem kw10 : Cond.code ⟨"java/util/Arrays", "fill", "([II)V"⟩ prog_38_method_103_code 4 (Option.none : Option FieldType) ∈ rTs := kMem 10 rfl
set_option maxRecDepth 100000 in
theorem kw11 : Cond.methodLink "NativeWorks$Names" 28 ⟨"java/util/Arrays", "fill", "([II)V"⟩ ∈ rTs := kMem 11 rfl
set_option maxRecDepth 100000 in
theorem kw12 : Cond.static ⟨"java/util/Arrays", "fill", "([II)V"⟩ ∈ rTs := kMem 12 rfl
set_option maxRecDepth 100000 in
theorem kw13 : Cond.initialized "java/util/Arrays" ∈ rTs := kMem 13 rfl
set_option maxRecDepth 100000 in
theorem kw14 : Cond.fieldLink "NativeWorks$Names" 34 "NativeWorks$Names" "count" "I" ∈ rTs := kMem 14 rfl
set_option maxRecDepth 100000 in
theorem kw15 : Cond.methodLink "NativeWorks$Units" 3 ⟨"java/lang/Object", "<init>", "()V"⟩ ∈ rTs := kMem 15 rfl
set_option maxRecDepth 100000 in
theorem kw16 : Cond.classLink "NativeWorks$Units" 9 "NativeWorks$Names" ∈ rTs := kMem 16 rfl
set_option maxRecDepth 100000 in
theorem kw17 : Cond.instantiable "NativeWorks$Names" 6 ∈ rTs := kMem 17 rfl
set_option maxRecDepth 100000 in
theorem kw18 : Cond.initialized "NativeWorks$Names" ∈ rTs := kMem 18 rfl
set_option maxRecDepth 100000 in
theorem kw19 : Cond.constant "NativeWorks$Units" 13 (nI 129024) ∈ rTs := kMem 19 (by decide +kernel)
set_option maxRecDepth 100000 in
theorem kw20 : Cond.code ⟨"NativeWorks$Names", "<init>", "(II)V"⟩ prog_9_method_1_code 3 (Option.none : Option FieldType) ∈ rTs := kMem 20 rfl
set_option maxRecDepth 100000 in
theorem kw21 : Cond.methodLink "NativeWorks$Units" 14 ⟨"NativeWorks$Names", "<init>", "(II)V"⟩ ∈ rTs := kMem 21 rfl
set_option maxRecDepth 100000 in
theorem kw22 : Cond.instanceMethod ⟨"NativeWorks$Names", "<init>", "(II)V"⟩ ∈ rTs := kMem 22 rfl
set_option maxRecDepth 100000 in
theorem kw23 : Cond.fieldLink "NativeWorks$Units" 17 "NativeWorks$Units" "names" "LNativeWorks$Names;" ∈ rTs := kMem 23 rfl
set_option maxRecDepth 100000 in
theorem kw24 : Cond.classLink "NativeWorks$Units" 21 "[[I" ∈ rTs := kMem 24 rfl
set_option maxRecDepth 100000 in
theorem kw25 : Cond.fieldLink "NativeWorks$Units" 23 "NativeWorks$Units" "symbols" "[[I" ∈ rTs := kMem 25 rfl
set_option maxRecDepth 100000 in
theorem kw26 : Cond.arrayClass FieldType.long ∈ rTs := kMem 26 rfl
set_option maxRecDepth 100000 in
theorem kw27 : Cond.fieldLink "NativeWorks$Units" 26 "NativeWorks$Units" "constants" "[J" ∈ rTs := kMem 27 rfl
set_option maxRecDepth 100000 in
theorem kw28 : Cond.fieldLink "NativeWorks$Units" 30 "NativeWorks$Units" "labels" "[I" ∈ rTs := kMem 28 rfl
set_option maxRecDepth 100000 in
theorem kw29 : Cond.fieldLink "NativeWorks$Units" 34 "NativeWorks$Units" "statements" "[[I" ∈ rTs := kMem 29 rfl
set_option maxRecDepth 100000 in
theorem kw30 : Cond.fieldLink "NativeWorks$Units" 37 "NativeWorks$Units" "waits" "[[I" ∈ rTs := kMem 30 rfl
set_option maxRecDepth 100000 in
theorem kw31 : Cond.fieldLink "NativeWorks$Units" 40 "NativeWorks$Units" "waitNumbers" "[J" ∈ rTs := kMem 31 rfl
set_option maxRecDepth 100000 in
theorem kw32 : Cond.constant "NativeWorks$Units" 43 (nI 131072) ∈ rTs := kMem 32 (by decide +kernel)
set_option maxRecDepth 100000 in
theorem kw33 : Cond.fieldLink "NativeWorks$Units" 44 "NativeWorks$Units" "put" "[B" ∈ rTs := kMem 33 rfl
set_option maxRecDepth 100000 in
theorem kw34 : Cond.fieldLink "NativeWorks$Units" 48 "NativeWorks$Units" "bytes" "[B" ∈ rTs := kMem 34 rfl
set_option maxRecDepth 100000 in
theorem kw35 : Cond.fieldLink "NativeWorks$Units" 51 "NativeWorks$Units" "rows" "[[I" ∈ rTs := kMem 35 rfl
set_option maxRecDepth 100000 in
theorem kw36 : Cond.fieldLink "NativeWorks$Units" 54 "NativeWorks$Units" "ends" "[I" ∈ rTs := kMem 36 rfl
set_option maxRecDepth 100000 in
theorem kw37 : Cond.fieldLink "java/lang/String" 38 "java/lang/String" "COMPACT_STRINGS" "Z" ∈ rTs := kMem 37 rfl
set_option maxRecDepth 100000 in
theorem kw38 : Cond.fieldLink "java/lang/String" 15 "java/lang/String" "code\x72" "B" ∈ rTs := kMem 38 rfl
set_option maxRecDepth 100000 in
theorem kw39 : Cond.fieldLink "java/lang/String" 9 "java/lang/String" "value" "[B" ∈ rTs := kMem 39 rfl
set_option maxRecDepth 100000 in
theorem kw40 : Cond.code ⟨"java/lang/String", "code\x72", "()B"⟩ prog_30_method_152_code 1 (Option.some FieldType.byte) ∈ rTs := kMem 40 rfl
set_option maxRecDepth 100000 in
theorem kw41 : Cond.methodLink "java/lang/String" 335 ⟨"java/lang/String", "code\x72", "()B"⟩ ∈ rTs := kMem 41 rfl
set_option maxRecDepth 100000 in
theorem kw42 : Cond.instanceMethod ⟨"java/lang/String", "code\x72", "()B"⟩ ∈ rTs := kMem 42 rfl
set_option maxRecDepth 100000 in
theorem kw43 : Cond.selects "java/lang/String" ⟨"java/lang/String", "code\x72", "()B"⟩ ⟨"java/lang/String", "code\x72", "()B"⟩ ∈ rTs := kMem 43 rfl
set_option maxRecDepth 100000 in
theorem kw44 : Cond.initialized "java/lang/String" ∈ rTs := kMem 44 rfl
set_option maxRecDepth 100000 in
theorem kw45 : Cond.fieldLink "java/lang/String" 1053 "jdk/internal/util/Preconditions" "SIOOBE_FORMATTER" "Ljava/util/function/BiFunction;" ∈ rTs := kMem 45 rfl
set_option maxRecDepth 100000 in
theorem kw46 : Cond.code ⟨"jdk/internal/util/Preconditions", "checkIndex", "(IILjava/util/function/BiFunction;)I"⟩ prog_41_method_11_code 3 (Option.some FieldType.int) ∈ rTs := kMem 46 rfl
set_option maxRecDepth 100000 in
theorem kw47 : Cond.methodLink "java/lang/String" 1059 ⟨"jdk/internal/util/Preconditions", "checkIndex", "(IILjava/util/function/BiFunction;)I"⟩ ∈ rTs := kMem 47 rfl
set_option maxRecDepth 100000 in
theorem kw48 : Cond.static ⟨"jdk/internal/util/Preconditions", "checkIndex", "(IILjava/util/function/BiFunction;)I"⟩ ∈ rTs := kMem 48 rfl
set_option maxRecDepth 100000 in
theorem kw49 : Cond.initialized "jdk/internal/util/Preconditions" ∈ rTs := kMem 49 rfl
set_option maxRecDepth 100000 in
theorem kw50 : Cond.code ⟨"java/lang/String", "checkIndex", "(II)V"⟩ prog_30_method_155_code 2 (Option.none : Option FieldType) ∈ rTs := kMem 50 rfl
set_option maxRecDepth 100000 in
theorem kw51 : Cond.methodLink "java/lang/StringLatin1" 9 ⟨"java/lang/String", "checkIndex", "(II)V"⟩ ∈ rTs := kMem 51 rfl
set_option maxRecDepth 100000 in
theorem kw52 : Cond.static ⟨"java/lang/String", "checkIndex", "(II)V"⟩ ∈ rTs := kMem 52 rfl
set_option maxRecDepth 100000 in
theorem kw53 : Cond.code ⟨"java/lang/String", "isLatin1", "()Z"⟩ prog_30_method_154_code 1 (Option.some FieldType.boolean) ∈ rTs := kMem 53 rfl
set_option maxRecDepth 100000 in
theorem kw54 : Cond.methodLink "java/lang/String" 492 ⟨"java/lang/String", "isLatin1", "()Z"⟩ ∈ rTs := kMem 54 rfl
set_option maxRecDepth 100000 in
theorem kw55 : Cond.instanceMethod ⟨"java/lang/String", "isLatin1", "()Z"⟩ ∈ rTs := kMem 55 rfl
set_option maxRecDepth 100000 in
theorem kw56 : Cond.selects "java/lang/String" ⟨"java/lang/String", "isLatin1", "()Z"⟩ ⟨"java/lang/String", "isLatin1", "()Z"⟩ ∈ rTs := kMem 56 rfl
set_option maxRecDepth 100000 in
theorem kw57 : Cond.code ⟨"java/lang/StringLatin1", "charAt", "([BI)C"⟩ prog_32_method_2_code 2 (Option.some FieldType.char) ∈ rTs := kMem 57 rfl
set_option maxRecDepth 100000 in
theorem kw58 : Cond.methodLink "java/lang/String" 495 ⟨"java/lang/StringLatin1", "charAt", "([BI)C"⟩ ∈ rTs := kMem 58 rfl
set_option maxRecDepth 100000 in
theorem kw59 : Cond.static ⟨"java/lang/StringLatin1", "charAt", "([BI)C"⟩ ∈ rTs := kMem 59 rfl
set_option maxRecDepth 100000 in
theorem kw60 : Cond.initialized "java/lang/StringLatin1" ∈ rTs := kMem 60 rfl
set_option maxRecDepth 100000 in
theorem kw61 : Cond.methodLink "NativeWorks$Names" 38 ⟨"java/lang/System", "arraycopy", "(Ljava/lang/Object;ILjava/lang/Object;II)V"⟩ ∈ rTs := kMem 61 rfl
set_option maxRecDepth 100000 in
theorem kw62 : Cond.native ⟨"java/lang/System", "arraycopy", "(Ljava/lang/Object;ILjava/lang/Object;II)V"⟩ ∈ rTs := kMem 62 rfl
set_option maxRecDepth 100000 in
theorem kw63 : Cond.static ⟨"java/lang/System", "arraycopy", "(Ljava/lang/Object;ILjava/lang/Object;II)V"⟩ ∈ rTs := kMem 63 rfl
set_option maxRecDepth 100000 in
theorem kw64 : Cond.initialized "java/lang/System" ∈ rTs := kMem 64 rfl
set_option maxRecDepth 100000 in
theorem kw65 : Cond.code ⟨"java/lang/String", "length", "()I"⟩ prog_30_method_54_code 1 (Option.some FieldType.int) ∈ rTs := kMem 65 rfl
set_option maxRecDepth 100000 in
theorem kw66 : Cond.methodLink "NativeWorks$Line" 76 ⟨"java/lang/String", "length", "()I"⟩ ∈ rTs := kMem 66 rfl
set_option maxRecDepth 100000 in
theorem kw67 : Cond.instanceMethod ⟨"java/lang/String", "length", "()I"⟩ ∈ rTs := kMem 67 rfl
set_option maxRecDepth 100000 in
theorem kw68 : Cond.selects "java/lang/String" ⟨"java/lang/String", "length", "()I"⟩ ⟨"java/lang/String", "length", "()I"⟩ ∈ rTs := kMem 68 rfl
set_option maxRecDepth 100000 in
theorem kw69 : Cond.fieldLink "NativeWorks$Line" 11 "NativeWorks$Line" "text" "[B" ∈ rTs := kMem 69 rfl
set_option maxRecDepth 100000 in
theorem kw70 : Cond.code ⟨"java/lang/String", "charAt", "(I)C"⟩ prog_30_method_56_code 2 (Option.some FieldType.char) ∈ rTs := kMem 70 rfl
set_option maxRecDepth 100000 in
theorem kw71 : Cond.methodLink "NativeWorks$Line" 82 ⟨"java/lang/String", "charAt", "(I)C"⟩ ∈ rTs := kMem 71 rfl
set_option maxRecDepth 100000 in
theorem kw72 : Cond.instanceMethod ⟨"java/lang/String", "charAt", "(I)C"⟩ ∈ rTs := kMem 72 rfl
set_option maxRecDepth 100000 in
theorem kw73 : Cond.selects "java/lang/String" ⟨"java/lang/String", "charAt", "(I)C"⟩ ⟨"java/lang/String", "charAt", "(I)C"⟩ ∈ rTs := kMem 73 rfl
set_option maxRecDepth 100000 in
theorem kw74 : Cond.fieldLink "NativeWorks$Line" 20 "NativeWorks$Line" "words" "LNativeWorks$Names;" ∈ rTs := kMem 74 rfl
set_option maxRecDepth 100000 in
theorem kw75 : Cond.code ⟨"NativeWorks$Names", "add", "([BII)I"⟩ prog_9_method_3_code 6 (Option.some FieldType.int) ∈ rTs := kMem 75 rfl
set_option maxRecDepth 100000 in
theorem kw76 : Cond.methodLink "NativeWorks$Line" 86 ⟨"NativeWorks$Names", "add", "([BII)I"⟩ ∈ rTs := kMem 76 rfl
set_option maxRecDepth 100000 in
theorem kw77 : Cond.instanceMethod ⟨"NativeWorks$Names", "add", "([BII)I"⟩ ∈ rTs := kMem 77 rfl
set_option maxRecDepth 100000 in
theorem kw78 : Cond.selects "NativeWorks$Names" ⟨"NativeWorks$Names", "add", "([BII)I"⟩ ⟨"NativeWorks$Names", "add", "([BII)I"⟩ ∈ rTs := kMem 78 rfl
set_option maxRecDepth 100000 in
theorem kw79 : Cond.methodLink "NativeWorks$Line" 3 ⟨"java/lang/Object", "<init>", "()V"⟩ ∈ rTs := kMem 79 rfl
set_option maxRecDepth 100000 in
theorem kw80 : Cond.classLink "NativeWorks$Line" 15 "NativeWorks$Names" ∈ rTs := kMem 80 rfl
set_option maxRecDepth 100000 in
theorem kw81 : Cond.methodLink "NativeWorks$Line" 17 ⟨"NativeWorks$Names", "<init>", "(II)V"⟩ ∈ rTs := kMem 81 rfl
set_option maxRecDepth 100000 in
theorem kw82 : Cond.fieldLink "NativeWorks$Line" 24 "NativeWorks$Line" "kind" "[I" ∈ rTs := kMem 82 rfl
set_option maxRecDepth 100000 in
theorem kw83 : Cond.fieldLink "NativeWorks$Line" 28 "NativeWorks$Line" "value" "[J" ∈ rTs := kMem 83 rfl
set_option maxRecDepth 100000 in
theorem kw84 : Cond.fieldLink "NativeWorks$Line" 32 "NativeWorks$Line" "from" "[I" ∈ rTs := kMem 84 rfl
set_option maxRecDepth 100000 in
theorem kw85 : Cond.fieldLink "NativeWorks$Line" 35 "NativeWorks$Line" "to" "[I" ∈ rTs := kMem 85 rfl
set_option maxRecDepth 100000 in
theorem kw86 : Cond.code ⟨"NativeWorks$Line", "teach", "(Ljava/lang/String;)V"⟩ prog_5_method_2_code 4 (Option.none : Option FieldType) ∈ rTs := kMem 86 rfl
set_option maxRecDepth 100000 in
theorem kw87 : Cond.methodLink "NativeWorks$Line" 40 ⟨"NativeWorks$Line", "teach", "(Ljava/lang/String;)V"⟩ ∈ rTs := kMem 87 rfl
set_option maxRecDepth 100000 in
theorem kw88 : Cond.instanceMethod ⟨"NativeWorks$Line", "teach", "(Ljava/lang/String;)V"⟩ ∈ rTs := kMem 88 rfl
set_option maxRecDepth 100000 in
theorem kw89 : Cond.selects "NativeWorks$Line" ⟨"NativeWorks$Line", "teach", "(Ljava/lang/String;)V"⟩ ⟨"NativeWorks$Line", "teach", "(Ljava/lang/String;)V"⟩ ∈ rTs := kMem 89 rfl
set_option maxRecDepth 100000 in
theorem kw90 : Cond.initialized "NativeWorks$Line" ∈ rTs := kMem 90 rfl
set_option maxRecDepth 100000 in
theorem kw91 : Cond.methodLink "NativeWorks$Source" 3 ⟨"java/lang/Object", "<init>", "()V"⟩ ∈ rTs := kMem 91 rfl
set_option maxRecDepth 100000 in
theorem kw92 : Cond.fieldLink "NativeWorks$Source" 9 "NativeWorks$Source" "bytes" "[B" ∈ rTs := kMem 92 rfl
set_option maxRecDepth 100000 in
theorem kw93 : Cond.fieldLink "NativeWorks$Source" 15 "NativeWorks$Source" "words" "LNativeWorks$Names;" ∈ rTs := kMem 93 rfl
set_option maxRecDepth 100000 in
theorem kw94 : Cond.constant "NativeWorks$Source" 19 (nI 65538) ∈ rTs := kMem 94 (by decide +kernel)
set_option maxRecDepth 100000 in
theorem kw95 : Cond.fieldLink "NativeWorks$Source" 20 "NativeWorks$Source" "lineAt" "[I" ∈ rTs := kMem 95 rfl
set_option maxRecDepth 100000 in
theorem kw96 : Cond.constant "NativeWorks$Source" 24 (nI 65537) ∈ rTs := kMem 96 (by decide +kernel)
set_option maxRecDepth 100000 in
theorem kw97 : Cond.fieldLink "NativeWorks$Source" 25 "NativeWorks$Source" "sorts" "[B" ∈ rTs := kMem 97 rfl
set_option maxRecDepth 100000 in
theorem kw98 : Cond.fieldLink "NativeWorks$Source" 28 "NativeWorks$Source" "ifEnds" "[I" ∈ rTs := kMem 98 rfl
set_option maxRecDepth 100000 in
theorem kw99 : Cond.fieldLink "NativeWorks$Source" 31 "NativeWorks$Source" "elses" "[I" ∈ rTs := kMem 99 rfl
set_option maxRecDepth 100000 in
theorem kw100 : Cond.fieldLink "NativeWorks$Source" 34 "NativeWorks$Source" "reptEnds" "[I" ∈ rTs := kMem 100 rfl
set_option maxRecDepth 100000 in
theorem kw101 : Cond.classLink "NativeWorks$Source" 37 "NativeWorks$Names" ∈ rTs := kMem 101 rfl
set_option maxRecDepth 100000 in
theorem kw102 : Cond.constant "NativeWorks$Source" 39 (nI 65536) ∈ rTs := kMem 102 (by decide +kernel)
set_option maxRecDepth 100000 in
theorem kw103 : Cond.methodLink "NativeWorks$Source" 40 ⟨"NativeWorks$Names", "<init>", "(II)V"⟩ ∈ rTs := kMem 103 rfl
set_option maxRecDepth 100000 in
theorem kw104 : Cond.fieldLink "NativeWorks$Source" 43 "NativeWorks$Source" "macros" "LNativeWorks$Names;" ∈ rTs := kMem 104 rfl
set_option maxRecDepth 100000 in
theorem kw105 : Cond.fieldLink "NativeWorks$Source" 46 "NativeWorks$Source" "bodyFrom" "[I" ∈ rTs := kMem 105 rfl
set_option maxRecDepth 100000 in
theorem kw106 : Cond.fieldLink "NativeWorks$Source" 49 "NativeWorks$Source" "bodyTo" "[I" ∈ rTs := kMem 106 rfl
set_option maxRecDepth 100000 in
theorem kw107 : Cond.fieldLink "NativeWorks$Source" 52 "NativeWorks$Source" "firstParamete\x72" "[I" ∈ rTs := kMem 107 rfl
set_option maxRecDepth 100000 in
theorem kw108 : Cond.constant "NativeWorks$Source" 55 (nI 32768) ∈ rTs := kMem 108 (by decide +kernel)
set_option maxRecDepth 100000 in
theorem kw109 : Cond.fieldLink "NativeWorks$Source" 56 "NativeWorks$Source" "parameterFrom" "[I" ∈ rTs := kMem 109 rfl
set_option maxRecDepth 100000 in
theorem kw110 : Cond.fieldLink "NativeWorks$Source" 59 "NativeWorks$Source" "parameterTo" "[I" ∈ rTs := kMem 110 rfl
set_option maxRecDepth 100000 in
theorem kw111 : Cond.fieldLink "NativeWorks$Source" 62 "NativeWorks$Source" "lines" "I" ∈ rTs := kMem 111 rfl
set_option maxRecDepth 100000 in
theorem kw112 : Cond.methodLink "NativeWorks$Reade\x72" 3 ⟨"java/lang/Object", "<init>", "()V"⟩ ∈ rTs := kMem 112 rfl
set_option maxRecDepth 100000 in
theorem kw113 : Cond.fieldLink "NativeWorks$Reade\x72" 9 "NativeWorks$Reade\x72" "source" "LNativeWorks$Source;" ∈ rTs := kMem 113 rfl
set_option maxRecDepth 100000 in
theorem kw114 : Cond.fieldLink "NativeWorks$Reade\x72" 15 "NativeWorks$Reade\x72" "line" "LNativeWorks$Line;" ∈ rTs := kMem 114 rfl
set_option maxRecDepth 100000 in
theorem kw115 : Cond.fieldLink "NativeWorks$Reade\x72" 19 "NativeWorks$Reade\x72" "first" "[I" ∈ rTs := kMem 115 rfl
set_option maxRecDepth 100000 in
theorem kw116 : Cond.fieldLink "NativeWorks$Reade\x72" 23 "NativeWorks$Reade\x72" "end" "[I" ∈ rTs := kMem 116 rfl
set_option maxRecDepth 100000 in
theorem kw117 : Cond.fieldLink "NativeWorks$Reade\x72" 26 "NativeWorks$Reade\x72" "next" "[I" ∈ rTs := kMem 117 rfl
set_option maxRecDepth 100000 in
theorem kw118 : Cond.fieldLink "NativeWorks$Reade\x72" 29 "NativeWorks$Reade\x72" "left" "[I" ∈ rTs := kMem 118 rfl
set_option maxRecDepth 100000 in
theorem kw119 : Cond.fieldLink "NativeWorks$Reade\x72" 32 "NativeWorks$Reade\x72" "make\x72" "[I" ∈ rTs := kMem 119 rfl
set_option maxRecDepth 100000 in
theorem kw120 : Cond.fieldLink "NativeWorks$Reade\x72" 35 "NativeWorks$Reade\x72" "ifsBelow" "[I" ∈ rTs := kMem 120 rfl
set_option maxRecDepth 100000 in
theorem kw121 : Cond.fieldLink "NativeWorks$Reade\x72" 38 "NativeWorks$Reade\x72" "macro" "[I" ∈ rTs := kMem 121 rfl
set_option maxRecDepth 100000 in
theorem kw122 : Cond.fieldLink "NativeWorks$Reade\x72" 41 "NativeWorks$Reade\x72" "made" "[I" ∈ rTs := kMem 122 rfl
set_option maxRecDepth 100000 in
theorem kw123 : Cond.fieldLink "NativeWorks$Reade\x72" 46 "NativeWorks$Reade\x72" "arguments" "[B" ∈ rTs := kMem 123 rfl
set_option maxRecDepth 100000 in
theorem kw124 : Cond.fieldLink "NativeWorks$Reade\x72" 50 "NativeWorks$Reade\x72" "argumentFrom" "[I" ∈ rTs := kMem 124 rfl
set_option maxRecDepth 100000 in
theorem kw125 : Cond.fieldLink "NativeWorks$Reade\x72" 53 "NativeWorks$Reade\x72" "argumentTo" "[I" ∈ rTs := kMem 125 rfl
set_option maxRecDepth 100000 in
theorem kw126 : Cond.arrayClass FieldType.boolean ∈ rTs := kMem 126 rfl
set_option maxRecDepth 100000 in
theorem kw127 : Cond.fieldLink "NativeWorks$Reade\x72" 56 "NativeWorks$Reade\x72" "elseRead" "[Z" ∈ rTs := kMem 127 rfl
set_option maxRecDepth 100000 in
theorem kw128 : Cond.methodLink "NativeWorks$Expression" 3 ⟨"java/lang/Object", "<init>", "()V"⟩ ∈ rTs := kMem 128 rfl
set_option maxRecDepth 100000 in
theorem kw129 : Cond.fieldLink "NativeWorks$Expression" 9 "NativeWorks$Expression" "line" "LNativeWorks$Line;" ∈ rTs := kMem 129 rfl
set_option maxRecDepth 100000 in
theorem kw130 : Cond.fieldLink "NativeWorks$Expression" 15 "NativeWorks$Expression" "units" "LNativeWorks$Units;" ∈ rTs := kMem 130 rfl
set_option maxRecDepth 100000 in
theorem kw131 : Cond.fieldLink "NativeWorks$Expression" 21 "NativeWorks$Expression" "numbe\x72" "[J" ∈ rTs := kMem 131 rfl
set_option maxRecDepth 100000 in
theorem kw132 : Cond.fieldLink "NativeWorks$Expression" 25 "NativeWorks$Expression" "plus" "[I" ∈ rTs := kMem 132 rfl
set_option maxRecDepth 100000 in
theorem kw133 : Cond.fieldLink "NativeWorks$Expression" 29 "NativeWorks$Expression" "minus" "[I" ∈ rTs := kMem 133 rfl
set_option maxRecDepth 100000 in
theorem kw134 : Cond.fieldLink "NativeWorks$Expression" 32 "NativeWorks$Expression" "signs" "[I" ∈ rTs := kMem 134 rfl
set_option maxRecDepth 100000 in
theorem kw135 : Cond.fieldLink "NativeWorks$Expression" 35 "NativeWorks$Expression" "name" "[B" ∈ rTs := kMem 135 rfl
set_option maxRecDepth 100000 in
theorem kw136 : Cond.fieldLink "NativeWorks$Expression" 39 "NativeWorks$Expression" "latest" "[B" ∈ rTs := kMem 136 rfl
set_option maxRecDepth 100000 in
theorem kw137 : Cond.fieldLink "NativeWorks$Instruction" 18 "NativeWorks$Instruction" "rows" "[I" ∈ rTs := kMem 137 rfl
set_option maxRecDepth 100000 in
theorem kw138 : Cond.fieldLink "NativeWorks$Instruction" 53 "NativeWorks$Instruction" "L_AT" "[I" ∈ rTs := kMem 138 rfl
set_option maxRecDepth 100000 in
theorem kw139 : Cond.code ⟨"NativeWorks$Instruction", "isConditional", "(I)Z"⟩ prog_4_method_3_code 1 (Option.some FieldType.boolean) ∈ rTs := kMem 139 rfl
set_option maxRecDepth 100000 in
theorem kw140 : Cond.methodLink "NativeWorks$Instruction" 56 ⟨"NativeWorks$Instruction", "isConditional", "(I)Z"⟩ ∈ rTs := kMem 140 rfl
set_option maxRecDepth 100000 in
theorem kw141 : Cond.static ⟨"NativeWorks$Instruction", "isConditional", "(I)Z"⟩ ∈ rTs := kMem 141 rfl
set_option maxRecDepth 100000 in
theorem kw142 : Cond.initialized "NativeWorks$Instruction" ∈ rTs := kMem 142 rfl
set_option maxRecDepth 100000 in
theorem kw143 : Cond.fieldLink "NativeWorks$Instruction" 24 "NativeWorks$Instruction" "rowAt" "[I" ∈ rTs := kMem 143 rfl
set_option maxRecDepth 100000 in
theorem kw144 : Cond.methodLink "NativeWorks$Instruction" 3 ⟨"java/lang/Object", "<init>", "()V"⟩ ∈ rTs := kMem 144 rfl
set_option maxRecDepth 100000 in
theorem kw145 : Cond.fieldLink "NativeWorks$Instruction" 9 "NativeWorks$Instruction" "ARITHMETIC" "[I" ∈ rTs := kMem 145 rfl
set_option maxRecDepth 100000 in
theorem kw146 : Cond.fieldLink "NativeWorks$Instruction" 15 "NativeWorks$Instruction" "TABLE" "[I" ∈ rTs := kMem 146 rfl
set_option maxRecDepth 100000 in
theorem kw147 : Cond.fieldLink "NativeWorks$Instruction" 21 "NativeWorks$Instruction" "firstRow" "[I" ∈ rTs := kMem 147 rfl
set_option maxRecDepth 100000 in
theorem kw148 : Cond.fieldLink "NativeWorks$Instruction" 27 "NativeWorks$Instruction" "kind" "[I" ∈ rTs := kMem 148 rfl
set_option maxRecDepth 100000 in
theorem kw149 : Cond.fieldLink "NativeWorks$Instruction" 30 "NativeWorks$Instruction" "reg" "[I" ∈ rTs := kMem 149 rfl
set_option maxRecDepth 100000 in
theorem kw150 : Cond.fieldLink "NativeWorks$Instruction" 33 "NativeWorks$Instruction" "bytes" "[B" ∈ rTs := kMem 150 rfl
set_option maxRecDepth 100000 in
theorem kw151 : Cond.methodLink "NativeWorks$Instruction" 37 ⟨"java/util/Arrays", "fill", "([II)V"⟩ ∈ rTs := kMem 151 rfl
set_option maxRecDepth 100000 in
theorem kw152 : Cond.methodLink "NativeWorks$Instruction" 43 ⟨"java/lang/System", "arraycopy", "(Ljava/lang/Object;ILjava/lang/Object;II)V"⟩ ∈ rTs := kMem 152 rfl
set_option maxRecDepth 100000 in
theorem kw153 : Cond.code ⟨"NativeWorks$Instruction", "ente\x72", "(I)V"⟩ prog_4_method_2_code 8 (Option.none : Option FieldType) ∈ rTs := kMem 153 rfl
set_option maxRecDepth 100000 in
theorem kw154 : Cond.methodLink "NativeWorks$Instruction" 49 ⟨"NativeWorks$Instruction", "ente\x72", "(I)V"⟩ ∈ rTs := kMem 154 rfl
set_option maxRecDepth 100000 in
theorem kw155 : Cond.instanceMethod ⟨"NativeWorks$Instruction", "ente\x72", "(I)V"⟩ ∈ rTs := kMem 155 rfl
set_option maxRecDepth 100000 in
theorem kw156 : Cond.selects "NativeWorks$Instruction" ⟨"NativeWorks$Instruction", "ente\x72", "(I)V"⟩ ⟨"NativeWorks$Instruction", "ente\x72", "(I)V"⟩ ∈ rTs := kMem 156 rfl
set_option maxRecDepth 100000 in
theorem kw157 : Cond.methodLink "NativeWorks$Assemble\x72" 3 ⟨"java/lang/Object", "<init>", "()V"⟩ ∈ rTs := kMem 157 rfl
set_option maxRecDepth 100000 in
theorem kw158 : Cond.classLink "NativeWorks$Assemble\x72" 9 "NativeWorks$Line" ∈ rTs := kMem 158 rfl
set_option maxRecDepth 100000 in
theorem kw159 : Cond.instantiable "NativeWorks$Line" 10 ∈ rTs := kMem 159 rfl
set_option maxRecDepth 100000 in
theorem kw160 : Cond.code ⟨"NativeWorks$Line", "<init>", "()V"⟩ prog_5_method_1_code 1 (Option.none : Option FieldType) ∈ rTs := kMem 160 rfl
set_option maxRecDepth 100000 in
theorem kw161 : Cond.methodLink "NativeWorks$Assemble\x72" 11 ⟨"NativeWorks$Line", "<init>", "()V"⟩ ∈ rTs := kMem 161 rfl
set_option maxRecDepth 100000 in
theorem kw162 : Cond.instanceMethod ⟨"NativeWorks$Line", "<init>", "()V"⟩ ∈ rTs := kMem 162 rfl
set_option maxRecDepth 100000 in
theorem kw163 : Cond.fieldLink "NativeWorks$Assemble\x72" 12 "NativeWorks$Assemble\x72" "line" "LNativeWorks$Line;" ∈ rTs := kMem 163 rfl
set_option maxRecDepth 100000 in
theorem kw164 : Cond.fieldLink "NativeWorks$Assemble\x72" 18 "NativeWorks$Assemble\x72" "units" "LNativeWorks$Units;" ∈ rTs := kMem 164 rfl
set_option maxRecDepth 100000 in
theorem kw165 : Cond.classLink "NativeWorks$Assemble\x72" 22 "NativeWorks$Reade\x72" ∈ rTs := kMem 165 rfl
set_option maxRecDepth 100000 in
theorem kw166 : Cond.instantiable "NativeWorks$Reade\x72" 20 ∈ rTs := kMem 166 rfl
set_option maxRecDepth 100000 in
theorem kw167 : Cond.initialized "NativeWorks$Reade\x72" ∈ rTs := kMem 167 rfl
set_option maxRecDepth 100000 in
theorem kw168 : Cond.classLink "NativeWorks$Assemble\x72" 24 "NativeWorks$Source" ∈ rTs := kMem 168 rfl
set_option maxRecDepth 100000 in
theorem kw169 : Cond.instantiable "NativeWorks$Source" 14 ∈ rTs := kMem 169 rfl
set_option maxRecDepth 100000 in
theorem kw170 : Cond.initialized "NativeWorks$Source" ∈ rTs := kMem 170 rfl
set_option maxRecDepth 100000 in
theorem kw171 : Cond.fieldLink "NativeWorks$Assemble\x72" 26 "NativeWorks$Line" "words" "LNativeWorks$Names;" ∈ rTs := kMem 171 rfl
set_option maxRecDepth 100000 in
theorem kw172 : Cond.code ⟨"NativeWorks$Source", "<init>", "([BLNativeWorks$Names;)V"⟩ prog_11_method_1_code 3 (Option.none : Option FieldType) ∈ rTs := kMem 172 rfl
set_option maxRecDepth 100000 in
theorem kw173 : Cond.methodLink "NativeWorks$Assemble\x72" 30 ⟨"NativeWorks$Source", "<init>", "([BLNativeWorks$Names;)V"⟩ ∈ rTs := kMem 173 rfl
set_option maxRecDepth 100000 in
theorem kw174 : Cond.instanceMethod ⟨"NativeWorks$Source", "<init>", "([BLNativeWorks$Names;)V"⟩ ∈ rTs := kMem 174 rfl
set_option maxRecDepth 100000 in
theorem kw175 : Cond.code ⟨"NativeWorks$Reade\x72", "<init>", "(LNativeWorks$Source;LNativeWorks$Line;)V"⟩ prog_10_method_1_code 3 (Option.none : Option FieldType) ∈ rTs := kMem 175 rfl
set_option maxRecDepth 100000 in
theorem kw176 : Cond.methodLink "NativeWorks$Assemble\x72" 33 ⟨"NativeWorks$Reade\x72", "<init>", "(LNativeWorks$Source;LNativeWorks$Line;)V"⟩ ∈ rTs := kMem 176 rfl
set_option maxRecDepth 100000 in
theorem kw177 : Cond.instanceMethod ⟨"NativeWorks$Reade\x72", "<init>", "(LNativeWorks$Source;LNativeWorks$Line;)V"⟩ ∈ rTs := kMem 177 rfl
set_option maxRecDepth 100000 in
theorem kw178 : Cond.fieldLink "NativeWorks$Assemble\x72" 36 "NativeWorks$Assemble\x72" "reade\x72" "LNativeWorks$Reader;" ∈ rTs := kMem 178 rfl
set_option maxRecDepth 100000 in
theorem kw179 : Cond.classLink "NativeWorks$Assemble\x72" 40 "NativeWorks$Expression" ∈ rTs := kMem 179 rfl
set_option maxRecDepth 100000 in
theorem kw180 : Cond.instantiable "NativeWorks$Expression" 11 ∈ rTs := kMem 180 rfl
set_option maxRecDepth 100000 in
theorem kw181 : Cond.initialized "NativeWorks$Expression" ∈ rTs := kMem 181 rfl
set_option maxRecDepth 100000 in
theorem kw182 : Cond.code ⟨"NativeWorks$Expression", "<init>", "(LNativeWorks$Line;LNativeWorks$Units;)V"⟩ prog_3_method_1_code 3 (Option.none : Option FieldType) ∈ rTs := kMem 182 rfl
set_option maxRecDepth 100000 in
theorem kw183 : Cond.methodLink "NativeWorks$Assemble\x72" 42 ⟨"NativeWorks$Expression", "<init>", "(LNativeWorks$Line;LNativeWorks$Units;)V"⟩ ∈ rTs := kMem 183 rfl
set_option maxRecDepth 100000 in
theorem kw184 : Cond.instanceMethod ⟨"NativeWorks$Expression", "<init>", "(LNativeWorks$Line;LNativeWorks$Units;)V"⟩ ∈ rTs := kMem 184 rfl
set_option maxRecDepth 100000 in
theorem kw185 : Cond.fieldLink "NativeWorks$Assemble\x72" 45 "NativeWorks$Assemble\x72" "expression" "LNativeWorks$Expression;" ∈ rTs := kMem 185 rfl
set_option maxRecDepth 100000 in
theorem kw186 : Cond.classLink "NativeWorks$Assemble\x72" 49 "NativeWorks$Instruction" ∈ rTs := kMem 186 rfl
set_option maxRecDepth 100000 in
theorem kw187 : Cond.instantiable "NativeWorks$Instruction" 21 ∈ rTs := kMem 187 rfl
set_option maxRecDepth 100000 in
theorem kw188 : Cond.code ⟨"NativeWorks$Instruction", "<init>", "()V"⟩ prog_4_method_1_code 6 (Option.none : Option FieldType) ∈ rTs := kMem 188 rfl
set_option maxRecDepth 100000 in
theorem kw189 : Cond.methodLink "NativeWorks$Assemble\x72" 51 ⟨"NativeWorks$Instruction", "<init>", "()V"⟩ ∈ rTs := kMem 189 rfl
set_option maxRecDepth 100000 in
theorem kw190 : Cond.instanceMethod ⟨"NativeWorks$Instruction", "<init>", "()V"⟩ ∈ rTs := kMem 190 rfl
set_option maxRecDepth 100000 in
theorem kw191 : Cond.fieldLink "NativeWorks$Assemble\x72" 52 "NativeWorks$Assemble\x72" "instruction" "LNativeWorks$Instruction;" ∈ rTs := kMem 191 rfl
set_option maxRecDepth 100000 in
theorem kw192 : Cond.fieldLink "NativeWorks$Assemble\x72" 56 "NativeWorks$Assemble\x72" "told" "[I" ∈ rTs := kMem 192 rfl
set_option maxRecDepth 100000 in
theorem kw193 : Cond.methodLink "NativeWorks$Linke\x72" 3 ⟨"java/lang/Object", "<init>", "()V"⟩ ∈ rTs := kMem 193 rfl
set_option maxRecDepth 100000 in
theorem kw194 : Cond.fieldLink "NativeWorks$Linke\x72" 9 "NativeWorks$Linke\x72" "units" "LNativeWorks$Units;" ∈ rTs := kMem 194 rfl
set_option maxRecDepth 100000 in
theorem kw195 : Cond.fieldLink "NativeWorks$Linke\x72" 17 "NativeWorks$Linke\x72" "taken" "[Z" ∈ rTs := kMem 195 rfl
set_option maxRecDepth 100000 in
theorem kw196 : Cond.fieldLink "NativeWorks$Linke\x72" 21 "NativeWorks$Linke\x72" "needed" "[Z" ∈ rTs := kMem 196 rfl
set_option maxRecDepth 100000 in
theorem kw197 : Cond.fieldLink "NativeWorks$Linke\x72" 24 "NativeWorks$Linke\x72" "places" "[I" ∈ rTs := kMem 197 rfl
set_option maxRecDepth 100000 in
theorem kw198 : Cond.fieldLink "NativeWorks$Linke\x72" 28 "NativeWorks$Linke\x72" "stands" "[I" ∈ rTs := kMem 198 rfl
set_option maxRecDepth 100000 in
theorem kw199 : Cond.fieldLink "NativeWorks$Linke\x72" 31 "NativeWorks$Linke\x72" "from" "[I" ∈ rTs := kMem 199 rfl
set_option maxRecDepth 100000 in
theorem kw200 : Cond.fieldLink "NativeWorks$Linke\x72" 34 "NativeWorks$Linke\x72" "to" "[I" ∈ rTs := kMem 200 rfl
set_option maxRecDepth 100000 in
theorem kw201 : Cond.constant "NativeWorks$Linke\x72" 37 (nI 131072) ∈ rTs := kMem 201 (by decide +kernel)
set_option maxRecDepth 100000 in
theorem kw202 : Cond.fieldLink "NativeWorks$Linke\x72" 38 "NativeWorks$Linke\x72" "bytes" "[B" ∈ rTs := kMem 202 rfl
set_option maxRecDepth 100000 in
theorem kw203 : Cond.fieldLink "NativeWorks$Linke\x72" 42 "NativeWorks$Linke\x72" "origins" "[I" ∈ rTs := kMem 203 rfl
set_option maxRecDepth 100000 in
theorem kw204 : Cond.classLink "NativeWorks$Linke\x72" 45 "NativeWorks$Names" ∈ rTs := kMem 204 rfl
set_option maxRecDepth 100000 in
theorem kw205 : Cond.constant "NativeWorks$Linke\x72" 47 (nI 129024) ∈ rTs := kMem 205 (by decide +kernel)
set_option maxRecDepth 100000 in
theorem kw206 : Cond.methodLink "NativeWorks$Linke\x72" 48 ⟨"NativeWorks$Names", "<init>", "(II)V"⟩ ∈ rTs := kMem 206 rfl
set_option maxRecDepth 100000 in
theorem kw207 : Cond.fieldLink "NativeWorks$Linke\x72" 51 "NativeWorks$Linke\x72" "names" "LNativeWorks$Names;" ∈ rTs := kMem 207 rfl
set_option maxRecDepth 100000 in
theorem kw208 : Cond.fieldLink "NativeWorks$Linke\x72" 55 "NativeWorks$Linke\x72" "addresses" "[J" ∈ rTs := kMem 208 rfl
set_option maxRecDepth 100000 in
theorem kw209 : Cond.methodLink "NativeWorks$Linke\x72" 59 ⟨"java/util/Arrays", "fill", "([II)V"⟩ ∈ rTs := kMem 209 rfl
set_option maxRecDepth 100000 in
theorem kw210 : Cond.methodLink "NativeWorks$Memory" 3 ⟨"java/lang/Object", "<init>", "()V"⟩ ∈ rTs := kMem 210 rfl
set_option maxRecDepth 100000 in
theorem kw211 : Cond.constant "NativeWorks$Memory" 13 (nI 196608) ∈ rTs := kMem 211 (by decide +kernel)
set_option maxRecDepth 100000 in
theorem kw212 : Cond.fieldLink "NativeWorks$Memory" 14 "NativeWorks$Memory" "low" "[B" ∈ rTs := kMem 212 rfl
set_option maxRecDepth 100000 in
theorem kw213 : Cond.constant "NativeWorks$Memory" 18 (nI 65536) ∈ rTs := kMem 213 (by decide +kernel)
set_option maxRecDepth 100000 in
theorem kw214 : Cond.fieldLink "NativeWorks$Memory" 19 "NativeWorks$Memory" "stack" "[B" ∈ rTs := kMem 214 rfl
set_option maxRecDepth 100000 in
theorem kw215 : Cond.constant "NativeWorks$Memory" 22 (nI 131072) ∈ rTs := kMem 215 (by decide +kernel)
set_option maxRecDepth 100000 in
theorem kw216 : Cond.fieldLink "NativeWorks$Memory" 23 "NativeWorks$Memory" "begins" "[Z" ∈ rTs := kMem 216 rfl
set_option maxRecDepth 100000 in
theorem kw217 : Cond.fieldLink "NativeWorks$Memory" 27 "NativeWorks$Memory" "loaded" "Z" ∈ rTs := kMem 217 rfl
set_option maxRecDepth 100000 in
theorem kw218 : Cond.constantLong "NativeWorks$Memory" 31 (lN 4194304) ∈ rTs := kMem 218 (by decide +kernel)
set_option maxRecDepth 100000 in
theorem kw219 : Cond.fieldLink "NativeWorks$Memory" 33 "NativeWorks$Memory" "heap" "J" ∈ rTs := kMem 219 rfl
set_option maxRecDepth 100000 in
theorem kw220 : Cond.fieldLink "NativeWorks$Memory" 37 "NativeWorks$Memory" "end" "J" ∈ rTs := kMem 220 rfl
set_option maxRecDepth 100000 in
theorem kw221 : Cond.methodLink "NativeWorks$Machine" 3 ⟨"java/lang/Object", "<init>", "()V"⟩ ∈ rTs := kMem 221 rfl
set_option maxRecDepth 100000 in
theorem kw222 : Cond.classLink "NativeWorks$Machine" 9 "NativeWorks$Memory" ∈ rTs := kMem 222 rfl
set_option maxRecDepth 100000 in
theorem kw223 : Cond.instantiable "NativeWorks$Memory" 12 ∈ rTs := kMem 223 rfl
set_option maxRecDepth 100000 in
theorem kw224 : Cond.initialized "NativeWorks$Memory" ∈ rTs := kMem 224 rfl
set_option maxRecDepth 100000 in
theorem kw225 : Cond.code ⟨"NativeWorks$Memory", "<init>", "()V"⟩ prog_8_method_1_code 1 (Option.none : Option FieldType) ∈ rTs := kMem 225 rfl
set_option maxRecDepth 100000 in
theorem kw226 : Cond.methodLink "NativeWorks$Machine" 11 ⟨"NativeWorks$Memory", "<init>", "()V"⟩ ∈ rTs := kMem 226 rfl
set_option maxRecDepth 100000 in
theorem kw227 : Cond.instanceMethod ⟨"NativeWorks$Memory", "<init>", "()V"⟩ ∈ rTs := kMem 227 rfl
set_option maxRecDepth 100000 in
theorem kw228 : Cond.fieldLink "NativeWorks$Machine" 12 "NativeWorks$Machine" "memory" "LNativeWorks$Memory;" ∈ rTs := kMem 228 rfl
set_option maxRecDepth 100000 in
theorem kw229 : Cond.classLink "NativeWorks$Machine" 18 "NativeWorks$Instruction" ∈ rTs := kMem 229 rfl
set_option maxRecDepth 100000 in
theorem kw230 : Cond.methodLink "NativeWorks$Machine" 20 ⟨"NativeWorks$Instruction", "<init>", "()V"⟩ ∈ rTs := kMem 230 rfl
set_option maxRecDepth 100000 in
theorem kw231 : Cond.fieldLink "NativeWorks$Machine" 21 "NativeWorks$Machine" "it" "LNativeWorks$Instruction;" ∈ rTs := kMem 231 rfl
set_option maxRecDepth 100000 in
theorem kw232 : Cond.fieldLink "NativeWorks$Machine" 25 "NativeWorks$Machine" "\x72" "[J" ∈ rTs := kMem 232 rfl
set_option maxRecDepth 100000 in
theorem kw233 : Cond.constant "NativeWorks$Machine" 29 (nI 65536) ∈ rTs := kMem 233 (by decide +kernel)
set_option maxRecDepth 100000 in
theorem kw234 : Cond.fieldLink "NativeWorks$Machine" 30 "NativeWorks$Machine" "input" "[B" ∈ rTs := kMem 234 rfl
set_option maxRecDepth 100000 in
theorem kw235 : Cond.fieldLink "NativeWorks$Machine" 34 "NativeWorks$Machine" "output" "[B" ∈ rTs := kMem 235 rfl
set_option maxRecDepth 100000 in
theorem kw236 : Cond.fieldLink "NativeWorks$Machine" 37 "NativeWorks$Machine" "stops" "[J" ∈ rTs := kMem 236 rfl
set_option maxRecDepth 100000 in
theorem kw237 : Cond.methodLink "NativeWorks" 1 ⟨"java/lang/Object", "<init>", "()V"⟩ ∈ rTs := kMem 237 rfl
set_option maxRecDepth 100000 in
theorem kw238 : Cond.constant "NativeWorks" 9 (nI 65536) ∈ rTs := kMem 238 (by decide +kernel)
set_option maxRecDepth 100000 in
theorem kw239 : Cond.classLink "NativeWorks" 10 "NativeWorks$Units" ∈ rTs := kMem 239 rfl
set_option maxRecDepth 100000 in
theorem kw240 : Cond.instantiable "NativeWorks$Units" 19 ∈ rTs := kMem 240 rfl
set_option maxRecDepth 100000 in
theorem kw241 : Cond.initialized "NativeWorks$Units" ∈ rTs := kMem 241 rfl
set_option maxRecDepth 100000 in
theorem kw242 : Cond.code ⟨"NativeWorks$Units", "<init>", "()V"⟩ prog_12_method_1_code 1 (Option.none : Option FieldType) ∈ rTs := kMem 242 rfl
set_option maxRecDepth 100000 in
theorem kw243 : Cond.methodLink "NativeWorks" 12 ⟨"NativeWorks$Units", "<init>", "()V"⟩ ∈ rTs := kMem 243 rfl
set_option maxRecDepth 100000 in
theorem kw244 : Cond.instanceMethod ⟨"NativeWorks$Units", "<init>", "()V"⟩ ∈ rTs := kMem 244 rfl
set_option maxRecDepth 100000 in
theorem kw245 : Cond.fieldLink "NativeWorks" 13 "NativeWorks" "tape" "[B" ∈ rTs := kMem 245 rfl
set_option maxRecDepth 100000 in
theorem kw246 : Cond.fieldLink "NativeWorks" 17 "NativeWorks" "units" "LNativeWorks$Units;" ∈ rTs := kMem 246 rfl
set_option maxRecDepth 100000 in
theorem kw247 : Cond.classLink "NativeWorks" 21 "NativeWorks$Assemble\x72" ∈ rTs := kMem 247 rfl
set_option maxRecDepth 100000 in
theorem kw248 : Cond.instantiable "NativeWorks$Assemble\x72" 15 ∈ rTs := kMem 248 rfl
set_option maxRecDepth 100000 in
theorem kw249 : Cond.initialized "NativeWorks$Assemble\x72" ∈ rTs := kMem 249 rfl
set_option maxRecDepth 100000 in
theorem kw250 : Cond.code ⟨"NativeWorks$Assemble\x72", "<init>", "([BLNativeWorks$Units;)V"⟩ prog_2_method_1_code 4 (Option.none : Option FieldType) ∈ rTs := kMem 250 rfl
set_option maxRecDepth 100000 in
theorem kw251 : Cond.methodLink "NativeWorks" 23 ⟨"NativeWorks$Assemble\x72", "<init>", "([BLNativeWorks$Units;)V"⟩ ∈ rTs := kMem 251 rfl
set_option maxRecDepth 100000 in
theorem kw252 : Cond.instanceMethod ⟨"NativeWorks$Assemble\x72", "<init>", "([BLNativeWorks$Units;)V"⟩ ∈ rTs := kMem 252 rfl
set_option maxRecDepth 100000 in
theorem kw253 : Cond.fieldLink "NativeWorks" 26 "NativeWorks" "assemble\x72" "LNativeWorks$Assembler;" ∈ rTs := kMem 253 rfl
set_option maxRecDepth 100000 in
theorem kw254 : Cond.classLink "NativeWorks" 30 "NativeWorks$Linke\x72" ∈ rTs := kMem 254 rfl
set_option maxRecDepth 100000 in
theorem kw255 : Cond.instantiable "NativeWorks$Linke\x72" 18 ∈ rTs := kMem 255 rfl
set_option maxRecDepth 100000 in
theorem kw256 : Cond.initialized "NativeWorks$Linke\x72" ∈ rTs := kMem 256 rfl
set_option maxRecDepth 100000 in
theorem kw257 : Cond.code ⟨"NativeWorks$Linke\x72", "<init>", "(LNativeWorks$Units;)V"⟩ prog_6_method_1_code 2 (Option.none : Option FieldType) ∈ rTs := kMem 257 rfl
set_option maxRecDepth 100000 in
theorem kw258 : Cond.methodLink "NativeWorks" 32 ⟨"NativeWorks$Linke\x72", "<init>", "(LNativeWorks$Units;)V"⟩ ∈ rTs := kMem 258 rfl
set_option maxRecDepth 100000 in
theorem kw259 : Cond.instanceMethod ⟨"NativeWorks$Linke\x72", "<init>", "(LNativeWorks$Units;)V"⟩ ∈ rTs := kMem 259 rfl
set_option maxRecDepth 100000 in
theorem kw260 : Cond.fieldLink "NativeWorks" 35 "NativeWorks" "linke\x72" "LNativeWorks$Linker;" ∈ rTs := kMem 260 rfl
set_option maxRecDepth 100000 in
theorem kw261 : Cond.classLink "NativeWorks" 39 "NativeWorks$Machine" ∈ rTs := kMem 261 rfl
set_option maxRecDepth 100000 in
theorem kw262 : Cond.instantiable "NativeWorks$Machine" 17 ∈ rTs := kMem 262 rfl
set_option maxRecDepth 100000 in
theorem kw263 : Cond.initialized "NativeWorks$Machine" ∈ rTs := kMem 263 rfl
set_option maxRecDepth 100000 in
theorem kw264 : Cond.code ⟨"NativeWorks$Machine", "<init>", "()V"⟩ prog_7_method_1_code 1 (Option.none : Option FieldType) ∈ rTs := kMem 264 rfl
set_option maxRecDepth 100000 in
theorem kw265 : Cond.methodLink "NativeWorks" 41 ⟨"NativeWorks$Machine", "<init>", "()V"⟩ ∈ rTs := kMem 265 rfl
set_option maxRecDepth 100000 in
theorem kw266 : Cond.instanceMethod ⟨"NativeWorks$Machine", "<init>", "()V"⟩ ∈ rTs := kMem 266 rfl
set_option maxRecDepth 100000 in
theorem kw267 : Cond.fieldLink "NativeWorks" 42 "NativeWorks" "machine" "LNativeWorks$Machine;" ∈ rTs := kMem 267 rfl
set_option maxRecDepth 100000 in
theorem kw268 : Cond.fieldLink "NativeWorks" 46 "NativeWorks" "fed" "I" ∈ rTs := kMem 268 rfl
set_option maxRecDepth 100000 in
theorem kw269 : Cond.fieldLink "NativeWorks" 50 "NativeWorks" "faultKind" "I" ∈ rTs := kMem 269 rfl
set_option maxRecDepth 100000 in
theorem kw270 : Cond.fieldLink "NativeWorks" 53 "NativeWorks" "faultLine" "I" ∈ rTs := kMem 270 rfl
set_option maxRecDepth 100000 in
theorem kw271 : Cond.fieldLink "NativeWorks" 56 "NativeWorks" "faultUnit" "I" ∈ rTs := kMem 271 rfl
set_option maxRecDepth 100000 in
theorem kw272 : Cond.methodLink "NativeWorksModel$Code" 3 ⟨"java/lang/Object", "<init>", "()V"⟩ ∈ rTs := kMem 272 rfl
set_option maxRecDepth 100000 in
theorem kw273 : Cond.fieldLink "NativeWorksModel$Code" 9 "NativeWorksModel$Code" "address" "[I" ∈ rTs := kMem 273 rfl
set_option maxRecDepth 100000 in
theorem kw274 : Cond.fieldLink "NativeWorksModel$Code" 15 "NativeWorksModel$Code" "where" "[I" ∈ rTs := kMem 274 rfl
set_option maxRecDepth 100000 in
theorem kw275 : Cond.fieldLink "NativeWorksModel$Code" 18 "NativeWorksModel$Code" "shape" "[J" ∈ rTs := kMem 275 rfl
set_option maxRecDepth 100000 in
theorem kw276 : Cond.fieldLink "NativeWorksModel$Code" 22 "NativeWorksModel$Code" "displacement" "[J" ∈ rTs := kMem 276 rfl
set_option maxRecDepth 100000 in
theorem kw277 : Cond.fieldLink "NativeWorksModel$Code" 25 "NativeWorksModel$Code" "numbe\x72" "[J" ∈ rTs := kMem 277 rfl
set_option maxRecDepth 100000 in
theorem kw278 : Cond.code ⟨"jdk/internal/util/Preconditions", "checkFromToIndex", "(IIILjava/util/function/BiFunction;)I"⟩ prog_41_method_12_code 4 (Option.some FieldType.int) ∈ rTs := kMem 278 rfl
set_option maxRecDepth 100000 in
theorem kw279 : Cond.methodLink "java/lang/String" 1062 ⟨"jdk/internal/util/Preconditions", "checkFromToIndex", "(IIILjava/util/function/BiFunction;)I"⟩ ∈ rTs := kMem 279 rfl
set_option maxRecDepth 100000 in
theorem kw280 : Cond.static ⟨"jdk/internal/util/Preconditions", "checkFromToIndex", "(IIILjava/util/function/BiFunction;)I"⟩ ∈ rTs := kMem 280 rfl
set_option maxRecDepth 100000 in
theorem kw281 : Cond.code ⟨"java/util/Arrays", "checkLength", "(II)V"⟩ prog_38_method_131_code 2 (Option.none : Option FieldType) ∈ rTs := kMem 281 rfl
set_option maxRecDepth 100000 in
theorem kw282 : Cond.methodLink "java/util/Arrays" 343 ⟨"java/util/Arrays", "checkLength", "(II)V"⟩ ∈ rTs := kMem 282 rfl
set_option maxRecDepth 100000 in
theorem kw283 : Cond.static ⟨"java/util/Arrays", "checkLength", "(II)V"⟩ ∈ rTs := kMem 283 rfl
set_option maxRecDepth 100000 in
theorem kw284 : Cond.code ⟨"java/lang/Math", "min", "(II)I"⟩ prog_27_method_69_code 2 (Option.some FieldType.int) ∈ rTs := kMem 284 rfl
set_option maxRecDepth 100000 in
theorem kw285 : Cond.methodLink "java/util/Arrays" 304 ⟨"java/lang/Math", "min", "(II)I"⟩ ∈ rTs := kMem 285 rfl
set_option maxRecDepth 100000 in
theorem kw286 : Cond.static ⟨"java/lang/Math", "min", "(II)I"⟩ ∈ rTs := kMem 286 rfl
set_option maxRecDepth 100000 in
theorem kw287 : Cond.initialized "java/lang/Math" ∈ rTs := kMem 287 rfl
set_option maxRecDepth 100000 in
theorem kw288 : Cond.methodLink "java/util/Arrays" 150 ⟨"java/lang/System", "arraycopy", "(Ljava/lang/Object;ILjava/lang/Object;II)V"⟩ ∈ rTs := kMem 288 rfl
set_option maxRecDepth 100000 in
theorem kw289 : Cond.code ⟨"java/util/Arrays", "copyOfRangeByte", "([BII)[B"⟩ prog_38_method_133_code 5 (Option.some (FieldType.array FieldType.byte)) ∈ rTs := kMem 289 rfl
set_option maxRecDepth 100000 in
theorem kw290 : Cond.methodLink "java/util/Arrays" 339 ⟨"java/util/Arrays", "copyOfRangeByte", "([BII)[B"⟩ ∈ rTs := kMem 290 rfl
set_option maxRecDepth 100000 in
theorem kw291 : Cond.static ⟨"java/util/Arrays", "copyOfRangeByte", "([BII)[B"⟩ ∈ rTs := kMem 291 rfl
set_option maxRecDepth 100000 in
theorem kw292 : Cond.methodLink "java/lang/String" 1 ⟨"java/lang/Object", "<init>", "()V"⟩ ∈ rTs := kMem 292 rfl
set_option maxRecDepth 100000 in
theorem kw293 : Cond.classLink "java/lang/StringLatin1" 1 "java/lang/String" ∈ rTs := kMem 293 rfl
set_option maxRecDepth 100000 in
theorem kw294 : Cond.instantiable "java/lang/String" 4 ∈ rTs := kMem 294 rfl
set_option maxRecDepth 100000 in
theorem kw295 : Cond.code ⟨"java/util/Arrays", "copyOfRange", "([BII)[B"⟩ prog_38_method_132_code 3 (Option.some (FieldType.array FieldType.byte)) ∈ rTs := kMem 295 rfl
set_option maxRecDepth 100000 in
theorem kw296 : Cond.methodLink "java/lang/StringLatin1" 232 ⟨"java/util/Arrays", "copyOfRange", "([BII)[B"⟩ ∈ rTs := kMem 296 rfl
set_option maxRecDepth 100000 in
theorem kw297 : Cond.static ⟨"java/util/Arrays", "copyOfRange", "([BII)[B"⟩ ∈ rTs := kMem 297 rfl
set_option maxRecDepth 100000 in
theorem kw298 : Cond.code ⟨"java/lang/String", "<init>", "([BB)V"⟩ prog_30_method_151_code 3 (Option.none : Option FieldType) ∈ rTs := kMem 298 rfl
set_option maxRecDepth 100000 in
theorem kw299 : Cond.methodLink "java/lang/StringLatin1" 112 ⟨"java/lang/String", "<init>", "([BB)V"⟩ ∈ rTs := kMem 299 rfl
set_option maxRecDepth 100000 in
theorem kw300 : Cond.instanceMethod ⟨"java/lang/String", "<init>", "([BB)V"⟩ ∈ rTs := kMem 300 rfl
set_option maxRecDepth 100000 in
theorem kw301 : Cond.methodLink "java/lang/String" 505 ⟨"java/lang/String", "length", "()I"⟩ ∈ rTs := kMem 301 rfl
set_option maxRecDepth 100000 in
theorem kw302 : Cond.code ⟨"java/lang/String", "checkBoundsBeginEnd", "(III)V"⟩ prog_30_method_158_code 3 (Option.none : Option FieldType) ∈ rTs := kMem 302 rfl
set_option maxRecDepth 100000 in
theorem kw303 : Cond.methodLink "java/lang/String" 521 ⟨"java/lang/String", "checkBoundsBeginEnd", "(III)V"⟩ ∈ rTs := kMem 303 rfl
set_option maxRecDepth 100000 in
theorem kw304 : Cond.static ⟨"java/lang/String", "checkBoundsBeginEnd", "(III)V"⟩ ∈ rTs := kMem 304 rfl
set_option maxRecDepth 100000 in
theorem kw305 : Cond.code ⟨"java/lang/StringLatin1", "newString", "([BII)Ljava/lang/String;"⟩ prog_32_method_47_code 3 (Option.some (FieldType.object "java/lang/String")) ∈ rTs := kMem 305 rfl
set_option maxRecDepth 100000 in
theorem kw306 : Cond.methodLink "java/lang/String" 685 ⟨"java/lang/StringLatin1", "newString", "([BII)Ljava/lang/String;"⟩ ∈ rTs := kMem 306 rfl
set_option maxRecDepth 100000 in
theorem kw307 : Cond.static ⟨"java/lang/StringLatin1", "newString", "([BII)Ljava/lang/String;"⟩ ∈ rTs := kMem 307 rfl
set_option maxRecDepth 100000 in
theorem kw308 : Cond.methodLink "NativeWorksModel" 469 ⟨"java/lang/String", "length", "()I"⟩ ∈ rTs := kMem 308 rfl
set_option maxRecDepth 100000 in
theorem kw309 : Cond.methodLink "NativeWorksModel" 475 ⟨"java/lang/String", "charAt", "(I)C"⟩ ∈ rTs := kMem 309 rfl
set_option maxRecDepth 100000 in
theorem kw310 : Cond.fieldLink "NativeWorksModel" 14 "NativeWorksModel" "wordName" "[J" ∈ rTs := kMem 310 rfl
set_option maxRecDepth 100000 in
theorem kw311 : Cond.fieldLink "NativeWorksModel" 483 "NativeWorksModel" "words" "I" ∈ rTs := kMem 311 rfl
set_option maxRecDepth 100000 in
theorem kw312 : Cond.code ⟨"NativeWorksModel", "pack", "(Ljava/lang/String;)J"⟩ prog_14_method_2_code 4 (Option.some FieldType.long) ∈ rTs := kMem 312 rfl
set_option maxRecDepth 100000 in
theorem kw313 : Cond.methodLink "NativeWorksModel" 419 ⟨"NativeWorksModel", "pack", "(Ljava/lang/String;)J"⟩ ∈ rTs := kMem 313 rfl
set_option maxRecDepth 100000 in
theorem kw314 : Cond.static ⟨"NativeWorksModel", "pack", "(Ljava/lang/String;)J"⟩ ∈ rTs := kMem 314 rfl
set_option maxRecDepth 100000 in
theorem kw315 : Cond.initialized "NativeWorksModel" ∈ rTs := kMem 315 rfl
set_option maxRecDepth 100000 in
theorem kw316 : Cond.fieldLink "NativeWorksModel" 21 "NativeWorksModel" "wordCode" "[I" ∈ rTs := kMem 316 rfl
set_option maxRecDepth 100000 in
theorem kw317 : Cond.code ⟨"java/lang/String", "substring", "(II)Ljava/lang/String;"⟩ prog_30_method_92_code 5 (Option.some (FieldType.object "java/lang/String")) ∈ rTs := kMem 317 rfl
set_option maxRecDepth 100000 in
theorem kw318 : Cond.methodLink "NativeWorksModel" 479 ⟨"java/lang/String", "substring", "(II)Ljava/lang/String;"⟩ ∈ rTs := kMem 318 rfl
set_option maxRecDepth 100000 in
theorem kw319 : Cond.instanceMethod ⟨"java/lang/String", "substring", "(II)Ljava/lang/String;"⟩ ∈ rTs := kMem 319 rfl
set_option maxRecDepth 100000 in
theorem kw320 : Cond.selects "java/lang/String" ⟨"java/lang/String", "substring", "(II)Ljava/lang/String;"⟩ ⟨"java/lang/String", "substring", "(II)Ljava/lang/String;"⟩ ∈ rTs := kMem 320 rfl
set_option maxRecDepth 100000 in
theorem kw321 : Cond.code ⟨"NativeWorksModel", "word", "(Ljava/lang/String;I)V"⟩ prog_14_method_4_code 3 (Option.none : Option FieldType) ∈ rTs := kMem 321 rfl
set_option maxRecDepth 100000 in
theorem kw322 : Cond.methodLink "NativeWorksModel" 370 ⟨"NativeWorksModel", "word", "(Ljava/lang/String;I)V"⟩ ∈ rTs := kMem 322 rfl
set_option maxRecDepth 100000 in
theorem kw323 : Cond.instanceMethod ⟨"NativeWorksModel", "word", "(Ljava/lang/String;I)V"⟩ ∈ rTs := kMem 323 rfl
set_option maxRecDepth 100000 in
theorem kw324 : Cond.selects "NativeWorksModel" ⟨"NativeWorksModel", "word", "(Ljava/lang/String;I)V"⟩ ⟨"NativeWorksModel", "word", "(Ljava/lang/String;I)V"⟩ ∈ rTs := kMem 324 rfl
set_option maxRecDepth 100000 in
theorem kw325 : Cond.methodLink "java/lang/AbstractStringBuilde\x72" 3 ⟨"java/lang/Object", "<init>", "()V"⟩ ∈ rTs := kMem 325 rfl
set_option maxRecDepth 100000 in
theorem kw326 : Cond.fieldLink "java/lang/AbstractStringBuilde\x72" 18 "java/lang/String" "COMPACT_STRINGS" "Z" ∈ rTs := kMem 326 rfl
set_option maxRecDepth 100000 in
theorem kw327 : Cond.fieldLink "java/lang/AbstractStringBuilde\x72" 15 "java/lang/AbstractStringBuilde\x72" "value" "[B" ∈ rTs := kMem 327 rfl
set_option maxRecDepth 100000 in
theorem kw328 : Cond.fieldLink "java/lang/AbstractStringBuilde\x72" 22 "java/lang/AbstractStringBuilde\x72" "code\x72" "B" ∈ rTs := kMem 328 rfl
set_option maxRecDepth 100000 in
theorem kw329 : Cond.code ⟨"java/lang/AbstractStringBuilde\x72", "<init>", "(I)V"⟩ prog_17_method_2_code 2 (Option.none : Option FieldType) ∈ rTs := kMem 329 rfl
set_option maxRecDepth 100000 in
theorem kw330 : Cond.methodLink "java/lang/StringBuilde\x72" 1 ⟨"java/lang/AbstractStringBuilde\x72", "<init>", "(I)V"⟩ ∈ rTs := kMem 330 rfl
set_option maxRecDepth 100000 in
theorem kw331 : Cond.instanceMethod ⟨"java/lang/AbstractStringBuilde\x72", "<init>", "(I)V"⟩ ∈ rTs := kMem 331 rfl
set_option maxRecDepth 100000 in
theorem kw332 : Cond.initialized "java/lang/AbstractStringBuilde\x72" ∈ rTs := kMem 332 rfl
set_option maxRecDepth 100000 in
theorem kw333 : Cond.methodLink "java/lang/AbstractStringBuilde\x72" 40 ⟨"java/lang/String", "code\x72", "()B"⟩ ∈ rTs := kMem 333 rfl
set_option maxRecDepth 100000 in
theorem kw334 : Cond.methodLink "java/lang/String" 212 ⟨"java/lang/System", "arraycopy", "(Ljava/lang/Object;ILjava/lang/Object;II)V"⟩ ∈ rTs := kMem 334 rfl
set_option maxRecDepth 100000 in
theorem kw335 : Cond.code ⟨"java/lang/AbstractStringBuilde\x72", "inflateIfNeededFo\x72", "(Ljava/lang/String;)V"⟩ prog_17_method_71_code 2 (Option.none : Option FieldType) ∈ rTs := kMem 335 rfl
set_option maxRecDepth 100000 in
theorem kw336 : Cond.methodLink "java/lang/AbstractStringBuilde\x72" 397 ⟨"java/lang/AbstractStringBuilde\x72", "inflateIfNeededFo\x72", "(Ljava/lang/String;)V"⟩ ∈ rTs := kMem 336 rfl
set_option maxRecDepth 100000 in
theorem kw337 : Cond.sameMethod "java/lang/AbstractStringBuilde\x72" "java/lang/AbstractStringBuilde\x72" "inflateIfNeededFo\x72" "(Ljava/lang/String;)V" ∈ rTs := kMem 337 rfl
set_option maxRecDepth 100000 in
theorem kw338 : Cond.selects "java/lang/StringBuilde\x72" ⟨"java/lang/AbstractStringBuilde\x72", "inflateIfNeededFo\x72", "(Ljava/lang/String;)V"⟩ ⟨"java/lang/AbstractStringBuilde\x72", "inflateIfNeededFo\x72", "(Ljava/lang/String;)V"⟩ ∈ rTs := kMem 338 rfl
set_option maxRecDepth 100000 in
theorem kw339 : Cond.instanceMethod ⟨"java/lang/AbstractStringBuilde\x72", "inflateIfNeededFo\x72", "(Ljava/lang/String;)V"⟩ ∈ rTs := kMem 339 rfl
set_option maxRecDepth 100000 in
theorem kw340 : Cond.code ⟨"java/lang/String", "getBytes", "([BIB)V"⟩ prog_30_method_147_code 4 (Option.none : Option FieldType) ∈ rTs := kMem 340 rfl
set_option maxRecDepth 100000 in
theorem kw341 : Cond.methodLink "java/lang/AbstractStringBuilde\x72" 399 ⟨"java/lang/String", "getBytes", "([BIB)V"⟩ ∈ rTs := kMem 341 rfl
set_option maxRecDepth 100000 in
theorem kw342 : Cond.instanceMethod ⟨"java/lang/String", "getBytes", "([BIB)V"⟩ ∈ rTs := kMem 342 rfl
set_option maxRecDepth 100000 in
theorem kw343 : Cond.selects "java/lang/String" ⟨"java/lang/String", "getBytes", "([BIB)V"⟩ ⟨"java/lang/String", "getBytes", "([BIB)V"⟩ ∈ rTs := kMem 343 rfl
set_option maxRecDepth 100000 in
theorem kw344 : Cond.methodLink "java/lang/AbstractStringBuilde\x72" 32 ⟨"java/lang/String", "length", "()I"⟩ ∈ rTs := kMem 344 rfl
set_option maxRecDepth 100000 in
theorem kw345 : Cond.fieldLink "java/lang/AbstractStringBuilde\x72" 79 "java/lang/AbstractStringBuilde\x72" "count" "I" ∈ rTs := kMem 345 rfl
set_option maxRecDepth 100000 in
theorem kw346 : Cond.code ⟨"java/lang/AbstractStringBuilde\x72", "ensureCapacityInternal", "(I)V"⟩ prog_17_method_9_code 3 (Option.none : Option FieldType) ∈ rTs := kMem 346 rfl
set_option maxRecDepth 100000 in
theorem kw347 : Cond.methodLink "java/lang/AbstractStringBuilde\x72" 100 ⟨"java/lang/AbstractStringBuilde\x72", "ensureCapacityInternal", "(I)V"⟩ ∈ rTs := kMem 347 rfl
set_option maxRecDepth 100000 in
theorem kw348 : Cond.sameMethod "java/lang/AbstractStringBuilde\x72" "java/lang/AbstractStringBuilde\x72" "ensureCapacityInternal" "(I)V" ∈ rTs := kMem 348 rfl
set_option maxRecDepth 100000 in
theorem kw349 : Cond.selects "java/lang/StringBuilde\x72" ⟨"java/lang/AbstractStringBuilde\x72", "ensureCapacityInternal", "(I)V"⟩ ⟨"java/lang/AbstractStringBuilde\x72", "ensureCapacityInternal", "(I)V"⟩ ∈ rTs := kMem 349 rfl
set_option maxRecDepth 100000 in
theorem kw350 : Cond.instanceMethod ⟨"java/lang/AbstractStringBuilde\x72", "ensureCapacityInternal", "(I)V"⟩ ∈ rTs := kMem 350 rfl
set_option maxRecDepth 100000 in
theorem kw351 : Cond.code ⟨"java/lang/AbstractStringBuilde\x72", "putStringAt", "(ILjava/lang/String;)V"⟩ prog_17_method_73_code 3 (Option.none : Option FieldType) ∈ rTs := kMem 351 rfl
set_option maxRecDepth 100000 in
theorem kw352 : Cond.methodLink "java/lang/AbstractStringBuilde\x72" 208 ⟨"java/lang/AbstractStringBuilde\x72", "putStringAt", "(ILjava/lang/String;)V"⟩ ∈ rTs := kMem 352 rfl
set_option maxRecDepth 100000 in
theorem kw353 : Cond.sameMethod "java/lang/AbstractStringBuilde\x72" "java/lang/AbstractStringBuilde\x72" "putStringAt" "(ILjava/lang/String;)V" ∈ rTs := kMem 353 rfl
set_option maxRecDepth 100000 in
theorem kw354 : Cond.selects "java/lang/StringBuilde\x72" ⟨"java/lang/AbstractStringBuilde\x72", "putStringAt", "(ILjava/lang/String;)V"⟩ ⟨"java/lang/AbstractStringBuilde\x72", "putStringAt", "(ILjava/lang/String;)V"⟩ ∈ rTs := kMem 354 rfl
set_option maxRecDepth 100000 in
theorem kw355 : Cond.instanceMethod ⟨"java/lang/AbstractStringBuilde\x72", "putStringAt", "(ILjava/lang/String;)V"⟩ ∈ rTs := kMem 355 rfl
set_option maxRecDepth 100000 in
theorem kw356 : Cond.code ⟨"java/lang/AbstractStringBuilde\x72", "append", "(Ljava/lang/String;)Ljava/lang/AbstractStringBuilder;"⟩ prog_17_method_22_code 3 (Option.some (FieldType.object "java/lang/AbstractStringBuilde\x72")) ∈ rTs := kMem 356 rfl
set_option maxRecDepth 100000 in
theorem kw357 : Cond.methodLink "java/lang/StringBuilde\x72" 29 ⟨"java/lang/AbstractStringBuilde\x72", "append", "(Ljava/lang/String;)Ljava/lang/AbstractStringBuilder;"⟩ ∈ rTs := kMem 357 rfl
set_option maxRecDepth 100000 in
theorem kw358 : Cond.sameMethod "java/lang/AbstractStringBuilde\x72" "java/lang/AbstractStringBuilde\x72" "append" "(Ljava/lang/String;)Ljava/lang/AbstractStringBuilder;" ∈ rTs := kMem 358 rfl
set_option maxRecDepth 100000 in
theorem kw359 : Cond.superclass "java/lang/StringBuilde\x72" "java/lang/AbstractStringBuilde\x72" ∈ rTs := kMem 359 rfl
set_option maxRecDepth 100000 in
theorem kw360 : Cond.instanceMethod ⟨"java/lang/AbstractStringBuilde\x72", "append", "(Ljava/lang/String;)Ljava/lang/AbstractStringBuilder;"⟩ ∈ rTs := kMem 360 rfl
set_option maxRecDepth 100000 in
theorem kw361 : Cond.code ⟨"java/lang/AbstractStringBuilde\x72", "length", "()I"⟩ prog_17_method_6_code 1 (Option.some FieldType.int) ∈ rTs := kMem 361 rfl
set_option maxRecDepth 100000 in
theorem kw362 : Cond.methodLink "java/lang/StringBuilde\x72" 343 ⟨"java/lang/AbstractStringBuilde\x72", "length", "()I"⟩ ∈ rTs := kMem 362 rfl
set_option maxRecDepth 100000 in
theorem kw363 : Cond.sameMethod "java/lang/AbstractStringBuilde\x72" "java/lang/AbstractStringBuilde\x72" "length" "()I" ∈ rTs := kMem 363 rfl
set_option maxRecDepth 100000 in
theorem kw364 : Cond.instanceMethod ⟨"java/lang/AbstractStringBuilde\x72", "length", "()I"⟩ ∈ rTs := kMem 364 rfl
set_option maxRecDepth 100000 in
theorem kw365 : Cond.code ⟨"java/lang/AbstractStringBuilde\x72", "getValue", "()[B"⟩ prog_17_method_64_code 1 (Option.some (FieldType.array FieldType.byte)) ∈ rTs := kMem 365 rfl
set_option maxRecDepth 100000 in
theorem kw366 : Cond.methodLink "java/lang/String" 552 ⟨"java/lang/AbstractStringBuilde\x72", "getValue", "()[B"⟩ ∈ rTs := kMem 366 rfl
set_option maxRecDepth 100000 in
theorem kw367 : Cond.sameMethod "java/lang/AbstractStringBuilde\x72" "java/lang/AbstractStringBuilde\x72" "getValue" "()[B" ∈ rTs := kMem 367 rfl
set_option maxRecDepth 100000 in
theorem kw368 : Cond.selects "java/lang/StringBuilde\x72" ⟨"java/lang/AbstractStringBuilde\x72", "getValue", "()[B"⟩ ⟨"java/lang/AbstractStringBuilde\x72", "getValue", "()[B"⟩ ∈ rTs := kMem 368 rfl
set_option maxRecDepth 100000 in
theorem kw369 : Cond.instanceMethod ⟨"java/lang/AbstractStringBuilde\x72", "getValue", "()[B"⟩ ∈ rTs := kMem 369 rfl
set_option maxRecDepth 100000 in
theorem kw370 : Cond.code ⟨"java/lang/StringBuilde\x72", "length", "()I"⟩ prog_31_method_93_code 1 (Option.some FieldType.int) ∈ rTs := kMem 370 rfl
set_option maxRecDepth 100000 in
theorem kw371 : Cond.methodLink "java/lang/String" 549 ⟨"java/lang/AbstractStringBuilde\x72", "length", "()I"⟩ ∈ rTs := kMem 371 rfl
set_option maxRecDepth 100000 in
theorem kw372 : Cond.selects "java/lang/StringBuilde\x72" ⟨"java/lang/AbstractStringBuilde\x72", "length", "()I"⟩ ⟨"java/lang/StringBuilde\x72", "length", "()I"⟩ ∈ rTs := kMem 372 rfl
set_option maxRecDepth 100000 in
theorem kw373 : Cond.instanceMethod ⟨"java/lang/StringBuilde\x72", "length", "()I"⟩ ∈ rTs := kMem 373 rfl
set_option maxRecDepth 100000 in
theorem kw374 : Cond.initialized "java/lang/StringBuilde\x72" ∈ rTs := kMem 374 rfl
set_option maxRecDepth 100000 in
theorem kw375 : Cond.code ⟨"java/lang/AbstractStringBuilde\x72", "isLatin1", "()Z"⟩ prog_17_method_68_code 1 (Option.some FieldType.boolean) ∈ rTs := kMem 375 rfl
set_option maxRecDepth 100000 in
theorem kw376 : Cond.methodLink "java/lang/String" 1047 ⟨"java/lang/AbstractStringBuilde\x72", "isLatin1", "()Z"⟩ ∈ rTs := kMem 376 rfl
set_option maxRecDepth 100000 in
theorem kw377 : Cond.sameMethod "java/lang/AbstractStringBuilde\x72" "java/lang/AbstractStringBuilde\x72" "isLatin1" "()Z" ∈ rTs := kMem 377 rfl
set_option maxRecDepth 100000 in
theorem kw378 : Cond.selects "java/lang/StringBuilde\x72" ⟨"java/lang/AbstractStringBuilde\x72", "isLatin1", "()Z"⟩ ⟨"java/lang/AbstractStringBuilde\x72", "isLatin1", "()Z"⟩ ∈ rTs := kMem 378 rfl
set_option maxRecDepth 100000 in
theorem kw379 : Cond.instanceMethod ⟨"java/lang/AbstractStringBuilde\x72", "isLatin1", "()Z"⟩ ∈ rTs := kMem 379 rfl
set_option maxRecDepth 100000 in
theorem kw380 : Cond.methodLink "java/lang/String" 54 ⟨"java/util/Arrays", "copyOfRange", "([BII)[B"⟩ ∈ rTs := kMem 380 rfl
set_option maxRecDepth 100000 in
theorem kw381 : Cond.code ⟨"java/lang/String", "<init>", "(Ljava/lang/AbstractStringBuilder;Ljava/lang/Void;)V"⟩ prog_30_method_150_code 5 (Option.none : Option FieldType) ∈ rTs := kMem 381 rfl
set_option maxRecDepth 100000 in
theorem kw382 : Cond.methodLink "java/lang/String" 489 ⟨"java/lang/String", "<init>", "(Ljava/lang/AbstractStringBuilder;Ljava/lang/Void;)V"⟩ ∈ rTs := kMem 382 rfl
set_option maxRecDepth 100000 in
theorem kw383 : Cond.instanceMethod ⟨"java/lang/String", "<init>", "(Ljava/lang/AbstractStringBuilder;Ljava/lang/Void;)V"⟩ ∈ rTs := kMem 383 rfl
set_option maxRecDepth 100000 in
theorem kw384 : Cond.classLink "java/lang/StringBuilde\x72" 18 "java/lang/String" ∈ rTs := kMem 384 rfl
set_option maxRecDepth 100000 in
theorem kw385 : Cond.code ⟨"java/lang/String", "<init>", "(Ljava/lang/StringBuilder;)V"⟩ prog_30_method_53_code 2 (Option.none : Option FieldType) ∈ rTs := kMem 385 rfl
set_option maxRecDepth 100000 in
theorem kw386 : Cond.methodLink "java/lang/StringBuilde\x72" 137 ⟨"java/lang/String", "<init>", "(Ljava/lang/StringBuilder;)V"⟩ ∈ rTs := kMem 386 rfl
set_option maxRecDepth 100000 in
theorem kw387 : Cond.instanceMethod ⟨"java/lang/String", "<init>", "(Ljava/lang/StringBuilder;)V"⟩ ∈ rTs := kMem 387 rfl
set_option maxRecDepth 100000 in
theorem kw388 : Cond.classLink "NativeWorksModel" 530 "java/lang/StringBuilde\x72" ∈ rTs := kMem 388 rfl
set_option maxRecDepth 100000 in
theorem kw389 : Cond.instantiable "java/lang/StringBuilde\x72" 4 ∈ rTs := kMem 389 rfl
set_option maxRecDepth 100000 in
theorem kw390 : Cond.code ⟨"java/lang/StringBuilde\x72", "<init>", "()V"⟩ prog_31_method_1_code 1 (Option.none : Option FieldType) ∈ rTs := kMem 390 rfl
set_option maxRecDepth 100000 in
theorem kw391 : Cond.methodLink "NativeWorksModel" 532 ⟨"java/lang/StringBuilde\x72", "<init>", "()V"⟩ ∈ rTs := kMem 391 rfl
set_option maxRecDepth 100000 in
theorem kw392 : Cond.instanceMethod ⟨"java/lang/StringBuilde\x72", "<init>", "()V"⟩ ∈ rTs := kMem 392 rfl
set_option maxRecDepth 100000 in
theorem kw393 : Cond.code ⟨"java/lang/StringBuilde\x72", "append", "(Ljava/lang/String;)Ljava/lang/StringBuilder;"⟩ prog_31_method_7_code 2 (Option.some (FieldType.object "java/lang/StringBuilde\x72")) ∈ rTs := kMem 393 rfl
set_option maxRecDepth 100000 in
theorem kw394 : Cond.methodLink "NativeWorksModel" 533 ⟨"java/lang/StringBuilde\x72", "append", "(Ljava/lang/String;)Ljava/lang/StringBuilder;"⟩ ∈ rTs := kMem 394 rfl
set_option maxRecDepth 100000 in
theorem kw395 : Cond.instanceMethod ⟨"java/lang/StringBuilde\x72", "append", "(Ljava/lang/String;)Ljava/lang/StringBuilder;"⟩ ∈ rTs := kMem 395 rfl
set_option maxRecDepth 100000 in
theorem kw396 : Cond.selects "java/lang/StringBuilde\x72" ⟨"java/lang/StringBuilde\x72", "append", "(Ljava/lang/String;)Ljava/lang/StringBuilder;"⟩ ⟨"java/lang/StringBuilde\x72", "append", "(Ljava/lang/String;)Ljava/lang/StringBuilder;"⟩ ∈ rTs := kMem 396 rfl
set_option maxRecDepth 100000 in
theorem kw397 : Cond.code ⟨"java/lang/StringBuilde\x72", "toString", "()Ljava/lang/String;"⟩ prog_31_method_42_code 1 (Option.some (FieldType.object "java/lang/String")) ∈ rTs := kMem 397 rfl
set_option maxRecDepth 100000 in
theorem kw398 : Cond.methodLink "NativeWorksModel" 537 ⟨"java/lang/StringBuilde\x72", "toString", "()Ljava/lang/String;"⟩ ∈ rTs := kMem 398 rfl
set_option maxRecDepth 100000 in
theorem kw399 : Cond.instanceMethod ⟨"java/lang/StringBuilde\x72", "toString", "()Ljava/lang/String;"⟩ ∈ rTs := kMem 399 rfl
set_option maxRecDepth 100000 in
theorem kw400 : Cond.selects "java/lang/StringBuilde\x72" ⟨"java/lang/StringBuilde\x72", "toString", "()Ljava/lang/String;"⟩ ⟨"java/lang/StringBuilde\x72", "toString", "()Ljava/lang/String;"⟩ ∈ rTs := kMem 400 rfl
set_option maxRecDepth 100000 in
theorem kw401 : Cond.classLink "NativeWorksModel" 470 "java/lang/String" ∈ rTs := kMem 401 rfl
set_option maxRecDepth 100000 in
theorem kw402 : Cond.code ⟨"NativeWorksModel", "joined", "(Ljava/lang/String;Ljava/lang/String;)Ljava/lang/String;"⟩ prog_14_method_6_code 2 (Option.some (FieldType.object "java/lang/String")) ∈ rTs := kMem 402 rfl
set_option maxRecDepth 100000 in
theorem kw403 : Cond.methodLink "NativeWorksModel" 526 ⟨"NativeWorksModel", "joined", "(Ljava/lang/String;Ljava/lang/String;)Ljava/lang/String;"⟩ ∈ rTs := kMem 403 rfl
set_option maxRecDepth 100000 in
theorem kw404 : Cond.static ⟨"NativeWorksModel", "joined", "(Ljava/lang/String;Ljava/lang/String;)Ljava/lang/String;"⟩ ∈ rTs := kMem 404 rfl
set_option maxRecDepth 100000 in
theorem kw405 : Cond.fieldLink "NativeWorksModel" 18 "NativeWorksModel" "registerName" "[J" ∈ rTs := kMem 405 rfl
set_option maxRecDepth 100000 in
theorem kw406 : Cond.fieldLink "NativeWorksModel" 605 "NativeWorksModel" "registers" "I" ∈ rTs := kMem 406 rfl
set_option maxRecDepth 100000 in
theorem kw407 : Cond.fieldLink "NativeWorksModel" 25 "NativeWorksModel" "registerCode" "[I" ∈ rTs := kMem 407 rfl
set_option maxRecDepth 100000 in
theorem kw408 : Cond.fieldLink "java/lang/Intege\x72" 83 "java/lang/Intege\x72" "DigitOnes" "[B" ∈ rTs := kMem 408 rfl
set_option maxRecDepth 100000 in
theorem kw409 : Cond.fieldLink "java/lang/Intege\x72" 87 "java/lang/Intege\x72" "DigitTens" "[B" ∈ rTs := kMem 409 rfl
set_option maxRecDepth 100000 in
theorem kw410 : Cond.code ⟨"java/lang/Intege\x72", "stringSize", "(I)I"⟩ prog_25_method_13_code 4 (Option.some FieldType.int) ∈ rTs := kMem 410 rfl
set_option maxRecDepth 100000 in
theorem kw411 : Cond.methodLink "java/lang/AbstractStringBuilde\x72" 245 ⟨"java/lang/Intege\x72", "stringSize", "(I)I"⟩ ∈ rTs := kMem 411 rfl
set_option maxRecDepth 100000 in
theorem kw412 : Cond.static ⟨"java/lang/Intege\x72", "stringSize", "(I)I"⟩ ∈ rTs := kMem 412 rfl
set_option maxRecDepth 100000 in
theorem kw413 : Cond.initialized "java/lang/Intege\x72" ∈ rTs := kMem 413 rfl
set_option maxRecDepth 100000 in
theorem kw414 : Cond.methodLink "java/lang/AbstractStringBuilde\x72" 83 ⟨"java/lang/AbstractStringBuilde\x72", "isLatin1", "()Z"⟩ ∈ rTs := kMem 414 rfl
set_option maxRecDepth 100000 in
theorem kw415 : Cond.code ⟨"java/lang/Intege\x72", "getChars", "(II[B)I"⟩ prog_25_method_12_code 7 (Option.some FieldType.int) ∈ rTs := kMem 415 rfl
set_option maxRecDepth 100000 in
theorem kw416 : Cond.methodLink "java/lang/AbstractStringBuilde\x72" 248 ⟨"java/lang/Intege\x72", "getChars", "(II[B)I"⟩ ∈ rTs := kMem 416 rfl
set_option maxRecDepth 100000 in
theorem kw417 : Cond.static ⟨"java/lang/Intege\x72", "getChars", "(II[B)I"⟩ ∈ rTs := kMem 417 rfl
set_option maxRecDepth 100000 in
theorem kw418 : Cond.code ⟨"java/lang/AbstractStringBuilde\x72", "append", "(I)Ljava/lang/AbstractStringBuilder;"⟩ prog_17_method_32_code 4 (Option.some (FieldType.object "java/lang/AbstractStringBuilde\x72")) ∈ rTs := kMem 418 rfl
set_option maxRecDepth 100000 in
theorem kw419 : Cond.methodLink "java/lang/StringBuilde\x72" 53 ⟨"java/lang/AbstractStringBuilde\x72", "append", "(I)Ljava/lang/AbstractStringBuilder;"⟩ ∈ rTs := kMem 419 rfl
set_option maxRecDepth 100000 in
theorem kw420 : Cond.sameMethod "java/lang/AbstractStringBuilde\x72" "java/lang/AbstractStringBuilde\x72" "append" "(I)Ljava/lang/AbstractStringBuilder;" ∈ rTs := kMem 420 rfl
set_option maxRecDepth 100000 in
theorem kw421 : Cond.instanceMethod ⟨"java/lang/AbstractStringBuilde\x72", "append", "(I)Ljava/lang/AbstractStringBuilder;"⟩ ∈ rTs := kMem 421 rfl
set_option maxRecDepth 100000 in
theorem kw422 : Cond.code ⟨"java/lang/StringBuilde\x72", "append", "(I)Ljava/lang/StringBuilder;"⟩ prog_31_method_15_code 2 (Option.some (FieldType.object "java/lang/StringBuilde\x72")) ∈ rTs := kMem 422 rfl
set_option maxRecDepth 100000 in
theorem kw423 : Cond.methodLink "NativeWorksModel" 543 ⟨"java/lang/StringBuilde\x72", "append", "(I)Ljava/lang/StringBuilder;"⟩ ∈ rTs := kMem 423 rfl
set_option maxRecDepth 100000 in
theorem kw424 : Cond.instanceMethod ⟨"java/lang/StringBuilde\x72", "append", "(I)Ljava/lang/StringBuilder;"⟩ ∈ rTs := kMem 424 rfl
set_option maxRecDepth 100000 in
theorem kw425 : Cond.selects "java/lang/StringBuilde\x72" ⟨"java/lang/StringBuilde\x72", "append", "(I)Ljava/lang/StringBuilder;"⟩ ⟨"java/lang/StringBuilde\x72", "append", "(I)Ljava/lang/StringBuilder;"⟩ ∈ rTs := kMem 425 rfl
set_option maxRecDepth 100000 in
theorem kw426 : Cond.code ⟨"NativeWorksModel", "registerNamed", "(Ljava/lang/String;I)V"⟩ prog_14_method_9_code 3 (Option.none : Option FieldType) ∈ rTs := kMem 426 rfl
set_option maxRecDepth 100000 in
theorem kw427 : Cond.methodLink "NativeWorksModel" 594 ⟨"NativeWorksModel", "registerNamed", "(Ljava/lang/String;I)V"⟩ ∈ rTs := kMem 427 rfl
set_option maxRecDepth 100000 in
theorem kw428 : Cond.instanceMethod ⟨"NativeWorksModel", "registerNamed", "(Ljava/lang/String;I)V"⟩ ∈ rTs := kMem 428 rfl
set_option maxRecDepth 100000 in
theorem kw429 : Cond.selects "NativeWorksModel" ⟨"NativeWorksModel", "registerNamed", "(Ljava/lang/String;I)V"⟩ ⟨"NativeWorksModel", "registerNamed", "(Ljava/lang/String;I)V"⟩ ∈ rTs := kMem 429 rfl
set_option maxRecDepth 100000 in
theorem kw430 : Cond.code ⟨"NativeWorksModel", "numbered", "(ILjava/lang/String;)Ljava/lang/String;"⟩ prog_14_method_7_code 2 (Option.some (FieldType.object "java/lang/String")) ∈ rTs := kMem 430 rfl
set_option maxRecDepth 100000 in
theorem kw431 : Cond.methodLink "NativeWorksModel" 599 ⟨"NativeWorksModel", "numbered", "(ILjava/lang/String;)Ljava/lang/String;"⟩ ∈ rTs := kMem 431 rfl
set_option maxRecDepth 100000 in
theorem kw432 : Cond.static ⟨"NativeWorksModel", "numbered", "(ILjava/lang/String;)Ljava/lang/String;"⟩ ∈ rTs := kMem 432 rfl
set_option maxRecDepth 100000 in
theorem kw433 : Cond.fieldLink "NativeWorksModel" 258 "NativeWorksModel" "rowOp" "[I" ∈ rTs := kMem 433 rfl
set_option maxRecDepth 100000 in
theorem kw434 : Cond.fieldLink "NativeWorksModel" 1075 "NativeWorksModel" "rows" "I" ∈ rTs := kMem 434 rfl
set_option maxRecDepth 100000 in
theorem kw435 : Cond.fieldLink "NativeWorksModel" 261 "NativeWorksModel" "rowSizes" "[I" ∈ rTs := kMem 435 rfl
set_option maxRecDepth 100000 in
theorem kw436 : Cond.fieldLink "NativeWorksModel" 264 "NativeWorksModel" "rowPattern" "[I" ∈ rTs := kMem 436 rfl
set_option maxRecDepth 100000 in
theorem kw437 : Cond.fieldLink "NativeWorksModel" 267 "NativeWorksModel" "rowLead" "[I" ∈ rTs := kMem 437 rfl
set_option maxRecDepth 100000 in
theorem kw438 : Cond.fieldLink "NativeWorksModel" 270 "NativeWorksModel" "rowCode" "[I" ∈ rTs := kMem 438 rfl
set_option maxRecDepth 100000 in
theorem kw439 : Cond.fieldLink "NativeWorksModel" 273 "NativeWorksModel" "rowTell" "[I" ∈ rTs := kMem 439 rfl
set_option maxRecDepth 100000 in
theorem kw440 : Cond.fieldLink "NativeWorksModel" 276 "NativeWorksModel" "rowNumbe\x72" "[I" ∈ rTs := kMem 440 rfl
set_option maxRecDepth 100000 in
theorem kw441 : Cond.code ⟨"NativeWorksModel", "row", "(IIIIIII)V"⟩ prog_14_method_102_code 8 (Option.none : Option FieldType) ∈ rTs := kMem 441 rfl
set_option maxRecDepth 100000 in
theorem kw442 : Cond.methodLink "NativeWorksModel" 1103 ⟨"NativeWorksModel", "row", "(IIIIIII)V"⟩ ∈ rTs := kMem 442 rfl
set_option maxRecDepth 100000 in
theorem kw443 : Cond.instanceMethod ⟨"NativeWorksModel", "row", "(IIIIIII)V"⟩ ∈ rTs := kMem 443 rfl
set_option maxRecDepth 100000 in
theorem kw444 : Cond.selects "NativeWorksModel" ⟨"NativeWorksModel", "row", "(IIIIIII)V"⟩ ⟨"NativeWorksModel", "row", "(IIIIIII)V"⟩ ∈ rTs := kMem 444 rfl
set_option maxRecDepth 100000 in
theorem kw445 : Cond.code ⟨"NativeWorksModel", "fillRest", "()V"⟩ prog_14_method_104_code 2 (Option.none : Option FieldType) ∈ rTs := kMem 445 rfl
set_option maxRecDepth 100000 in
theorem kw446 : Cond.methodLink "NativeWorksModel" 1107 ⟨"NativeWorksModel", "fillRest", "()V"⟩ ∈ rTs := kMem 446 rfl
set_option maxRecDepth 100000 in
theorem kw447 : Cond.instanceMethod ⟨"NativeWorksModel", "fillRest", "()V"⟩ ∈ rTs := kMem 447 rfl
set_option maxRecDepth 100000 in
theorem kw448 : Cond.selects "NativeWorksModel" ⟨"NativeWorksModel", "fillRest", "()V"⟩ ⟨"NativeWorksModel", "fillRest", "()V"⟩ ∈ rTs := kMem 448 rfl
set_option maxRecDepth 100000 in
theorem kw449 : Cond.methodLink "NativeWorksModel" 1 ⟨"java/lang/Object", "<init>", "()V"⟩ ∈ rTs := kMem 449 rfl
set_option maxRecDepth 100000 in
theorem kw450 : Cond.constant "NativeWorksModel" 9 (nI 65536) ∈ rTs := kMem 450 (by decide +kernel)
set_option maxRecDepth 100000 in
theorem kw451 : Cond.fieldLink "NativeWorksModel" 10 "NativeWorksModel" "tape" "[B" ∈ rTs := kMem 451 rfl
set_option maxRecDepth 100000 in
theorem kw452 : Cond.fieldLink "NativeWorksModel" 28 "NativeWorksModel" "symbolUnit" "[I" ∈ rTs := kMem 452 rfl
set_option maxRecDepth 100000 in
theorem kw453 : Cond.fieldLink "NativeWorksModel" 31 "NativeWorksModel" "isLibrary" "[Z" ∈ rTs := kMem 453 rfl
set_option maxRecDepth 100000 in
theorem kw454 : Cond.fieldLink "NativeWorksModel" 35 "NativeWorksModel" "firstItem" "[I" ∈ rTs := kMem 454 rfl
set_option maxRecDepth 100000 in
theorem kw455 : Cond.fieldLink "NativeWorksModel" 38 "NativeWorksModel" "firstSymbol" "[I" ∈ rTs := kMem 455 rfl
set_option maxRecDepth 100000 in
theorem kw456 : Cond.fieldLink "NativeWorksModel" 41 "NativeWorksModel" "firstWait" "[I" ∈ rTs := kMem 456 rfl
set_option maxRecDepth 100000 in
theorem kw457 : Cond.fieldLink "NativeWorksModel" 44 "NativeWorksModel" "sectionSize" "[I" ∈ rTs := kMem 457 rfl
set_option maxRecDepth 100000 in
theorem kw458 : Cond.fieldLink "NativeWorksModel" 47 "NativeWorksModel" "kept" "[Z" ∈ rTs := kMem 458 rfl
set_option maxRecDepth 100000 in
theorem kw459 : Cond.fieldLink "NativeWorksModel" 50 "NativeWorksModel" "faultUnit" "I" ∈ rTs := kMem 459 rfl
set_option maxRecDepth 100000 in
theorem kw460 : Cond.constant "NativeWorksModel" 54 (nI 129024) ∈ rTs := kMem 460 (by decide +kernel)
set_option maxRecDepth 100000 in
theorem kw461 : Cond.fieldLink "NativeWorksModel" 55 "NativeWorksModel" "pool" "[B" ∈ rTs := kMem 461 rfl
set_option maxRecDepth 100000 in
theorem kw462 : Cond.fieldLink "NativeWorksModel" 58 "NativeWorksModel" "nameAt" "[I" ∈ rTs := kMem 462 rfl
set_option maxRecDepth 100000 in
theorem kw463 : Cond.fieldLink "NativeWorksModel" 61 "NativeWorksModel" "nameLength" "[I" ∈ rTs := kMem 463 rfl
set_option maxRecDepth 100000 in
theorem kw464 : Cond.fieldLink "NativeWorksModel" 64 "NativeWorksModel" "nameSum" "[J" ∈ rTs := kMem 464 rfl
set_option maxRecDepth 100000 in
theorem kw465 : Cond.fieldLink "NativeWorksModel" 67 "NativeWorksModel" "labelItem" "[I" ∈ rTs := kMem 465 rfl
set_option maxRecDepth 100000 in
theorem kw466 : Cond.fieldLink "NativeWorksModel" 70 "NativeWorksModel" "isConstant" "[Z" ∈ rTs := kMem 466 rfl
set_option maxRecDepth 100000 in
theorem kw467 : Cond.fieldLink "NativeWorksModel" 73 "NativeWorksModel" "isUsed" "[Z" ∈ rTs := kMem 467 rfl
set_option maxRecDepth 100000 in
theorem kw468 : Cond.fieldLink "NativeWorksModel" 76 "NativeWorksModel" "isGlobal" "[Z" ∈ rTs := kMem 468 rfl
set_option maxRecDepth 100000 in
theorem kw469 : Cond.fieldLink "NativeWorksModel" 79 "NativeWorksModel" "isWeak" "[Z" ∈ rTs := kMem 469 rfl
set_option maxRecDepth 100000 in
theorem kw470 : Cond.fieldLink "NativeWorksModel" 82 "NativeWorksModel" "constant" "[J" ∈ rTs := kMem 470 rfl
set_option maxRecDepth 100000 in
theorem kw471 : Cond.fieldLink "NativeWorksModel" 85 "NativeWorksModel" "itemKind" "[B" ∈ rTs := kMem 471 rfl
set_option maxRecDepth 100000 in
theorem kw472 : Cond.fieldLink "NativeWorksModel" 88 "NativeWorksModel" "itemSection" "[B" ∈ rTs := kMem 472 rfl
set_option maxRecDepth 100000 in
theorem kw473 : Cond.fieldLink "NativeWorksModel" 91 "NativeWorksModel" "itemLine" "[I" ∈ rTs := kMem 473 rfl
set_option maxRecDepth 100000 in
theorem kw474 : Cond.fieldLink "NativeWorksModel" 94 "NativeWorksModel" "itemSize" "[I" ∈ rTs := kMem 474 rfl
set_option maxRecDepth 100000 in
theorem kw475 : Cond.fieldLink "NativeWorksModel" 97 "NativeWorksModel" "itemOffset" "[I" ∈ rTs := kMem 475 rfl
set_option maxRecDepth 100000 in
theorem kw476 : Cond.fieldLink "NativeWorksModel" 100 "NativeWorksModel" "itemData" "[I" ∈ rTs := kMem 476 rfl
set_option maxRecDepth 100000 in
theorem kw477 : Cond.fieldLink "NativeWorksModel" 103 "NativeWorksModel" "itemShape" "[J" ∈ rTs := kMem 477 rfl
set_option maxRecDepth 100000 in
theorem kw478 : Cond.fieldLink "NativeWorksModel" 106 "NativeWorksModel" "itemDisplacement" "[I" ∈ rTs := kMem 478 rfl
set_option maxRecDepth 100000 in
theorem kw479 : Cond.fieldLink "NativeWorksModel" 109 "NativeWorksModel" "itemNumbe\x72" "[J" ∈ rTs := kMem 479 rfl
set_option maxRecDepth 100000 in
theorem kw480 : Cond.constant "NativeWorksModel" 112 (nI 132172) ∈ rTs := kMem 480 (by decide +kernel)
set_option maxRecDepth 100000 in
theorem kw481 : Cond.fieldLink "NativeWorksModel" 113 "NativeWorksModel" "data" "[B" ∈ rTs := kMem 481 rfl
set_option maxRecDepth 100000 in
theorem kw482 : Cond.fieldLink "NativeWorksModel" 116 "NativeWorksModel" "waitItem" "[I" ∈ rTs := kMem 482 rfl
set_option maxRecDepth 100000 in
theorem kw483 : Cond.fieldLink "NativeWorksModel" 119 "NativeWorksModel" "waitAt" "[I" ∈ rTs := kMem 483 rfl
set_option maxRecDepth 100000 in
theorem kw484 : Cond.fieldLink "NativeWorksModel" 122 "NativeWorksModel" "waitPlus" "[I" ∈ rTs := kMem 484 rfl
set_option maxRecDepth 100000 in
theorem kw485 : Cond.fieldLink "NativeWorksModel" 125 "NativeWorksModel" "waitMinus" "[I" ∈ rTs := kMem 485 rfl
set_option maxRecDepth 100000 in
theorem kw486 : Cond.fieldLink "NativeWorksModel" 128 "NativeWorksModel" "waitSize" "[B" ∈ rTs := kMem 486 rfl
set_option maxRecDepth 100000 in
theorem kw487 : Cond.fieldLink "NativeWorksModel" 131 "NativeWorksModel" "waitWhat" "[B" ∈ rTs := kMem 487 rfl
set_option maxRecDepth 100000 in
theorem kw488 : Cond.fieldLink "NativeWorksModel" 134 "NativeWorksModel" "waitConstant" "[J" ∈ rTs := kMem 488 rfl
set_option maxRecDepth 100000 in
theorem kw489 : Cond.fieldLink "NativeWorksModel" 137 "NativeWorksModel" "line" "[B" ∈ rTs := kMem 489 rfl
set_option maxRecDepth 100000 in
theorem kw490 : Cond.fieldLink "NativeWorksModel" 140 "NativeWorksModel" "frameKind" "[I" ∈ rTs := kMem 490 rfl
set_option maxRecDepth 100000 in
theorem kw491 : Cond.fieldLink "NativeWorksModel" 143 "NativeWorksModel" "frameStop" "[I" ∈ rTs := kMem 491 rfl
set_option maxRecDepth 100000 in
theorem kw492 : Cond.fieldLink "NativeWorksModel" 146 "NativeWorksModel" "frameStopLine" "[I" ∈ rTs := kMem 492 rfl
set_option maxRecDepth 100000 in
theorem kw493 : Cond.fieldLink "NativeWorksModel" 149 "NativeWorksModel" "frameBody" "[I" ∈ rTs := kMem 493 rfl
set_option maxRecDepth 100000 in
theorem kw494 : Cond.fieldLink "NativeWorksModel" 152 "NativeWorksModel" "frameBodyLine" "[I" ∈ rTs := kMem 494 rfl
set_option maxRecDepth 100000 in
theorem kw495 : Cond.fieldLink "NativeWorksModel" 155 "NativeWorksModel" "frameLeft" "[I" ∈ rTs := kMem 495 rfl
set_option maxRecDepth 100000 in
theorem kw496 : Cond.fieldLink "NativeWorksModel" 158 "NativeWorksModel" "frameOwn" "[I" ∈ rTs := kMem 496 rfl
set_option maxRecDepth 100000 in
theorem kw497 : Cond.fieldLink "NativeWorksModel" 161 "NativeWorksModel" "frameMacro" "[I" ∈ rTs := kMem 497 rfl
set_option maxRecDepth 100000 in
theorem kw498 : Cond.fieldLink "NativeWorksModel" 164 "NativeWorksModel" "frameNumbe\x72" "[I" ∈ rTs := kMem 498 rfl
set_option maxRecDepth 100000 in
theorem kw499 : Cond.fieldLink "NativeWorksModel" 167 "NativeWorksModel" "frameElse" "[Z" ∈ rTs := kMem 499 rfl
set_option maxRecDepth 100000 in
theorem kw500 : Cond.classLink "NativeWorksModel" 170 "[[B" ∈ rTs := kMem 500 rfl
set_option maxRecDepth 100000 in
theorem kw501 : Cond.fieldLink "NativeWorksModel" 172 "NativeWorksModel" "argument" "[[B" ∈ rTs := kMem 501 rfl
set_option maxRecDepth 100000 in
theorem kw502 : Cond.classLink "NativeWorksModel" 175 "[[I" ∈ rTs := kMem 502 rfl
set_option maxRecDepth 100000 in
theorem kw503 : Cond.fieldLink "NativeWorksModel" 177 "NativeWorksModel" "argumentAt" "[[I" ∈ rTs := kMem 503 rfl
set_option maxRecDepth 100000 in
theorem kw504 : Cond.fieldLink "NativeWorksModel" 180 "NativeWorksModel" "arguments" "[I" ∈ rTs := kMem 504 rfl
set_option maxRecDepth 100000 in
theorem kw505 : Cond.fieldLink "NativeWorksModel" 183 "NativeWorksModel" "macroName" "[I" ∈ rTs := kMem 505 rfl
set_option maxRecDepth 100000 in
theorem kw506 : Cond.fieldLink "NativeWorksModel" 186 "NativeWorksModel" "macroLength" "[I" ∈ rTs := kMem 506 rfl
set_option maxRecDepth 100000 in
theorem kw507 : Cond.fieldLink "NativeWorksModel" 189 "NativeWorksModel" "macroParameters" "[I" ∈ rTs := kMem 507 rfl
set_option maxRecDepth 100000 in
theorem kw508 : Cond.fieldLink "NativeWorksModel" 192 "NativeWorksModel" "macroBody" "[I" ∈ rTs := kMem 508 rfl
set_option maxRecDepth 100000 in
theorem kw509 : Cond.fieldLink "NativeWorksModel" 195 "NativeWorksModel" "macroBodyLine" "[I" ∈ rTs := kMem 509 rfl
set_option maxRecDepth 100000 in
theorem kw510 : Cond.fieldLink "NativeWorksModel" 198 "NativeWorksModel" "macroEnd" "[I" ∈ rTs := kMem 510 rfl
set_option maxRecDepth 100000 in
theorem kw511 : Cond.fieldLink "NativeWorksModel" 201 "NativeWorksModel" "macroEndLine" "[I" ∈ rTs := kMem 511 rfl
set_option maxRecDepth 100000 in
theorem kw512 : Cond.fieldLink "NativeWorksModel" 204 "NativeWorksModel" "token" "[I" ∈ rTs := kMem 512 rfl
set_option maxRecDepth 100000 in
theorem kw513 : Cond.fieldLink "NativeWorksModel" 207 "NativeWorksModel" "tokenStart" "[I" ∈ rTs := kMem 513 rfl
set_option maxRecDepth 100000 in
theorem kw514 : Cond.fieldLink "NativeWorksModel" 210 "NativeWorksModel" "tokenLength" "[I" ∈ rTs := kMem 514 rfl
set_option maxRecDepth 100000 in
theorem kw515 : Cond.fieldLink "NativeWorksModel" 213 "NativeWorksModel" "tokenValue" "[J" ∈ rTs := kMem 515 rfl
set_option maxRecDepth 100000 in
theorem kw516 : Cond.fieldLink "NativeWorksModel" 216 "NativeWorksModel" "name" "[B" ∈ rTs := kMem 516 rfl
set_option maxRecDepth 100000 in
theorem kw517 : Cond.fieldLink "NativeWorksModel" 219 "NativeWorksModel" "value" "[J" ∈ rTs := kMem 517 rfl
set_option maxRecDepth 100000 in
theorem kw518 : Cond.fieldLink "NativeWorksModel" 222 "NativeWorksModel" "plus" "[I" ∈ rTs := kMem 518 rfl
set_option maxRecDepth 100000 in
theorem kw519 : Cond.fieldLink "NativeWorksModel" 225 "NativeWorksModel" "minus" "[I" ∈ rTs := kMem 519 rfl
set_option maxRecDepth 100000 in
theorem kw520 : Cond.fieldLink "NativeWorksModel" 228 "NativeWorksModel" "operato\x72" "[I" ∈ rTs := kMem 520 rfl
set_option maxRecDepth 100000 in
theorem kw521 : Cond.fieldLink "NativeWorksModel" 231 "NativeWorksModel" "piece" "[I" ∈ rTs := kMem 521 rfl
set_option maxRecDepth 100000 in
theorem kw522 : Cond.fieldLink "NativeWorksModel" 234 "NativeWorksModel" "spanPlus" "[I" ∈ rTs := kMem 522 rfl
set_option maxRecDepth 100000 in
theorem kw523 : Cond.fieldLink "NativeWorksModel" 237 "NativeWorksModel" "spanMinus" "[I" ∈ rTs := kMem 523 rfl
set_option maxRecDepth 100000 in
theorem kw524 : Cond.fieldLink "NativeWorksModel" 240 "NativeWorksModel" "spanLine" "[I" ∈ rTs := kMem 524 rfl
set_option maxRecDepth 100000 in
theorem kw525 : Cond.fieldLink "NativeWorksModel" 243 "NativeWorksModel" "kind" "[I" ∈ rTs := kMem 525 rfl
set_option maxRecDepth 100000 in
theorem kw526 : Cond.fieldLink "NativeWorksModel" 246 "NativeWorksModel" "registe\x72" "[I" ∈ rTs := kMem 526 rfl
set_option maxRecDepth 100000 in
theorem kw527 : Cond.fieldLink "NativeWorksModel" 249 "NativeWorksModel" "told" "[I" ∈ rTs := kMem 527 rfl
set_option maxRecDepth 100000 in
theorem kw528 : Cond.fieldLink "NativeWorksModel" 252 "NativeWorksModel" "from" "[I" ∈ rTs := kMem 528 rfl
set_option maxRecDepth 100000 in
theorem kw529 : Cond.fieldLink "NativeWorksModel" 255 "NativeWorksModel" "to" "[I" ∈ rTs := kMem 529 rfl
set_option maxRecDepth 100000 in
theorem kw530 : Cond.fieldLink "NativeWorksModel" 279 "NativeWorksModel" "best" "[B" ∈ rTs := kMem 530 rfl
set_option maxRecDepth 100000 in
theorem kw531 : Cond.fieldLink "NativeWorksModel" 282 "NativeWorksModel" "trial" "[B" ∈ rTs := kMem 531 rfl
set_option maxRecDepth 100000 in
theorem kw532 : Cond.fieldLink "NativeWorksModel" 285 "NativeWorksModel" "termRegiste\x72" "[I" ∈ rTs := kMem 532 rfl
set_option maxRecDepth 100000 in
theorem kw533 : Cond.fieldLink "NativeWorksModel" 288 "NativeWorksModel" "termScale" "[I" ∈ rTs := kMem 533 rfl
set_option maxRecDepth 100000 in
theorem kw534 : Cond.classLink "NativeWorksModel" 291 "NativeWorksModel$Code" ∈ rTs := kMem 534 rfl
set_option maxRecDepth 100000 in
theorem kw535 : Cond.instantiable "NativeWorksModel$Code" 13 ∈ rTs := kMem 535 rfl
set_option maxRecDepth 100000 in
theorem kw536 : Cond.initialized "NativeWorksModel$Code" ∈ rTs := kMem 536 rfl
set_option maxRecDepth 100000 in
theorem kw537 : Cond.code ⟨"NativeWorksModel$Code", "<init>", "()V"⟩ prog_15_method_1_code 1 (Option.none : Option FieldType) ∈ rTs := kMem 537 rfl
set_option maxRecDepth 100000 in
theorem kw538 : Cond.instanceMethod ⟨"NativeWorksModel$Code", "<init>", "()V"⟩ ∈ rTs := kMem 538 rfl
set_option maxRecDepth 100000 in
theorem kw539 : Cond.fieldLink "NativeWorksModel" 294 "NativeWorksModel" "image" "LNativeWorksModel$Code;" ∈ rTs := kMem 539 rfl
set_option maxRecDepth 100000 in
theorem kw540 : Cond.fieldLink "NativeWorksModel" 298 "NativeWorksModel" "code" "LNativeWorksModel$Code;" ∈ rTs := kMem 540 rfl
set_option maxRecDepth 100000 in
theorem kw541 : Cond.constant "NativeWorksModel" 301 (nI 131072) ∈ rTs := kMem 541 (by decide +kernel)
set_option maxRecDepth 100000 in
theorem kw542 : Cond.fieldLink "NativeWorksModel" 302 "NativeWorksModel" "imageBytes" "[B" ∈ rTs := kMem 542 rfl
set_option maxRecDepth 100000 in
theorem kw543 : Cond.fieldLink "NativeWorksModel" 305 "NativeWorksModel" "taken" "[Z" ∈ rTs := kMem 543 rfl
set_option maxRecDepth 100000 in
theorem kw544 : Cond.fieldLink "NativeWorksModel" 308 "NativeWorksModel" "needed" "[Z" ∈ rTs := kMem 544 rfl
set_option maxRecDepth 100000 in
theorem kw545 : Cond.fieldLink "NativeWorksModel" 311 "NativeWorksModel" "addressOf" "[I" ∈ rTs := kMem 545 rfl
set_option maxRecDepth 100000 in
theorem kw546 : Cond.fieldLink "NativeWorksModel" 314 "NativeWorksModel" "imagePool" "[B" ∈ rTs := kMem 546 rfl
set_option maxRecDepth 100000 in
theorem kw547 : Cond.fieldLink "NativeWorksModel" 317 "NativeWorksModel" "imageNameAt" "[I" ∈ rTs := kMem 547 rfl
set_option maxRecDepth 100000 in
theorem kw548 : Cond.fieldLink "NativeWorksModel" 320 "NativeWorksModel" "imageNameLength" "[I" ∈ rTs := kMem 548 rfl
set_option maxRecDepth 100000 in
theorem kw549 : Cond.fieldLink "NativeWorksModel" 323 "NativeWorksModel" "imageNameAddress" "[I" ∈ rTs := kMem 549 rfl
set_option maxRecDepth 100000 in
theorem kw550 : Cond.fieldLink "NativeWorksModel" 326 "NativeWorksModel" "memory" "[B" ∈ rTs := kMem 550 rfl
set_option maxRecDepth 100000 in
theorem kw551 : Cond.fieldLink "NativeWorksModel" 329 "NativeWorksModel" "heap" "[B" ∈ rTs := kMem 551 rfl
set_option maxRecDepth 100000 in
theorem kw552 : Cond.fieldLink "NativeWorksModel" 332 "NativeWorksModel" "stack" "[B" ∈ rTs := kMem 552 rfl
set_option maxRecDepth 100000 in
theorem kw553 : Cond.fieldLink "NativeWorksModel" 335 "NativeWorksModel" "given" "[B" ∈ rTs := kMem 553 rfl
set_option maxRecDepth 100000 in
theorem kw554 : Cond.fieldLink "NativeWorksModel" 338 "NativeWorksModel" "shown" "[B" ∈ rTs := kMem 554 rfl
set_option maxRecDepth 100000 in
theorem kw555 : Cond.fieldLink "NativeWorksModel" 341 "NativeWorksModel" "registers0" "[J" ∈ rTs := kMem 555 rfl
set_option maxRecDepth 100000 in
theorem kw556 : Cond.fieldLink "NativeWorksModel" 344 "NativeWorksModel" "kept0" "[J" ∈ rTs := kMem 556 rfl
set_option maxRecDepth 100000 in
theorem kw557 : Cond.fieldLink "NativeWorksModel" 347 "NativeWorksModel" "places" "[J" ∈ rTs := kMem 557 rfl
set_option maxRecDepth 100000 in
theorem kw558 : Cond.code ⟨"NativeWorksModel", "wordsOf", "(Ljava/lang/String;I)V"⟩ prog_14_method_3_code 6 (Option.none : Option FieldType) ∈ rTs := kMem 558 rfl
set_option maxRecDepth 100000 in
theorem kw559 : Cond.methodLink "NativeWorksModel" 352 ⟨"NativeWorksModel", "wordsOf", "(Ljava/lang/String;I)V"⟩ ∈ rTs := kMem 559 rfl
set_option maxRecDepth 100000 in
theorem kw560 : Cond.instanceMethod ⟨"NativeWorksModel", "wordsOf", "(Ljava/lang/String;I)V"⟩ ∈ rTs := kMem 560 rfl
set_option maxRecDepth 100000 in
theorem kw561 : Cond.selects "NativeWorksModel" ⟨"NativeWorksModel", "wordsOf", "(Ljava/lang/String;I)V"⟩ ⟨"NativeWorksModel", "wordsOf", "(Ljava/lang/String;I)V"⟩ ∈ rTs := kMem 561 rfl
set_option maxRecDepth 100000 in
theorem kw562 : Cond.code ⟨"NativeWorksModel", "conditions", "(Ljava/lang/String;I)V"⟩ prog_14_method_5_code 5 (Option.none : Option FieldType) ∈ rTs := kMem 562 rfl
set_option maxRecDepth 100000 in
theorem kw563 : Cond.methodLink "NativeWorksModel" 360 ⟨"NativeWorksModel", "conditions", "(Ljava/lang/String;I)V"⟩ ∈ rTs := kMem 563 rfl
set_option maxRecDepth 100000 in
theorem kw564 : Cond.instanceMethod ⟨"NativeWorksModel", "conditions", "(Ljava/lang/String;I)V"⟩ ∈ rTs := kMem 564 rfl
set_option maxRecDepth 100000 in
theorem kw565 : Cond.selects "NativeWorksModel" ⟨"NativeWorksModel", "conditions", "(Ljava/lang/String;I)V"⟩ ⟨"NativeWorksModel", "conditions", "(Ljava/lang/String;I)V"⟩ ∈ rTs := kMem 565 rfl
set_option maxRecDepth 100000 in
theorem kw566 : Cond.constant "NativeWorksModel" 369 (nI 262181) ∈ rTs := kMem 566 (by decide +kernel)
set_option maxRecDepth 100000 in
theorem kw567 : Cond.constant "NativeWorksModel" 375 (nI 524325) ∈ rTs := kMem 567 (by decide +kernel)
set_option maxRecDepth 100000 in
theorem kw568 : Cond.constant "NativeWorksModel" 378 (nI 262182) ∈ rTs := kMem 568 (by decide +kernel)
set_option maxRecDepth 100000 in
theorem kw569 : Cond.constant "NativeWorksModel" 381 (nI 524326) ∈ rTs := kMem 569 (by decide +kernel)
set_option maxRecDepth 100000 in
theorem kw570 : Cond.constant "NativeWorksModel" 386 (nI 65586) ∈ rTs := kMem 570 (by decide +kernel)
set_option maxRecDepth 100000 in
theorem kw571 : Cond.constant "NativeWorksModel" 389 (nI 262194) ∈ rTs := kMem 571 (by decide +kernel)
set_option maxRecDepth 100000 in
theorem kw572 : Cond.constant "NativeWorksModel" 392 (nI 524338) ∈ rTs := kMem 572 (by decide +kernel)
set_option maxRecDepth 100000 in
theorem kw573 : Cond.constant "NativeWorksModel" 395 (nI 65587) ∈ rTs := kMem 573 (by decide +kernel)
set_option maxRecDepth 100000 in
theorem kw574 : Cond.constant "NativeWorksModel" 398 (nI 262195) ∈ rTs := kMem 574 (by decide +kernel)
set_option maxRecDepth 100000 in
theorem kw575 : Cond.constant "NativeWorksModel" 401 (nI 524339) ∈ rTs := kMem 575 (by decide +kernel)
set_option maxRecDepth 100000 in
theorem kw576 : Cond.code ⟨"NativeWorksModel", "registerNames", "()V"⟩ prog_14_method_8_code 5 (Option.none : Option FieldType) ∈ rTs := kMem 576 rfl
set_option maxRecDepth 100000 in
theorem kw577 : Cond.methodLink "NativeWorksModel" 414 ⟨"NativeWorksModel", "registerNames", "()V"⟩ ∈ rTs := kMem 577 rfl
set_option maxRecDepth 100000 in
theorem kw578 : Cond.instanceMethod ⟨"NativeWorksModel", "registerNames", "()V"⟩ ∈ rTs := kMem 578 rfl
set_option maxRecDepth 100000 in
theorem kw579 : Cond.selects "NativeWorksModel" ⟨"NativeWorksModel", "registerNames", "()V"⟩ ⟨"NativeWorksModel", "registerNames", "()V"⟩ ∈ rTs := kMem 579 rfl
set_option maxRecDepth 100000 in
theorem kw580 : Cond.fieldLink "NativeWorksModel" 423 "NativeWorksModel" "textWord" "J" ∈ rTs := kMem 580 rfl
set_option maxRecDepth 100000 in
theorem kw581 : Cond.fieldLink "NativeWorksModel" 429 "NativeWorksModel" "rodataWord" "J" ∈ rTs := kMem 581 rfl
set_option maxRecDepth 100000 in
theorem kw582 : Cond.fieldLink "NativeWorksModel" 433 "NativeWorksModel" "dataWord" "J" ∈ rTs := kMem 582 rfl
set_option maxRecDepth 100000 in
theorem kw583 : Cond.fieldLink "NativeWorksModel" 438 "NativeWorksModel" "bssWord" "J" ∈ rTs := kMem 583 rfl
set_option maxRecDepth 100000 in
theorem kw584 : Cond.fieldLink "NativeWorksModel" 441 "NativeWorksModel" "byteWord" "J" ∈ rTs := kMem 584 rfl
set_option maxRecDepth 100000 in
theorem kw585 : Cond.fieldLink "NativeWorksModel" 444 "NativeWorksModel" "dwordWord" "J" ∈ rTs := kMem 585 rfl
set_option maxRecDepth 100000 in
theorem kw586 : Cond.fieldLink "NativeWorksModel" 447 "NativeWorksModel" "qwordWord" "J" ∈ rTs := kMem 586 rfl
set_option maxRecDepth 100000 in
theorem kw587 : Cond.fieldLink "NativeWorksModel" 450 "NativeWorksModel" "relWord" "J" ∈ rTs := kMem 587 rfl
set_option maxRecDepth 100000 in
theorem kw588 : Cond.fieldLink "NativeWorksModel" 453 "NativeWorksModel" "equWord" "J" ∈ rTs := kMem 588 rfl
set_option maxRecDepth 100000 in
theorem kw589 : Cond.fieldLink "NativeWorksModel" 458 "NativeWorksModel" "repWord" "J" ∈ rTs := kMem 589 rfl
set_option maxRecDepth 100000 in
theorem kw590 : Cond.fieldLink "NativeWorksModel" 463 "NativeWorksModel" "startWord" "J" ∈ rTs := kMem 590 rfl
set_option maxRecDepth 100000 in
theorem kw591 : Cond.code ⟨"NativeWorksModel", "fillTable", "()V"⟩ prog_14_method_103_code 3 (Option.none : Option FieldType) ∈ rTs := kMem 591 rfl
set_option maxRecDepth 100000 in
theorem kw592 : Cond.methodLink "NativeWorksModel" 466 ⟨"NativeWorksModel", "fillTable", "()V"⟩ ∈ rTs := kMem 592 rfl
set_option maxRecDepth 100000 in
theorem kw593 : Cond.instanceMethod ⟨"NativeWorksModel", "fillTable", "()V"⟩ ∈ rTs := kMem 593 rfl
set_option maxRecDepth 100000 in
theorem kw594 : Cond.selects "NativeWorksModel" ⟨"NativeWorksModel", "fillTable", "()V"⟩ ⟨"NativeWorksModel", "fillTable", "()V"⟩ ∈ rTs := kMem 594 rfl
set_option maxRecDepth 100000 in
theorem kwObj : Cond.code Lib.objectInit ⟨#[0xb1]⟩ 1 none ∈ rTs := kMem 0 (by decide +kernel)
set_option maxRecDepth 100000 in
theorem kGood : ∀ w ∈ rTs, goodWord w = true := List.all_eq_true.mp (by decide +kernel)
def rNs : List Cond := [Cond.arrayOver (FieldType.array FieldType.int), Cond.arrayOver (FieldType.object "java/lang/String"), Cond.arrayOver (FieldType.array FieldType.byte), Cond.methodLinkNest "NativeWorksModel" 293 ⟨"NativeWorksModel$Code", "<init>", "()V"⟩ "NativeWorksModel"]
theorem kn0 : Cond.arrayOver (FieldType.array FieldType.int) ∈ rNs := List.mem_of_getElem? (i := 0) rfl
theorem kn1 : Cond.arrayOver (FieldType.object "java/lang/String") ∈ rNs := List.mem_of_getElem? (i := 1) rfl
theorem kn2 : Cond.arrayOver (FieldType.array FieldType.byte) ∈ rNs := List.mem_of_getElem? (i := 2) rfl
theorem kn3 : Cond.methodLinkNest "NativeWorksModel" 293 ⟨"NativeWorksModel$Code", "<init>", "()V"⟩ "NativeWorksModel" ∈ rNs := List.mem_of_getElem? (i := 3) rfl
def rZs : List (String × String × String × rCV) := [("java/lang/String", "COMPACT_STRINGS", "Z", .inl 1), ("jdk/internal/util/Preconditions", "SIOOBE_FORMATTER", "Ljava/util/function/BiFunction;", .inr (.inr 2)), ("NativeWorks$Instruction", "L_AT", "[I", .inr (.inr 72)), ("NativeWorks$Instruction", "ARITHMETIC", "[I", .inr (.inr 74)), ("NativeWorks$Instruction", "TABLE", "[I", .inr (.inr 76)), ("java/lang/Intege\x72", "DigitOnes", "[B", .inr (.inr 158)), ("java/lang/Intege\x72", "DigitTens", "[B", .inr (.inr 160))]
theorem kz0 : ("java/lang/String", "COMPACT_STRINGS", "Z", .inl 1) ∈ rZs := List.mem_of_getElem? (i := 0) rfl
theorem kz1 : ("jdk/internal/util/Preconditions", "SIOOBE_FORMATTER", "Ljava/util/function/BiFunction;", .inr (.inr 2)) ∈ rZs := List.mem_of_getElem? (i := 1) rfl
theorem kz2 : ("NativeWorks$Instruction", "L_AT", "[I", .inr (.inr 72)) ∈ rZs := List.mem_of_getElem? (i := 2) rfl
theorem kz3 : ("NativeWorks$Instruction", "ARITHMETIC", "[I", .inr (.inr 74)) ∈ rZs := List.mem_of_getElem? (i := 3) rfl
theorem kz4 : ("NativeWorks$Instruction", "TABLE", "[I", .inr (.inr 76)) ∈ rZs := List.mem_of_getElem? (i := 4) rfl
theorem kz5 : ("java/lang/Intege\x72", "DigitOnes", "[B", .inr (.inr 158)) ∈ rZs := List.mem_of_getElem? (i := 5) rfl
theorem kz6 : ("java/lang/Intege\x72", "DigitTens", "[B", .inr (.inr 160)) ∈ rZs := List.mem_of_getElem? (i := 6) rfl
def rRs : List (String × Nat × String × Nat) := [("NativeWorks$Line", 38, "rax rcx rdx rbx rsp rbp rsi rdi r8 r9 r10 r11 r12 r13 r14 r15", 1), ("NativeWorks$Line", 44, "eax ecx edx ebx esp ebp esi edi r8d r9d r10d r11d r12d r13d r14d r15d", 3), ("NativeWorks$Line", 46, "al cl dl bl spl bpl sil dil r8b r9b r10b r11b r12b r13b r14b r15b", 5), ("NativeWorks$Line", 48, "byte dword qword rel equ rep", 7), ("NativeWorks$Line", 50, "if else endif rept endr macro endm", 9), ("NativeWorks$Line", 52, "section global weak keep db dw dd dq resb align", 11), ("NativeWorks$Line", 54, "add or adc sbb and sub xor cmp mov test xchg lea movzx movsx movsxd", 13), ("NativeWorks$Line", 56, "not neg mul imul div idiv inc dec", 15), ("NativeWorks$Line", 58, "rol ror shl shr sar push pop jmp call ret", 17), ("NativeWorks$Line", 60, "nop int3 ud2 syscall leave bsf bsr bswap bt xadd cmpxchg", 19), ("NativeWorks$Line", 62, "cdq cqo cwde cdqe movsb movsd movsq stosb stosd stosq", 21), ("NativeWorks$Line", 64, "jo jno jb jae je jne jbe ja js jns jp jnp jl jge jle jg jc jnc jz jnz", 23), ("NativeWorks$Line", 66, "seto setno setb setae sete setne setbe seta sets setns", 25), ("NativeWorks$Line", 68, "setp setnp setl setge setle setg setc setnc setz setnz", 27), ("NativeWorks$Line", 70, "cmovo cmovno cmovb cmovae cmove cmovne cmovbe cmova cmovs cmovns", 29), ("NativeWorks$Line", 72, "cmovp cmovnp cmovl cmovge cmovle cmovg cmovc cmovnc cmovz cmovnz", 31), ("NativeWorks$Line", 74, "text rodata data bss", 33), ("NativeWorksModel", 486, "o", 38), ("NativeWorksModel", 488, "no", 40), ("NativeWorksModel", 490, "b", 42), ("NativeWorksModel", 492, "ae", 44), ("NativeWorksModel", 494, "e", 46), ("NativeWorksModel", 496, "ne", 48), ("NativeWorksModel", 498, "be", 50), ("NativeWorksModel", 500, "a", 52), ("NativeWorksModel", 502, "s", 54), ("NativeWorksModel", 504, "ns", 56), ("NativeWorksModel", 506, "p", 58), ("NativeWorksModel", 508, "np", 60), ("NativeWorksModel", 510, "l", 62), ("NativeWorksModel", 512, "ge", 64), ("NativeWorksModel", 514, "le", 66), ("NativeWorksModel", 516, "g", 68), ("NativeWorksModel", 518, "c", 70), ("NativeWorksModel", 520, "nc", 72), ("NativeWorksModel", 522, "z", 74), ("NativeWorksModel", 524, "nz", 76), ("NativeWorksModel", 541, "\x72", 80), ("NativeWorksModel", 546, "rax", 82), ("NativeWorksModel", 548, "rcx", 84), ("NativeWorksModel", 550, "rdx", 86), ("NativeWorksModel", 552, "rbx", 88), ("NativeWorksModel", 554, "rsp", 90), ("NativeWorksModel", 556, "rbp", 92), ("NativeWorksModel", 558, "rsi", 94), ("NativeWorksModel", 560, "rdi", 96), ("NativeWorksModel", 562, "eax", 98), ("NativeWorksModel", 564, "ecx", 100), ("NativeWorksModel", 566, "edx", 102), ("NativeWorksModel", 568, "ebx", 104), ("NativeWorksModel", 570, "esp", 106), ("NativeWorksModel", 572, "ebp", 108), ("NativeWorksModel", 574, "esi", 110), ("NativeWorksModel", 576, "edi", 112), ("NativeWorksModel", 578, "al", 114), ("NativeWorksModel", 580, "cl", 116), ("NativeWorksModel", 582, "dl", 118), ("NativeWorksModel", 584, "bl", 120), ("NativeWorksModel", 586, "spl", 122), ("NativeWorksModel", 588, "bpl", 124), ("NativeWorksModel", 590, "sil", 126), ("NativeWorksModel", 592, "dil", 128), ("NativeWorksModel", 597, "", 130), ("NativeWorksModel", 603, "d", 132), ("NativeWorksModel", 350, "add or adc sbb and sub xor cmp mov test xchg lea movzx movsx movsxd not neg mul imul div idiv inc dec", 134), ("NativeWorksModel", 356, "rol ror shl shr sar push pop jmp call ret", 17), ("NativeWorksModel", 358, "j", 136), ("NativeWorksModel", 363, "set", 138), ("NativeWorksModel", 365, "cmov", 140), ("NativeWorksModel", 367, "cdq", 142), ("NativeWorksModel", 373, "cqo", 144), ("NativeWorksModel", 376, "cwde", 146), ("NativeWorksModel", 379, "cdqe", 148), ("NativeWorksModel", 382, "nop int3 ud2 syscall leave bsf bsr bswap bt xadd cmpxchg", 19), ("NativeWorksModel", 384, "movsb", 150), ("NativeWorksModel", 387, "movsd", 152), ("NativeWorksModel", 390, "movsq", 154), ("NativeWorksModel", 393, "stosb", 156), ("NativeWorksModel", 396, "stosd", 158), ("NativeWorksModel", 399, "stosq", 160), ("NativeWorksModel", 402, "section global weak keep db dw dd dq resb align if else endif rept endr macro endm rep", 162), ("NativeWorksModel", 404, "byte", 164), ("NativeWorksModel", 406, "dword", 166), ("NativeWorksModel", 408, "qword", 168), ("NativeWorksModel", 410, "rel", 170), ("NativeWorksModel", 412, "equ", 172), ("NativeWorksModel", 417, "text", 174), ("NativeWorksModel", 427, "rodata", 176), ("NativeWorksModel", 432, "data", 178), ("NativeWorksModel", 436, "bss", 180), ("NativeWorksModel", 456, "rep", 182), ("NativeWorksModel", 461, "start", 184)]
theorem kr0 : ("NativeWorks$Line", 38, "rax rcx rdx rbx rsp rbp rsi rdi r8 r9 r10 r11 r12 r13 r14 r15", 1) ∈ rRs := List.mem_of_getElem? (i := 0) rfl
theorem kr1 : ("NativeWorks$Line", 44, "eax ecx edx ebx esp ebp esi edi r8d r9d r10d r11d r12d r13d r14d r15d", 3) ∈ rRs := List.mem_of_getElem? (i := 1) rfl
theorem kr2 : ("NativeWorks$Line", 46, "al cl dl bl spl bpl sil dil r8b r9b r10b r11b r12b r13b r14b r15b", 5) ∈ rRs := List.mem_of_getElem? (i := 2) rfl
theorem kr3 : ("NativeWorks$Line", 48, "byte dword qword rel equ rep", 7) ∈ rRs := List.mem_of_getElem? (i := 3) rfl
theorem kr4 : ("NativeWorks$Line", 50, "if else endif rept endr macro endm", 9) ∈ rRs := List.mem_of_getElem? (i := 4) rfl
theorem kr5 : ("NativeWorks$Line", 52, "section global weak keep db dw dd dq resb align", 11) ∈ rRs := List.mem_of_getElem? (i := 5) rfl
theorem kr6 : ("NativeWorks$Line", 54, "add or adc sbb and sub xor cmp mov test xchg lea movzx movsx movsxd", 13) ∈ rRs := List.mem_of_getElem? (i := 6) rfl
theorem kr7 : ("NativeWorks$Line", 56, "not neg mul imul div idiv inc dec", 15) ∈ rRs := List.mem_of_getElem? (i := 7) rfl
theorem kr8 : ("NativeWorks$Line", 58, "rol ror shl shr sar push pop jmp call ret", 17) ∈ rRs := List.mem_of_getElem? (i := 8) rfl
theorem kr9 : ("NativeWorks$Line", 60, "nop int3 ud2 syscall leave bsf bsr bswap bt xadd cmpxchg", 19) ∈ rRs := List.mem_of_getElem? (i := 9) rfl
theorem kr10 : ("NativeWorks$Line", 62, "cdq cqo cwde cdqe movsb movsd movsq stosb stosd stosq", 21) ∈ rRs := List.mem_of_getElem? (i := 10) rfl
theorem kr11 : ("NativeWorks$Line", 64, "jo jno jb jae je jne jbe ja js jns jp jnp jl jge jle jg jc jnc jz jnz", 23) ∈ rRs := List.mem_of_getElem? (i := 11) rfl
theorem kr12 : ("NativeWorks$Line", 66, "seto setno setb setae sete setne setbe seta sets setns", 25) ∈ rRs := List.mem_of_getElem? (i := 12) rfl
theorem kr13 : ("NativeWorks$Line", 68, "setp setnp setl setge setle setg setc setnc setz setnz", 27) ∈ rRs := List.mem_of_getElem? (i := 13) rfl
theorem kr14 : ("NativeWorks$Line", 70, "cmovo cmovno cmovb cmovae cmove cmovne cmovbe cmova cmovs cmovns", 29) ∈ rRs := List.mem_of_getElem? (i := 14) rfl
theorem kr15 : ("NativeWorks$Line", 72, "cmovp cmovnp cmovl cmovge cmovle cmovg cmovc cmovnc cmovz cmovnz", 31) ∈ rRs := List.mem_of_getElem? (i := 15) rfl
theorem kr16 : ("NativeWorks$Line", 74, "text rodata data bss", 33) ∈ rRs := List.mem_of_getElem? (i := 16) rfl
theorem kr17 : ("NativeWorksModel", 486, "o", 38) ∈ rRs := List.mem_of_getElem? (i := 17) rfl
theorem kr18 : ("NativeWorksModel", 488, "no", 40) ∈ rRs := List.mem_of_getElem? (i := 18) rfl
theorem kr19 : ("NativeWorksModel", 490, "b", 42) ∈ rRs := List.mem_of_getElem? (i := 19) rfl
theorem kr20 : ("NativeWorksModel", 492, "ae", 44) ∈ rRs := List.mem_of_getElem? (i := 20) rfl
theorem kr21 : ("NativeWorksModel", 494, "e", 46) ∈ rRs := List.mem_of_getElem? (i := 21) rfl
theorem kr22 : ("NativeWorksModel", 496, "ne", 48) ∈ rRs := List.mem_of_getElem? (i := 22) rfl
theorem kr23 : ("NativeWorksModel", 498, "be", 50) ∈ rRs := List.mem_of_getElem? (i := 23) rfl
theorem kr24 : ("NativeWorksModel", 500, "a", 52) ∈ rRs := List.mem_of_getElem? (i := 24) rfl
theorem kr25 : ("NativeWorksModel", 502, "s", 54) ∈ rRs := List.mem_of_getElem? (i := 25) rfl
theorem kr26 : ("NativeWorksModel", 504, "ns", 56) ∈ rRs := List.mem_of_getElem? (i := 26) rfl
theorem kr27 : ("NativeWorksModel", 506, "p", 58) ∈ rRs := List.mem_of_getElem? (i := 27) rfl
theorem kr28 : ("NativeWorksModel", 508, "np", 60) ∈ rRs := List.mem_of_getElem? (i := 28) rfl
theorem kr29 : ("NativeWorksModel", 510, "l", 62) ∈ rRs := List.mem_of_getElem? (i := 29) rfl
theorem kr30 : ("NativeWorksModel", 512, "ge", 64) ∈ rRs := List.mem_of_getElem? (i := 30) rfl
theorem kr31 : ("NativeWorksModel", 514, "le", 66) ∈ rRs := List.mem_of_getElem? (i := 31) rfl
theorem kr32 : ("NativeWorksModel", 516, "g", 68) ∈ rRs := List.mem_of_getElem? (i := 32) rfl
theorem kr33 : ("NativeWorksModel", 518, "c", 70) ∈ rRs := List.mem_of_getElem? (i := 33) rfl
theorem kr34 : ("NativeWorksModel", 520, "nc", 72) ∈ rRs := List.mem_of_getElem? (i := 34) rfl
theorem kr35 : ("NativeWorksModel", 522, "z", 74) ∈ rRs := List.mem_of_getElem? (i := 35) rfl
theorem kr36 : ("NativeWorksModel", 524, "nz", 76) ∈ rRs := List.mem_of_getElem? (i := 36) rfl
theorem kr37 : ("NativeWorksModel", 541, "\x72", 80) ∈ rRs := List.mem_of_getElem? (i := 37) rfl
theorem kr38 : ("NativeWorksModel", 546, "rax", 82) ∈ rRs := List.mem_of_getElem? (i := 38) rfl
theorem kr39 : ("NativeWorksModel", 548, "rcx", 84) ∈ rRs := List.mem_of_getElem? (i := 39) rfl
theorem kr40 : ("NativeWorksModel", 550, "rdx", 86) ∈ rRs := List.mem_of_getElem? (i := 40) rfl
theorem kr41 : ("NativeWorksModel", 552, "rbx", 88) ∈ rRs := List.mem_of_getElem? (i := 41) rfl
theorem kr42 : ("NativeWorksModel", 554, "rsp", 90) ∈ rRs := List.mem_of_getElem? (i := 42) rfl
theorem kr43 : ("NativeWorksModel", 556, "rbp", 92) ∈ rRs := List.mem_of_getElem? (i := 43) rfl
theorem kr44 : ("NativeWorksModel", 558, "rsi", 94) ∈ rRs := List.mem_of_getElem? (i := 44) rfl
theorem kr45 : ("NativeWorksModel", 560, "rdi", 96) ∈ rRs := List.mem_of_getElem? (i := 45) rfl
theorem kr46 : ("NativeWorksModel", 562, "eax", 98) ∈ rRs := List.mem_of_getElem? (i := 46) rfl
theorem kr47 : ("NativeWorksModel", 564, "ecx", 100) ∈ rRs := List.mem_of_getElem? (i := 47) rfl
theorem kr48 : ("NativeWorksModel", 566, "edx", 102) ∈ rRs := List.mem_of_getElem? (i := 48) rfl
theorem kr49 : ("NativeWorksModel", 568, "ebx", 104) ∈ rRs := List.mem_of_getElem? (i := 49) rfl
theorem kr50 : ("NativeWorksModel", 570, "esp", 106) ∈ rRs := List.mem_of_getElem? (i := 50) rfl
theorem kr51 : ("NativeWorksModel", 572, "ebp", 108) ∈ rRs := List.mem_of_getElem? (i := 51) rfl
theorem kr52 : ("NativeWorksModel", 574, "esi", 110) ∈ rRs := List.mem_of_getElem? (i := 52) rfl
theorem kr53 : ("NativeWorksModel", 576, "edi", 112) ∈ rRs := List.mem_of_getElem? (i := 53) rfl
theorem kr54 : ("NativeWorksModel", 578, "al", 114) ∈ rRs := List.mem_of_getElem? (i := 54) rfl
theorem kr55 : ("NativeWorksModel", 580, "cl", 116) ∈ rRs := List.mem_of_getElem? (i := 55) rfl
theorem kr56 : ("NativeWorksModel", 582, "dl", 118) ∈ rRs := List.mem_of_getElem? (i := 56) rfl
theorem kr57 : ("NativeWorksModel", 584, "bl", 120) ∈ rRs := List.mem_of_getElem? (i := 57) rfl
theorem kr58 : ("NativeWorksModel", 586, "spl", 122) ∈ rRs := List.mem_of_getElem? (i := 58) rfl
theorem kr59 : ("NativeWorksModel", 588, "bpl", 124) ∈ rRs := List.mem_of_getElem? (i := 59) rfl
theorem kr60 : ("NativeWorksModel", 590, "sil", 126) ∈ rRs := List.mem_of_getElem? (i := 60) rfl
theorem kr61 : ("NativeWorksModel", 592, "dil", 128) ∈ rRs := List.mem_of_getElem? (i := 61) rfl
theorem kr62 : ("NativeWorksModel", 597, "", 130) ∈ rRs := List.mem_of_getElem? (i := 62) rfl
theorem kr63 : ("NativeWorksModel", 603, "d", 132) ∈ rRs := List.mem_of_getElem? (i := 63) rfl
theorem kr64 : ("NativeWorksModel", 350, "add or adc sbb and sub xor cmp mov test xchg lea movzx movsx movsxd not neg mul imul div idiv inc dec", 134) ∈ rRs := List.mem_of_getElem? (i := 64) rfl
theorem kr65 : ("NativeWorksModel", 356, "rol ror shl shr sar push pop jmp call ret", 17) ∈ rRs := List.mem_of_getElem? (i := 65) rfl
theorem kr66 : ("NativeWorksModel", 358, "j", 136) ∈ rRs := List.mem_of_getElem? (i := 66) rfl
theorem kr67 : ("NativeWorksModel", 363, "set", 138) ∈ rRs := List.mem_of_getElem? (i := 67) rfl
theorem kr68 : ("NativeWorksModel", 365, "cmov", 140) ∈ rRs := List.mem_of_getElem? (i := 68) rfl
theorem kr69 : ("NativeWorksModel", 367, "cdq", 142) ∈ rRs := List.mem_of_getElem? (i := 69) rfl
theorem kr70 : ("NativeWorksModel", 373, "cqo", 144) ∈ rRs := List.mem_of_getElem? (i := 70) rfl
theorem kr71 : ("NativeWorksModel", 376, "cwde", 146) ∈ rRs := List.mem_of_getElem? (i := 71) rfl
theorem kr72 : ("NativeWorksModel", 379, "cdqe", 148) ∈ rRs := List.mem_of_getElem? (i := 72) rfl
theorem kr73 : ("NativeWorksModel", 382, "nop int3 ud2 syscall leave bsf bsr bswap bt xadd cmpxchg", 19) ∈ rRs := List.mem_of_getElem? (i := 73) rfl
theorem kr74 : ("NativeWorksModel", 384, "movsb", 150) ∈ rRs := List.mem_of_getElem? (i := 74) rfl
theorem kr75 : ("NativeWorksModel", 387, "movsd", 152) ∈ rRs := List.mem_of_getElem? (i := 75) rfl
theorem kr76 : ("NativeWorksModel", 390, "movsq", 154) ∈ rRs := List.mem_of_getElem? (i := 76) rfl
theorem kr77 : ("NativeWorksModel", 393, "stosb", 156) ∈ rRs := List.mem_of_getElem? (i := 77) rfl
theorem kr78 : ("NativeWorksModel", 396, "stosd", 158) ∈ rRs := List.mem_of_getElem? (i := 78) rfl
theorem kr79 : ("NativeWorksModel", 399, "stosq", 160) ∈ rRs := List.mem_of_getElem? (i := 79) rfl
theorem kr80 : ("NativeWorksModel", 402, "section global weak keep db dw dd dq resb align if else endif rept endr macro endm rep", 162) ∈ rRs := List.mem_of_getElem? (i := 80) rfl
theorem kr81 : ("NativeWorksModel", 404, "byte", 164) ∈ rRs := List.mem_of_getElem? (i := 81) rfl
theorem kr82 : ("NativeWorksModel", 406, "dword", 166) ∈ rRs := List.mem_of_getElem? (i := 82) rfl
theorem kr83 : ("NativeWorksModel", 408, "qword", 168) ∈ rRs := List.mem_of_getElem? (i := 83) rfl
theorem kr84 : ("NativeWorksModel", 410, "rel", 170) ∈ rRs := List.mem_of_getElem? (i := 84) rfl
theorem kr85 : ("NativeWorksModel", 412, "equ", 172) ∈ rRs := List.mem_of_getElem? (i := 85) rfl
theorem kr86 : ("NativeWorksModel", 417, "text", 174) ∈ rRs := List.mem_of_getElem? (i := 86) rfl
theorem kr87 : ("NativeWorksModel", 427, "rodata", 176) ∈ rRs := List.mem_of_getElem? (i := 87) rfl
theorem kr88 : ("NativeWorksModel", 432, "data", 178) ∈ rRs := List.mem_of_getElem? (i := 88) rfl
theorem kr89 : ("NativeWorksModel", 436, "bss", 180) ∈ rRs := List.mem_of_getElem? (i := 89) rfl
theorem kr90 : ("NativeWorksModel", 456, "rep", 182) ∈ rRs := List.mem_of_getElem? (i := 90) rfl
theorem kr91 : ("NativeWorksModel", 461, "start", 184) ∈ rRs := List.mem_of_getElem? (i := 91) rfl
noncomputable def rFo : List rCC := [.inl (99, []),
  .inl (0, [.inr (.inr 6), .inl 0]),
  .inr (2, 61, .inl 0, [(0, [(0, .inl 114), (1, .inl 97), (2, .inl 120), (3, .inl 32), (4, .inl 114), (5, .inl 99), (6, .inl 120), (7, .inl 32), (8, .inl 114), (9, .inl 100), (10, .inl 120), (11, .inl 32), (12, .inl 114), (13, .inl 98), (14, .inl 120), (15, .inl 32), (16, .inl 114), (17, .inl 115), (18, .inl 112), (19, .inl 32), (20, .inl 114), (21, .inl 98), (22, .inl 112), (23, .inl 32), (24, .inl 114), (25, .inl 115), (26, .inl 105), (27, .inl 32), (28, .inl 114), (29, .inl 100), (30, .inl 105), (31, .inl 32), (32, .inl 114), (33, .inl 56), (34, .inl 32), (35, .inl 114), (36, .inl 57), (37, .inl 32), (38, .inl 114), (39, .inl 49), (40, .inl 48), (41, .inl 32), (42, .inl 114), (43, .inl 49), (44, .inl 49), (45, .inl 32), (46, .inl 114), (47, .inl 49), (48, .inl 50), (49, .inl 32), (50, .inl 114), (51, .inl 49), (52, .inl 51), (53, .inl 32), (54, .inl 114), (55, .inl 49), (56, .inl 52), (57, .inl 32), (58, .inl 114), (59, .inl 49), (60, .inl 53)])]),
  .inl (0, [.inr (.inr 10), .inl 0]),
  .inr (2, 69, .inl 0, [(0, [(0, .inl 101), (1, .inl 97), (2, .inl 120), (3, .inl 32), (4, .inl 101), (5, .inl 99), (6, .inl 120), (7, .inl 32), (8, .inl 101), (9, .inl 100), (10, .inl 120), (11, .inl 32), (12, .inl 101), (13, .inl 98), (14, .inl 120), (15, .inl 32), (16, .inl 101), (17, .inl 115), (18, .inl 112), (19, .inl 32), (20, .inl 101), (21, .inl 98), (22, .inl 112), (23, .inl 32), (24, .inl 101), (25, .inl 115), (26, .inl 105), (27, .inl 32), (28, .inl 101), (29, .inl 100), (30, .inl 105), (31, .inl 32), (32, .inl 114), (33, .inl 56), (34, .inl 100), (35, .inl 32), (36, .inl 114), (37, .inl 57), (38, .inl 100), (39, .inl 32), (40, .inl 114), (41, .inl 49), (42, .inl 48), (43, .inl 100), (44, .inl 32), (45, .inl 114), (46, .inl 49), (47, .inl 49), (48, .inl 100), (49, .inl 32), (50, .inl 114), (51, .inl 49), (52, .inl 50), (53, .inl 100), (54, .inl 32), (55, .inl 114), (56, .inl 49), (57, .inl 51), (58, .inl 100), (59, .inl 32), (60, .inl 114), (61, .inl 49), (62, .inl 52), (63, .inl 100)]), (1, [(64, .inl 32), (65, .inl 114), (66, .inl 49), (67, .inl 53), (68, .inl 100)])]),
  .inl (0, [.inr (.inr 14), .inl 0]),
  .inr (2, 65, .inl 0, [(0, [(0, .inl 97), (1, .inl 108), (2, .inl 32), (3, .inl 99), (4, .inl 108), (5, .inl 32), (6, .inl 100), (7, .inl 108), (8, .inl 32), (9, .inl 98), (10, .inl 108), (11, .inl 32), (12, .inl 115), (13, .inl 112), (14, .inl 108), (15, .inl 32), (16, .inl 98), (17, .inl 112), (18, .inl 108), (19, .inl 32), (20, .inl 115), (21, .inl 105), (22, .inl 108), (23, .inl 32), (24, .inl 100), (25, .inl 105), (26, .inl 108), (27, .inl 32), (28, .inl 114), (29, .inl 56), (30, .inl 98), (31, .inl 32), (32, .inl 114), (33, .inl 57), (34, .inl 98), (35, .inl 32), (36, .inl 114), (37, .inl 49), (38, .inl 48), (39, .inl 98), (40, .inl 32), (41, .inl 114), (42, .inl 49), (43, .inl 49), (44, .inl 98), (45, .inl 32), (46, .inl 114), (47, .inl 49), (48, .inl 50), (49, .inl 98), (50, .inl 32), (51, .inl 114), (52, .inl 49), (53, .inl 51), (54, .inl 98), (55, .inl 32), (56, .inl 114), (57, .inl 49), (58, .inl 52), (59, .inl 98), (60, .inl 32), (61, .inl 114), (62, .inl 49), (63, .inl 53)]), (1, [(64, .inl 98)])]),
  .inl (0, [.inr (.inr 18), .inl 0]),
  .inr (2, 28, .inl 0, [(0, [(0, .inl 98), (1, .inl 121), (2, .inl 116), (3, .inl 101), (4, .inl 32), (5, .inl 100), (6, .inl 119), (7, .inl 111), (8, .inl 114), (9, .inl 100), (10, .inl 32), (11, .inl 113), (12, .inl 119), (13, .inl 111), (14, .inl 114), (15, .inl 100), (16, .inl 32), (17, .inl 114), (18, .inl 101), (19, .inl 108), (20, .inl 32), (21, .inl 101), (22, .inl 113), (23, .inl 117), (24, .inl 32), (25, .inl 114), (26, .inl 101), (27, .inl 112)])]),
  .inl (0, [.inr (.inr 22), .inl 0]),
  .inr (2, 34, .inl 0, [(0, [(0, .inl 105), (1, .inl 102), (2, .inl 32), (3, .inl 101), (4, .inl 108), (5, .inl 115), (6, .inl 101), (7, .inl 32), (8, .inl 101), (9, .inl 110), (10, .inl 100), (11, .inl 105), (12, .inl 102), (13, .inl 32), (14, .inl 114), (15, .inl 101), (16, .inl 112), (17, .inl 116), (18, .inl 32), (19, .inl 101), (20, .inl 110), (21, .inl 100), (22, .inl 114), (23, .inl 32), (24, .inl 109), (25, .inl 97), (26, .inl 99), (27, .inl 114), (28, .inl 111), (29, .inl 32), (30, .inl 101), (31, .inl 110), (32, .inl 100), (33, .inl 109)])]),
  .inl (0, [.inr (.inr 26), .inl 0]),
  .inr (2, 47, .inl 0, [(0, [(0, .inl 115), (1, .inl 101), (2, .inl 99), (3, .inl 116), (4, .inl 105), (5, .inl 111), (6, .inl 110), (7, .inl 32), (8, .inl 103), (9, .inl 108), (10, .inl 111), (11, .inl 98), (12, .inl 97), (13, .inl 108), (14, .inl 32), (15, .inl 119), (16, .inl 101), (17, .inl 97), (18, .inl 107), (19, .inl 32), (20, .inl 107), (21, .inl 101), (22, .inl 101), (23, .inl 112), (24, .inl 32), (25, .inl 100), (26, .inl 98), (27, .inl 32), (28, .inl 100), (29, .inl 119), (30, .inl 32), (31, .inl 100), (32, .inl 100), (33, .inl 32), (34, .inl 100), (35, .inl 113), (36, .inl 32), (37, .inl 114), (38, .inl 101), (39, .inl 115), (40, .inl 98), (41, .inl 32), (42, .inl 97), (43, .inl 108), (44, .inl 105), (45, .inl 103), (46, .inl 110)])]),
  .inl (0, [.inr (.inr 30), .inl 0]),
  .inr (2, 67, .inl 0, [(0, [(0, .inl 97), (1, .inl 100), (2, .inl 100), (3, .inl 32), (4, .inl 111), (5, .inl 114), (6, .inl 32), (7, .inl 97), (8, .inl 100), (9, .inl 99), (10, .inl 32), (11, .inl 115), (12, .inl 98), (13, .inl 98), (14, .inl 32), (15, .inl 97), (16, .inl 110), (17, .inl 100), (18, .inl 32), (19, .inl 115), (20, .inl 117), (21, .inl 98), (22, .inl 32), (23, .inl 120), (24, .inl 111), (25, .inl 114), (26, .inl 32), (27, .inl 99), (28, .inl 109), (29, .inl 112), (30, .inl 32), (31, .inl 109), (32, .inl 111), (33, .inl 118), (34, .inl 32), (35, .inl 116), (36, .inl 101), (37, .inl 115), (38, .inl 116), (39, .inl 32), (40, .inl 120), (41, .inl 99), (42, .inl 104), (43, .inl 103), (44, .inl 32), (45, .inl 108), (46, .inl 101), (47, .inl 97), (48, .inl 32), (49, .inl 109), (50, .inl 111), (51, .inl 118), (52, .inl 122), (53, .inl 120), (54, .inl 32), (55, .inl 109), (56, .inl 111), (57, .inl 118), (58, .inl 115), (59, .inl 120), (60, .inl 32), (61, .inl 109), (62, .inl 111), (63, .inl 118)]), (1, [(64, .inl 115), (65, .inl 120), (66, .inl 100)])]),
  .inl (0, [.inr (.inr 34), .inl 0]),
  .inr (2, 33, .inl 0, [(0, [(0, .inl 110), (1, .inl 111), (2, .inl 116), (3, .inl 32), (4, .inl 110), (5, .inl 101), (6, .inl 103), (7, .inl 32), (8, .inl 109), (9, .inl 117), (10, .inl 108), (11, .inl 32), (12, .inl 105), (13, .inl 109), (14, .inl 117), (15, .inl 108), (16, .inl 32), (17, .inl 100), (18, .inl 105), (19, .inl 118), (20, .inl 32), (21, .inl 105), (22, .inl 100), (23, .inl 105), (24, .inl 118), (25, .inl 32), (26, .inl 105), (27, .inl 110), (28, .inl 99), (29, .inl 32), (30, .inl 100), (31, .inl 101), (32, .inl 99)])]),
  .inl (0, [.inr (.inr 38), .inl 0]),
  .inr (2, 41, .inl 0, [(0, [(0, .inl 114), (1, .inl 111), (2, .inl 108), (3, .inl 32), (4, .inl 114), (5, .inl 111), (6, .inl 114), (7, .inl 32), (8, .inl 115), (9, .inl 104), (10, .inl 108), (11, .inl 32), (12, .inl 115), (13, .inl 104), (14, .inl 114), (15, .inl 32), (16, .inl 115), (17, .inl 97), (18, .inl 114), (19, .inl 32), (20, .inl 112), (21, .inl 117), (22, .inl 115), (23, .inl 104), (24, .inl 32), (25, .inl 112), (26, .inl 111), (27, .inl 112), (28, .inl 32), (29, .inl 106), (30, .inl 109), (31, .inl 112), (32, .inl 32), (33, .inl 99), (34, .inl 97), (35, .inl 108), (36, .inl 108), (37, .inl 32), (38, .inl 114), (39, .inl 101), (40, .inl 116)])]),
  .inl (0, [.inr (.inr 42), .inl 0]),
  .inr (2, 56, .inl 0, [(0, [(0, .inl 110), (1, .inl 111), (2, .inl 112), (3, .inl 32), (4, .inl 105), (5, .inl 110), (6, .inl 116), (7, .inl 51), (8, .inl 32), (9, .inl 117), (10, .inl 100), (11, .inl 50), (12, .inl 32), (13, .inl 115), (14, .inl 121), (15, .inl 115), (16, .inl 99), (17, .inl 97), (18, .inl 108), (19, .inl 108), (20, .inl 32), (21, .inl 108), (22, .inl 101), (23, .inl 97), (24, .inl 118), (25, .inl 101), (26, .inl 32), (27, .inl 98), (28, .inl 115), (29, .inl 102), (30, .inl 32), (31, .inl 98), (32, .inl 115), (33, .inl 114), (34, .inl 32), (35, .inl 98), (36, .inl 115), (37, .inl 119), (38, .inl 97), (39, .inl 112), (40, .inl 32), (41, .inl 98), (42, .inl 116), (43, .inl 32), (44, .inl 120), (45, .inl 97), (46, .inl 100), (47, .inl 100), (48, .inl 32), (49, .inl 99), (50, .inl 109), (51, .inl 112), (52, .inl 120), (53, .inl 99), (54, .inl 104), (55, .inl 103)])]),
  .inl (0, [.inr (.inr 46), .inl 0]),
  .inr (2, 53, .inl 0, [(0, [(0, .inl 99), (1, .inl 100), (2, .inl 113), (3, .inl 32), (4, .inl 99), (5, .inl 113), (6, .inl 111), (7, .inl 32), (8, .inl 99), (9, .inl 119), (10, .inl 100), (11, .inl 101), (12, .inl 32), (13, .inl 99), (14, .inl 100), (15, .inl 113), (16, .inl 101), (17, .inl 32), (18, .inl 109), (19, .inl 111), (20, .inl 118), (21, .inl 115), (22, .inl 98), (23, .inl 32), (24, .inl 109), (25, .inl 111), (26, .inl 118), (27, .inl 115), (28, .inl 100), (29, .inl 32), (30, .inl 109), (31, .inl 111), (32, .inl 118), (33, .inl 115), (34, .inl 113), (35, .inl 32), (36, .inl 115), (37, .inl 116), (38, .inl 111), (39, .inl 115), (40, .inl 98), (41, .inl 32), (42, .inl 115), (43, .inl 116), (44, .inl 111), (45, .inl 115), (46, .inl 100), (47, .inl 32), (48, .inl 115), (49, .inl 116), (50, .inl 111), (51, .inl 115), (52, .inl 113)])]),
  .inl (0, [.inr (.inr 50), .inl 0]),
  .inr (2, 69, .inl 0, [(0, [(0, .inl 106), (1, .inl 111), (2, .inl 32), (3, .inl 106), (4, .inl 110), (5, .inl 111), (6, .inl 32), (7, .inl 106), (8, .inl 98), (9, .inl 32), (10, .inl 106), (11, .inl 97), (12, .inl 101), (13, .inl 32), (14, .inl 106), (15, .inl 101), (16, .inl 32), (17, .inl 106), (18, .inl 110), (19, .inl 101), (20, .inl 32), (21, .inl 106), (22, .inl 98), (23, .inl 101), (24, .inl 32), (25, .inl 106), (26, .inl 97), (27, .inl 32), (28, .inl 106), (29, .inl 115), (30, .inl 32), (31, .inl 106), (32, .inl 110), (33, .inl 115), (34, .inl 32), (35, .inl 106), (36, .inl 112), (37, .inl 32), (38, .inl 106), (39, .inl 110), (40, .inl 112), (41, .inl 32), (42, .inl 106), (43, .inl 108), (44, .inl 32), (45, .inl 106), (46, .inl 103), (47, .inl 101), (48, .inl 32), (49, .inl 106), (50, .inl 108), (51, .inl 101), (52, .inl 32), (53, .inl 106), (54, .inl 103), (55, .inl 32), (56, .inl 106), (57, .inl 99), (58, .inl 32), (59, .inl 106), (60, .inl 110), (61, .inl 99), (62, .inl 32), (63, .inl 106)]), (1, [(64, .inl 122), (65, .inl 32), (66, .inl 106), (67, .inl 110), (68, .inl 122)])]),
  .inl (0, [.inr (.inr 54), .inl 0]),
  .inr (2, 54, .inl 0, [(0, [(0, .inl 115), (1, .inl 101), (2, .inl 116), (3, .inl 111), (4, .inl 32), (5, .inl 115), (6, .inl 101), (7, .inl 116), (8, .inl 110), (9, .inl 111), (10, .inl 32), (11, .inl 115), (12, .inl 101), (13, .inl 116), (14, .inl 98), (15, .inl 32), (16, .inl 115), (17, .inl 101), (18, .inl 116), (19, .inl 97), (20, .inl 101), (21, .inl 32), (22, .inl 115), (23, .inl 101), (24, .inl 116), (25, .inl 101), (26, .inl 32), (27, .inl 115), (28, .inl 101), (29, .inl 116), (30, .inl 110), (31, .inl 101), (32, .inl 32), (33, .inl 115), (34, .inl 101), (35, .inl 116), (36, .inl 98), (37, .inl 101), (38, .inl 32), (39, .inl 115), (40, .inl 101), (41, .inl 116), (42, .inl 97), (43, .inl 32), (44, .inl 115), (45, .inl 101), (46, .inl 116), (47, .inl 115), (48, .inl 32), (49, .inl 115), (50, .inl 101), (51, .inl 116), (52, .inl 110), (53, .inl 115)])]),
  .inl (0, [.inr (.inr 58), .inl 0]),
  .inr (2, 54, .inl 0, [(0, [(0, .inl 115), (1, .inl 101), (2, .inl 116), (3, .inl 112), (4, .inl 32), (5, .inl 115), (6, .inl 101), (7, .inl 116), (8, .inl 110), (9, .inl 112), (10, .inl 32), (11, .inl 115), (12, .inl 101), (13, .inl 116), (14, .inl 108), (15, .inl 32), (16, .inl 115), (17, .inl 101), (18, .inl 116), (19, .inl 103), (20, .inl 101), (21, .inl 32), (22, .inl 115), (23, .inl 101), (24, .inl 116), (25, .inl 108), (26, .inl 101), (27, .inl 32), (28, .inl 115), (29, .inl 101), (30, .inl 116), (31, .inl 103), (32, .inl 32), (33, .inl 115), (34, .inl 101), (35, .inl 116), (36, .inl 99), (37, .inl 32), (38, .inl 115), (39, .inl 101), (40, .inl 116), (41, .inl 110), (42, .inl 99), (43, .inl 32), (44, .inl 115), (45, .inl 101), (46, .inl 116), (47, .inl 122), (48, .inl 32), (49, .inl 115), (50, .inl 101), (51, .inl 116), (52, .inl 110), (53, .inl 122)])]),
  .inl (0, [.inr (.inr 62), .inl 0]),
  .inr (2, 64, .inl 0, [(0, [(0, .inl 99), (1, .inl 109), (2, .inl 111), (3, .inl 118), (4, .inl 111), (5, .inl 32), (6, .inl 99), (7, .inl 109), (8, .inl 111), (9, .inl 118), (10, .inl 110), (11, .inl 111), (12, .inl 32), (13, .inl 99), (14, .inl 109), (15, .inl 111), (16, .inl 118), (17, .inl 98), (18, .inl 32), (19, .inl 99), (20, .inl 109), (21, .inl 111), (22, .inl 118), (23, .inl 97), (24, .inl 101), (25, .inl 32), (26, .inl 99), (27, .inl 109), (28, .inl 111), (29, .inl 118), (30, .inl 101), (31, .inl 32), (32, .inl 99), (33, .inl 109), (34, .inl 111), (35, .inl 118), (36, .inl 110), (37, .inl 101), (38, .inl 32), (39, .inl 99), (40, .inl 109), (41, .inl 111), (42, .inl 118), (43, .inl 98), (44, .inl 101), (45, .inl 32), (46, .inl 99), (47, .inl 109), (48, .inl 111), (49, .inl 118), (50, .inl 97), (51, .inl 32), (52, .inl 99), (53, .inl 109), (54, .inl 111), (55, .inl 118), (56, .inl 115), (57, .inl 32), (58, .inl 99), (59, .inl 109), (60, .inl 111), (61, .inl 118), (62, .inl 110), (63, .inl 115)])]),
  .inl (0, [.inr (.inr 66), .inl 0]),
  .inr (2, 64, .inl 0, [(0, [(0, .inl 99), (1, .inl 109), (2, .inl 111), (3, .inl 118), (4, .inl 112), (5, .inl 32), (6, .inl 99), (7, .inl 109), (8, .inl 111), (9, .inl 118), (10, .inl 110), (11, .inl 112), (12, .inl 32), (13, .inl 99), (14, .inl 109), (15, .inl 111), (16, .inl 118), (17, .inl 108), (18, .inl 32), (19, .inl 99), (20, .inl 109), (21, .inl 111), (22, .inl 118), (23, .inl 103), (24, .inl 101), (25, .inl 32), (26, .inl 99), (27, .inl 109), (28, .inl 111), (29, .inl 118), (30, .inl 108), (31, .inl 101), (32, .inl 32), (33, .inl 99), (34, .inl 109), (35, .inl 111), (36, .inl 118), (37, .inl 103), (38, .inl 32), (39, .inl 99), (40, .inl 109), (41, .inl 111), (42, .inl 118), (43, .inl 99), (44, .inl 32), (45, .inl 99), (46, .inl 109), (47, .inl 111), (48, .inl 118), (49, .inl 110), (50, .inl 99), (51, .inl 32), (52, .inl 99), (53, .inl 109), (54, .inl 111), (55, .inl 118), (56, .inl 122), (57, .inl 32), (58, .inl 99), (59, .inl 109), (60, .inl 111), (61, .inl 118), (62, .inl 110), (63, .inl 122)])]),
  .inl (0, [.inr (.inr 70), .inl 0]),
  .inr (2, 20, .inl 0, [(0, [(0, .inl 116), (1, .inl 101), (2, .inl 120), (3, .inl 116), (4, .inl 32), (5, .inl 114), (6, .inl 111), (7, .inl 100), (8, .inl 97), (9, .inl 116), (10, .inl 97), (11, .inl 32), (12, .inl 100), (13, .inl 97), (14, .inl 116), (15, .inl 97), (16, .inl 32), (17, .inl 98), (18, .inl 115), (19, .inl 115)])]),
  .inr (0, 13, .inl 0, [(0, [(0, .inl 4294967295), (1, .inl 4294967295), (2, .inl 4294967295), (3, .inl 4294967295), (4, .inl 4294967295), (5, .inl 4294967295), (6, .inl 0), (7, .inl 0), (8, .inl 4294967295), (9, .inl 4294967295), (10, .inl 4294967295), (11, .inl 4294967295), (12, .inl 4294967295)])]),
  .inr (0, 54, .inl 0, [(0, [(0, .inl 0), (1, .inl 1), (2, .inl 1), (3, .inl 0), (4, .inl 0), (5, .inl 4294967295), (6, .inl 0), (7, .inl 2), (8, .inl 1), (9, .inl 0), (10, .inl 1), (11, .inl 4294967295), (12, .inl 0), (13, .inl 1), (14, .inl 2), (15, .inl 0), (16, .inl 2), (17, .inl 4294967295), (18, .inl 0), (19, .inl 2), (20, .inl 2), (21, .inl 0), (22, .inl 3), (23, .inl 4294967295), (24, .inl 0), (25, .inl 1), (26, .inl 3), (27, .inl 1), (28, .inl 4), (29, .inl 4294967295), (30, .inl 0), (31, .inl 2), (32, .inl 3), (33, .inl 4), (34, .inl 5), (35, .inl 4294967295), (36, .inl 0), (37, .inl 1), (38, .inl 4), (39, .inl 1), (40, .inl 128), (41, .inl 0), (42, .inl 0), (43, .inl 2), (44, .inl 4), (45, .inl 4), (46, .inl 129), (47, .inl 0), (48, .inl 0), (49, .inl 2), (50, .inl 4), (51, .inl 1), (52, .inl 131), (53, .inl 0)])]),
  .inr (0, 666, .inl 0, [(0, [(0, .inl 8), (1, .inl 1), (2, .inl 1), (3, .inl 0), (4, .inl 136), (5, .inl 4294967295), (6, .inl 8), (7, .inl 2), (8, .inl 1), (9, .inl 0), (10, .inl 137), (11, .inl 4294967295), (12, .inl 8), (13, .inl 1), (14, .inl 2), (15, .inl 0), (16, .inl 138), (17, .inl 4294967295), (18, .inl 8), (19, .inl 2), (20, .inl 2), (21, .inl 0), (22, .inl 139), (23, .inl 4294967295), (24, .inl 8), (25, .inl 1), (26, .inl 4), (27, .inl 1), (28, .inl 198), (29, .inl 0), (30, .inl 8), (31, .inl 2), (32, .inl 4), (33, .inl 4), (34, .inl 199), (35, .inl 0), (36, .inl 8), (37, .inl 1), (38, .inl 6), (39, .inl 1), (40, .inl 176), (41, .inl 4294967295), (42, .inl 8), (43, .inl 4), (44, .inl 6), (45, .inl 4), (46, .inl 184), (47, .inl 4294967295), (48, .inl 8), (49, .inl 9), (50, .inl 6), (51, .inl 5), (52, .inl 184), (53, .inl 4294967295), (54, .inl 9), (55, .inl 1), (56, .inl 1), (57, .inl 0), (58, .inl 132), (59, .inl 4294967295), (60, .inl 9), (61, .inl 2), (62, .inl 1), (63, .inl 0)]), (1, [(64, .inl 133), (65, .inl 4294967295), (66, .inl 9), (67, .inl 1), (68, .inl 3), (69, .inl 1), (70, .inl 168), (71, .inl 4294967295), (72, .inl 9), (73, .inl 2), (74, .inl 3), (75, .inl 4), (76, .inl 169), (77, .inl 4294967295), (78, .inl 9), (79, .inl 1), (80, .inl 4), (81, .inl 1), (82, .inl 246), (83, .inl 0), (84, .inl 9), (85, .inl 2), (86, .inl 4), (87, .inl 4), (88, .inl 247), (89, .inl 0), (90, .inl 10), (91, .inl 1), (92, .inl 1), (93, .inl 0), (94, .inl 134), (95, .inl 4294967295), (96, .inl 10), (97, .inl 2), (98, .inl 1), (99, .inl 0), (100, .inl 135), (101, .inl 4294967295), (102, .inl 11), (103, .inl 2), (104, .inl 8), (105, .inl 0), (106, .inl 141), (107, .inl 4294967295), (108, .inl 12), (109, .inl 2), (110, .inl 2), (111, .inl 0), (112, .inl 4022), (113, .inl 4294967295), (114, .inl 13), (115, .inl 2), (116, .inl 2), (117, .inl 0), (118, .inl 4030), (119, .inl 4294967295), (120, .inl 14), (121, .inl 9), (122, .inl 2), (123, .inl 0), (124, .inl 99), (125, .inl 4294967295), (126, .inl 15), (127, .inl 1)]), (2, [(128, .inl 5), (129, .inl 0), (130, .inl 246), (131, .inl 2), (132, .inl 15), (133, .inl 2), (134, .inl 5), (135, .inl 0), (136, .inl 247), (137, .inl 2), (138, .inl 16), (139, .inl 1), (140, .inl 5), (141, .inl 0), (142, .inl 246), (143, .inl 3), (144, .inl 16), (145, .inl 2), (146, .inl 5), (147, .inl 0), (148, .inl 247), (149, .inl 3), (150, .inl 17), (151, .inl 1), (152, .inl 5), (153, .inl 0), (154, .inl 246), (155, .inl 4), (156, .inl 17), (157, .inl 2), (158, .inl 5), (159, .inl 0), (160, .inl 247), (161, .inl 4), (162, .inl 18), (163, .inl 1), (164, .inl 5), (165, .inl 0), (166, .inl 246), (167, .inl 5), (168, .inl 18), (169, .inl 2), (170, .inl 5), (171, .inl 0), (172, .inl 247), (173, .inl 5), (174, .inl 19), (175, .inl 1), (176, .inl 5), (177, .inl 0), (178, .inl 246), (179, .inl 6), (180, .inl 19), (181, .inl 2), (182, .inl 5), (183, .inl 0), (184, .inl 247), (185, .inl 6), (186, .inl 20), (187, .inl 1), (188, .inl 5), (189, .inl 0), (190, .inl 246), (191, .inl 7)]), (3, [(192, .inl 20), (193, .inl 2), (194, .inl 5), (195, .inl 0), (196, .inl 247), (197, .inl 7), (198, .inl 21), (199, .inl 1), (200, .inl 5), (201, .inl 0), (202, .inl 254), (203, .inl 0), (204, .inl 21), (205, .inl 2), (206, .inl 5), (207, .inl 0), (208, .inl 255), (209, .inl 0), (210, .inl 22), (211, .inl 1), (212, .inl 5), (213, .inl 0), (214, .inl 254), (215, .inl 1), (216, .inl 22), (217, .inl 2), (218, .inl 5), (219, .inl 0), (220, .inl 255), (221, .inl 1), (222, .inl 23), (223, .inl 2), (224, .inl 2), (225, .inl 0), (226, .inl 4015), (227, .inl 4294967295), (228, .inl 23), (229, .inl 2), (230, .inl 9), (231, .inl 4), (232, .inl 105), (233, .inl 4294967295), (234, .inl 23), (235, .inl 2), (236, .inl 9), (237, .inl 1), (238, .inl 107), (239, .inl 4294967295), (240, .inl 24), (241, .inl 1), (242, .inl 4), (243, .inl 2), (244, .inl 192), (245, .inl 0), (246, .inl 24), (247, .inl 2), (248, .inl 4), (249, .inl 2), (250, .inl 193), (251, .inl 0), (252, .inl 24), (253, .inl 1), (254, .inl 10), (255, .inl 0)]), (4, [(256, .inl 208), (257, .inl 0), (258, .inl 24), (259, .inl 2), (260, .inl 10), (261, .inl 0), (262, .inl 209), (263, .inl 0), (264, .inl 24), (265, .inl 1), (266, .inl 11), (267, .inl 0), (268, .inl 210), (269, .inl 0), (270, .inl 24), (271, .inl 2), (272, .inl 11), (273, .inl 0), (274, .inl 211), (275, .inl 0), (276, .inl 25), (277, .inl 1), (278, .inl 4), (279, .inl 2), (280, .inl 192), (281, .inl 1), (282, .inl 25), (283, .inl 2), (284, .inl 4), (285, .inl 2), (286, .inl 193), (287, .inl 1), (288, .inl 25), (289, .inl 1), (290, .inl 10), (291, .inl 0), (292, .inl 208), (293, .inl 1), (294, .inl 25), (295, .inl 2), (296, .inl 10), (297, .inl 0), (298, .inl 209), (299, .inl 1), (300, .inl 25), (301, .inl 1), (302, .inl 11), (303, .inl 0), (304, .inl 210), (305, .inl 1), (306, .inl 25), (307, .inl 2), (308, .inl 11), (309, .inl 0), (310, .inl 211), (311, .inl 1), (312, .inl 26), (313, .inl 1), (314, .inl 4), (315, .inl 2), (316, .inl 192), (317, .inl 4), (318, .inl 26), (319, .inl 2)]), (5, [(320, .inl 4), (321, .inl 2), (322, .inl 193), (323, .inl 4), (324, .inl 26), (325, .inl 1), (326, .inl 10), (327, .inl 0), (328, .inl 208), (329, .inl 4), (330, .inl 26), (331, .inl 2), (332, .inl 10), (333, .inl 0), (334, .inl 209), (335, .inl 4), (336, .inl 26), (337, .inl 1), (338, .inl 11), (339, .inl 0), (340, .inl 210), (341, .inl 4), (342, .inl 26), (343, .inl 2), (344, .inl 11), (345, .inl 0), (346, .inl 211), (347, .inl 4), (348, .inl 27), (349, .inl 1), (350, .inl 4), (351, .inl 2), (352, .inl 192), (353, .inl 5), (354, .inl 27), (355, .inl 2), (356, .inl 4), (357, .inl 2), (358, .inl 193), (359, .inl 5), (360, .inl 27), (361, .inl 1), (362, .inl 10), (363, .inl 0), (364, .inl 208), (365, .inl 5), (366, .inl 27), (367, .inl 2), (368, .inl 10), (369, .inl 0), (370, .inl 209), (371, .inl 5), (372, .inl 27), (373, .inl 1), (374, .inl 11), (375, .inl 0), (376, .inl 210), (377, .inl 5), (378, .inl 27), (379, .inl 2), (380, .inl 11), (381, .inl 0), (382, .inl 211), (383, .inl 5)]), (6, [(384, .inl 28), (385, .inl 1), (386, .inl 4), (387, .inl 2), (388, .inl 192), (389, .inl 7), (390, .inl 28), (391, .inl 2), (392, .inl 4), (393, .inl 2), (394, .inl 193), (395, .inl 7), (396, .inl 28), (397, .inl 1), (398, .inl 10), (399, .inl 0), (400, .inl 208), (401, .inl 7), (402, .inl 28), (403, .inl 2), (404, .inl 10), (405, .inl 0), (406, .inl 209), (407, .inl 7), (408, .inl 28), (409, .inl 1), (410, .inl 11), (411, .inl 0), (412, .inl 210), (413, .inl 7), (414, .inl 28), (415, .inl 2), (416, .inl 11), (417, .inl 0), (418, .inl 211), (419, .inl 7), (420, .inl 29), (421, .inl 8), (422, .inl 7), (423, .inl 0), (424, .inl 80), (425, .inl 4294967295), (426, .inl 29), (427, .inl 8), (428, .inl 12), (429, .inl 4), (430, .inl 104), (431, .inl 4294967295), (432, .inl 29), (433, .inl 8), (434, .inl 12), (435, .inl 1), (436, .inl 106), (437, .inl 4294967295), (438, .inl 29), (439, .inl 8), (440, .inl 5), (441, .inl 0), (442, .inl 255), (443, .inl 6), (444, .inl 30), (445, .inl 8), (446, .inl 7), (447, .inl 0)]), (7, [(448, .inl 88), (449, .inl 4294967295), (450, .inl 30), (451, .inl 8), (452, .inl 5), (453, .inl 0), (454, .inl 143), (455, .inl 0), (456, .inl 31), (457, .inl 0), (458, .inl 12), (459, .inl 4), (460, .inl 233), (461, .inl 4294967295), (462, .inl 31), (463, .inl 0), (464, .inl 12), (465, .inl 1), (466, .inl 235), (467, .inl 4294967295), (468, .inl 31), (469, .inl 0), (470, .inl 5), (471, .inl 0), (472, .inl 255), (473, .inl 4), (474, .inl 32), (475, .inl 0), (476, .inl 12), (477, .inl 4), (478, .inl 232), (479, .inl 4294967295), (480, .inl 32), (481, .inl 0), (482, .inl 5), (483, .inl 0), (484, .inl 255), (485, .inl 2), (486, .inl 33), (487, .inl 0), (488, .inl 0), (489, .inl 0), (490, .inl 195), (491, .inl 4294967295), (492, .inl 33), (493, .inl 0), (494, .inl 12), (495, .inl 3), (496, .inl 194), (497, .inl 4294967295), (498, .inl 34), (499, .inl 0), (500, .inl 12), (501, .inl 4), (502, .inl 3968), (503, .inl 4294967295), (504, .inl 34), (505, .inl 0), (506, .inl 12), (507, .inl 1), (508, .inl 112), (509, .inl 4294967295), (510, .inl 35), (511, .inl 1)]), (8, [(512, .inl 5), (513, .inl 0), (514, .inl 3984), (515, .inl 4294967295), (516, .inl 36), (517, .inl 2), (518, .inl 2), (519, .inl 0), (520, .inl 3904), (521, .inl 4294967295), (522, .inl 37), (523, .inl 2), (524, .inl 0), (525, .inl 0), (526, .inl 153), (527, .inl 4294967295), (528, .inl 38), (529, .inl 2), (530, .inl 0), (531, .inl 0), (532, .inl 152), (533, .inl 4294967295), (534, .inl 39), (535, .inl 0), (536, .inl 0), (537, .inl 0), (538, .inl 144), (539, .inl 4294967295), (540, .inl 40), (541, .inl 0), (542, .inl 0), (543, .inl 0), (544, .inl 204), (545, .inl 4294967295), (546, .inl 41), (547, .inl 0), (548, .inl 0), (549, .inl 0), (550, .inl 3851), (551, .inl 4294967295), (552, .inl 42), (553, .inl 0), (554, .inl 0), (555, .inl 0), (556, .inl 3845), (557, .inl 4294967295), (558, .inl 43), (559, .inl 0), (560, .inl 0), (561, .inl 0), (562, .inl 201), (563, .inl 4294967295), (564, .inl 44), (565, .inl 2), (566, .inl 2), (567, .inl 0), (568, .inl 4028), (569, .inl 4294967295), (570, .inl 45), (571, .inl 2), (572, .inl 2), (573, .inl 0), (574, .inl 4029), (575, .inl 4294967295)]), (9, [(576, .inl 46), (577, .inl 2), (578, .inl 7), (579, .inl 0), (580, .inl 4040), (581, .inl 4294967295), (582, .inl 47), (583, .inl 2), (584, .inl 1), (585, .inl 0), (586, .inl 4003), (587, .inl 4294967295), (588, .inl 47), (589, .inl 2), (590, .inl 4), (591, .inl 2), (592, .inl 4026), (593, .inl 4), (594, .inl 48), (595, .inl 1), (596, .inl 1), (597, .inl 0), (598, .inl 4032), (599, .inl 4294967295), (600, .inl 48), (601, .inl 2), (602, .inl 1), (603, .inl 0), (604, .inl 4033), (605, .inl 4294967295), (606, .inl 49), (607, .inl 1), (608, .inl 1), (609, .inl 0), (610, .inl 4016), (611, .inl 4294967295), (612, .inl 49), (613, .inl 2), (614, .inl 1), (615, .inl 0), (616, .inl 4017), (617, .inl 4294967295), (618, .inl 50), (619, .inl 1), (620, .inl 0), (621, .inl 0), (622, .inl 164), (623, .inl 4294967295), (624, .inl 50), (625, .inl 2), (626, .inl 0), (627, .inl 0), (628, .inl 165), (629, .inl 4294967295), (630, .inl 51), (631, .inl 1), (632, .inl 0), (633, .inl 0), (634, .inl 170), (635, .inl 4294967295), (636, .inl 51), (637, .inl 2), (638, .inl 0), (639, .inl 0)]), (10, [(640, .inl 171), (641, .inl 4294967295), (642, .inl 52), (643, .inl 1), (644, .inl 0), (645, .inl 0), (646, .inl 62372), (647, .inl 4294967295), (648, .inl 52), (649, .inl 2), (650, .inl 0), (651, .inl 0), (652, .inl 62373), (653, .inl 4294967295), (654, .inl 53), (655, .inl 1), (656, .inl 0), (657, .inl 0), (658, .inl 62378), (659, .inl 4294967295), (660, .inl 53), (661, .inl 2), (662, .inl 0), (663, .inl 0), (664, .inl 62379), (665, .inl 4294967295)])]),
  .inl (0, [.inr (.inr 80), .inl 0]),
  .inr (2, 1, .inl 0, [(0, [(0, .inl 111)])]),
  .inl (0, [.inr (.inr 84), .inl 0]),
  .inr (2, 2, .inl 0, [(0, [(0, .inl 110), (1, .inl 111)])]),
  .inl (0, [.inr (.inr 88), .inl 0]),
  .inr (2, 1, .inl 0, [(0, [(0, .inl 98)])]),
  .inl (0, [.inr (.inr 92), .inl 0]),
  .inr (2, 2, .inl 0, [(0, [(0, .inl 97), (1, .inl 101)])]),
  .inl (0, [.inr (.inr 96), .inl 0]),
  .inr (2, 1, .inl 0, [(0, [(0, .inl 101)])]),
  .inl (0, [.inr (.inr 100), .inl 0]),
  .inr (2, 2, .inl 0, [(0, [(0, .inl 110), (1, .inl 101)])]),
  .inl (0, [.inr (.inr 104), .inl 0]),
  .inr (2, 2, .inl 0, [(0, [(0, .inl 98), (1, .inl 101)])]),
  .inl (0, [.inr (.inr 108), .inl 0]),
  .inr (2, 1, .inl 0, [(0, [(0, .inl 97)])]),
  .inl (0, [.inr (.inr 112), .inl 0]),
  .inr (2, 1, .inl 0, [(0, [(0, .inl 115)])]),
  .inl (0, [.inr (.inr 116), .inl 0]),
  .inr (2, 2, .inl 0, [(0, [(0, .inl 110), (1, .inl 115)])]),
  .inl (0, [.inr (.inr 120), .inl 0]),
  .inr (2, 1, .inl 0, [(0, [(0, .inl 112)])]),
  .inl (0, [.inr (.inr 124), .inl 0]),
  .inr (2, 2, .inl 0, [(0, [(0, .inl 110), (1, .inl 112)])]),
  .inl (0, [.inr (.inr 128), .inl 0]),
  .inr (2, 1, .inl 0, [(0, [(0, .inl 108)])]),
  .inl (0, [.inr (.inr 132), .inl 0]),
  .inr (2, 2, .inl 0, [(0, [(0, .inl 103), (1, .inl 101)])]),
  .inl (0, [.inr (.inr 136), .inl 0]),
  .inr (2, 2, .inl 0, [(0, [(0, .inl 108), (1, .inl 101)])]),
  .inl (0, [.inr (.inr 140), .inl 0]),
  .inr (2, 1, .inl 0, [(0, [(0, .inl 103)])]),
  .inl (0, [.inr (.inr 144), .inl 0]),
  .inr (2, 1, .inl 0, [(0, [(0, .inl 99)])]),
  .inl (0, [.inr (.inr 148), .inl 0]),
  .inr (2, 2, .inl 0, [(0, [(0, .inl 110), (1, .inl 99)])]),
  .inl (0, [.inr (.inr 152), .inl 0]),
  .inr (2, 1, .inl 0, [(0, [(0, .inl 122)])]),
  .inl (0, [.inr (.inr 156), .inl 0]),
  .inr (2, 2, .inl 0, [(0, [(0, .inl 110), (1, .inl 122)])]),
  .inr (2, 100, .inl 0, [(0, [(0, .inl 48), (1, .inl 49), (2, .inl 50), (3, .inl 51), (4, .inl 52), (5, .inl 53), (6, .inl 54), (7, .inl 55), (8, .inl 56), (9, .inl 57), (10, .inl 48), (11, .inl 49), (12, .inl 50), (13, .inl 51), (14, .inl 52), (15, .inl 53), (16, .inl 54), (17, .inl 55), (18, .inl 56), (19, .inl 57), (20, .inl 48), (21, .inl 49), (22, .inl 50), (23, .inl 51), (24, .inl 52), (25, .inl 53), (26, .inl 54), (27, .inl 55), (28, .inl 56), (29, .inl 57), (30, .inl 48), (31, .inl 49), (32, .inl 50), (33, .inl 51), (34, .inl 52), (35, .inl 53), (36, .inl 54), (37, .inl 55), (38, .inl 56), (39, .inl 57), (40, .inl 48), (41, .inl 49), (42, .inl 50), (43, .inl 51), (44, .inl 52), (45, .inl 53), (46, .inl 54), (47, .inl 55), (48, .inl 56), (49, .inl 57), (50, .inl 48), (51, .inl 49), (52, .inl 50), (53, .inl 51), (54, .inl 52), (55, .inl 53), (56, .inl 54), (57, .inl 55), (58, .inl 56), (59, .inl 57), (60, .inl 48), (61, .inl 49), (62, .inl 50), (63, .inl 51)]), (1, [(64, .inl 52), (65, .inl 53), (66, .inl 54), (67, .inl 55), (68, .inl 56), (69, .inl 57), (70, .inl 48), (71, .inl 49), (72, .inl 50), (73, .inl 51), (74, .inl 52), (75, .inl 53), (76, .inl 54), (77, .inl 55), (78, .inl 56), (79, .inl 57), (80, .inl 48), (81, .inl 49), (82, .inl 50), (83, .inl 51), (84, .inl 52), (85, .inl 53), (86, .inl 54), (87, .inl 55), (88, .inl 56), (89, .inl 57), (90, .inl 48), (91, .inl 49), (92, .inl 50), (93, .inl 51), (94, .inl 52), (95, .inl 53), (96, .inl 54), (97, .inl 55), (98, .inl 56), (99, .inl 57)])]),
  .inr (2, 100, .inl 0, [(0, [(0, .inl 48), (1, .inl 48), (2, .inl 48), (3, .inl 48), (4, .inl 48), (5, .inl 48), (6, .inl 48), (7, .inl 48), (8, .inl 48), (9, .inl 48), (10, .inl 49), (11, .inl 49), (12, .inl 49), (13, .inl 49), (14, .inl 49), (15, .inl 49), (16, .inl 49), (17, .inl 49), (18, .inl 49), (19, .inl 49), (20, .inl 50), (21, .inl 50), (22, .inl 50), (23, .inl 50), (24, .inl 50), (25, .inl 50), (26, .inl 50), (27, .inl 50), (28, .inl 50), (29, .inl 50), (30, .inl 51), (31, .inl 51), (32, .inl 51), (33, .inl 51), (34, .inl 51), (35, .inl 51), (36, .inl 51), (37, .inl 51), (38, .inl 51), (39, .inl 51), (40, .inl 52), (41, .inl 52), (42, .inl 52), (43, .inl 52), (44, .inl 52), (45, .inl 52), (46, .inl 52), (47, .inl 52), (48, .inl 52), (49, .inl 52), (50, .inl 53), (51, .inl 53), (52, .inl 53), (53, .inl 53), (54, .inl 53), (55, .inl 53), (56, .inl 53), (57, .inl 53), (58, .inl 53), (59, .inl 53), (60, .inl 54), (61, .inl 54), (62, .inl 54), (63, .inl 54)]), (1, [(64, .inl 54), (65, .inl 54), (66, .inl 54), (67, .inl 54), (68, .inl 54), (69, .inl 54), (70, .inl 55), (71, .inl 55), (72, .inl 55), (73, .inl 55), (74, .inl 55), (75, .inl 55), (76, .inl 55), (77, .inl 55), (78, .inl 55), (79, .inl 55), (80, .inl 56), (81, .inl 56), (82, .inl 56), (83, .inl 56), (84, .inl 56), (85, .inl 56), (86, .inl 56), (87, .inl 56), (88, .inl 56), (89, .inl 56), (90, .inl 57), (91, .inl 57), (92, .inl 57), (93, .inl 57), (94, .inl 57), (95, .inl 57), (96, .inl 57), (97, .inl 57), (98, .inl 57), (99, .inl 57)])]),
  .inl (0, [.inr (.inr 164), .inl 0]),
  .inr (2, 1, .inl 0, [(0, [(0, .inl 114)])]),
  .inl (0, [.inr (.inr 168), .inl 0]),
  .inr (2, 3, .inl 0, [(0, [(0, .inl 114), (1, .inl 97), (2, .inl 120)])]),
  .inl (0, [.inr (.inr 172), .inl 0]),
  .inr (2, 3, .inl 0, [(0, [(0, .inl 114), (1, .inl 99), (2, .inl 120)])]),
  .inl (0, [.inr (.inr 176), .inl 0]),
  .inr (2, 3, .inl 0, [(0, [(0, .inl 114), (1, .inl 100), (2, .inl 120)])]),
  .inl (0, [.inr (.inr 180), .inl 0]),
  .inr (2, 3, .inl 0, [(0, [(0, .inl 114), (1, .inl 98), (2, .inl 120)])]),
  .inl (0, [.inr (.inr 184), .inl 0]),
  .inr (2, 3, .inl 0, [(0, [(0, .inl 114), (1, .inl 115), (2, .inl 112)])]),
  .inl (0, [.inr (.inr 188), .inl 0]),
  .inr (2, 3, .inl 0, [(0, [(0, .inl 114), (1, .inl 98), (2, .inl 112)])]),
  .inl (0, [.inr (.inr 192), .inl 0]),
  .inr (2, 3, .inl 0, [(0, [(0, .inl 114), (1, .inl 115), (2, .inl 105)])]),
  .inl (0, [.inr (.inr 196), .inl 0]),
  .inr (2, 3, .inl 0, [(0, [(0, .inl 114), (1, .inl 100), (2, .inl 105)])]),
  .inl (0, [.inr (.inr 200), .inl 0]),
  .inr (2, 3, .inl 0, [(0, [(0, .inl 101), (1, .inl 97), (2, .inl 120)])]),
  .inl (0, [.inr (.inr 204), .inl 0]),
  .inr (2, 3, .inl 0, [(0, [(0, .inl 101), (1, .inl 99), (2, .inl 120)])]),
  .inl (0, [.inr (.inr 208), .inl 0]),
  .inr (2, 3, .inl 0, [(0, [(0, .inl 101), (1, .inl 100), (2, .inl 120)])]),
  .inl (0, [.inr (.inr 212), .inl 0]),
  .inr (2, 3, .inl 0, [(0, [(0, .inl 101), (1, .inl 98), (2, .inl 120)])]),
  .inl (0, [.inr (.inr 216), .inl 0]),
  .inr (2, 3, .inl 0, [(0, [(0, .inl 101), (1, .inl 115), (2, .inl 112)])]),
  .inl (0, [.inr (.inr 220), .inl 0]),
  .inr (2, 3, .inl 0, [(0, [(0, .inl 101), (1, .inl 98), (2, .inl 112)])]),
  .inl (0, [.inr (.inr 224), .inl 0]),
  .inr (2, 3, .inl 0, [(0, [(0, .inl 101), (1, .inl 115), (2, .inl 105)])]),
  .inl (0, [.inr (.inr 228), .inl 0]),
  .inr (2, 3, .inl 0, [(0, [(0, .inl 101), (1, .inl 100), (2, .inl 105)])]),
  .inl (0, [.inr (.inr 232), .inl 0]),
  .inr (2, 2, .inl 0, [(0, [(0, .inl 97), (1, .inl 108)])]),
  .inl (0, [.inr (.inr 236), .inl 0]),
  .inr (2, 2, .inl 0, [(0, [(0, .inl 99), (1, .inl 108)])]),
  .inl (0, [.inr (.inr 240), .inl 0]),
  .inr (2, 2, .inl 0, [(0, [(0, .inl 100), (1, .inl 108)])]),
  .inl (0, [.inr (.inr 244), .inl 0]),
  .inr (2, 2, .inl 0, [(0, [(0, .inl 98), (1, .inl 108)])]),
  .inl (0, [.inr (.inr 248), .inl 0]),
  .inr (2, 3, .inl 0, [(0, [(0, .inl 115), (1, .inl 112), (2, .inl 108)])]),
  .inl (0, [.inr (.inr 252), .inl 0]),
  .inr (2, 3, .inl 0, [(0, [(0, .inl 98), (1, .inl 112), (2, .inl 108)])]),
  .inl (0, [.inr (.inr 256), .inl 0]),
  .inr (2, 3, .inl 0, [(0, [(0, .inl 115), (1, .inl 105), (2, .inl 108)])]),
  .inl (0, [.inr (.inr 260), .inl 0]),
  .inr (2, 3, .inl 0, [(0, [(0, .inl 100), (1, .inl 105), (2, .inl 108)])]),
  .inl (0, [.inr (.inr 264), .inl 0]),
  .inr (2, 0, .inl 0, []),
  .inl (0, [.inr (.inr 268), .inl 0]),
  .inr (2, 1, .inl 0, [(0, [(0, .inl 100)])]),
  .inl (0, [.inr (.inr 272), .inl 0]),
  .inr (2, 101, .inl 0, [(0, [(0, .inl 97), (1, .inl 100), (2, .inl 100), (3, .inl 32), (4, .inl 111), (5, .inl 114), (6, .inl 32), (7, .inl 97), (8, .inl 100), (9, .inl 99), (10, .inl 32), (11, .inl 115), (12, .inl 98), (13, .inl 98), (14, .inl 32), (15, .inl 97), (16, .inl 110), (17, .inl 100), (18, .inl 32), (19, .inl 115), (20, .inl 117), (21, .inl 98), (22, .inl 32), (23, .inl 120), (24, .inl 111), (25, .inl 114), (26, .inl 32), (27, .inl 99), (28, .inl 109), (29, .inl 112), (30, .inl 32), (31, .inl 109), (32, .inl 111), (33, .inl 118), (34, .inl 32), (35, .inl 116), (36, .inl 101), (37, .inl 115), (38, .inl 116), (39, .inl 32), (40, .inl 120), (41, .inl 99), (42, .inl 104), (43, .inl 103), (44, .inl 32), (45, .inl 108), (46, .inl 101), (47, .inl 97), (48, .inl 32), (49, .inl 109), (50, .inl 111), (51, .inl 118), (52, .inl 122), (53, .inl 120), (54, .inl 32), (55, .inl 109), (56, .inl 111), (57, .inl 118), (58, .inl 115), (59, .inl 120), (60, .inl 32), (61, .inl 109), (62, .inl 111), (63, .inl 118)]), (1, [(64, .inl 115), (65, .inl 120), (66, .inl 100), (67, .inl 32), (68, .inl 110), (69, .inl 111), (70, .inl 116), (71, .inl 32), (72, .inl 110), (73, .inl 101), (74, .inl 103), (75, .inl 32), (76, .inl 109), (77, .inl 117), (78, .inl 108), (79, .inl 32), (80, .inl 105), (81, .inl 109), (82, .inl 117), (83, .inl 108), (84, .inl 32), (85, .inl 100), (86, .inl 105), (87, .inl 118), (88, .inl 32), (89, .inl 105), (90, .inl 100), (91, .inl 105), (92, .inl 118), (93, .inl 32), (94, .inl 105), (95, .inl 110), (96, .inl 99), (97, .inl 32), (98, .inl 100), (99, .inl 101), (100, .inl 99)])]),
  .inl (0, [.inr (.inr 276), .inl 0]),
  .inr (2, 1, .inl 0, [(0, [(0, .inl 106)])]),
  .inl (0, [.inr (.inr 280), .inl 0]),
  .inr (2, 3, .inl 0, [(0, [(0, .inl 115), (1, .inl 101), (2, .inl 116)])]),
  .inl (0, [.inr (.inr 284), .inl 0]),
  .inr (2, 4, .inl 0, [(0, [(0, .inl 99), (1, .inl 109), (2, .inl 111), (3, .inl 118)])]),
  .inl (0, [.inr (.inr 288), .inl 0]),
  .inr (2, 3, .inl 0, [(0, [(0, .inl 99), (1, .inl 100), (2, .inl 113)])]),
  .inl (0, [.inr (.inr 292), .inl 0]),
  .inr (2, 3, .inl 0, [(0, [(0, .inl 99), (1, .inl 113), (2, .inl 111)])]),
  .inl (0, [.inr (.inr 296), .inl 0]),
  .inr (2, 4, .inl 0, [(0, [(0, .inl 99), (1, .inl 119), (2, .inl 100), (3, .inl 101)])]),
  .inl (0, [.inr (.inr 300), .inl 0]),
  .inr (2, 4, .inl 0, [(0, [(0, .inl 99), (1, .inl 100), (2, .inl 113), (3, .inl 101)])]),
  .inl (0, [.inr (.inr 304), .inl 0]),
  .inr (2, 5, .inl 0, [(0, [(0, .inl 109), (1, .inl 111), (2, .inl 118), (3, .inl 115), (4, .inl 98)])]),
  .inl (0, [.inr (.inr 308), .inl 0]),
  .inr (2, 5, .inl 0, [(0, [(0, .inl 109), (1, .inl 111), (2, .inl 118), (3, .inl 115), (4, .inl 100)])]),
  .inl (0, [.inr (.inr 312), .inl 0]),
  .inr (2, 5, .inl 0, [(0, [(0, .inl 109), (1, .inl 111), (2, .inl 118), (3, .inl 115), (4, .inl 113)])]),
  .inl (0, [.inr (.inr 316), .inl 0]),
  .inr (2, 5, .inl 0, [(0, [(0, .inl 115), (1, .inl 116), (2, .inl 111), (3, .inl 115), (4, .inl 98)])]),
  .inl (0, [.inr (.inr 320), .inl 0]),
  .inr (2, 5, .inl 0, [(0, [(0, .inl 115), (1, .inl 116), (2, .inl 111), (3, .inl 115), (4, .inl 100)])]),
  .inl (0, [.inr (.inr 324), .inl 0]),
  .inr (2, 5, .inl 0, [(0, [(0, .inl 115), (1, .inl 116), (2, .inl 111), (3, .inl 115), (4, .inl 113)])]),
  .inl (0, [.inr (.inr 328), .inl 0]),
  .inr (2, 86, .inl 0, [(0, [(0, .inl 115), (1, .inl 101), (2, .inl 99), (3, .inl 116), (4, .inl 105), (5, .inl 111), (6, .inl 110), (7, .inl 32), (8, .inl 103), (9, .inl 108), (10, .inl 111), (11, .inl 98), (12, .inl 97), (13, .inl 108), (14, .inl 32), (15, .inl 119), (16, .inl 101), (17, .inl 97), (18, .inl 107), (19, .inl 32), (20, .inl 107), (21, .inl 101), (22, .inl 101), (23, .inl 112), (24, .inl 32), (25, .inl 100), (26, .inl 98), (27, .inl 32), (28, .inl 100), (29, .inl 119), (30, .inl 32), (31, .inl 100), (32, .inl 100), (33, .inl 32), (34, .inl 100), (35, .inl 113), (36, .inl 32), (37, .inl 114), (38, .inl 101), (39, .inl 115), (40, .inl 98), (41, .inl 32), (42, .inl 97), (43, .inl 108), (44, .inl 105), (45, .inl 103), (46, .inl 110), (47, .inl 32), (48, .inl 105), (49, .inl 102), (50, .inl 32), (51, .inl 101), (52, .inl 108), (53, .inl 115), (54, .inl 101), (55, .inl 32), (56, .inl 101), (57, .inl 110), (58, .inl 100), (59, .inl 105), (60, .inl 102), (61, .inl 32), (62, .inl 114), (63, .inl 101)]), (1, [(64, .inl 112), (65, .inl 116), (66, .inl 32), (67, .inl 101), (68, .inl 110), (69, .inl 100), (70, .inl 114), (71, .inl 32), (72, .inl 109), (73, .inl 97), (74, .inl 99), (75, .inl 114), (76, .inl 111), (77, .inl 32), (78, .inl 101), (79, .inl 110), (80, .inl 100), (81, .inl 109), (82, .inl 32), (83, .inl 114), (84, .inl 101), (85, .inl 112)])]),
  .inl (0, [.inr (.inr 332), .inl 0]),
  .inr (2, 4, .inl 0, [(0, [(0, .inl 98), (1, .inl 121), (2, .inl 116), (3, .inl 101)])]),
  .inl (0, [.inr (.inr 336), .inl 0]),
  .inr (2, 5, .inl 0, [(0, [(0, .inl 100), (1, .inl 119), (2, .inl 111), (3, .inl 114), (4, .inl 100)])]),
  .inl (0, [.inr (.inr 340), .inl 0]),
  .inr (2, 5, .inl 0, [(0, [(0, .inl 113), (1, .inl 119), (2, .inl 111), (3, .inl 114), (4, .inl 100)])]),
  .inl (0, [.inr (.inr 344), .inl 0]),
  .inr (2, 3, .inl 0, [(0, [(0, .inl 114), (1, .inl 101), (2, .inl 108)])]),
  .inl (0, [.inr (.inr 348), .inl 0]),
  .inr (2, 3, .inl 0, [(0, [(0, .inl 101), (1, .inl 113), (2, .inl 117)])]),
  .inl (0, [.inr (.inr 352), .inl 0]),
  .inr (2, 4, .inl 0, [(0, [(0, .inl 116), (1, .inl 101), (2, .inl 120), (3, .inl 116)])]),
  .inl (0, [.inr (.inr 356), .inl 0]),
  .inr (2, 6, .inl 0, [(0, [(0, .inl 114), (1, .inl 111), (2, .inl 100), (3, .inl 97), (4, .inl 116), (5, .inl 97)])]),
  .inl (0, [.inr (.inr 360), .inl 0]),
  .inr (2, 4, .inl 0, [(0, [(0, .inl 100), (1, .inl 97), (2, .inl 116), (3, .inl 97)])]),
  .inl (0, [.inr (.inr 364), .inl 0]),
  .inr (2, 3, .inl 0, [(0, [(0, .inl 98), (1, .inl 115), (2, .inl 115)])]),
  .inl (0, [.inr (.inr 368), .inl 0]),
  .inr (2, 3, .inl 0, [(0, [(0, .inl 114), (1, .inl 101), (2, .inl 112)])]),
  .inl (0, [.inr (.inr 372), .inl 0]),
  .inr (2, 5, .inl 0, [(0, [(0, .inl 115), (1, .inl 116), (2, .inl 97), (3, .inl 114), (4, .inl 116)])])]
theorem okf_I (G : rGm) (_ : ∀ i : Nat, G.2.2.2.1 i = .null ∨ ∃ a, G.2.2.2.1 i = .ref a) : ∀ v, isI v = true → narrow .int (rv G v) = rv G v ∧ fits .int (rv G v) = true := fun v h => by
  obtain ⟨a, rfl⟩ := isI_e h
  exact ⟨rfl, rfl⟩
theorem okf_J (G : rGm) (_ : ∀ i : Nat, G.2.2.2.1 i = .null ∨ ∃ a, G.2.2.2.1 i = .ref a) : ∀ v, isJ v = true → narrow .long (rv G v) = rv G v ∧ fits .long (rv G v) = true := fun v h => by
  obtain ⟨a, rfl⟩ := isJ_e h
  exact ⟨rfl, rfl⟩
theorem okf_B (G : rGm) (_ : ∀ i : Nat, G.2.2.2.1 i = .null ∨ ∃ a, G.2.2.2.1 i = .ref a) : ∀ v, isB v = true → narrow .byte (rv G v) = rv G v ∧ fits .byte (rv G v) = true := fun v h => by
  obtain ⟨a, rfl, h2⟩ := isB_e h
  exact ⟨h2, okT_fits G (t := 2) h⟩
theorem okf_Z (G : rGm) (_ : ∀ i : Nat, G.2.2.2.1 i = .null ∨ ∃ a, G.2.2.2.1 i = .ref a) : ∀ v, isZ v = true → narrow .boolean (rv G v) = rv G v ∧ fits .boolean (rv G v) = true := fun v h => by
  obtain ⟨a, rfl, h2, -⟩ := isZ_e h
  exact ⟨h2, okT_fits G (t := 3) h⟩
theorem okf_O (G : rGm) (C : String) (hx : ∀ i : Nat, G.2.2.2.1 i = .null ∨ ∃ a, G.2.2.2.1 i = .ref a) : ∀ v, isR v = true → narrow (.object C) (rv G v) = rv G v ∧ fits (.object C) (rv G v) = true := fun v h => by
  obtain ⟨a, rfl⟩ := isR_e h
  rcases rv_r G hx a with e | ⟨x, e⟩ <;> rw [e] <;> exact ⟨rfl, rfl⟩
theorem okf_A (G : rGm) (t : FieldType) (hx : ∀ i : Nat, G.2.2.2.1 i = .null ∨ ∃ a, G.2.2.2.1 i = .ref a) : ∀ v, isR v = true → narrow (.array t) (rv G v) = rv G v ∧ fits (.array t) (rv G v) = true := fun v h => by
  obtain ⟨a, rfl⟩ := isR_e h
  rcases rv_r G hx a with e | ⟨x, e⟩ <;> rw [e] <;> exact ⟨rfl, rfl⟩
theorem okr_I : ∀ v, isI v = true → ∃ a, v = .inl a ∧ narrow .int (.int (nI a)) = .int (nI a) := fun v h => by
  obtain ⟨a, rfl⟩ := isI_e h
  exact ⟨a, rfl, rfl⟩
theorem okr_Z : ∀ v, isZ v = true → ∃ a, v = .inl a ∧ narrow .boolean (.int (nI a)) = .int (nI a) := fun v h => by
  obtain ⟨a, rfl, h2, -⟩ := isZ_e h
  exact ⟨a, rfl, h2⟩
theorem okr_B : ∀ v, isB v = true → ∃ a, v = .inl a ∧ narrow .byte (.int (nI a)) = .int (nI a) := fun v h => isB_e h
theorem okr_C : ∀ v, isC v = true → ∃ a, v = .inl a ∧ narrow .char (.int (nI a)) = .int (nI a) := fun v h => by
  rcases v with a | a | a
  · have g1 : a ≤ 65535 := Nat.ble_eq.mp h
    refine ⟨a, rfl, ?_⟩
    exact (pk_charN (by omega)).1
  · cases h
  · cases h
