/-! THE WORDS THAT THE REACHED METHODS NEED -/
set_option maxRecDepth 100000 in
def rBase : List Cond := [Cond.code ⟨"java/lang/Object", "<init>", "()V"⟩ object_method_1_code 1 (Option.none : Option FieldType),
  Cond.methodLink "NativeWorks$Names" 3 ⟨"java/lang/Object", "<init>", "()V"⟩,
  Cond.instanceMethod ⟨"java/lang/Object", "<init>", "()V"⟩,
  Cond.arrayClass FieldType.byte,
  Cond.fieldLink "NativeWorks$Names" 9 "NativeWorks$Names" "letters" "[B",
  Cond.arrayClass FieldType.int,
  Cond.fieldLink "NativeWorks$Names" 15 "NativeWorks$Names" "from" "[I",
  Cond.fieldLink "NativeWorks$Names" 19 "NativeWorks$Names" "olde\x72" "[I",
  Cond.fieldLink "NativeWorks$Names" 22 "NativeWorks$Names" "slot" "[I",
  Cond.fieldLink "NativeWorks$Names" 25 "NativeWorks$Names" "newest" "[I",
  Cond.code ⟨"java/util/Arrays", "fill", "([II)V"⟩ prog_38_method_103_code 4 (Option.none : Option FieldType),
  Cond.methodLink "NativeWorks$Names" 28 ⟨"java/util/Arrays", "fill", "([II)V"⟩,
  Cond.static ⟨"java/util/Arrays", "fill", "([II)V"⟩,
  Cond.initialized "java/util/Arrays",
  Cond.fieldLink "NativeWorks$Names" 34 "NativeWorks$Names" "count" "I",
  Cond.methodLink "NativeWorks$Units" 3 ⟨"java/lang/Object", "<init>", "()V"⟩,
  Cond.classLink "NativeWorks$Units" 9 "NativeWorks$Names",
  Cond.instantiable "NativeWorks$Names" 6,
  Cond.initialized "NativeWorks$Names",
  Cond.constant "NativeWorks$Units" 13 129024,
  Cond.code ⟨"NativeWorks$Names", "<init>", "(II)V"⟩ prog_9_method_1_code 3 (Option.none : Option FieldType),
  Cond.methodLink "NativeWorks$Units" 14 ⟨"NativeWorks$Names", "<init>", "(II)V"⟩,
  Cond.instanceMethod ⟨"NativeWorks$Names", "<init>", "(II)V"⟩,
  Cond.fieldLink "NativeWorks$Units" 17 "NativeWorks$Units" "names" "LNativeWorks$Names;",
  Cond.classLink "NativeWorks$Units" 21 "[[I",
  Cond.fieldLink "NativeWorks$Units" 23 "NativeWorks$Units" "symbols" "[[I",
  Cond.arrayClass FieldType.long,
  Cond.fieldLink "NativeWorks$Units" 26 "NativeWorks$Units" "constants" "[J",
  Cond.fieldLink "NativeWorks$Units" 30 "NativeWorks$Units" "labels" "[I",
  Cond.fieldLink "NativeWorks$Units" 34 "NativeWorks$Units" "statements" "[[I",
  Cond.fieldLink "NativeWorks$Units" 37 "NativeWorks$Units" "waits" "[[I",
  Cond.fieldLink "NativeWorks$Units" 40 "NativeWorks$Units" "waitNumbers" "[J",
  Cond.constant "NativeWorks$Units" 43 131072,
  Cond.fieldLink "NativeWorks$Units" 44 "NativeWorks$Units" "put" "[B",
  Cond.fieldLink "NativeWorks$Units" 48 "NativeWorks$Units" "bytes" "[B",
  Cond.fieldLink "NativeWorks$Units" 51 "NativeWorks$Units" "rows" "[[I",
  Cond.fieldLink "NativeWorks$Units" 54 "NativeWorks$Units" "ends" "[I",
  Cond.fieldLink "java/lang/String" 38 "java/lang/String" "COMPACT_STRINGS" "Z",
  Cond.fieldLink "java/lang/String" 15 "java/lang/String" "code\x72" "B",
  Cond.fieldLink "java/lang/String" 9 "java/lang/String" "value" "[B",
  Cond.code ⟨"java/lang/String", "code\x72", "()B"⟩ prog_30_method_152_code 1 (Option.some FieldType.byte),
  Cond.methodLink "java/lang/String" 335 ⟨"java/lang/String", "code\x72", "()B"⟩,
  Cond.instanceMethod ⟨"java/lang/String", "code\x72", "()B"⟩,
  Cond.selects "java/lang/String" ⟨"java/lang/String", "code\x72", "()B"⟩ ⟨"java/lang/String", "code\x72", "()B"⟩,
  Cond.initialized "java/lang/String",
  Cond.fieldLink "java/lang/String" 1053 "jdk/internal/util/Preconditions" "SIOOBE_FORMATTER" "Ljava/util/function/BiFunction;",
  Cond.code ⟨"jdk/internal/util/Preconditions", "checkIndex", "(IILjava/util/function/BiFunction;)I"⟩ prog_41_method_11_code 3 (Option.some FieldType.int),
  Cond.methodLink "java/lang/String" 1059 ⟨"jdk/internal/util/Preconditions", "checkIndex", "(IILjava/util/function/BiFunction;)I"⟩,
  Cond.static ⟨"jdk/internal/util/Preconditions", "checkIndex", "(IILjava/util/function/BiFunction;)I"⟩,
  Cond.initialized "jdk/internal/util/Preconditions",
  Cond.code ⟨"java/lang/String", "checkIndex", "(II)V"⟩ prog_30_method_155_code 2 (Option.none : Option FieldType),
  Cond.methodLink "java/lang/StringLatin1" 9 ⟨"java/lang/String", "checkIndex", "(II)V"⟩,
  Cond.static ⟨"java/lang/String", "checkIndex", "(II)V"⟩,
  Cond.code ⟨"java/lang/String", "isLatin1", "()Z"⟩ prog_30_method_154_code 1 (Option.some FieldType.boolean),
  Cond.methodLink "java/lang/String" 492 ⟨"java/lang/String", "isLatin1", "()Z"⟩,
  Cond.instanceMethod ⟨"java/lang/String", "isLatin1", "()Z"⟩,
  Cond.selects "java/lang/String" ⟨"java/lang/String", "isLatin1", "()Z"⟩ ⟨"java/lang/String", "isLatin1", "()Z"⟩,
  Cond.code ⟨"java/lang/StringLatin1", "charAt", "([BI)C"⟩ prog_32_method_2_code 2 (Option.some FieldType.char),
  Cond.methodLink "java/lang/String" 495 ⟨"java/lang/StringLatin1", "charAt", "([BI)C"⟩,
  Cond.static ⟨"java/lang/StringLatin1", "charAt", "([BI)C"⟩,
  Cond.initialized "java/lang/StringLatin1",
  Cond.methodLink "NativeWorks$Names" 38 ⟨"java/lang/System", "arraycopy", "(Ljava/lang/Object;ILjava/lang/Object;II)V"⟩,
  Cond.native ⟨"java/lang/System", "arraycopy", "(Ljava/lang/Object;ILjava/lang/Object;II)V"⟩,
  Cond.static ⟨"java/lang/System", "arraycopy", "(Ljava/lang/Object;ILjava/lang/Object;II)V"⟩,
  Cond.initialized "java/lang/System",
  Cond.code ⟨"java/lang/String", "length", "()I"⟩ prog_30_method_54_code 1 (Option.some FieldType.int),
  Cond.methodLink "NativeWorks$Line" 76 ⟨"java/lang/String", "length", "()I"⟩,
  Cond.instanceMethod ⟨"java/lang/String", "length", "()I"⟩,
  Cond.selects "java/lang/String" ⟨"java/lang/String", "length", "()I"⟩ ⟨"java/lang/String", "length", "()I"⟩,
  Cond.fieldLink "NativeWorks$Line" 11 "NativeWorks$Line" "text" "[B",
  Cond.code ⟨"java/lang/String", "charAt", "(I)C"⟩ prog_30_method_56_code 2 (Option.some FieldType.char),
  Cond.methodLink "NativeWorks$Line" 82 ⟨"java/lang/String", "charAt", "(I)C"⟩,
  Cond.instanceMethod ⟨"java/lang/String", "charAt", "(I)C"⟩,
  Cond.selects "java/lang/String" ⟨"java/lang/String", "charAt", "(I)C"⟩ ⟨"java/lang/String", "charAt", "(I)C"⟩,
  Cond.fieldLink "NativeWorks$Line" 20 "NativeWorks$Line" "words" "LNativeWorks$Names;",
  Cond.code ⟨"NativeWorks$Names", "add", "([BII)I"⟩ prog_9_method_3_code 6 (Option.some FieldType.int),
  Cond.methodLink "NativeWorks$Line" 86 ⟨"NativeWorks$Names", "add", "([BII)I"⟩,
  Cond.instanceMethod ⟨"NativeWorks$Names", "add", "([BII)I"⟩,
  Cond.selects "NativeWorks$Names" ⟨"NativeWorks$Names", "add", "([BII)I"⟩ ⟨"NativeWorks$Names", "add", "([BII)I"⟩,
  Cond.methodLink "NativeWorks$Line" 3 ⟨"java/lang/Object", "<init>", "()V"⟩,
  Cond.classLink "NativeWorks$Line" 15 "NativeWorks$Names",
  Cond.methodLink "NativeWorks$Line" 17 ⟨"NativeWorks$Names", "<init>", "(II)V"⟩,
  Cond.fieldLink "NativeWorks$Line" 24 "NativeWorks$Line" "kind" "[I",
  Cond.fieldLink "NativeWorks$Line" 28 "NativeWorks$Line" "value" "[J",
  Cond.fieldLink "NativeWorks$Line" 32 "NativeWorks$Line" "from" "[I",
  Cond.fieldLink "NativeWorks$Line" 35 "NativeWorks$Line" "to" "[I",
  Cond.code ⟨"NativeWorks$Line", "teach", "(Ljava/lang/String;)V"⟩ prog_5_method_2_code 4 (Option.none : Option FieldType),
  Cond.methodLink "NativeWorks$Line" 40 ⟨"NativeWorks$Line", "teach", "(Ljava/lang/String;)V"⟩,
  Cond.instanceMethod ⟨"NativeWorks$Line", "teach", "(Ljava/lang/String;)V"⟩,
  Cond.selects "NativeWorks$Line" ⟨"NativeWorks$Line", "teach", "(Ljava/lang/String;)V"⟩ ⟨"NativeWorks$Line", "teach", "(Ljava/lang/String;)V"⟩,
  Cond.initialized "NativeWorks$Line",
  Cond.methodLink "NativeWorks$Source" 3 ⟨"java/lang/Object", "<init>", "()V"⟩,
  Cond.fieldLink "NativeWorks$Source" 9 "NativeWorks$Source" "bytes" "[B",
  Cond.fieldLink "NativeWorks$Source" 15 "NativeWorks$Source" "words" "LNativeWorks$Names;",
  Cond.constant "NativeWorks$Source" 19 65538,
  Cond.fieldLink "NativeWorks$Source" 20 "NativeWorks$Source" "lineAt" "[I",
  Cond.constant "NativeWorks$Source" 24 65537,
  Cond.fieldLink "NativeWorks$Source" 25 "NativeWorks$Source" "sorts" "[B",
  Cond.fieldLink "NativeWorks$Source" 28 "NativeWorks$Source" "ifEnds" "[I",
  Cond.fieldLink "NativeWorks$Source" 31 "NativeWorks$Source" "elses" "[I",
  Cond.fieldLink "NativeWorks$Source" 34 "NativeWorks$Source" "reptEnds" "[I",
  Cond.classLink "NativeWorks$Source" 37 "NativeWorks$Names",
  Cond.constant "NativeWorks$Source" 39 65536,
  Cond.methodLink "NativeWorks$Source" 40 ⟨"NativeWorks$Names", "<init>", "(II)V"⟩,
  Cond.fieldLink "NativeWorks$Source" 43 "NativeWorks$Source" "macros" "LNativeWorks$Names;",
  Cond.fieldLink "NativeWorks$Source" 46 "NativeWorks$Source" "bodyFrom" "[I",
  Cond.fieldLink "NativeWorks$Source" 49 "NativeWorks$Source" "bodyTo" "[I",
  Cond.fieldLink "NativeWorks$Source" 52 "NativeWorks$Source" "firstParamete\x72" "[I",
  Cond.constant "NativeWorks$Source" 55 32768,
  Cond.fieldLink "NativeWorks$Source" 56 "NativeWorks$Source" "parameterFrom" "[I",
  Cond.fieldLink "NativeWorks$Source" 59 "NativeWorks$Source" "parameterTo" "[I",
  Cond.fieldLink "NativeWorks$Source" 62 "NativeWorks$Source" "lines" "I",
  Cond.methodLink "NativeWorks$Reade\x72" 3 ⟨"java/lang/Object", "<init>", "()V"⟩,
  Cond.fieldLink "NativeWorks$Reade\x72" 9 "NativeWorks$Reade\x72" "source" "LNativeWorks$Source;",
  Cond.fieldLink "NativeWorks$Reade\x72" 15 "NativeWorks$Reade\x72" "line" "LNativeWorks$Line;",
  Cond.fieldLink "NativeWorks$Reade\x72" 19 "NativeWorks$Reade\x72" "first" "[I",
  Cond.fieldLink "NativeWorks$Reade\x72" 23 "NativeWorks$Reade\x72" "end" "[I",
  Cond.fieldLink "NativeWorks$Reade\x72" 26 "NativeWorks$Reade\x72" "next" "[I",
  Cond.fieldLink "NativeWorks$Reade\x72" 29 "NativeWorks$Reade\x72" "left" "[I",
  Cond.fieldLink "NativeWorks$Reade\x72" 32 "NativeWorks$Reade\x72" "make\x72" "[I",
  Cond.fieldLink "NativeWorks$Reade\x72" 35 "NativeWorks$Reade\x72" "ifsBelow" "[I",
  Cond.fieldLink "NativeWorks$Reade\x72" 38 "NativeWorks$Reade\x72" "macro" "[I",
  Cond.fieldLink "NativeWorks$Reade\x72" 41 "NativeWorks$Reade\x72" "made" "[I",
  Cond.fieldLink "NativeWorks$Reade\x72" 46 "NativeWorks$Reade\x72" "arguments" "[B",
  Cond.fieldLink "NativeWorks$Reade\x72" 50 "NativeWorks$Reade\x72" "argumentFrom" "[I",
  Cond.fieldLink "NativeWorks$Reade\x72" 53 "NativeWorks$Reade\x72" "argumentTo" "[I",
  Cond.arrayClass FieldType.boolean,
  Cond.fieldLink "NativeWorks$Reade\x72" 56 "NativeWorks$Reade\x72" "elseRead" "[Z",
  Cond.methodLink "NativeWorks$Expression" 3 ⟨"java/lang/Object", "<init>", "()V"⟩,
  Cond.fieldLink "NativeWorks$Expression" 9 "NativeWorks$Expression" "line" "LNativeWorks$Line;",
  Cond.fieldLink "NativeWorks$Expression" 15 "NativeWorks$Expression" "units" "LNativeWorks$Units;",
  Cond.fieldLink "NativeWorks$Expression" 21 "NativeWorks$Expression" "numbe\x72" "[J",
  Cond.fieldLink "NativeWorks$Expression" 25 "NativeWorks$Expression" "plus" "[I",
  Cond.fieldLink "NativeWorks$Expression" 29 "NativeWorks$Expression" "minus" "[I",
  Cond.fieldLink "NativeWorks$Expression" 32 "NativeWorks$Expression" "signs" "[I",
  Cond.fieldLink "NativeWorks$Expression" 35 "NativeWorks$Expression" "name" "[B",
  Cond.fieldLink "NativeWorks$Expression" 39 "NativeWorks$Expression" "latest" "[B",
  Cond.fieldLink "NativeWorks$Instruction" 18 "NativeWorks$Instruction" "rows" "[I",
  Cond.fieldLink "NativeWorks$Instruction" 53 "NativeWorks$Instruction" "L_AT" "[I",
  Cond.code ⟨"NativeWorks$Instruction", "isConditional", "(I)Z"⟩ prog_4_method_3_code 1 (Option.some FieldType.boolean),
  Cond.methodLink "NativeWorks$Instruction" 56 ⟨"NativeWorks$Instruction", "isConditional", "(I)Z"⟩,
  Cond.static ⟨"NativeWorks$Instruction", "isConditional", "(I)Z"⟩,
  Cond.initialized "NativeWorks$Instruction",
  Cond.fieldLink "NativeWorks$Instruction" 24 "NativeWorks$Instruction" "rowAt" "[I",
  Cond.methodLink "NativeWorks$Instruction" 3 ⟨"java/lang/Object", "<init>", "()V"⟩,
  Cond.fieldLink "NativeWorks$Instruction" 9 "NativeWorks$Instruction" "ARITHMETIC" "[I",
  Cond.fieldLink "NativeWorks$Instruction" 15 "NativeWorks$Instruction" "TABLE" "[I",
  Cond.fieldLink "NativeWorks$Instruction" 21 "NativeWorks$Instruction" "firstRow" "[I",
  Cond.fieldLink "NativeWorks$Instruction" 27 "NativeWorks$Instruction" "kind" "[I",
  Cond.fieldLink "NativeWorks$Instruction" 30 "NativeWorks$Instruction" "reg" "[I",
  Cond.fieldLink "NativeWorks$Instruction" 33 "NativeWorks$Instruction" "bytes" "[B",
  Cond.methodLink "NativeWorks$Instruction" 37 ⟨"java/util/Arrays", "fill", "([II)V"⟩,
  Cond.methodLink "NativeWorks$Instruction" 43 ⟨"java/lang/System", "arraycopy", "(Ljava/lang/Object;ILjava/lang/Object;II)V"⟩,
  Cond.code ⟨"NativeWorks$Instruction", "ente\x72", "(I)V"⟩ prog_4_method_2_code 8 (Option.none : Option FieldType),
  Cond.methodLink "NativeWorks$Instruction" 49 ⟨"NativeWorks$Instruction", "ente\x72", "(I)V"⟩,
  Cond.instanceMethod ⟨"NativeWorks$Instruction", "ente\x72", "(I)V"⟩,
  Cond.selects "NativeWorks$Instruction" ⟨"NativeWorks$Instruction", "ente\x72", "(I)V"⟩ ⟨"NativeWorks$Instruction", "ente\x72", "(I)V"⟩,
  Cond.methodLink "NativeWorks$Assemble\x72" 3 ⟨"java/lang/Object", "<init>", "()V"⟩,
  Cond.classLink "NativeWorks$Assemble\x72" 9 "NativeWorks$Line",
  Cond.instantiable "NativeWorks$Line" 10,
  Cond.code ⟨"NativeWorks$Line", "<init>", "()V"⟩ prog_5_method_1_code 1 (Option.none : Option FieldType),
  Cond.methodLink "NativeWorks$Assemble\x72" 11 ⟨"NativeWorks$Line", "<init>", "()V"⟩,
  Cond.instanceMethod ⟨"NativeWorks$Line", "<init>", "()V"⟩,
  Cond.fieldLink "NativeWorks$Assemble\x72" 12 "NativeWorks$Assemble\x72" "line" "LNativeWorks$Line;",
  Cond.fieldLink "NativeWorks$Assemble\x72" 18 "NativeWorks$Assemble\x72" "units" "LNativeWorks$Units;",
  Cond.classLink "NativeWorks$Assemble\x72" 22 "NativeWorks$Reade\x72",
  Cond.instantiable "NativeWorks$Reade\x72" 20,
  Cond.initialized "NativeWorks$Reade\x72",
  Cond.classLink "NativeWorks$Assemble\x72" 24 "NativeWorks$Source",
  Cond.instantiable "NativeWorks$Source" 14,
  Cond.initialized "NativeWorks$Source",
  Cond.fieldLink "NativeWorks$Assemble\x72" 26 "NativeWorks$Line" "words" "LNativeWorks$Names;",
  Cond.code ⟨"NativeWorks$Source", "<init>", "([BLNativeWorks$Names;)V"⟩ prog_11_method_1_code 3 (Option.none : Option FieldType),
  Cond.methodLink "NativeWorks$Assemble\x72" 30 ⟨"NativeWorks$Source", "<init>", "([BLNativeWorks$Names;)V"⟩,
  Cond.instanceMethod ⟨"NativeWorks$Source", "<init>", "([BLNativeWorks$Names;)V"⟩,
  Cond.code ⟨"NativeWorks$Reade\x72", "<init>", "(LNativeWorks$Source;LNativeWorks$Line;)V"⟩ prog_10_method_1_code 3 (Option.none : Option FieldType),
  Cond.methodLink "NativeWorks$Assemble\x72" 33 ⟨"NativeWorks$Reade\x72", "<init>", "(LNativeWorks$Source;LNativeWorks$Line;)V"⟩,
  Cond.instanceMethod ⟨"NativeWorks$Reade\x72", "<init>", "(LNativeWorks$Source;LNativeWorks$Line;)V"⟩,
  Cond.fieldLink "NativeWorks$Assemble\x72" 36 "NativeWorks$Assemble\x72" "reade\x72" "LNativeWorks$Reader;",
  Cond.classLink "NativeWorks$Assemble\x72" 40 "NativeWorks$Expression",
  Cond.instantiable "NativeWorks$Expression" 11,
  Cond.initialized "NativeWorks$Expression",
  Cond.code ⟨"NativeWorks$Expression", "<init>", "(LNativeWorks$Line;LNativeWorks$Units;)V"⟩ prog_3_method_1_code 3 (Option.none : Option FieldType),
  Cond.methodLink "NativeWorks$Assemble\x72" 42 ⟨"NativeWorks$Expression", "<init>", "(LNativeWorks$Line;LNativeWorks$Units;)V"⟩,
  Cond.instanceMethod ⟨"NativeWorks$Expression", "<init>", "(LNativeWorks$Line;LNativeWorks$Units;)V"⟩,
  Cond.fieldLink "NativeWorks$Assemble\x72" 45 "NativeWorks$Assemble\x72" "expression" "LNativeWorks$Expression;",
  Cond.classLink "NativeWorks$Assemble\x72" 49 "NativeWorks$Instruction",
  Cond.instantiable "NativeWorks$Instruction" 21,
  Cond.code ⟨"NativeWorks$Instruction", "<init>", "()V"⟩ prog_4_method_1_code 6 (Option.none : Option FieldType),
  Cond.methodLink "NativeWorks$Assemble\x72" 51 ⟨"NativeWorks$Instruction", "<init>", "()V"⟩,
  Cond.instanceMethod ⟨"NativeWorks$Instruction", "<init>", "()V"⟩,
  Cond.fieldLink "NativeWorks$Assemble\x72" 52 "NativeWorks$Assemble\x72" "instruction" "LNativeWorks$Instruction;",
  Cond.fieldLink "NativeWorks$Assemble\x72" 56 "NativeWorks$Assemble\x72" "told" "[I",
  Cond.methodLink "NativeWorks$Linke\x72" 3 ⟨"java/lang/Object", "<init>", "()V"⟩,
  Cond.fieldLink "NativeWorks$Linke\x72" 9 "NativeWorks$Linke\x72" "units" "LNativeWorks$Units;",
  Cond.fieldLink "NativeWorks$Linke\x72" 17 "NativeWorks$Linke\x72" "taken" "[Z",
  Cond.fieldLink "NativeWorks$Linke\x72" 21 "NativeWorks$Linke\x72" "needed" "[Z",
  Cond.fieldLink "NativeWorks$Linke\x72" 24 "NativeWorks$Linke\x72" "places" "[I",
  Cond.fieldLink "NativeWorks$Linke\x72" 28 "NativeWorks$Linke\x72" "stands" "[I",
  Cond.fieldLink "NativeWorks$Linke\x72" 31 "NativeWorks$Linke\x72" "from" "[I",
  Cond.fieldLink "NativeWorks$Linke\x72" 34 "NativeWorks$Linke\x72" "to" "[I",
  Cond.constant "NativeWorks$Linke\x72" 37 131072,
  Cond.fieldLink "NativeWorks$Linke\x72" 38 "NativeWorks$Linke\x72" "bytes" "[B",
  Cond.fieldLink "NativeWorks$Linke\x72" 42 "NativeWorks$Linke\x72" "origins" "[I",
  Cond.classLink "NativeWorks$Linke\x72" 45 "NativeWorks$Names",
  Cond.constant "NativeWorks$Linke\x72" 47 129024,
  Cond.methodLink "NativeWorks$Linke\x72" 48 ⟨"NativeWorks$Names", "<init>", "(II)V"⟩,
  Cond.fieldLink "NativeWorks$Linke\x72" 51 "NativeWorks$Linke\x72" "names" "LNativeWorks$Names;",
  Cond.fieldLink "NativeWorks$Linke\x72" 55 "NativeWorks$Linke\x72" "addresses" "[J",
  Cond.methodLink "NativeWorks$Linke\x72" 59 ⟨"java/util/Arrays", "fill", "([II)V"⟩,
  Cond.methodLink "NativeWorks$Memory" 3 ⟨"java/lang/Object", "<init>", "()V"⟩,
  Cond.constant "NativeWorks$Memory" 13 196608,
  Cond.fieldLink "NativeWorks$Memory" 14 "NativeWorks$Memory" "low" "[B",
  Cond.constant "NativeWorks$Memory" 18 65536,
  Cond.fieldLink "NativeWorks$Memory" 19 "NativeWorks$Memory" "stack" "[B",
  Cond.constant "NativeWorks$Memory" 22 131072,
  Cond.fieldLink "NativeWorks$Memory" 23 "NativeWorks$Memory" "begins" "[Z",
  Cond.fieldLink "NativeWorks$Memory" 27 "NativeWorks$Memory" "loaded" "Z",
  Cond.constantLong "NativeWorks$Memory" 31 4194304,
  Cond.fieldLink "NativeWorks$Memory" 33 "NativeWorks$Memory" "heap" "J",
  Cond.fieldLink "NativeWorks$Memory" 37 "NativeWorks$Memory" "end" "J",
  Cond.methodLink "NativeWorks$Machine" 3 ⟨"java/lang/Object", "<init>", "()V"⟩,
  Cond.classLink "NativeWorks$Machine" 9 "NativeWorks$Memory",
  Cond.instantiable "NativeWorks$Memory" 12,
  Cond.initialized "NativeWorks$Memory",
  Cond.code ⟨"NativeWorks$Memory", "<init>", "()V"⟩ prog_8_method_1_code 1 (Option.none : Option FieldType),
  Cond.methodLink "NativeWorks$Machine" 11 ⟨"NativeWorks$Memory", "<init>", "()V"⟩,
  Cond.instanceMethod ⟨"NativeWorks$Memory", "<init>", "()V"⟩,
  Cond.fieldLink "NativeWorks$Machine" 12 "NativeWorks$Machine" "memory" "LNativeWorks$Memory;",
  Cond.classLink "NativeWorks$Machine" 18 "NativeWorks$Instruction",
  Cond.methodLink "NativeWorks$Machine" 20 ⟨"NativeWorks$Instruction", "<init>", "()V"⟩,
  Cond.fieldLink "NativeWorks$Machine" 21 "NativeWorks$Machine" "it" "LNativeWorks$Instruction;",
  Cond.fieldLink "NativeWorks$Machine" 25 "NativeWorks$Machine" "\x72" "[J",
  Cond.constant "NativeWorks$Machine" 29 65536,
  Cond.fieldLink "NativeWorks$Machine" 30 "NativeWorks$Machine" "input" "[B",
  Cond.fieldLink "NativeWorks$Machine" 34 "NativeWorks$Machine" "output" "[B",
  Cond.fieldLink "NativeWorks$Machine" 37 "NativeWorks$Machine" "stops" "[J",
  Cond.methodLink "NativeWorks" 1 ⟨"java/lang/Object", "<init>", "()V"⟩,
  Cond.constant "NativeWorks" 9 65536,
  Cond.classLink "NativeWorks" 10 "NativeWorks$Units",
  Cond.instantiable "NativeWorks$Units" 19,
  Cond.initialized "NativeWorks$Units",
  Cond.code ⟨"NativeWorks$Units", "<init>", "()V"⟩ prog_12_method_1_code 1 (Option.none : Option FieldType),
  Cond.methodLink "NativeWorks" 12 ⟨"NativeWorks$Units", "<init>", "()V"⟩,
  Cond.instanceMethod ⟨"NativeWorks$Units", "<init>", "()V"⟩,
  Cond.fieldLink "NativeWorks" 13 "NativeWorks" "tape" "[B",
  Cond.fieldLink "NativeWorks" 17 "NativeWorks" "units" "LNativeWorks$Units;",
  Cond.classLink "NativeWorks" 21 "NativeWorks$Assemble\x72",
  Cond.instantiable "NativeWorks$Assemble\x72" 15,
  Cond.initialized "NativeWorks$Assemble\x72",
  Cond.code ⟨"NativeWorks$Assemble\x72", "<init>", "([BLNativeWorks$Units;)V"⟩ prog_2_method_1_code 4 (Option.none : Option FieldType),
  Cond.methodLink "NativeWorks" 23 ⟨"NativeWorks$Assemble\x72", "<init>", "([BLNativeWorks$Units;)V"⟩,
  Cond.instanceMethod ⟨"NativeWorks$Assemble\x72", "<init>", "([BLNativeWorks$Units;)V"⟩,
  Cond.fieldLink "NativeWorks" 26 "NativeWorks" "assemble\x72" "LNativeWorks$Assembler;",
  Cond.classLink "NativeWorks" 30 "NativeWorks$Linke\x72",
  Cond.instantiable "NativeWorks$Linke\x72" 18,
  Cond.initialized "NativeWorks$Linke\x72",
  Cond.code ⟨"NativeWorks$Linke\x72", "<init>", "(LNativeWorks$Units;)V"⟩ prog_6_method_1_code 2 (Option.none : Option FieldType),
  Cond.methodLink "NativeWorks" 32 ⟨"NativeWorks$Linke\x72", "<init>", "(LNativeWorks$Units;)V"⟩,
  Cond.instanceMethod ⟨"NativeWorks$Linke\x72", "<init>", "(LNativeWorks$Units;)V"⟩,
  Cond.fieldLink "NativeWorks" 35 "NativeWorks" "linke\x72" "LNativeWorks$Linker;",
  Cond.classLink "NativeWorks" 39 "NativeWorks$Machine",
  Cond.instantiable "NativeWorks$Machine" 17,
  Cond.initialized "NativeWorks$Machine",
  Cond.code ⟨"NativeWorks$Machine", "<init>", "()V"⟩ prog_7_method_1_code 1 (Option.none : Option FieldType),
  Cond.methodLink "NativeWorks" 41 ⟨"NativeWorks$Machine", "<init>", "()V"⟩,
  Cond.instanceMethod ⟨"NativeWorks$Machine", "<init>", "()V"⟩,
  Cond.fieldLink "NativeWorks" 42 "NativeWorks" "machine" "LNativeWorks$Machine;",
  Cond.fieldLink "NativeWorks" 46 "NativeWorks" "fed" "I",
  Cond.fieldLink "NativeWorks" 50 "NativeWorks" "faultKind" "I",
  Cond.fieldLink "NativeWorks" 53 "NativeWorks" "faultLine" "I",
  Cond.fieldLink "NativeWorks" 56 "NativeWorks" "faultUnit" "I",
  Cond.methodLink "NativeWorksModel$Code" 3 ⟨"java/lang/Object", "<init>", "()V"⟩,
  Cond.fieldLink "NativeWorksModel$Code" 9 "NativeWorksModel$Code" "address" "[I",
  Cond.fieldLink "NativeWorksModel$Code" 15 "NativeWorksModel$Code" "where" "[I",
  Cond.fieldLink "NativeWorksModel$Code" 18 "NativeWorksModel$Code" "shape" "[J",
  Cond.fieldLink "NativeWorksModel$Code" 22 "NativeWorksModel$Code" "displacement" "[J",
  Cond.fieldLink "NativeWorksModel$Code" 25 "NativeWorksModel$Code" "numbe\x72" "[J",
  Cond.code ⟨"jdk/internal/util/Preconditions", "checkFromToIndex", "(IIILjava/util/function/BiFunction;)I"⟩ prog_41_method_12_code 4 (Option.some FieldType.int),
  Cond.methodLink "java/lang/String" 1062 ⟨"jdk/internal/util/Preconditions", "checkFromToIndex", "(IIILjava/util/function/BiFunction;)I"⟩,
  Cond.static ⟨"jdk/internal/util/Preconditions", "checkFromToIndex", "(IIILjava/util/function/BiFunction;)I"⟩,
  Cond.code ⟨"java/util/Arrays", "checkLength", "(II)V"⟩ prog_38_method_131_code 2 (Option.none : Option FieldType),
  Cond.methodLink "java/util/Arrays" 343 ⟨"java/util/Arrays", "checkLength", "(II)V"⟩,
  Cond.static ⟨"java/util/Arrays", "checkLength", "(II)V"⟩,
  Cond.methodLink "java/util/Arrays" 304 ⟨"java/lang/Math", "min", "(II)I"⟩,
  Cond.static ⟨"java/lang/Math", "min", "(II)I"⟩,
  Cond.initialized "java/lang/Math",
  Cond.code ⟨"java/lang/Math", "min", "(II)I"⟩ prog_27_method_69_code 2 (Option.some FieldType.int),
  Cond.methodLink "java/util/Arrays" 150 ⟨"java/lang/System", "arraycopy", "(Ljava/lang/Object;ILjava/lang/Object;II)V"⟩,
  Cond.code ⟨"java/util/Arrays", "copyOfRangeByte", "([BII)[B"⟩ prog_38_method_133_code 5 (Option.some (FieldType.array FieldType.byte)),
  Cond.methodLink "java/util/Arrays" 339 ⟨"java/util/Arrays", "copyOfRangeByte", "([BII)[B"⟩,
  Cond.static ⟨"java/util/Arrays", "copyOfRangeByte", "([BII)[B"⟩,
  Cond.methodLink "java/lang/String" 1 ⟨"java/lang/Object", "<init>", "()V"⟩,
  Cond.classLink "java/lang/StringLatin1" 1 "java/lang/String",
  Cond.instantiable "java/lang/String" 4,
  Cond.code ⟨"java/util/Arrays", "copyOfRange", "([BII)[B"⟩ prog_38_method_132_code 3 (Option.some (FieldType.array FieldType.byte)),
  Cond.methodLink "java/lang/StringLatin1" 232 ⟨"java/util/Arrays", "copyOfRange", "([BII)[B"⟩,
  Cond.static ⟨"java/util/Arrays", "copyOfRange", "([BII)[B"⟩,
  Cond.code ⟨"java/lang/String", "<init>", "([BB)V"⟩ prog_30_method_151_code 3 (Option.none : Option FieldType),
  Cond.methodLink "java/lang/StringLatin1" 112 ⟨"java/lang/String", "<init>", "([BB)V"⟩,
  Cond.instanceMethod ⟨"java/lang/String", "<init>", "([BB)V"⟩,
  Cond.methodLink "java/lang/String" 505 ⟨"java/lang/String", "length", "()I"⟩,
  Cond.code ⟨"java/lang/String", "checkBoundsBeginEnd", "(III)V"⟩ prog_30_method_158_code 3 (Option.none : Option FieldType),
  Cond.methodLink "java/lang/String" 521 ⟨"java/lang/String", "checkBoundsBeginEnd", "(III)V"⟩,
  Cond.static ⟨"java/lang/String", "checkBoundsBeginEnd", "(III)V"⟩,
  Cond.code ⟨"java/lang/StringLatin1", "newString", "([BII)Ljava/lang/String;"⟩ prog_32_method_47_code 3 (Option.some (FieldType.object "java/lang/String")),
  Cond.methodLink "java/lang/String" 685 ⟨"java/lang/StringLatin1", "newString", "([BII)Ljava/lang/String;"⟩,
  Cond.static ⟨"java/lang/StringLatin1", "newString", "([BII)Ljava/lang/String;"⟩,
  Cond.methodLink "NativeWorksModel" 469 ⟨"java/lang/String", "length", "()I"⟩,
  Cond.methodLink "NativeWorksModel" 475 ⟨"java/lang/String", "charAt", "(I)C"⟩,
  Cond.fieldLink "NativeWorksModel" 14 "NativeWorksModel" "wordName" "[J",
  Cond.fieldLink "NativeWorksModel" 483 "NativeWorksModel" "words" "I",
  Cond.code ⟨"NativeWorksModel", "pack", "(Ljava/lang/String;)J"⟩ prog_14_method_2_code 4 (Option.some FieldType.long),
  Cond.methodLink "NativeWorksModel" 419 ⟨"NativeWorksModel", "pack", "(Ljava/lang/String;)J"⟩,
  Cond.static ⟨"NativeWorksModel", "pack", "(Ljava/lang/String;)J"⟩,
  Cond.initialized "NativeWorksModel",
  Cond.fieldLink "NativeWorksModel" 21 "NativeWorksModel" "wordCode" "[I",
  Cond.code ⟨"java/lang/String", "substring", "(II)Ljava/lang/String;"⟩ prog_30_method_92_code 5 (Option.some (FieldType.object "java/lang/String")),
  Cond.methodLink "NativeWorksModel" 479 ⟨"java/lang/String", "substring", "(II)Ljava/lang/String;"⟩,
  Cond.instanceMethod ⟨"java/lang/String", "substring", "(II)Ljava/lang/String;"⟩,
  Cond.selects "java/lang/String" ⟨"java/lang/String", "substring", "(II)Ljava/lang/String;"⟩ ⟨"java/lang/String", "substring", "(II)Ljava/lang/String;"⟩,
  Cond.code ⟨"NativeWorksModel", "word", "(Ljava/lang/String;I)V"⟩ prog_14_method_4_code 3 (Option.none : Option FieldType),
  Cond.methodLink "NativeWorksModel" 370 ⟨"NativeWorksModel", "word", "(Ljava/lang/String;I)V"⟩,
  Cond.instanceMethod ⟨"NativeWorksModel", "word", "(Ljava/lang/String;I)V"⟩,
  Cond.selects "NativeWorksModel" ⟨"NativeWorksModel", "word", "(Ljava/lang/String;I)V"⟩ ⟨"NativeWorksModel", "word", "(Ljava/lang/String;I)V"⟩,
  Cond.methodLink "java/lang/AbstractStringBuilde\x72" 3 ⟨"java/lang/Object", "<init>", "()V"⟩,
  Cond.fieldLink "java/lang/AbstractStringBuilde\x72" 18 "java/lang/String" "COMPACT_STRINGS" "Z",
  Cond.fieldLink "java/lang/AbstractStringBuilde\x72" 15 "java/lang/AbstractStringBuilde\x72" "value" "[B",
  Cond.fieldLink "java/lang/AbstractStringBuilde\x72" 22 "java/lang/AbstractStringBuilde\x72" "code\x72" "B",
  Cond.code ⟨"java/lang/AbstractStringBuilde\x72", "<init>", "(I)V"⟩ prog_17_method_2_code 2 (Option.none : Option FieldType),
  Cond.methodLink "java/lang/StringBuilde\x72" 1 ⟨"java/lang/AbstractStringBuilde\x72", "<init>", "(I)V"⟩,
  Cond.instanceMethod ⟨"java/lang/AbstractStringBuilde\x72", "<init>", "(I)V"⟩,
  Cond.initialized "java/lang/AbstractStringBuilde\x72",
  Cond.methodLink "java/lang/AbstractStringBuilde\x72" 40 ⟨"java/lang/String", "code\x72", "()B"⟩,
  Cond.methodLink "java/lang/String" 212 ⟨"java/lang/System", "arraycopy", "(Ljava/lang/Object;ILjava/lang/Object;II)V"⟩,
  Cond.code ⟨"java/lang/AbstractStringBuilde\x72", "inflateIfNeededFo\x72", "(Ljava/lang/String;)V"⟩ prog_17_method_71_code 2 (Option.none : Option FieldType),
  Cond.methodLink "java/lang/AbstractStringBuilde\x72" 397 ⟨"java/lang/AbstractStringBuilde\x72", "inflateIfNeededFo\x72", "(Ljava/lang/String;)V"⟩,
  Cond.sameMethod "java/lang/AbstractStringBuilde\x72" "java/lang/AbstractStringBuilde\x72" "inflateIfNeededFo\x72" "(Ljava/lang/String;)V",
  Cond.selects "java/lang/StringBuilde\x72" ⟨"java/lang/AbstractStringBuilde\x72", "inflateIfNeededFo\x72", "(Ljava/lang/String;)V"⟩ ⟨"java/lang/AbstractStringBuilde\x72", "inflateIfNeededFo\x72", "(Ljava/lang/String;)V"⟩,
  Cond.instanceMethod ⟨"java/lang/AbstractStringBuilde\x72", "inflateIfNeededFo\x72", "(Ljava/lang/String;)V"⟩,
  Cond.code ⟨"java/lang/String", "getBytes", "([BIB)V"⟩ prog_30_method_147_code 4 (Option.none : Option FieldType),
  Cond.methodLink "java/lang/AbstractStringBuilde\x72" 399 ⟨"java/lang/String", "getBytes", "([BIB)V"⟩,
  Cond.instanceMethod ⟨"java/lang/String", "getBytes", "([BIB)V"⟩,
  Cond.selects "java/lang/String" ⟨"java/lang/String", "getBytes", "([BIB)V"⟩ ⟨"java/lang/String", "getBytes", "([BIB)V"⟩,
  Cond.methodLink "java/lang/AbstractStringBuilde\x72" 32 ⟨"java/lang/String", "length", "()I"⟩,
  Cond.fieldLink "java/lang/AbstractStringBuilde\x72" 79 "java/lang/AbstractStringBuilde\x72" "count" "I",
  Cond.code ⟨"java/lang/AbstractStringBuilde\x72", "ensureCapacityInternal", "(I)V"⟩ prog_17_method_9_code 3 (Option.none : Option FieldType),
  Cond.methodLink "java/lang/AbstractStringBuilde\x72" 100 ⟨"java/lang/AbstractStringBuilde\x72", "ensureCapacityInternal", "(I)V"⟩,
  Cond.sameMethod "java/lang/AbstractStringBuilde\x72" "java/lang/AbstractStringBuilde\x72" "ensureCapacityInternal" "(I)V",
  Cond.selects "java/lang/StringBuilde\x72" ⟨"java/lang/AbstractStringBuilde\x72", "ensureCapacityInternal", "(I)V"⟩ ⟨"java/lang/AbstractStringBuilde\x72", "ensureCapacityInternal", "(I)V"⟩,
  Cond.instanceMethod ⟨"java/lang/AbstractStringBuilde\x72", "ensureCapacityInternal", "(I)V"⟩,
  Cond.code ⟨"java/lang/AbstractStringBuilde\x72", "putStringAt", "(ILjava/lang/String;)V"⟩ prog_17_method_73_code 3 (Option.none : Option FieldType),
  Cond.methodLink "java/lang/AbstractStringBuilde\x72" 208 ⟨"java/lang/AbstractStringBuilde\x72", "putStringAt", "(ILjava/lang/String;)V"⟩,
  Cond.sameMethod "java/lang/AbstractStringBuilde\x72" "java/lang/AbstractStringBuilde\x72" "putStringAt" "(ILjava/lang/String;)V",
  Cond.selects "java/lang/StringBuilde\x72" ⟨"java/lang/AbstractStringBuilde\x72", "putStringAt", "(ILjava/lang/String;)V"⟩ ⟨"java/lang/AbstractStringBuilde\x72", "putStringAt", "(ILjava/lang/String;)V"⟩,
  Cond.instanceMethod ⟨"java/lang/AbstractStringBuilde\x72", "putStringAt", "(ILjava/lang/String;)V"⟩,
  Cond.code ⟨"java/lang/AbstractStringBuilde\x72", "append", "(Ljava/lang/String;)Ljava/lang/AbstractStringBuilder;"⟩ prog_17_method_22_code 3 (Option.some (FieldType.object "java/lang/AbstractStringBuilde\x72")),
  Cond.methodLink "java/lang/StringBuilde\x72" 29 ⟨"java/lang/AbstractStringBuilde\x72", "append", "(Ljava/lang/String;)Ljava/lang/AbstractStringBuilder;"⟩,
  Cond.sameMethod "java/lang/AbstractStringBuilde\x72" "java/lang/AbstractStringBuilde\x72" "append" "(Ljava/lang/String;)Ljava/lang/AbstractStringBuilder;",
  Cond.superclass "java/lang/StringBuilde\x72" "java/lang/AbstractStringBuilde\x72",
  Cond.instanceMethod ⟨"java/lang/AbstractStringBuilde\x72", "append", "(Ljava/lang/String;)Ljava/lang/AbstractStringBuilder;"⟩,
  Cond.code ⟨"java/lang/AbstractStringBuilde\x72", "length", "()I"⟩ prog_17_method_6_code 1 (Option.some FieldType.int),
  Cond.methodLink "java/lang/StringBuilde\x72" 343 ⟨"java/lang/AbstractStringBuilde\x72", "length", "()I"⟩,
  Cond.sameMethod "java/lang/AbstractStringBuilde\x72" "java/lang/AbstractStringBuilde\x72" "length" "()I",
  Cond.instanceMethod ⟨"java/lang/AbstractStringBuilde\x72", "length", "()I"⟩,
  Cond.code ⟨"java/lang/AbstractStringBuilde\x72", "getValue", "()[B"⟩ prog_17_method_64_code 1 (Option.some (FieldType.array FieldType.byte)),
  Cond.methodLink "java/lang/String" 552 ⟨"java/lang/AbstractStringBuilde\x72", "getValue", "()[B"⟩,
  Cond.sameMethod "java/lang/AbstractStringBuilde\x72" "java/lang/AbstractStringBuilde\x72" "getValue" "()[B",
  Cond.selects "java/lang/StringBuilde\x72" ⟨"java/lang/AbstractStringBuilde\x72", "getValue", "()[B"⟩ ⟨"java/lang/AbstractStringBuilde\x72", "getValue", "()[B"⟩,
  Cond.instanceMethod ⟨"java/lang/AbstractStringBuilde\x72", "getValue", "()[B"⟩,
  Cond.code ⟨"java/lang/StringBuilde\x72", "length", "()I"⟩ prog_31_method_93_code 1 (Option.some FieldType.int),
  Cond.methodLink "java/lang/String" 549 ⟨"java/lang/AbstractStringBuilde\x72", "length", "()I"⟩,
  Cond.selects "java/lang/StringBuilde\x72" ⟨"java/lang/AbstractStringBuilde\x72", "length", "()I"⟩ ⟨"java/lang/StringBuilde\x72", "length", "()I"⟩,
  Cond.instanceMethod ⟨"java/lang/StringBuilde\x72", "length", "()I"⟩,
  Cond.initialized "java/lang/StringBuilde\x72",
  Cond.code ⟨"java/lang/AbstractStringBuilde\x72", "isLatin1", "()Z"⟩ prog_17_method_68_code 1 (Option.some FieldType.boolean),
  Cond.methodLink "java/lang/String" 1047 ⟨"java/lang/AbstractStringBuilde\x72", "isLatin1", "()Z"⟩,
  Cond.sameMethod "java/lang/AbstractStringBuilde\x72" "java/lang/AbstractStringBuilde\x72" "isLatin1" "()Z",
  Cond.selects "java/lang/StringBuilde\x72" ⟨"java/lang/AbstractStringBuilde\x72", "isLatin1", "()Z"⟩ ⟨"java/lang/AbstractStringBuilde\x72", "isLatin1", "()Z"⟩,
  Cond.instanceMethod ⟨"java/lang/AbstractStringBuilde\x72", "isLatin1", "()Z"⟩,
  Cond.methodLink "java/lang/String" 54 ⟨"java/util/Arrays", "copyOfRange", "([BII)[B"⟩,
  Cond.code ⟨"java/lang/String", "<init>", "(Ljava/lang/AbstractStringBuilder;Ljava/lang/Void;)V"⟩ prog_30_method_150_code 5 (Option.none : Option FieldType),
  Cond.methodLink "java/lang/String" 489 ⟨"java/lang/String", "<init>", "(Ljava/lang/AbstractStringBuilder;Ljava/lang/Void;)V"⟩,
  Cond.instanceMethod ⟨"java/lang/String", "<init>", "(Ljava/lang/AbstractStringBuilder;Ljava/lang/Void;)V"⟩,
  Cond.classLink "java/lang/StringBuilde\x72" 18 "java/lang/String",
  Cond.code ⟨"java/lang/String", "<init>", "(Ljava/lang/StringBuilder;)V"⟩ prog_30_method_53_code 2 (Option.none : Option FieldType),
  Cond.methodLink "java/lang/StringBuilde\x72" 137 ⟨"java/lang/String", "<init>", "(Ljava/lang/StringBuilder;)V"⟩,
  Cond.instanceMethod ⟨"java/lang/String", "<init>", "(Ljava/lang/StringBuilder;)V"⟩,
  Cond.classLink "NativeWorksModel" 530 "java/lang/StringBuilde\x72",
  Cond.instantiable "java/lang/StringBuilde\x72" 4,
  Cond.code ⟨"java/lang/StringBuilde\x72", "<init>", "()V"⟩ prog_31_method_1_code 1 (Option.none : Option FieldType),
  Cond.methodLink "NativeWorksModel" 532 ⟨"java/lang/StringBuilde\x72", "<init>", "()V"⟩,
  Cond.instanceMethod ⟨"java/lang/StringBuilde\x72", "<init>", "()V"⟩,
  Cond.code ⟨"java/lang/StringBuilde\x72", "append", "(Ljava/lang/String;)Ljava/lang/StringBuilder;"⟩ prog_31_method_7_code 2 (Option.some (FieldType.object "java/lang/StringBuilde\x72")),
  Cond.methodLink "NativeWorksModel" 533 ⟨"java/lang/StringBuilde\x72", "append", "(Ljava/lang/String;)Ljava/lang/StringBuilder;"⟩,
  Cond.instanceMethod ⟨"java/lang/StringBuilde\x72", "append", "(Ljava/lang/String;)Ljava/lang/StringBuilder;"⟩,
  Cond.selects "java/lang/StringBuilde\x72" ⟨"java/lang/StringBuilde\x72", "append", "(Ljava/lang/String;)Ljava/lang/StringBuilder;"⟩ ⟨"java/lang/StringBuilde\x72", "append", "(Ljava/lang/String;)Ljava/lang/StringBuilder;"⟩,
  Cond.code ⟨"java/lang/StringBuilde\x72", "toString", "()Ljava/lang/String;"⟩ prog_31_method_42_code 1 (Option.some (FieldType.object "java/lang/String")),
  Cond.methodLink "NativeWorksModel" 537 ⟨"java/lang/StringBuilde\x72", "toString", "()Ljava/lang/String;"⟩,
  Cond.instanceMethod ⟨"java/lang/StringBuilde\x72", "toString", "()Ljava/lang/String;"⟩,
  Cond.selects "java/lang/StringBuilde\x72" ⟨"java/lang/StringBuilde\x72", "toString", "()Ljava/lang/String;"⟩ ⟨"java/lang/StringBuilde\x72", "toString", "()Ljava/lang/String;"⟩,
  Cond.classLink "NativeWorksModel" 470 "java/lang/String",
  Cond.code ⟨"NativeWorksModel", "joined", "(Ljava/lang/String;Ljava/lang/String;)Ljava/lang/String;"⟩ prog_14_method_6_code 2 (Option.some (FieldType.object "java/lang/String")),
  Cond.methodLink "NativeWorksModel" 526 ⟨"NativeWorksModel", "joined", "(Ljava/lang/String;Ljava/lang/String;)Ljava/lang/String;"⟩,
  Cond.static ⟨"NativeWorksModel", "joined", "(Ljava/lang/String;Ljava/lang/String;)Ljava/lang/String;"⟩,
  Cond.fieldLink "NativeWorksModel" 18 "NativeWorksModel" "registerName" "[J",
  Cond.fieldLink "NativeWorksModel" 605 "NativeWorksModel" "registers" "I",
  Cond.fieldLink "NativeWorksModel" 25 "NativeWorksModel" "registerCode" "[I",
  Cond.fieldLink "java/lang/Intege\x72" 83 "java/lang/Intege\x72" "DigitOnes" "[B",
  Cond.fieldLink "java/lang/Intege\x72" 87 "java/lang/Intege\x72" "DigitTens" "[B",
  Cond.code ⟨"java/lang/Intege\x72", "stringSize", "(I)I"⟩ prog_25_method_13_code 4 (Option.some FieldType.int),
  Cond.methodLink "java/lang/AbstractStringBuilde\x72" 245 ⟨"java/lang/Intege\x72", "stringSize", "(I)I"⟩,
  Cond.static ⟨"java/lang/Intege\x72", "stringSize", "(I)I"⟩,
  Cond.initialized "java/lang/Intege\x72",
  Cond.methodLink "java/lang/AbstractStringBuilde\x72" 83 ⟨"java/lang/AbstractStringBuilde\x72", "isLatin1", "()Z"⟩,
  Cond.code ⟨"java/lang/Intege\x72", "getChars", "(II[B)I"⟩ prog_25_method_12_code 7 (Option.some FieldType.int),
  Cond.methodLink "java/lang/AbstractStringBuilde\x72" 248 ⟨"java/lang/Intege\x72", "getChars", "(II[B)I"⟩,
  Cond.static ⟨"java/lang/Intege\x72", "getChars", "(II[B)I"⟩,
  Cond.code ⟨"java/lang/AbstractStringBuilde\x72", "append", "(I)Ljava/lang/AbstractStringBuilder;"⟩ prog_17_method_32_code 4 (Option.some (FieldType.object "java/lang/AbstractStringBuilde\x72")),
  Cond.methodLink "java/lang/StringBuilde\x72" 53 ⟨"java/lang/AbstractStringBuilde\x72", "append", "(I)Ljava/lang/AbstractStringBuilder;"⟩,
  Cond.sameMethod "java/lang/AbstractStringBuilde\x72" "java/lang/AbstractStringBuilde\x72" "append" "(I)Ljava/lang/AbstractStringBuilder;",
  Cond.instanceMethod ⟨"java/lang/AbstractStringBuilde\x72", "append", "(I)Ljava/lang/AbstractStringBuilder;"⟩,
  Cond.code ⟨"java/lang/StringBuilde\x72", "append", "(I)Ljava/lang/StringBuilder;"⟩ prog_31_method_15_code 2 (Option.some (FieldType.object "java/lang/StringBuilde\x72")),
  Cond.methodLink "NativeWorksModel" 543 ⟨"java/lang/StringBuilde\x72", "append", "(I)Ljava/lang/StringBuilder;"⟩,
  Cond.instanceMethod ⟨"java/lang/StringBuilde\x72", "append", "(I)Ljava/lang/StringBuilder;"⟩,
  Cond.selects "java/lang/StringBuilde\x72" ⟨"java/lang/StringBuilde\x72", "append", "(I)Ljava/lang/StringBuilder;"⟩ ⟨"java/lang/StringBuilde\x72", "append", "(I)Ljava/lang/StringBuilder;"⟩,
  Cond.code ⟨"NativeWorksModel", "registerNamed", "(Ljava/lang/String;I)V"⟩ prog_14_method_9_code 3 (Option.none : Option FieldType),
  Cond.methodLink "NativeWorksModel" 594 ⟨"NativeWorksModel", "registerNamed", "(Ljava/lang/String;I)V"⟩,
  Cond.instanceMethod ⟨"NativeWorksModel", "registerNamed", "(Ljava/lang/String;I)V"⟩,
  Cond.selects "NativeWorksModel" ⟨"NativeWorksModel", "registerNamed", "(Ljava/lang/String;I)V"⟩ ⟨"NativeWorksModel", "registerNamed", "(Ljava/lang/String;I)V"⟩,
  Cond.code ⟨"NativeWorksModel", "numbered", "(ILjava/lang/String;)Ljava/lang/String;"⟩ prog_14_method_7_code 2 (Option.some (FieldType.object "java/lang/String")),
  Cond.methodLink "NativeWorksModel" 599 ⟨"NativeWorksModel", "numbered", "(ILjava/lang/String;)Ljava/lang/String;"⟩,
  Cond.static ⟨"NativeWorksModel", "numbered", "(ILjava/lang/String;)Ljava/lang/String;"⟩,
  Cond.fieldLink "NativeWorksModel" 258 "NativeWorksModel" "rowOp" "[I",
  Cond.fieldLink "NativeWorksModel" 1075 "NativeWorksModel" "rows" "I",
  Cond.fieldLink "NativeWorksModel" 261 "NativeWorksModel" "rowSizes" "[I",
  Cond.fieldLink "NativeWorksModel" 264 "NativeWorksModel" "rowPattern" "[I",
  Cond.fieldLink "NativeWorksModel" 267 "NativeWorksModel" "rowLead" "[I",
  Cond.fieldLink "NativeWorksModel" 270 "NativeWorksModel" "rowCode" "[I",
  Cond.fieldLink "NativeWorksModel" 273 "NativeWorksModel" "rowTell" "[I",
  Cond.fieldLink "NativeWorksModel" 276 "NativeWorksModel" "rowNumbe\x72" "[I",
  Cond.code ⟨"NativeWorksModel", "row", "(IIIIIII)V"⟩ prog_14_method_102_code 8 (Option.none : Option FieldType),
  Cond.methodLink "NativeWorksModel" 1103 ⟨"NativeWorksModel", "row", "(IIIIIII)V"⟩,
  Cond.instanceMethod ⟨"NativeWorksModel", "row", "(IIIIIII)V"⟩,
  Cond.selects "NativeWorksModel" ⟨"NativeWorksModel", "row", "(IIIIIII)V"⟩ ⟨"NativeWorksModel", "row", "(IIIIIII)V"⟩,
  Cond.code ⟨"NativeWorksModel", "fillRest", "()V"⟩ prog_14_method_104_code 2 (Option.none : Option FieldType),
  Cond.methodLink "NativeWorksModel" 1107 ⟨"NativeWorksModel", "fillRest", "()V"⟩,
  Cond.instanceMethod ⟨"NativeWorksModel", "fillRest", "()V"⟩,
  Cond.selects "NativeWorksModel" ⟨"NativeWorksModel", "fillRest", "()V"⟩ ⟨"NativeWorksModel", "fillRest", "()V"⟩,
  Cond.methodLink "NativeWorksModel" 1 ⟨"java/lang/Object", "<init>", "()V"⟩,
  Cond.constant "NativeWorksModel" 9 65536,
  Cond.fieldLink "NativeWorksModel" 10 "NativeWorksModel" "tape" "[B",
  Cond.fieldLink "NativeWorksModel" 28 "NativeWorksModel" "symbolUnit" "[I",
  Cond.fieldLink "NativeWorksModel" 31 "NativeWorksModel" "isLibrary" "[Z",
  Cond.fieldLink "NativeWorksModel" 35 "NativeWorksModel" "firstItem" "[I",
  Cond.fieldLink "NativeWorksModel" 38 "NativeWorksModel" "firstSymbol" "[I",
  Cond.fieldLink "NativeWorksModel" 41 "NativeWorksModel" "firstWait" "[I",
  Cond.fieldLink "NativeWorksModel" 44 "NativeWorksModel" "sectionSize" "[I",
  Cond.fieldLink "NativeWorksModel" 47 "NativeWorksModel" "kept" "[Z",
  Cond.fieldLink "NativeWorksModel" 50 "NativeWorksModel" "faultUnit" "I",
  Cond.constant "NativeWorksModel" 54 129024,
  Cond.fieldLink "NativeWorksModel" 55 "NativeWorksModel" "pool" "[B",
  Cond.fieldLink "NativeWorksModel" 58 "NativeWorksModel" "nameAt" "[I",
  Cond.fieldLink "NativeWorksModel" 61 "NativeWorksModel" "nameLength" "[I",
  Cond.fieldLink "NativeWorksModel" 64 "NativeWorksModel" "nameSum" "[J",
  Cond.fieldLink "NativeWorksModel" 67 "NativeWorksModel" "labelItem" "[I",
  Cond.fieldLink "NativeWorksModel" 70 "NativeWorksModel" "isConstant" "[Z",
  Cond.fieldLink "NativeWorksModel" 73 "NativeWorksModel" "isUsed" "[Z",
  Cond.fieldLink "NativeWorksModel" 76 "NativeWorksModel" "isGlobal" "[Z",
  Cond.fieldLink "NativeWorksModel" 79 "NativeWorksModel" "isWeak" "[Z",
  Cond.fieldLink "NativeWorksModel" 82 "NativeWorksModel" "constant" "[J",
  Cond.fieldLink "NativeWorksModel" 85 "NativeWorksModel" "itemKind" "[B",
  Cond.fieldLink "NativeWorksModel" 88 "NativeWorksModel" "itemSection" "[B",
  Cond.fieldLink "NativeWorksModel" 91 "NativeWorksModel" "itemLine" "[I",
  Cond.fieldLink "NativeWorksModel" 94 "NativeWorksModel" "itemSize" "[I",
  Cond.fieldLink "NativeWorksModel" 97 "NativeWorksModel" "itemOffset" "[I",
  Cond.fieldLink "NativeWorksModel" 100 "NativeWorksModel" "itemData" "[I",
  Cond.fieldLink "NativeWorksModel" 103 "NativeWorksModel" "itemShape" "[J",
  Cond.fieldLink "NativeWorksModel" 106 "NativeWorksModel" "itemDisplacement" "[I",
  Cond.fieldLink "NativeWorksModel" 109 "NativeWorksModel" "itemNumbe\x72" "[J",
  Cond.constant "NativeWorksModel" 112 132172,
  Cond.fieldLink "NativeWorksModel" 113 "NativeWorksModel" "data" "[B",
  Cond.fieldLink "NativeWorksModel" 116 "NativeWorksModel" "waitItem" "[I",
  Cond.fieldLink "NativeWorksModel" 119 "NativeWorksModel" "waitAt" "[I",
  Cond.fieldLink "NativeWorksModel" 122 "NativeWorksModel" "waitPlus" "[I",
  Cond.fieldLink "NativeWorksModel" 125 "NativeWorksModel" "waitMinus" "[I",
  Cond.fieldLink "NativeWorksModel" 128 "NativeWorksModel" "waitSize" "[B",
  Cond.fieldLink "NativeWorksModel" 131 "NativeWorksModel" "waitWhat" "[B",
  Cond.fieldLink "NativeWorksModel" 134 "NativeWorksModel" "waitConstant" "[J",
  Cond.fieldLink "NativeWorksModel" 137 "NativeWorksModel" "line" "[B",
  Cond.fieldLink "NativeWorksModel" 140 "NativeWorksModel" "frameKind" "[I",
  Cond.fieldLink "NativeWorksModel" 143 "NativeWorksModel" "frameStop" "[I",
  Cond.fieldLink "NativeWorksModel" 146 "NativeWorksModel" "frameStopLine" "[I",
  Cond.fieldLink "NativeWorksModel" 149 "NativeWorksModel" "frameBody" "[I",
  Cond.fieldLink "NativeWorksModel" 152 "NativeWorksModel" "frameBodyLine" "[I",
  Cond.fieldLink "NativeWorksModel" 155 "NativeWorksModel" "frameLeft" "[I",
  Cond.fieldLink "NativeWorksModel" 158 "NativeWorksModel" "frameOwn" "[I",
  Cond.fieldLink "NativeWorksModel" 161 "NativeWorksModel" "frameMacro" "[I",
  Cond.fieldLink "NativeWorksModel" 164 "NativeWorksModel" "frameNumbe\x72" "[I",
  Cond.fieldLink "NativeWorksModel" 167 "NativeWorksModel" "frameElse" "[Z",
  Cond.classLink "NativeWorksModel" 170 "[[B",
  Cond.fieldLink "NativeWorksModel" 172 "NativeWorksModel" "argument" "[[B",
  Cond.classLink "NativeWorksModel" 175 "[[I",
  Cond.fieldLink "NativeWorksModel" 177 "NativeWorksModel" "argumentAt" "[[I",
  Cond.fieldLink "NativeWorksModel" 180 "NativeWorksModel" "arguments" "[I",
  Cond.fieldLink "NativeWorksModel" 183 "NativeWorksModel" "macroName" "[I",
  Cond.fieldLink "NativeWorksModel" 186 "NativeWorksModel" "macroLength" "[I",
  Cond.fieldLink "NativeWorksModel" 189 "NativeWorksModel" "macroParameters" "[I",
  Cond.fieldLink "NativeWorksModel" 192 "NativeWorksModel" "macroBody" "[I",
  Cond.fieldLink "NativeWorksModel" 195 "NativeWorksModel" "macroBodyLine" "[I",
  Cond.fieldLink "NativeWorksModel" 198 "NativeWorksModel" "macroEnd" "[I",
  Cond.fieldLink "NativeWorksModel" 201 "NativeWorksModel" "macroEndLine" "[I",
  Cond.fieldLink "NativeWorksModel" 204 "NativeWorksModel" "token" "[I",
  Cond.fieldLink "NativeWorksModel" 207 "NativeWorksModel" "tokenStart" "[I",
  Cond.fieldLink "NativeWorksModel" 210 "NativeWorksModel" "tokenLength" "[I",
  Cond.fieldLink "NativeWorksModel" 213 "NativeWorksModel" "tokenValue" "[J",
  Cond.fieldLink "NativeWorksModel" 216 "NativeWorksModel" "name" "[B",
  Cond.fieldLink "NativeWorksModel" 219 "NativeWorksModel" "value" "[J",
  Cond.fieldLink "NativeWorksModel" 222 "NativeWorksModel" "plus" "[I",
  Cond.fieldLink "NativeWorksModel" 225 "NativeWorksModel" "minus" "[I",
  Cond.fieldLink "NativeWorksModel" 228 "NativeWorksModel" "operato\x72" "[I",
  Cond.fieldLink "NativeWorksModel" 231 "NativeWorksModel" "piece" "[I",
  Cond.fieldLink "NativeWorksModel" 234 "NativeWorksModel" "spanPlus" "[I",
  Cond.fieldLink "NativeWorksModel" 237 "NativeWorksModel" "spanMinus" "[I",
  Cond.fieldLink "NativeWorksModel" 240 "NativeWorksModel" "spanLine" "[I",
  Cond.fieldLink "NativeWorksModel" 243 "NativeWorksModel" "kind" "[I",
  Cond.fieldLink "NativeWorksModel" 246 "NativeWorksModel" "registe\x72" "[I",
  Cond.fieldLink "NativeWorksModel" 249 "NativeWorksModel" "told" "[I",
  Cond.fieldLink "NativeWorksModel" 252 "NativeWorksModel" "from" "[I",
  Cond.fieldLink "NativeWorksModel" 255 "NativeWorksModel" "to" "[I",
  Cond.fieldLink "NativeWorksModel" 279 "NativeWorksModel" "best" "[B",
  Cond.fieldLink "NativeWorksModel" 282 "NativeWorksModel" "trial" "[B",
  Cond.fieldLink "NativeWorksModel" 285 "NativeWorksModel" "termRegiste\x72" "[I",
  Cond.fieldLink "NativeWorksModel" 288 "NativeWorksModel" "termScale" "[I",
  Cond.classLink "NativeWorksModel" 291 "NativeWorksModel$Code",
  Cond.instantiable "NativeWorksModel$Code" 13,
  Cond.initialized "NativeWorksModel$Code",
  Cond.code ⟨"NativeWorksModel$Code", "<init>", "()V"⟩ prog_15_method_1_code 1 (Option.none : Option FieldType),
  Cond.instanceMethod ⟨"NativeWorksModel$Code", "<init>", "()V"⟩,
  Cond.fieldLink "NativeWorksModel" 294 "NativeWorksModel" "image" "LNativeWorksModel$Code;",
  Cond.fieldLink "NativeWorksModel" 298 "NativeWorksModel" "code" "LNativeWorksModel$Code;",
  Cond.constant "NativeWorksModel" 301 131072,
  Cond.fieldLink "NativeWorksModel" 302 "NativeWorksModel" "imageBytes" "[B",
  Cond.fieldLink "NativeWorksModel" 305 "NativeWorksModel" "taken" "[Z",
  Cond.fieldLink "NativeWorksModel" 308 "NativeWorksModel" "needed" "[Z",
  Cond.fieldLink "NativeWorksModel" 311 "NativeWorksModel" "addressOf" "[I",
  Cond.fieldLink "NativeWorksModel" 314 "NativeWorksModel" "imagePool" "[B",
  Cond.fieldLink "NativeWorksModel" 317 "NativeWorksModel" "imageNameAt" "[I",
  Cond.fieldLink "NativeWorksModel" 320 "NativeWorksModel" "imageNameLength" "[I",
  Cond.fieldLink "NativeWorksModel" 323 "NativeWorksModel" "imageNameAddress" "[I",
  Cond.fieldLink "NativeWorksModel" 326 "NativeWorksModel" "memory" "[B",
  Cond.fieldLink "NativeWorksModel" 329 "NativeWorksModel" "heap" "[B",
  Cond.fieldLink "NativeWorksModel" 332 "NativeWorksModel" "stack" "[B",
  Cond.fieldLink "NativeWorksModel" 335 "NativeWorksModel" "given" "[B",
  Cond.fieldLink "NativeWorksModel" 338 "NativeWorksModel" "shown" "[B",
  Cond.fieldLink "NativeWorksModel" 341 "NativeWorksModel" "registers0" "[J",
  Cond.fieldLink "NativeWorksModel" 344 "NativeWorksModel" "kept0" "[J",
  Cond.fieldLink "NativeWorksModel" 347 "NativeWorksModel" "places" "[J",
  Cond.code ⟨"NativeWorksModel", "wordsOf", "(Ljava/lang/String;I)V"⟩ prog_14_method_3_code 6 (Option.none : Option FieldType),
  Cond.methodLink "NativeWorksModel" 352 ⟨"NativeWorksModel", "wordsOf", "(Ljava/lang/String;I)V"⟩,
  Cond.instanceMethod ⟨"NativeWorksModel", "wordsOf", "(Ljava/lang/String;I)V"⟩,
  Cond.selects "NativeWorksModel" ⟨"NativeWorksModel", "wordsOf", "(Ljava/lang/String;I)V"⟩ ⟨"NativeWorksModel", "wordsOf", "(Ljava/lang/String;I)V"⟩,
  Cond.code ⟨"NativeWorksModel", "conditions", "(Ljava/lang/String;I)V"⟩ prog_14_method_5_code 5 (Option.none : Option FieldType),
  Cond.methodLink "NativeWorksModel" 360 ⟨"NativeWorksModel", "conditions", "(Ljava/lang/String;I)V"⟩,
  Cond.instanceMethod ⟨"NativeWorksModel", "conditions", "(Ljava/lang/String;I)V"⟩,
  Cond.selects "NativeWorksModel" ⟨"NativeWorksModel", "conditions", "(Ljava/lang/String;I)V"⟩ ⟨"NativeWorksModel", "conditions", "(Ljava/lang/String;I)V"⟩,
  Cond.constant "NativeWorksModel" 369 262181,
  Cond.constant "NativeWorksModel" 375 524325,
  Cond.constant "NativeWorksModel" 378 262182,
  Cond.constant "NativeWorksModel" 381 524326,
  Cond.constant "NativeWorksModel" 386 65586,
  Cond.constant "NativeWorksModel" 389 262194,
  Cond.constant "NativeWorksModel" 392 524338,
  Cond.constant "NativeWorksModel" 395 65587,
  Cond.constant "NativeWorksModel" 398 262195,
  Cond.constant "NativeWorksModel" 401 524339,
  Cond.code ⟨"NativeWorksModel", "registerNames", "()V"⟩ prog_14_method_8_code 5 (Option.none : Option FieldType),
  Cond.methodLink "NativeWorksModel" 414 ⟨"NativeWorksModel", "registerNames", "()V"⟩,
  Cond.instanceMethod ⟨"NativeWorksModel", "registerNames", "()V"⟩,
  Cond.selects "NativeWorksModel" ⟨"NativeWorksModel", "registerNames", "()V"⟩ ⟨"NativeWorksModel", "registerNames", "()V"⟩,
  Cond.fieldLink "NativeWorksModel" 423 "NativeWorksModel" "textWord" "J",
  Cond.fieldLink "NativeWorksModel" 429 "NativeWorksModel" "rodataWord" "J",
  Cond.fieldLink "NativeWorksModel" 433 "NativeWorksModel" "dataWord" "J",
  Cond.fieldLink "NativeWorksModel" 438 "NativeWorksModel" "bssWord" "J",
  Cond.fieldLink "NativeWorksModel" 441 "NativeWorksModel" "byteWord" "J",
  Cond.fieldLink "NativeWorksModel" 444 "NativeWorksModel" "dwordWord" "J",
  Cond.fieldLink "NativeWorksModel" 447 "NativeWorksModel" "qwordWord" "J",
  Cond.fieldLink "NativeWorksModel" 450 "NativeWorksModel" "relWord" "J",
  Cond.fieldLink "NativeWorksModel" 453 "NativeWorksModel" "equWord" "J",
  Cond.fieldLink "NativeWorksModel" 458 "NativeWorksModel" "repWord" "J",
  Cond.fieldLink "NativeWorksModel" 463 "NativeWorksModel" "startWord" "J",
  Cond.code ⟨"NativeWorksModel", "fillTable", "()V"⟩ prog_14_method_103_code 3 (Option.none : Option FieldType),
  Cond.methodLink "NativeWorksModel" 466 ⟨"NativeWorksModel", "fillTable", "()V"⟩,
  Cond.instanceMethod ⟨"NativeWorksModel", "fillTable", "()V"⟩,
  Cond.selects "NativeWorksModel" ⟨"NativeWorksModel", "fillTable", "()V"⟩ ⟨"NativeWorksModel", "fillTable", "()V"⟩,
  Cond.code ⟨"NativeWorks", "append", "(I)V"⟩ prog_1_method_21_code 3 (Option.none : Option FieldType),
  Cond.methodLink "NativeWorks" 59 ⟨"NativeWorks", "append", "(I)V"⟩,
  Cond.instanceMethod ⟨"NativeWorks", "append", "(I)V"⟩,
  Cond.selects "NativeWorks" ⟨"NativeWorks", "append", "(I)V"⟩ ⟨"NativeWorks", "append", "(I)V"⟩,
  Cond.initialized "NativeWorks",
  Cond.methodLink "NativeWorks" 224 ⟨"java/lang/Math", "min", "(II)I"⟩,
  Cond.methodLink "NativeWorks" 230 ⟨"java/lang/Math", "max", "(II)I"⟩,
  Cond.static ⟨"java/lang/Math", "max", "(II)I"⟩,
  Cond.code ⟨"java/lang/Math", "max", "(II)I"⟩ prog_27_method_65_code 2 (Option.some FieldType.int),
  Cond.fieldLink "NativeWorks$Units" 57 "NativeWorks$Units" "count" "I",
  Cond.methodLink "NativeWorks$Units" 77 ⟨"java/util/Arrays", "fill", "([II)V"⟩,
  Cond.fieldLink "NativeWorks$Units" 83 "NativeWorks$Names" "count" "I",
  Cond.fieldLink "NativeWorks$Units" 65 "NativeWorks$Units" "statementCount" "I",
  Cond.fieldLink "NativeWorks$Units" 68 "NativeWorks$Units" "waitCount" "I",
  Cond.fieldLink "NativeWorks$Units" 84 "NativeWorks$Units" "symbolsFrom" "I",
  Cond.fieldLink "NativeWorks$Units" 87 "NativeWorks$Units" "labelCount" "I",
  Cond.fieldLink "NativeWorks$Units" 90 "NativeWorks$Units" "putCount" "I",
  Cond.code ⟨"NativeWorks$Names", "cut", "(I)V"⟩ prog_9_method_4_code 2 (Option.none : Option FieldType),
  Cond.methodLink "NativeWorks$Source" 66 ⟨"NativeWorks$Names", "cut", "(I)V"⟩,
  Cond.instanceMethod ⟨"NativeWorks$Names", "cut", "(I)V"⟩,
  Cond.selects "NativeWorks$Names" ⟨"NativeWorks$Names", "cut", "(I)V"⟩ ⟨"NativeWorks$Names", "cut", "(I)V"⟩,
  Cond.code ⟨"NativeWorks$Source", "match", "()V"⟩ prog_11_method_4_code 5 (Option.none : Option FieldType),
  Cond.methodLink "NativeWorks$Source" 74 ⟨"NativeWorks$Source", "match", "()V"⟩,
  Cond.instanceMethod ⟨"NativeWorks$Source", "match", "()V"⟩,
  Cond.selects "NativeWorks$Source" ⟨"NativeWorks$Source", "match", "()V"⟩ ⟨"NativeWorks$Source", "match", "()V"⟩,
  Cond.code ⟨"NativeWorks$Source", "split", "(I)V"⟩ prog_11_method_2_code 3 (Option.none : Option FieldType),
  Cond.methodLink "NativeWorks$Reade\x72" 60 ⟨"NativeWorks$Source", "split", "(I)V"⟩,
  Cond.instanceMethod ⟨"NativeWorks$Source", "split", "(I)V"⟩,
  Cond.selects "NativeWorks$Source" ⟨"NativeWorks$Source", "split", "(I)V"⟩ ⟨"NativeWorks$Source", "split", "(I)V"⟩,
  Cond.fieldLink "NativeWorks$Reade\x72" 66 "NativeWorks$Reade\x72" "depth" "I",
  Cond.fieldLink "NativeWorks$Reade\x72" 70 "NativeWorks$Source" "lines" "I",
  Cond.fieldLink "NativeWorks$Reade\x72" 73 "NativeWorks$Reade\x72" "ifs" "I",
  Cond.fieldLink "NativeWorks$Reade\x72" 76 "NativeWorks$Reade\x72" "told" "I",
  Cond.fieldLink "NativeWorks$Reade\x72" 79 "NativeWorks$Reade\x72" "read" "I",
  Cond.fieldLink "NativeWorks$Reade\x72" 82 "NativeWorks$Reade\x72" "used" "I",
  Cond.fieldLink "NativeWorks$Reade\x72" 85 "NativeWorks$Reade\x72" "unended" "Z",
  Cond.constant "NativeWorks$Reade\x72" 89 1000000,
  Cond.code ⟨"NativeWorks$Units", "place", "()V"⟩ prog_12_method_17_code 5 (Option.none : Option FieldType),
  Cond.methodLink "NativeWorks$Units" 103 ⟨"NativeWorks$Units", "place", "()V"⟩,
  Cond.instanceMethod ⟨"NativeWorks$Units", "place", "()V"⟩,
  Cond.selects "NativeWorks$Units" ⟨"NativeWorks$Units", "place", "()V"⟩ ⟨"NativeWorks$Units", "place", "()V"⟩,
  Cond.code ⟨"NativeWorks$Units", "lengthen", "()Z"⟩ prog_12_method_18_code 6 (Option.some FieldType.boolean),
  Cond.methodLink "NativeWorks$Units" 106 ⟨"NativeWorks$Units", "lengthen", "()Z"⟩,
  Cond.instanceMethod ⟨"NativeWorks$Units", "lengthen", "()Z"⟩,
  Cond.selects "NativeWorks$Units" ⟨"NativeWorks$Units", "lengthen", "()Z"⟩ ⟨"NativeWorks$Units", "lengthen", "()Z"⟩,
  Cond.code ⟨"NativeWorks$Units", "settleWaits", "()V"⟩ prog_12_method_20_code 4 (Option.none : Option FieldType),
  Cond.methodLink "NativeWorks$Units" 110 ⟨"NativeWorks$Units", "settleWaits", "()V"⟩,
  Cond.instanceMethod ⟨"NativeWorks$Units", "settleWaits", "()V"⟩,
  Cond.selects "NativeWorks$Units" ⟨"NativeWorks$Units", "settleWaits", "()V"⟩ ⟨"NativeWorks$Units", "settleWaits", "()V"⟩,
  Cond.code ⟨"java/util/Arrays", "rangeCheck", "(III)V"⟩ prog_38_method_30_code 3 (Option.none : Option FieldType),
  Cond.methodLink "java/util/Arrays" 13 ⟨"java/util/Arrays", "rangeCheck", "(III)V"⟩,
  Cond.static ⟨"java/util/Arrays", "rangeCheck", "(III)V"⟩,
  Cond.fieldLink "NativeWorks$Units" 71 "NativeWorks$Units" "byteCount" "I",
  Cond.code ⟨"java/util/Arrays", "fill", "([BIIB)V"⟩ prog_38_method_110_code 5 (Option.none : Option FieldType),
  Cond.methodLink "NativeWorks$Units" 125 ⟨"java/util/Arrays", "fill", "([BIIB)V"⟩,
  Cond.static ⟨"java/util/Arrays", "fill", "([BIIB)V"⟩,
  Cond.fieldLink "NativeWorks$Assemble\x72" 122 "NativeWorks$Reade\x72" "source" "LNativeWorks$Source;",
  Cond.fieldLink "NativeWorks$Assemble\x72" 126 "NativeWorks$Source" "lines" "I",
  Cond.fieldLink "NativeWorks$Assemble\x72" 129 "NativeWorks$Reade\x72" "unended" "Z",
  Cond.fieldLink "NativeWorks$Assemble\x72" 133 "NativeWorks$Reade\x72" "ifs" "I",
  Cond.code ⟨"NativeWorks$Units", "brokenSpan", "()I"⟩ prog_12_method_12_code 5 (Option.some FieldType.int),
  Cond.methodLink "NativeWorks$Assemble\x72" 136 ⟨"NativeWorks$Units", "brokenSpan", "()I"⟩,
  Cond.instanceMethod ⟨"NativeWorks$Units", "brokenSpan", "()I"⟩,
  Cond.selects "NativeWorks$Units" ⟨"NativeWorks$Units", "brokenSpan", "()I"⟩ ⟨"NativeWorks$Units", "brokenSpan", "()I"⟩,
  Cond.code ⟨"NativeWorks$Units", "layOut", "()V"⟩ prog_12_method_15_code 3 (Option.none : Option FieldType),
  Cond.methodLink "NativeWorks$Assemble\x72" 139 ⟨"NativeWorks$Units", "layOut", "()V"⟩,
  Cond.instanceMethod ⟨"NativeWorks$Units", "layOut", "()V"⟩,
  Cond.selects "NativeWorks$Units" ⟨"NativeWorks$Units", "layOut", "()V"⟩ ⟨"NativeWorks$Units", "layOut", "()V"⟩,
  Cond.code ⟨"NativeWorks$Units", "overlong", "()I"⟩ prog_12_method_21_code 2 (Option.some FieldType.int),
  Cond.methodLink "NativeWorks$Assemble\x72" 142 ⟨"NativeWorks$Units", "overlong", "()I"⟩,
  Cond.instanceMethod ⟨"NativeWorks$Units", "overlong", "()I"⟩,
  Cond.selects "NativeWorks$Units" ⟨"NativeWorks$Units", "overlong", "()I"⟩ ⟨"NativeWorks$Units", "overlong", "()I"⟩,
  Cond.code ⟨"NativeWorks$Units", "write", "()Z"⟩ prog_12_method_22_code 5 (Option.some FieldType.boolean),
  Cond.methodLink "NativeWorks$Assemble\x72" 145 ⟨"NativeWorks$Units", "write", "()Z"⟩,
  Cond.instanceMethod ⟨"NativeWorks$Units", "write", "()Z"⟩,
  Cond.selects "NativeWorks$Units" ⟨"NativeWorks$Units", "write", "()Z"⟩ ⟨"NativeWorks$Units", "write", "()Z"⟩,
  Cond.code ⟨"NativeWorks$Units", "keepAll", "()V"⟩ prog_12_method_6_code 2 (Option.none : Option FieldType),
  Cond.methodLink "NativeWorks$Assemble\x72" 148 ⟨"NativeWorks$Units", "keepAll", "()V"⟩,
  Cond.instanceMethod ⟨"NativeWorks$Units", "keepAll", "()V"⟩,
  Cond.selects "NativeWorks$Units" ⟨"NativeWorks$Units", "keepAll", "()V"⟩ ⟨"NativeWorks$Units", "keepAll", "()V"⟩,
  Cond.code ⟨"NativeWorks$Units", "begin", "(Z)V"⟩ prog_12_method_4_code 3 (Option.none : Option FieldType),
  Cond.methodLink "NativeWorks$Assemble\x72" 60 ⟨"NativeWorks$Units", "begin", "(Z)V"⟩,
  Cond.instanceMethod ⟨"NativeWorks$Units", "begin", "(Z)V"⟩,
  Cond.selects "NativeWorks$Units" ⟨"NativeWorks$Units", "begin", "(Z)V"⟩ ⟨"NativeWorks$Units", "begin", "(Z)V"⟩,
  Cond.code ⟨"NativeWorks$Reade\x72", "open", "(I)V"⟩ prog_10_method_2_code 2 (Option.none : Option FieldType),
  Cond.methodLink "NativeWorks$Assemble\x72" 66 ⟨"NativeWorks$Reade\x72", "open", "(I)V"⟩,
  Cond.instanceMethod ⟨"NativeWorks$Reade\x72", "open", "(I)V"⟩,
  Cond.selects "NativeWorks$Reade\x72" ⟨"NativeWorks$Reade\x72", "open", "(I)V"⟩ ⟨"NativeWorks$Reade\x72", "open", "(I)V"⟩,
  Cond.fieldLink "NativeWorks$Assemble\x72" 70 "NativeWorks$Expression" "latestLength" "I",
  Cond.fieldLink "NativeWorks$Assemble\x72" 74 "NativeWorks$Assemble\x72" "section" "I",
  Cond.constant "NativeWorks$Assemble\x72" 77 65536,
  Cond.code ⟨"NativeWorks$Reade\x72", "advance", "()Z"⟩ prog_10_method_3_code 2 (Option.some FieldType.boolean),
  Cond.methodLink "NativeWorks$Assemble\x72" 78 ⟨"NativeWorks$Reade\x72", "advance", "()Z"⟩,
  Cond.instanceMethod ⟨"NativeWorks$Reade\x72", "advance", "()Z"⟩,
  Cond.selects "NativeWorks$Reade\x72" ⟨"NativeWorks$Reade\x72", "advance", "()Z"⟩ ⟨"NativeWorks$Reade\x72", "advance", "()Z"⟩,
  Cond.code ⟨"NativeWorks$Assemble\x72", "finish", "()I"⟩ prog_2_method_4_code 4 (Option.some FieldType.int),
  Cond.methodLink "NativeWorks$Assemble\x72" 113 ⟨"NativeWorks$Assemble\x72", "finish", "()I"⟩,
  Cond.instanceMethod ⟨"NativeWorks$Assemble\x72", "finish", "()I"⟩,
  Cond.selects "NativeWorks$Assemble\x72" ⟨"NativeWorks$Assemble\x72", "finish", "()I"⟩ ⟨"NativeWorks$Assemble\x72", "finish", "()I"⟩,
  Cond.code ⟨"NativeWorks", "emptied", "(I)I"⟩ prog_1_method_22_code 3 (Option.some FieldType.int),
  Cond.methodLink "NativeWorks" 63 ⟨"NativeWorks", "emptied", "(I)I"⟩,
  Cond.instanceMethod ⟨"NativeWorks", "emptied", "(I)I"⟩,
  Cond.selects "NativeWorks" ⟨"NativeWorks", "emptied", "(I)I"⟩ ⟨"NativeWorks", "emptied", "(I)I"⟩,
  Cond.fieldLink "NativeWorks" 67 "NativeWorks$Units" "count" "I",
  Cond.code ⟨"NativeWorks$Assemble\x72", "assemble", "(IZ)I"⟩ prog_2_method_2_code 4 (Option.some FieldType.int),
  Cond.methodLink "NativeWorks" 81 ⟨"NativeWorks$Assemble\x72", "assemble", "(IZ)I"⟩,
  Cond.instanceMethod ⟨"NativeWorks$Assemble\x72", "assemble", "(IZ)I"⟩,
  Cond.selects "NativeWorks$Assemble\x72" ⟨"NativeWorks$Assemble\x72", "assemble", "(IZ)I"⟩ ⟨"NativeWorks$Assemble\x72", "assemble", "(IZ)I"⟩,
  Cond.code ⟨"NativeWorks", "tell", "(III)V"⟩ prog_1_method_23_code 4 (Option.none : Option FieldType),
  Cond.methodLink "NativeWorks" 70 ⟨"NativeWorks", "tell", "(III)V"⟩,
  Cond.instanceMethod ⟨"NativeWorks", "tell", "(III)V"⟩,
  Cond.selects "NativeWorks" ⟨"NativeWorks", "tell", "(III)V"⟩ ⟨"NativeWorks", "tell", "(III)V"⟩,
  Cond.methodLink "NativeWorks$Units" 61 ⟨"NativeWorks$Names", "cut", "(I)V"⟩,
  Cond.fieldLink "NativeWorks$Units" 74 "NativeWorks$Units" "counted" "I",
  Cond.code ⟨"NativeWorks$Units", "empty", "()V"⟩ prog_12_method_3_code 1 (Option.none : Option FieldType),
  Cond.methodLink "NativeWorks" 88 ⟨"NativeWorks$Units", "empty", "()V"⟩,
  Cond.instanceMethod ⟨"NativeWorks$Units", "empty", "()V"⟩,
  Cond.selects "NativeWorks$Units" ⟨"NativeWorks$Units", "empty", "()V"⟩ ⟨"NativeWorks$Units", "empty", "()V"⟩,
  Cond.code ⟨"NativeWorks$Units", "has", "(II)Z"⟩ prog_12_method_2_code 3 (Option.some FieldType.boolean),
  Cond.methodLink "NativeWorks" 91 ⟨"NativeWorks$Units", "has", "(II)Z"⟩,
  Cond.instanceMethod ⟨"NativeWorks$Units", "has", "(II)Z"⟩,
  Cond.selects "NativeWorks$Units" ⟨"NativeWorks$Units", "has", "(II)Z"⟩ ⟨"NativeWorks$Units", "has", "(II)Z"⟩,
  Cond.fieldLink "NativeWorks$Linke\x72" 133 "NativeWorks$Linke\x72" "faultKind" "I",
  Cond.fieldLink "NativeWorks$Linke\x72" 136 "NativeWorks$Linke\x72" "faultLine" "I",
  Cond.fieldLink "NativeWorks$Linke\x72" 139 "NativeWorks$Linke\x72" "faultUnit" "I",
  Cond.fieldLink "NativeWorks$Linke\x72" 154 "NativeWorks$Units" "count" "I",
  Cond.code ⟨"NativeWorks$Linke\x72", "tell", "(III)V"⟩ prog_6_method_3_code 4 (Option.none : Option FieldType),
  Cond.methodLink "NativeWorks$Linke\x72" 65 ⟨"NativeWorks$Linke\x72", "tell", "(III)V"⟩,
  Cond.instanceMethod ⟨"NativeWorks$Linke\x72", "tell", "(III)V"⟩,
  Cond.selects "NativeWorks$Linke\x72" ⟨"NativeWorks$Linke\x72", "tell", "(III)V"⟩ ⟨"NativeWorks$Linke\x72", "tell", "(III)V"⟩,
  Cond.code ⟨"NativeWorks$Linke\x72", "takeUnits", "()V"⟩ prog_6_method_9_code 3 (Option.none : Option FieldType),
  Cond.methodLink "NativeWorks$Linke\x72" 69 ⟨"NativeWorks$Linke\x72", "takeUnits", "()V"⟩,
  Cond.instanceMethod ⟨"NativeWorks$Linke\x72", "takeUnits", "()V"⟩,
  Cond.selects "NativeWorks$Linke\x72" ⟨"NativeWorks$Linke\x72", "takeUnits", "()V"⟩ ⟨"NativeWorks$Linke\x72", "takeUnits", "()V"⟩,
  Cond.fieldLink "NativeWorks$Linke\x72" 72 "NativeWorks$Units" "names" "LNativeWorks$Names;",
  Cond.fieldLink "NativeWorks$Linke\x72" 73 "NativeWorks$Linke\x72" "START" "[B",
  Cond.fieldLink "NativeWorks$Linke\x72" 76 "NativeWorks$Names" "count" "I",
  Cond.code ⟨"NativeWorks$Names", "find", "([BIII)I"⟩ prog_9_method_2_code 9 (Option.some FieldType.int),
  Cond.methodLink "NativeWorks$Linke\x72" 80 ⟨"NativeWorks$Names", "find", "([BIII)I"⟩,
  Cond.instanceMethod ⟨"NativeWorks$Names", "find", "([BIII)I"⟩,
  Cond.selects "NativeWorks$Names" ⟨"NativeWorks$Names", "find", "([BIII)I"⟩ ⟨"NativeWorks$Names", "find", "([BIII)I"⟩,
  Cond.code ⟨"NativeWorks$Linke\x72", "make", "()Z"⟩ prog_6_method_2_code 4 (Option.some FieldType.boolean),
  Cond.methodLink "NativeWorks" 102 ⟨"NativeWorks$Linke\x72", "make", "()Z"⟩,
  Cond.instanceMethod ⟨"NativeWorks$Linke\x72", "make", "()Z"⟩,
  Cond.selects "NativeWorks$Linke\x72" ⟨"NativeWorks$Linke\x72", "make", "()Z"⟩ ⟨"NativeWorks$Linke\x72", "make", "()Z"⟩,
  Cond.fieldLink "NativeWorks" 106 "NativeWorks$Linke\x72" "faultKind" "I",
  Cond.fieldLink "NativeWorks" 107 "NativeWorks$Linke\x72" "faultLine" "I",
  Cond.fieldLink "NativeWorks" 108 "NativeWorks$Linke\x72" "faultUnit" "I",
  Cond.classLink "NativeWorks" 109 "java/lang/IllegalStateException",
  Cond.initialized "java/lang/IllegalStateException",
  Cond.fieldLink "NativeWorks" 117 "NativeWorks$Linke\x72" "names" "LNativeWorks$Names;",
  Cond.fieldLink "NativeWorks" 121 "NativeWorks$Names" "count" "I",
  Cond.methodLink "NativeWorks" 124 ⟨"NativeWorks$Names", "find", "([BIII)I"⟩,
  Cond.classLink "NativeWorks" 128 "java/util/NoSuchElementException",
  Cond.initialized "java/util/NoSuchElementException",
  Cond.fieldLink "NativeWorks" 137 "NativeWorks$Linke\x72" "made" "Z",
  Cond.fieldLink "NativeWorks$Machine" 64 "NativeWorks$Machine" "waiting" "I",
  Cond.methodLink "NativeWorks$Machine" 79 ⟨"java/lang/Math", "min", "(II)I"⟩,
  Cond.methodLink "NativeWorks$Machine" 85 ⟨"java/lang/System", "arraycopy", "(Ljava/lang/Object;ILjava/lang/Object;II)V"⟩,
  Cond.code ⟨"NativeWorks$Machine", "take", "([BI)I"⟩ prog_7_method_4_code 4 (Option.some FieldType.int),
  Cond.methodLink "NativeWorks" 150 ⟨"NativeWorks$Machine", "take", "([BI)I"⟩,
  Cond.instanceMethod ⟨"NativeWorks$Machine", "take", "([BI)I"⟩,
  Cond.selects "NativeWorks$Machine" ⟨"NativeWorks$Machine", "take", "([BI)I"⟩ ⟨"NativeWorks$Machine", "take", "([BI)I"⟩,
  Cond.classLink "NativeWorks" 74 "java/lang/IllegalArgumentException",
  Cond.initialized "java/lang/IllegalArgumentException",
  Cond.fieldLink "NativeWorks" 156 "NativeWorks$Machine" "memory" "LNativeWorks$Memory;",
  Cond.fieldLink "NativeWorks" 160 "NativeWorks$Memory" "loaded" "Z",
  Cond.fieldLink "NativeWorks" 165 "NativeWorks$Machine" "stop" "I",
  Cond.fieldLink "NativeWorks" 173 "NativeWorks$Machine" "stopValue" "J",
  Cond.fieldLink "NativeWorks$Machine" 61 "NativeWorks$Machine" "flags" "I",
  Cond.fieldLink "NativeWorks" 177 "NativeWorks$Machine" "\x72" "[J",
  Cond.fieldLink "NativeWorks" 180 "NativeWorks$Machine" "ip" "J",
  Cond.code ⟨"NativeWorks$Machine", "told", "()I"⟩ prog_7_method_3_code 1 (Option.some FieldType.int),
  Cond.methodLink "NativeWorks" 183 ⟨"NativeWorks$Machine", "told", "()I"⟩,
  Cond.instanceMethod ⟨"NativeWorks$Machine", "told", "()I"⟩,
  Cond.selects "NativeWorks$Machine" ⟨"NativeWorks$Machine", "told", "()I"⟩ ⟨"NativeWorks$Machine", "told", "()I"⟩,
  Cond.fieldLink "NativeWorks" 187 "NativeWorks$Memory" "end" "J",
  Cond.fieldLink "NativeWorks" 190 "NativeWorks$Machine" "steps" "I",
  Cond.code ⟨"NativeWorks$Memory", "may", "(JJZ)Z"⟩ prog_8_method_4_code 13 (Option.some FieldType.boolean),
  Cond.methodLink "NativeWorks" 193 ⟨"NativeWorks$Memory", "may", "(JJZ)Z"⟩,
  Cond.instanceMethod ⟨"NativeWorks$Memory", "may", "(JJZ)Z"⟩,
  Cond.selects "NativeWorks$Memory" ⟨"NativeWorks$Memory", "may", "(JJZ)Z"⟩ ⟨"NativeWorks$Memory", "may", "(JJZ)Z"⟩,
  Cond.fieldLink "NativeWorks$Machine" 91 "NativeWorks$Machine" "stopCount" "I",
  Cond.code ⟨"NativeWorks$Machine", "stopPlace", "(J)I"⟩ prog_7_method_5_code 4 (Option.some FieldType.int),
  Cond.methodLink "NativeWorks$Machine" 94 ⟨"NativeWorks$Machine", "stopPlace", "(J)I"⟩,
  Cond.instanceMethod ⟨"NativeWorks$Machine", "stopPlace", "(J)I"⟩,
  Cond.selects "NativeWorks$Machine" ⟨"NativeWorks$Machine", "stopPlace", "(J)I"⟩ ⟨"NativeWorks$Machine", "stopPlace", "(J)I"⟩,
  Cond.code ⟨"NativeWorks$Machine", "addPlace", "(J)Z"⟩ prog_7_method_6_code 3 (Option.some FieldType.boolean),
  Cond.methodLink "NativeWorks" 205 ⟨"NativeWorks$Machine", "addPlace", "(J)Z"⟩,
  Cond.instanceMethod ⟨"NativeWorks$Machine", "addPlace", "(J)Z"⟩,
  Cond.selects "NativeWorks$Machine" ⟨"NativeWorks$Machine", "addPlace", "(J)Z"⟩ ⟨"NativeWorks$Machine", "addPlace", "(J)Z"⟩,
  Cond.code ⟨"NativeWorks$Machine", "dropPlace", "(J)Z"⟩ prog_7_method_7_code 4 (Option.some FieldType.boolean),
  Cond.methodLink "NativeWorks" 209 ⟨"NativeWorks$Machine", "dropPlace", "(J)Z"⟩,
  Cond.instanceMethod ⟨"NativeWorks$Machine", "dropPlace", "(J)Z"⟩,
  Cond.selects "NativeWorks$Machine" ⟨"NativeWorks$Machine", "dropPlace", "(J)Z"⟩ ⟨"NativeWorks$Machine", "dropPlace", "(J)Z"⟩,
  Cond.fieldLink "NativeWorks" 212 "NativeWorks$Machine" "written" "I",
  Cond.constantLong "NativeWorks" 218 4194304,
  Cond.fieldLink "NativeWorks" 220 "NativeWorks$Linke\x72" "origins" "[I",
  Cond.fieldLink "NativeWorksModel" 608 "NativeWorksModel" "thrown" "I",
  Cond.fieldLink "NativeWorksModel" 611 "NativeWorksModel" "taped" "I",
  Cond.fieldLink "NativeWorksModel" 629 "NativeWorksModel" "frames" "I",
  Cond.code ⟨"NativeWorksModel", "reade\x72", "()I"⟩ prog_14_method_26_code 2 (Option.some FieldType.int),
  Cond.methodLink "NativeWorksModel" 672 ⟨"NativeWorksModel", "reade\x72", "()I"⟩,
  Cond.instanceMethod ⟨"NativeWorksModel", "reade\x72", "()I"⟩,
  Cond.selects "NativeWorksModel" ⟨"NativeWorksModel", "reade\x72", "()I"⟩ ⟨"NativeWorksModel", "reade\x72", "()I"⟩,
  Cond.fieldLink "NativeWorksModel" 632 "NativeWorksModel" "bad" "I",
  Cond.fieldLink "NativeWorksModel" 675 "NativeWorksModel" "at" "I",
  Cond.fieldLink "NativeWorksModel" 649 "NativeWorksModel" "sourceEnd" "I",
  Cond.fieldLink "NativeWorksModel" 739 "NativeWorksModel" "unit" "I",
  Cond.fieldLink "NativeWorksModel" 791 "NativeWorksModel" "items" "I",
  Cond.fieldLink "NativeWorksModel" 842 "NativeWorksModel" "waits" "I",
  Cond.code ⟨"NativeWorksModel", "layOut", "()V"⟩ prog_14_method_115_code 9 (Option.none : Option FieldType),
  Cond.methodLink "NativeWorksModel" 1143 ⟨"NativeWorksModel", "layOut", "()V"⟩,
  Cond.instanceMethod ⟨"NativeWorksModel", "layOut", "()V"⟩,
  Cond.selects "NativeWorksModel" ⟨"NativeWorksModel", "layOut", "()V"⟩ ⟨"NativeWorksModel", "layOut", "()V"⟩,
  Cond.fieldLink "NativeWorksModel" 967 "NativeWorksModel" "notEnded" "Z",
  Cond.fieldLink "NativeWorksModel" 848 "NativeWorksModel" "spans" "I",
  Cond.code ⟨"NativeWorksModel", "shorten", "()V"⟩ prog_14_method_118_code 6 (Option.none : Option FieldType),
  Cond.methodLink "NativeWorksModel" 1156 ⟨"NativeWorksModel", "shorten", "()V"⟩,
  Cond.instanceMethod ⟨"NativeWorksModel", "shorten", "()V"⟩,
  Cond.selects "NativeWorksModel" ⟨"NativeWorksModel", "shorten", "()V"⟩ ⟨"NativeWorksModel", "shorten", "()V"⟩,
  Cond.code ⟨"NativeWorksModel", "used", "(I)I"⟩ prog_14_method_13_code 2 (Option.some FieldType.int),
  Cond.methodLink "NativeWorksModel" 1159 ⟨"NativeWorksModel", "used", "(I)I"⟩,
  Cond.instanceMethod ⟨"NativeWorksModel", "used", "(I)I"⟩,
  Cond.selects "NativeWorksModel" ⟨"NativeWorksModel", "used", "(I)I"⟩ ⟨"NativeWorksModel", "used", "(I)I"⟩,
  Cond.fieldLink "NativeWorksModel" 1162 "NativeWorksModel" "units" "I",
  Cond.fieldLink "NativeWorksModel" 742 "NativeWorksModel" "symbols" "I",
  Cond.fieldLink "NativeWorksModel" 751 "NativeWorksModel" "pooled" "I",
  Cond.fieldLink "NativeWorksModel" 785 "NativeWorksModel" "datas" "I",
  Cond.fieldLink "NativeWorksModel" 845 "NativeWorksModel" "plain" "I",
  Cond.fieldLink "NativeWorksModel" 839 "NativeWorksModel" "statements" "I",
  Cond.fieldLink "NativeWorksModel" 626 "NativeWorksModel" "lineNumbe\x72" "I",
  Cond.fieldLink "NativeWorksModel" 851 "NativeWorksModel" "linesRead" "I",
  Cond.fieldLink "NativeWorksModel" 970 "NativeWorksModel" "macrosRead" "I",
  Cond.fieldLink "NativeWorksModel" 763 "NativeWorksModel" "macros" "I",
  Cond.fieldLink "NativeWorksModel" 782 "NativeWorksModel" "section" "I",
  Cond.fieldLink "NativeWorksModel" 736 "NativeWorksModel" "latest" "I",
  Cond.fieldLink "NativeWorksModel" 754 "NativeWorksModel" "full" "Z",
  Cond.code ⟨"NativeWorksModel", "nextLine", "()Z"⟩ prog_14_method_28_code 2 (Option.some FieldType.boolean),
  Cond.methodLink "NativeWorksModel" 1165 ⟨"NativeWorksModel", "nextLine", "()Z"⟩,
  Cond.instanceMethod ⟨"NativeWorksModel", "nextLine", "()Z"⟩,
  Cond.selects "NativeWorksModel" ⟨"NativeWorksModel", "nextLine", "()Z"⟩ ⟨"NativeWorksModel", "nextLine", "()Z"⟩,
  Cond.code ⟨"NativeWorksModel", "finish", "()V"⟩ prog_14_method_120_code 4 (Option.none : Option FieldType),
  Cond.methodLink "NativeWorksModel" 1171 ⟨"NativeWorksModel", "finish", "()V"⟩,
  Cond.instanceMethod ⟨"NativeWorksModel", "finish", "()V"⟩,
  Cond.selects "NativeWorksModel" ⟨"NativeWorksModel", "finish", "()V"⟩ ⟨"NativeWorksModel", "finish", "()V"⟩,
  Cond.fieldLink "NativeWorksModel" 1174 "NativeWorksModel" "faultKind" "I",
  Cond.fieldLink "NativeWorksModel" 1177 "NativeWorksModel" "faultLine" "I",
  Cond.code ⟨"NativeWorksModel", "give", "(II)I"⟩ prog_14_method_10_code 3 (Option.some FieldType.int),
  Cond.methodLink "NativeWorksModel" 1180 ⟨"NativeWorksModel", "give", "(II)I"⟩,
  Cond.instanceMethod ⟨"NativeWorksModel", "give", "(II)I"⟩,
  Cond.selects "NativeWorksModel" ⟨"NativeWorksModel", "give", "(II)I"⟩ ⟨"NativeWorksModel", "give", "(II)I"⟩,
  Cond.fieldLink "NativeWorksModel" 733 "NativeWorksModel" "nameSize" "I",
  Cond.code ⟨"NativeWorksModel", "takeUnits", "()V"⟩ prog_14_method_133_code 3 (Option.none : Option FieldType),
  Cond.methodLink "NativeWorksModel" 1225 ⟨"NativeWorksModel", "takeUnits", "()V"⟩,
  Cond.instanceMethod ⟨"NativeWorksModel", "takeUnits", "()V"⟩,
  Cond.selects "NativeWorksModel" ⟨"NativeWorksModel", "takeUnits", "()V"⟩ ⟨"NativeWorksModel", "takeUnits", "()V"⟩,
  Cond.code ⟨"NativeWorksModel", "startSymbol", "()I"⟩ prog_14_method_143_code 2 (Option.some FieldType.int),
  Cond.methodLink "NativeWorksModel" 1228 ⟨"NativeWorksModel", "startSymbol", "()I"⟩,
  Cond.instanceMethod ⟨"NativeWorksModel", "startSymbol", "()I"⟩,
  Cond.selects "NativeWorksModel" ⟨"NativeWorksModel", "startSymbol", "()I"⟩ ⟨"NativeWorksModel", "startSymbol", "()I"⟩,
  Cond.code ⟨"NativeWorksModel", "linkFault", "(III)V"⟩ prog_14_method_142_code 4 (Option.none : Option FieldType),
  Cond.methodLink "NativeWorksModel" 1222 ⟨"NativeWorksModel", "linkFault", "(III)V"⟩,
  Cond.instanceMethod ⟨"NativeWorksModel", "linkFault", "(III)V"⟩,
  Cond.selects "NativeWorksModel" ⟨"NativeWorksModel", "linkFault", "(III)V"⟩ ⟨"NativeWorksModel", "linkFault", "(III)V"⟩,
  Cond.fieldLink "NativeWorksModel" 1296 "NativeWorksModel" "imageNames" "I",
  Cond.fieldLink "NativeWorksModel" 1248 "NativeWorksModel" "hasImage" "Z",
  Cond.fieldLink "NativeWorksModel" 1472 "NativeWorksModel" "givenSize" "I",
  Cond.fieldLink "NativeWorksModel" 1302 "NativeWorksModel" "loaded" "Z",
  Cond.fieldLink "NativeWorksModel" 1535 "NativeWorksModel" "stopKind" "I",
  Cond.fieldLink "NativeWorksModel" 1538 "NativeWorksModel" "stopValue" "J",
  Cond.constantLong "NativeWorksModel" 973 2,
  Cond.fieldLink "NativeWorksModel" 1381 "NativeWorksModel" "carry" "Z",
  Cond.fieldLink "NativeWorksModel" 1378 "NativeWorksModel" "parity" "Z",
  Cond.fieldLink "NativeWorksModel" 1366 "NativeWorksModel" "zero" "Z",
  Cond.fieldLink "NativeWorksModel" 1372 "NativeWorksModel" "negative" "Z",
  Cond.fieldLink "NativeWorksModel" 1384 "NativeWorksModel" "ove\x72" "Z",
  Cond.constantLong "NativeWorksModel" 1213 4194304,
  Cond.fieldLink "NativeWorksModel" 1444 "NativeWorksModel" "ip" "J",
  Cond.code ⟨"NativeWorksModel", "flags", "()J"⟩ prog_14_method_171_code 1 (Option.some FieldType.long),
  Cond.methodLink "NativeWorksModel" 1469 ⟨"NativeWorksModel", "flags", "()J"⟩,
  Cond.instanceMethod ⟨"NativeWorksModel", "flags", "()J"⟩,
  Cond.selects "NativeWorksModel" ⟨"NativeWorksModel", "flags", "()J"⟩ ⟨"NativeWorksModel", "flags", "()J"⟩,
  Cond.code ⟨"NativeWorksModel", "heapBegin", "()J"⟩ prog_14_method_151_code 1 (Option.some FieldType.long),
  Cond.methodLink "NativeWorksModel" 1305 ⟨"NativeWorksModel", "heapBegin", "()J"⟩,
  Cond.instanceMethod ⟨"NativeWorksModel", "heapBegin", "()J"⟩,
  Cond.selects "NativeWorksModel" ⟨"NativeWorksModel", "heapBegin", "()J"⟩ ⟨"NativeWorksModel", "heapBegin", "()J"⟩,
  Cond.fieldLink "NativeWorksModel" 1309 "NativeWorksModel" "heapSize" "I",
  Cond.fieldLink "NativeWorksModel" 1544 "NativeWorksModel" "stepsDone" "J",
  Cond.code ⟨"NativeWorksModel", "find", "(JZ)I"⟩ prog_14_method_152_code 10 (Option.some FieldType.int),
  Cond.methodLink "NativeWorksModel" 1321 ⟨"NativeWorksModel", "find", "(JZ)I"⟩,
  Cond.instanceMethod ⟨"NativeWorksModel", "find", "(JZ)I"⟩,
  Cond.selects "NativeWorksModel" ⟨"NativeWorksModel", "find", "(JZ)I"⟩ ⟨"NativeWorksModel", "find", "(JZ)I"⟩,
  Cond.fieldLink "NativeWorksModel" 1556 "NativeWorksModel" "placesMany" "I",
  Cond.code ⟨"NativeWorksModel", "isPlace", "(J)Z"⟩ prog_14_method_196_code 4 (Option.some FieldType.boolean),
  Cond.methodLink "NativeWorksModel" 1559 ⟨"NativeWorksModel", "isPlace", "(J)Z"⟩,
  Cond.instanceMethod ⟨"NativeWorksModel", "isPlace", "(J)Z"⟩,
  Cond.selects "NativeWorksModel" ⟨"NativeWorksModel", "isPlace", "(J)Z"⟩ ⟨"NativeWorksModel", "isPlace", "(J)Z"⟩,
  Cond.fieldLink "NativeWorksModel" 1481 "NativeWorksModel" "shownSize" "I",
  Cond.initialized "java/lang/Throwable",
  Cond.superclass "java/lang/Throwable" "java/lang/Object",
  Cond.instanceMethod ⟨"java/lang/Throwable", "fillInStackTrace", "()Ljava/lang/Throwable;"⟩,
  Cond.codeSync ⟨"java/lang/Throwable", "fillInStackTrace", "()Ljava/lang/Throwable;"⟩ prog_35_method_18_code 1 (Option.some (FieldType.object "java/lang/Throwable")),
  Cond.instanceMethod ⟨"java/lang/Throwable", "fillInStackTrace", "(I)Ljava/lang/Throwable;"⟩,
  Cond.native ⟨"java/lang/Throwable", "fillInStackTrace", "(I)Ljava/lang/Throwable;"⟩,
  Cond.instanceMethod ⟨"java/lang/Throwable", "<init>", "()V"⟩,
  Cond.code ⟨"java/lang/Throwable", "<init>", "()V"⟩ prog_35_method_1_code 1 (Option.none : Option FieldType),
  Cond.methodLink "java/lang/Throwable" 1 ⟨"java/lang/Object", "<init>", "()V"⟩,
  Cond.methodLink "java/lang/Throwable" 27 ⟨"java/lang/Throwable", "fillInStackTrace", "()Ljava/lang/Throwable;"⟩,
  Cond.methodLink "java/lang/Throwable" 202 ⟨"java/lang/Throwable", "fillInStackTrace", "(I)Ljava/lang/Throwable;"⟩,
  Cond.fieldLink "java/lang/Throwable" 7 "java/lang/Throwable" "cause" "Ljava/lang/Throwable;",
  Cond.lays "java/lang/Throwable" "java/lang/Throwable" "cause" "Ljava/lang/Throwable;",
  Cond.fieldLink "java/lang/Throwable" 17 "java/lang/Throwable" "stackTrace" "[Ljava/lang/StackTraceElement;",
  Cond.lays "java/lang/Throwable" "java/lang/Throwable" "stackTrace" "[Ljava/lang/StackTraceElement;",
  Cond.fieldLink "java/lang/Throwable" 24 "java/lang/Throwable" "suppressedExceptions" "Ljava/util/List;",
  Cond.lays "java/lang/Throwable" "java/lang/Throwable" "suppressedExceptions" "Ljava/util/List;",
  Cond.fieldLink "java/lang/Throwable" 13 "java/lang/Throwable" "UNASSIGNED_STACK" "[Ljava/lang/StackTraceElement;",
  Cond.fieldLink "java/lang/Throwable" 20 "java/lang/Throwable" "SUPPRESSED_SENTINEL" "Ljava/util/List;",
  Cond.lays "java/lang/Throwable" "java/lang/Throwable" "detailMessage" "Ljava/lang/String;",
  Cond.instanceMethod ⟨"java/lang/Throwable", "<init>", "(Ljava/lang/String;)V"⟩,
  Cond.code ⟨"java/lang/Throwable", "<init>", "(Ljava/lang/String;)V"⟩ prog_35_method_2_code 2 (Option.none : Option FieldType),
  Cond.fieldLink "java/lang/Throwable" 31 "java/lang/Throwable" "detailMessage" "Ljava/lang/String;",
  Cond.instanceMethod ⟨"java/lang/IllegalStateException", "<init>", "(Ljava/lang/String;)V"⟩,
  Cond.code ⟨"java/lang/IllegalStateException", "<init>", "(Ljava/lang/String;)V"⟩ prog_24_method_2_code 2 (Option.none : Option FieldType),
  Cond.methodLink "java/lang/IllegalStateException" 7 ⟨"java/lang/RuntimeException", "<init>", "(Ljava/lang/String;)V"⟩,
  Cond.instanceMethod ⟨"java/lang/RuntimeException", "<init>", "(Ljava/lang/String;)V"⟩,
  Cond.code ⟨"java/lang/RuntimeException", "<init>", "(Ljava/lang/String;)V"⟩ prog_29_method_2_code 2 (Option.none : Option FieldType),
  Cond.methodLink "java/lang/RuntimeException" 7 ⟨"java/lang/Exception", "<init>", "(Ljava/lang/String;)V"⟩,
  Cond.instanceMethod ⟨"java/lang/Exception", "<init>", "(Ljava/lang/String;)V"⟩,
  Cond.code ⟨"java/lang/Exception", "<init>", "(Ljava/lang/String;)V"⟩ prog_22_method_2_code 2 (Option.none : Option FieldType),
  Cond.methodLink "java/lang/Exception" 7 ⟨"java/lang/Throwable", "<init>", "(Ljava/lang/String;)V"⟩,
  Cond.methodLink "NativeWorks" 113 ⟨"java/lang/IllegalStateException", "<init>", "(Ljava/lang/String;)V"⟩,
  Cond.instantiable "java/lang/IllegalStateException" 6,
  Cond.selects "java/lang/IllegalStateException" ⟨"java/lang/Throwable", "fillInStackTrace", "(I)Ljava/lang/Throwable;"⟩ ⟨"java/lang/Throwable", "fillInStackTrace", "(I)Ljava/lang/Throwable;"⟩,
  Cond.selects "java/lang/IllegalStateException" ⟨"java/lang/Throwable", "fillInStackTrace", "()Ljava/lang/Throwable;"⟩ ⟨"java/lang/Throwable", "fillInStackTrace", "()Ljava/lang/Throwable;"⟩,
  Cond.lays "java/lang/IllegalStateException" "java/lang/Throwable" "cause" "Ljava/lang/Throwable;",
  Cond.lays "java/lang/IllegalStateException" "java/lang/Throwable" "stackTrace" "[Ljava/lang/StackTraceElement;",
  Cond.lays "java/lang/IllegalStateException" "java/lang/Throwable" "suppressedExceptions" "Ljava/util/List;",
  Cond.lays "java/lang/IllegalStateException" "java/lang/Throwable" "detailMessage" "Ljava/lang/String;",
  Cond.fieldLink "java/lang/Throwable" 198 "java/lang/Throwable" "backtrace" "Ljava/lang/Object;",
  Cond.lays "java/lang/Throwable" "java/lang/Throwable" "backtrace" "Ljava/lang/Object;",
  Cond.lays "java/lang/IllegalStateException" "java/lang/Throwable" "backtrace" "Ljava/lang/Object;",
  Cond.instanceMethod ⟨"java/util/NoSuchElementException", "<init>", "(Ljava/lang/String;)V"⟩,
  Cond.code ⟨"java/util/NoSuchElementException", "<init>", "(Ljava/lang/String;)V"⟩ prog_39_method_4_code 2 (Option.none : Option FieldType),
  Cond.methodLink "java/util/NoSuchElementException" 13 ⟨"java/lang/RuntimeException", "<init>", "(Ljava/lang/String;)V"⟩,
  Cond.methodLink "NativeWorks" 132 ⟨"java/util/NoSuchElementException", "<init>", "(Ljava/lang/String;)V"⟩,
  Cond.instantiable "java/util/NoSuchElementException" 6,
  Cond.selects "java/util/NoSuchElementException" ⟨"java/lang/Throwable", "fillInStackTrace", "(I)Ljava/lang/Throwable;"⟩ ⟨"java/lang/Throwable", "fillInStackTrace", "(I)Ljava/lang/Throwable;"⟩,
  Cond.selects "java/util/NoSuchElementException" ⟨"java/lang/Throwable", "fillInStackTrace", "()Ljava/lang/Throwable;"⟩ ⟨"java/lang/Throwable", "fillInStackTrace", "()Ljava/lang/Throwable;"⟩,
  Cond.lays "java/util/NoSuchElementException" "java/lang/Throwable" "cause" "Ljava/lang/Throwable;",
  Cond.lays "java/util/NoSuchElementException" "java/lang/Throwable" "stackTrace" "[Ljava/lang/StackTraceElement;",
  Cond.lays "java/util/NoSuchElementException" "java/lang/Throwable" "suppressedExceptions" "Ljava/util/List;",
  Cond.lays "java/util/NoSuchElementException" "java/lang/Throwable" "detailMessage" "Ljava/lang/String;",
  Cond.lays "java/util/NoSuchElementException" "java/lang/Throwable" "backtrace" "Ljava/lang/Object;",
  Cond.instanceMethod ⟨"java/lang/IllegalArgumentException", "<init>", "(Ljava/lang/String;)V"⟩,
  Cond.code ⟨"java/lang/IllegalArgumentException", "<init>", "(Ljava/lang/String;)V"⟩ prog_23_method_2_code 2 (Option.none : Option FieldType),
  Cond.methodLink "java/lang/IllegalArgumentException" 7 ⟨"java/lang/RuntimeException", "<init>", "(Ljava/lang/String;)V"⟩,
  Cond.methodLink "NativeWorks" 78 ⟨"java/lang/IllegalArgumentException", "<init>", "(Ljava/lang/String;)V"⟩,
  Cond.instantiable "java/lang/IllegalArgumentException" 6,
  Cond.selects "java/lang/IllegalArgumentException" ⟨"java/lang/Throwable", "fillInStackTrace", "(I)Ljava/lang/Throwable;"⟩ ⟨"java/lang/Throwable", "fillInStackTrace", "(I)Ljava/lang/Throwable;"⟩,
  Cond.selects "java/lang/IllegalArgumentException" ⟨"java/lang/Throwable", "fillInStackTrace", "()Ljava/lang/Throwable;"⟩ ⟨"java/lang/Throwable", "fillInStackTrace", "()Ljava/lang/Throwable;"⟩,
  Cond.lays "java/lang/IllegalArgumentException" "java/lang/Throwable" "cause" "Ljava/lang/Throwable;",
  Cond.lays "java/lang/IllegalArgumentException" "java/lang/Throwable" "stackTrace" "[Ljava/lang/StackTraceElement;",
  Cond.lays "java/lang/IllegalArgumentException" "java/lang/Throwable" "suppressedExceptions" "Ljava/util/List;",
  Cond.lays "java/lang/IllegalArgumentException" "java/lang/Throwable" "detailMessage" "Ljava/lang/String;",
  Cond.lays "java/lang/IllegalArgumentException" "java/lang/Throwable" "backtrace" "Ljava/lang/Object;",
  Cond.methodLink "NativeWorksLaw" 7 ⟨"NativeWorks", "unit", "(IZ)I"⟩,
  Cond.instanceMethod ⟨"NativeWorks", "unit", "(IZ)I"⟩,
  Cond.code ⟨"NativeWorks", "unit", "(IZ)I"⟩ prog_1_method_3_code 6 (Option.some FieldType.int),
  Cond.selects "NativeWorks" ⟨"NativeWorks", "unit", "(IZ)I"⟩ ⟨"NativeWorks", "unit", "(IZ)I"⟩,
  Cond.methodLink "NativeWorksLaw" 15 ⟨"NativeWorks", "link", "()I"⟩,
  Cond.instanceMethod ⟨"NativeWorks", "link", "()I"⟩,
  Cond.code ⟨"NativeWorks", "link", "()I"⟩ prog_1_method_8_code 2 (Option.some FieldType.int),
  Cond.selects "NativeWorks" ⟨"NativeWorks", "link", "()I"⟩ ⟨"NativeWorks", "link", "()I"⟩,
  Cond.methodLink "NativeWorksLaw" 21 ⟨"NativeWorks", "symbol", "(I)J"⟩,
  Cond.instanceMethod ⟨"NativeWorks", "symbol", "(I)J"⟩,
  Cond.code ⟨"NativeWorks", "symbol", "(I)J"⟩ prog_1_method_9_code 4 (Option.some FieldType.long),
  Cond.selects "NativeWorks" ⟨"NativeWorks", "symbol", "(I)J"⟩ ⟨"NativeWorks", "symbol", "(I)J"⟩,
  Cond.methodLink "NativeWorksLaw" 27 ⟨"NativeWorks", "load", "()J"⟩,
  Cond.instanceMethod ⟨"NativeWorks", "load", "()J"⟩,
  Cond.code ⟨"NativeWorks", "load", "()J"⟩ prog_1_method_10_code 1 (Option.some FieldType.long),
  Cond.selects "NativeWorks" ⟨"NativeWorks", "load", "()J"⟩ ⟨"NativeWorks", "load", "()J"⟩,
  Cond.methodLink "NativeWorksLaw" 31 ⟨"NativeWorks", "run", "(I)I"⟩,
  Cond.instanceMethod ⟨"NativeWorks", "run", "(I)I"⟩,
  Cond.code ⟨"NativeWorks", "run", "(I)I"⟩ prog_1_method_12_code 2 (Option.some FieldType.int),
  Cond.selects "NativeWorks" ⟨"NativeWorks", "run", "(I)I"⟩ ⟨"NativeWorks", "run", "(I)I"⟩,
  Cond.classLink "NativeWorksLaw" 8 "NativeWorks",
  Cond.instantiable "NativeWorks" 9,
  Cond.methodLink "NativeWorksLaw" 35 ⟨"NativeWorks", "<init>", "()V"⟩,
  Cond.instanceMethod ⟨"NativeWorks", "<init>", "()V"⟩,
  Cond.code ⟨"NativeWorks", "<init>", "()V"⟩ prog_1_method_1_code 3 (Option.none : Option FieldType),
  Cond.classLink "NativeWorksLaw" 36 "NativeWorksModel",
  Cond.instantiable "NativeWorksModel" 205,
  Cond.methodLink "NativeWorksLaw" 38 ⟨"NativeWorksModel", "<init>", "()V"⟩,
  Cond.instanceMethod ⟨"NativeWorksModel", "<init>", "()V"⟩,
  Cond.code ⟨"NativeWorksModel", "<init>", "()V"⟩ prog_14_method_1_code 2 (Option.none : Option FieldType),
  Cond.methodLink "NativeWorksLaw" 39 ⟨"NativeWorks", "feed", "(IIIII)I"⟩,
  Cond.instanceMethod ⟨"NativeWorks", "feed", "(IIIII)I"⟩,
  Cond.code ⟨"NativeWorks", "feed", "(IIIII)I"⟩ prog_1_method_2_code 6 (Option.some FieldType.int),
  Cond.selects "NativeWorks" ⟨"NativeWorks", "feed", "(IIIII)I"⟩ ⟨"NativeWorks", "feed", "(IIIII)I"⟩,
  Cond.methodLink "NativeWorksLaw" 43 ⟨"NativeWorksModel", "feed", "(IIIII)I"⟩,
  Cond.instanceMethod ⟨"NativeWorksModel", "feed", "(IIIII)I"⟩,
  Cond.code ⟨"NativeWorksModel", "feed", "(IIIII)I"⟩ prog_14_method_12_code 8 (Option.some FieldType.int),
  Cond.selects "NativeWorksModel" ⟨"NativeWorksModel", "feed", "(IIIII)I"⟩ ⟨"NativeWorksModel", "feed", "(IIIII)I"⟩,
  Cond.methodLink "NativeWorksLaw" 44 ⟨"NativeWorksLaw", "unit", "(LNativeWorks;IZ[J)I"⟩,
  Cond.static ⟨"NativeWorksLaw", "unit", "(LNativeWorks;IZ[J)I"⟩,
  Cond.initialized "NativeWorksLaw",
  Cond.codeWith ⟨"NativeWorksLaw", "unit", "(LNativeWorks;IZ[J)I"⟩ method_3_code 5 (Option.some FieldType.int) [(0, 10, 13, 13)],
  Cond.methodLink "NativeWorksLaw" 49 ⟨"NativeWorksModel", "unit", "(IZ)I"⟩,
  Cond.instanceMethod ⟨"NativeWorksModel", "unit", "(IZ)I"⟩,
  Cond.code ⟨"NativeWorksModel", "unit", "(IZ)I"⟩ prog_14_method_121_code 11 (Option.some FieldType.int),
  Cond.selects "NativeWorksModel" ⟨"NativeWorksModel", "unit", "(IZ)I"⟩ ⟨"NativeWorksModel", "unit", "(IZ)I"⟩,
  Cond.methodLink "NativeWorksLaw" 50 ⟨"NativeWorks", "clea\x72", "()V"⟩,
  Cond.instanceMethod ⟨"NativeWorks", "clea\x72", "()V"⟩,
  Cond.code ⟨"NativeWorks", "clea\x72", "()V"⟩ prog_1_method_4_code 1 (Option.none : Option FieldType),
  Cond.selects "NativeWorks" ⟨"NativeWorks", "clea\x72", "()V"⟩ ⟨"NativeWorks", "clea\x72", "()V"⟩,
  Cond.methodLink "NativeWorksLaw" 53 ⟨"NativeWorksModel", "clea\x72", "()V"⟩,
  Cond.instanceMethod ⟨"NativeWorksModel", "clea\x72", "()V"⟩,
  Cond.code ⟨"NativeWorksModel", "clea\x72", "()V"⟩ prog_14_method_122_code 1 (Option.none : Option FieldType),
  Cond.selects "NativeWorksModel" ⟨"NativeWorksModel", "clea\x72", "()V"⟩ ⟨"NativeWorksModel", "clea\x72", "()V"⟩,
  Cond.methodLink "NativeWorksLaw" 54 ⟨"NativeWorks", "fault", "(I)I"⟩,
  Cond.instanceMethod ⟨"NativeWorks", "fault", "(I)I"⟩,
  Cond.code ⟨"NativeWorks", "fault", "(I)I"⟩ prog_1_method_5_code 2 (Option.some FieldType.int),
  Cond.selects "NativeWorks" ⟨"NativeWorks", "fault", "(I)I"⟩ ⟨"NativeWorks", "fault", "(I)I"⟩,
  Cond.methodLink "NativeWorksLaw" 57 ⟨"NativeWorksModel", "fault", "(I)I"⟩,
  Cond.instanceMethod ⟨"NativeWorksModel", "fault", "(I)I"⟩,
  Cond.code ⟨"NativeWorksModel", "fault", "(I)I"⟩ prog_14_method_123_code 2 (Option.some FieldType.int),
  Cond.selects "NativeWorksModel" ⟨"NativeWorksModel", "fault", "(I)I"⟩ ⟨"NativeWorksModel", "fault", "(I)I"⟩,
  Cond.methodLink "NativeWorksLaw" 58 ⟨"NativeWorks", "size", "(II)I"⟩,
  Cond.instanceMethod ⟨"NativeWorks", "size", "(II)I"⟩,
  Cond.code ⟨"NativeWorks", "size", "(II)I"⟩ prog_1_method_6_code 3 (Option.some FieldType.int),
  Cond.selects "NativeWorks" ⟨"NativeWorks", "size", "(II)I"⟩ ⟨"NativeWorks", "size", "(II)I"⟩,
  Cond.methodLink "NativeWorksLaw" 62 ⟨"NativeWorksModel", "size", "(II)I"⟩,
  Cond.instanceMethod ⟨"NativeWorksModel", "size", "(II)I"⟩,
  Cond.code ⟨"NativeWorksModel", "size", "(II)I"⟩ prog_14_method_124_code 3 (Option.some FieldType.int),
  Cond.selects "NativeWorksModel" ⟨"NativeWorksModel", "size", "(II)I"⟩ ⟨"NativeWorksModel", "size", "(II)I"⟩,
  Cond.methodLink "NativeWorksLaw" 63 ⟨"NativeWorks", "octet", "(III)I"⟩,
  Cond.instanceMethod ⟨"NativeWorks", "octet", "(III)I"⟩,
  Cond.code ⟨"NativeWorks", "octet", "(III)I"⟩ prog_1_method_7_code 4 (Option.some FieldType.int),
  Cond.selects "NativeWorks" ⟨"NativeWorks", "octet", "(III)I"⟩ ⟨"NativeWorks", "octet", "(III)I"⟩,
  Cond.methodLink "NativeWorksLaw" 67 ⟨"NativeWorksModel", "octet", "(III)I"⟩,
  Cond.instanceMethod ⟨"NativeWorksModel", "octet", "(III)I"⟩,
  Cond.code ⟨"NativeWorksModel", "octet", "(III)I"⟩ prog_14_method_126_code 5 (Option.some FieldType.int),
  Cond.selects "NativeWorksModel" ⟨"NativeWorksModel", "octet", "(III)I"⟩ ⟨"NativeWorksModel", "octet", "(III)I"⟩,
  Cond.methodLink "NativeWorksLaw" 68 ⟨"NativeWorksLaw", "link", "(LNativeWorks;[J)I"⟩,
  Cond.static ⟨"NativeWorksLaw", "link", "(LNativeWorks;[J)I"⟩,
  Cond.codeWith ⟨"NativeWorksLaw", "link", "(LNativeWorks;[J)I"⟩ method_4_code 3 (Option.some FieldType.int) [(0, 8, 11, 19)],
  Cond.methodLink "NativeWorksLaw" 71 ⟨"NativeWorksModel", "link", "()I"⟩,
  Cond.instanceMethod ⟨"NativeWorksModel", "link", "()I"⟩,
  Cond.code ⟨"NativeWorksModel", "link", "()I"⟩ prog_14_method_145_code 9 (Option.some FieldType.int),
  Cond.selects "NativeWorksModel" ⟨"NativeWorksModel", "link", "()I"⟩ ⟨"NativeWorksModel", "link", "()I"⟩,
  Cond.methodLink "NativeWorksLaw" 72 ⟨"NativeWorksLaw", "symbol", "(LNativeWorks;I[J)I"⟩,
  Cond.static ⟨"NativeWorksLaw", "symbol", "(LNativeWorks;I[J)I"⟩,
  Cond.codeWith ⟨"NativeWorksLaw", "symbol", "(LNativeWorks;I[J)I"⟩ method_5_code 4 (Option.some FieldType.int) [(0, 8, 11, 25)],
  Cond.methodLink "NativeWorksLaw" 75 ⟨"NativeWorksModel", "symbol", "(I)J"⟩,
  Cond.instanceMethod ⟨"NativeWorksModel", "symbol", "(I)J"⟩,
  Cond.code ⟨"NativeWorksModel", "symbol", "(I)J"⟩ prog_14_method_149_code 6 (Option.some FieldType.long),
  Cond.selects "NativeWorksModel" ⟨"NativeWorksModel", "symbol", "(I)J"⟩ ⟨"NativeWorksModel", "symbol", "(I)J"⟩,
  Cond.methodLink "NativeWorksLaw" 76 ⟨"NativeWorksLaw", "load", "(LNativeWorks;[J)I"⟩,
  Cond.static ⟨"NativeWorksLaw", "load", "(LNativeWorks;[J)I"⟩,
  Cond.codeWith ⟨"NativeWorksLaw", "load", "(LNativeWorks;[J)I"⟩ method_6_code 3 (Option.some FieldType.int) [(0, 7, 10, 19)],
  Cond.methodLink "NativeWorksLaw" 78 ⟨"NativeWorksModel", "load", "()J"⟩,
  Cond.instanceMethod ⟨"NativeWorksModel", "load", "()J"⟩,
  Cond.code ⟨"NativeWorksModel", "load", "()J"⟩ prog_14_method_194_code 2 (Option.some FieldType.long),
  Cond.selects "NativeWorksModel" ⟨"NativeWorksModel", "load", "()J"⟩ ⟨"NativeWorksModel", "load", "()J"⟩,
  Cond.methodLink "NativeWorksLaw" 79 ⟨"NativeWorks", "input", "(I)I"⟩,
  Cond.instanceMethod ⟨"NativeWorks", "input", "(I)I"⟩,
  Cond.code ⟨"NativeWorks", "input", "(I)I"⟩ prog_1_method_11_code 2 (Option.some FieldType.int),
  Cond.selects "NativeWorks" ⟨"NativeWorks", "input", "(I)I"⟩ ⟨"NativeWorks", "input", "(I)I"⟩,
  Cond.methodLink "NativeWorksLaw" 82 ⟨"NativeWorksModel", "input", "(I)I"⟩,
  Cond.instanceMethod ⟨"NativeWorksModel", "input", "(I)I"⟩,
  Cond.code ⟨"NativeWorksModel", "input", "(I)I"⟩ prog_14_method_195_code 4 (Option.some FieldType.int),
  Cond.selects "NativeWorksModel" ⟨"NativeWorksModel", "input", "(I)I"⟩ ⟨"NativeWorksModel", "input", "(I)I"⟩,
  Cond.methodLink "NativeWorksLaw" 83 ⟨"NativeWorksLaw", "run", "(LNativeWorks;I[J)I"⟩,
  Cond.static ⟨"NativeWorksLaw", "run", "(LNativeWorks;I[J)I"⟩,
  Cond.codeWith ⟨"NativeWorksLaw", "run", "(LNativeWorks;I[J)I"⟩ method_7_code 4 (Option.some FieldType.int) [(0, 9, 12, 13), (0, 9, 15, 19)],
  Cond.methodLink "NativeWorksLaw" 85 ⟨"NativeWorksModel", "run", "(I)I"⟩,
  Cond.instanceMethod ⟨"NativeWorksModel", "run", "(I)I"⟩,
  Cond.code ⟨"NativeWorksModel", "run", "(I)I"⟩ prog_14_method_197_code 3 (Option.some FieldType.int),
  Cond.selects "NativeWorksModel" ⟨"NativeWorksModel", "run", "(I)I"⟩ ⟨"NativeWorksModel", "run", "(I)I"⟩,
  Cond.methodLink "NativeWorksLaw" 86 ⟨"NativeWorks", "stop", "(I)J"⟩,
  Cond.instanceMethod ⟨"NativeWorks", "stop", "(I)J"⟩,
  Cond.code ⟨"NativeWorks", "stop", "(I)J"⟩ prog_1_method_13_code 2 (Option.some FieldType.long),
  Cond.selects "NativeWorks" ⟨"NativeWorks", "stop", "(I)J"⟩ ⟨"NativeWorks", "stop", "(I)J"⟩,
  Cond.methodLink "NativeWorksLaw" 89 ⟨"NativeWorksModel", "stop", "(I)J"⟩,
  Cond.instanceMethod ⟨"NativeWorksModel", "stop", "(I)J"⟩,
  Cond.code ⟨"NativeWorksModel", "stop", "(I)J"⟩ prog_14_method_198_code 2 (Option.some FieldType.long),
  Cond.selects "NativeWorksModel" ⟨"NativeWorksModel", "stop", "(I)J"⟩ ⟨"NativeWorksModel", "stop", "(I)J"⟩,
  Cond.methodLink "NativeWorksLaw" 90 ⟨"NativeWorks", "registe\x72", "(I)J"⟩,
  Cond.instanceMethod ⟨"NativeWorks", "registe\x72", "(I)J"⟩,
  Cond.code ⟨"NativeWorks", "registe\x72", "(I)J"⟩ prog_1_method_14_code 2 (Option.some FieldType.long),
  Cond.selects "NativeWorks" ⟨"NativeWorks", "registe\x72", "(I)J"⟩ ⟨"NativeWorks", "registe\x72", "(I)J"⟩,
  Cond.methodLink "NativeWorksLaw" 93 ⟨"NativeWorksModel", "registe\x72", "(I)J"⟩,
  Cond.instanceMethod ⟨"NativeWorksModel", "registe\x72", "(I)J"⟩,
  Cond.code ⟨"NativeWorksModel", "registe\x72", "(I)J"⟩ prog_14_method_199_code 2 (Option.some FieldType.long),
  Cond.selects "NativeWorksModel" ⟨"NativeWorksModel", "registe\x72", "(I)J"⟩ ⟨"NativeWorksModel", "registe\x72", "(I)J"⟩,
  Cond.constantLong "NativeWorksLaw" 94 4294967295,
  Cond.methodLink "NativeWorksLaw" 96 ⟨"NativeWorks", "set", "(IJ)Z"⟩,
  Cond.instanceMethod ⟨"NativeWorks", "set", "(IJ)Z"⟩,
  Cond.code ⟨"NativeWorks", "set", "(IJ)Z"⟩ prog_1_method_15_code 4 (Option.some FieldType.boolean),
  Cond.selects "NativeWorks" ⟨"NativeWorks", "set", "(IJ)Z"⟩ ⟨"NativeWorks", "set", "(IJ)Z"⟩,
  Cond.methodLink "NativeWorksLaw" 100 ⟨"NativeWorksModel", "set", "(IJ)Z"⟩,
  Cond.instanceMethod ⟨"NativeWorksModel", "set", "(IJ)Z"⟩,
  Cond.code ⟨"NativeWorksModel", "set", "(IJ)Z"⟩ prog_14_method_200_code 4 (Option.some FieldType.boolean),
  Cond.selects "NativeWorksModel" ⟨"NativeWorksModel", "set", "(IJ)Z"⟩ ⟨"NativeWorksModel", "set", "(IJ)Z"⟩,
  Cond.methodLink "NativeWorksLaw" 101 ⟨"NativeWorks", "peek", "(J)I"⟩,
  Cond.instanceMethod ⟨"NativeWorks", "peek", "(J)I"⟩,
  Cond.code ⟨"NativeWorks", "peek", "(J)I"⟩ prog_1_method_16_code 3 (Option.some FieldType.int),
  Cond.selects "NativeWorks" ⟨"NativeWorks", "peek", "(J)I"⟩ ⟨"NativeWorks", "peek", "(J)I"⟩,
  Cond.methodLink "NativeWorksLaw" 105 ⟨"NativeWorksModel", "peek", "(J)I"⟩,
  Cond.instanceMethod ⟨"NativeWorksModel", "peek", "(J)I"⟩,
  Cond.code ⟨"NativeWorksModel", "peek", "(J)I"⟩ prog_14_method_201_code 4 (Option.some FieldType.int),
  Cond.selects "NativeWorksModel" ⟨"NativeWorksModel", "peek", "(J)I"⟩ ⟨"NativeWorksModel", "peek", "(J)I"⟩,
  Cond.methodLink "NativeWorksLaw" 106 ⟨"NativeWorks", "poke", "(JI)Z"⟩,
  Cond.instanceMethod ⟨"NativeWorks", "poke", "(JI)Z"⟩,
  Cond.code ⟨"NativeWorks", "poke", "(JI)Z"⟩ prog_1_method_17_code 4 (Option.some FieldType.boolean),
  Cond.selects "NativeWorks" ⟨"NativeWorks", "poke", "(JI)Z"⟩ ⟨"NativeWorks", "poke", "(JI)Z"⟩,
  Cond.methodLink "NativeWorksLaw" 110 ⟨"NativeWorksModel", "poke", "(JI)Z"⟩,
  Cond.instanceMethod ⟨"NativeWorksModel", "poke", "(JI)Z"⟩,
  Cond.code ⟨"NativeWorksModel", "poke", "(JI)Z"⟩ prog_14_method_202_code 5 (Option.some FieldType.boolean),
  Cond.selects "NativeWorksModel" ⟨"NativeWorksModel", "poke", "(JI)Z"⟩ ⟨"NativeWorksModel", "poke", "(JI)Z"⟩,
  Cond.methodLink "NativeWorksLaw" 111 ⟨"NativeWorks", "stopAt", "(JZ)Z"⟩,
  Cond.instanceMethod ⟨"NativeWorks", "stopAt", "(JZ)Z"⟩,
  Cond.code ⟨"NativeWorks", "stopAt", "(JZ)Z"⟩ prog_1_method_18_code 4 (Option.some FieldType.boolean),
  Cond.selects "NativeWorks" ⟨"NativeWorks", "stopAt", "(JZ)Z"⟩ ⟨"NativeWorks", "stopAt", "(JZ)Z"⟩,
  Cond.methodLink "NativeWorksLaw" 115 ⟨"NativeWorksModel", "stopAt", "(JZ)Z"⟩,
  Cond.instanceMethod ⟨"NativeWorksModel", "stopAt", "(JZ)Z"⟩,
  Cond.code ⟨"NativeWorksModel", "stopAt", "(JZ)Z"⟩ prog_14_method_203_code 5 (Option.some FieldType.boolean),
  Cond.selects "NativeWorksModel" ⟨"NativeWorksModel", "stopAt", "(JZ)Z"⟩ ⟨"NativeWorksModel", "stopAt", "(JZ)Z"⟩,
  Cond.methodLink "NativeWorksLaw" 116 ⟨"NativeWorks", "output", "(I)I"⟩,
  Cond.instanceMethod ⟨"NativeWorks", "output", "(I)I"⟩,
  Cond.code ⟨"NativeWorks", "output", "(I)I"⟩ prog_1_method_19_code 2 (Option.some FieldType.int),
  Cond.selects "NativeWorks" ⟨"NativeWorks", "output", "(I)I"⟩ ⟨"NativeWorks", "output", "(I)I"⟩,
  Cond.methodLink "NativeWorksLaw" 119 ⟨"NativeWorksModel", "output", "(I)I"⟩,
  Cond.instanceMethod ⟨"NativeWorksModel", "output", "(I)I"⟩,
  Cond.code ⟨"NativeWorksModel", "output", "(I)I"⟩ prog_14_method_204_code 2 (Option.some FieldType.int),
  Cond.selects "NativeWorksModel" ⟨"NativeWorksModel", "output", "(I)I"⟩ ⟨"NativeWorksModel", "output", "(I)I"⟩,
  Cond.methodLink "NativeWorksLaw" 120 ⟨"NativeWorks", "where", "(J)I"⟩,
  Cond.instanceMethod ⟨"NativeWorks", "where", "(J)I"⟩,
  Cond.code ⟨"NativeWorks", "where", "(J)I"⟩ prog_1_method_20_code 5 (Option.some FieldType.int),
  Cond.selects "NativeWorks" ⟨"NativeWorks", "where", "(J)I"⟩ ⟨"NativeWorks", "where", "(J)I"⟩,
  Cond.methodLink "NativeWorksLaw" 123 ⟨"NativeWorksModel", "where", "(J)I"⟩,
  Cond.instanceMethod ⟨"NativeWorksModel", "where", "(J)I"⟩,
  Cond.code ⟨"NativeWorksModel", "where", "(J)I"⟩ prog_14_method_150_code 4 (Option.some FieldType.int),
  Cond.selects "NativeWorksModel" ⟨"NativeWorksModel", "where", "(J)I"⟩ ⟨"NativeWorksModel", "where", "(J)I"⟩,
  Cond.classLink "NativeWorksLaw" 13 "java/lang/IllegalArgumentException",
  Cond.classLink "NativeWorksLaw" 19 "java/lang/IllegalStateException",
  Cond.classLink "NativeWorksLaw" 25 "java/util/NoSuchElementException"]
def rTs : List Cond := rBase ++ (u_ws RJ0 TJ0 4 ++ (u_ws RJ4 TJ4 4 ++ (u_ws RX0 TX0 15 ++ (u_ws RX1 TX1 11 ++ (u_ws RX2 TX2 21 ++ (u_ws RX3 TX3 10 ++ (u_ws RX4 TX4 18 ++ (u_ws RX5 TX5 17 ++ (u_ws RX6 TX6 12 ++ (u_ws RX7 TX7 6 ++ (u_ws RX8 TX8 20 ++ (u_ws RX9 TX9 14 ++ (u_ws RX10 TX10 19 ++ (u_ws RX11 TX11 9 ++ (u_ws RX12 TX12 13 ++ (u_ws RX13 TX13 205))))))))))))))))
theorem kMem {w : Cond} (i : Nat) (h : rBase[i]? = some w) : w ∈ rTs := List.mem_append_left _ (List.mem_of_getElem? h)
theorem inJ0 : ∀ w ∈ u_ws RJ0 TJ0 4, w ∈ rTs := fun _ h => List.mem_append_right _ (List.mem_append_left _ h)
theorem kc0 : vwCl[0]? = some (RJ0, TJ0, 4) := rfl
theorem inJ4 : ∀ w ∈ u_ws RJ4 TJ4 4, w ∈ rTs := fun _ h => List.mem_append_right _ (List.mem_append_right _ (List.mem_append_left _ h))
theorem kc1 : vwCl[1]? = some (RJ4, TJ4, 4) := rfl
theorem inX0 : ∀ w ∈ u_ws RX0 TX0 15, w ∈ rTs := fun _ h => List.mem_append_right _ (List.mem_append_right _ (List.mem_append_right _ (List.mem_append_left _ h)))
theorem kc2 : vwCl[2]? = some (RX0, TX0, 15) := rfl
theorem inX1 : ∀ w ∈ u_ws RX1 TX1 11, w ∈ rTs := fun _ h => List.mem_append_right _ (List.mem_append_right _ (List.mem_append_right _ (List.mem_append_right _ (List.mem_append_left _ h))))
theorem kc3 : vwCl[3]? = some (RX1, TX1, 11) := rfl
theorem inX2 : ∀ w ∈ u_ws RX2 TX2 21, w ∈ rTs := fun _ h => List.mem_append_right _ (List.mem_append_right _ (List.mem_append_right _ (List.mem_append_right _ (List.mem_append_right _ (List.mem_append_left _ h)))))
theorem kc4 : vwCl[4]? = some (RX2, TX2, 21) := rfl
theorem inX3 : ∀ w ∈ u_ws RX3 TX3 10, w ∈ rTs := fun _ h => List.mem_append_right _ (List.mem_append_right _ (List.mem_append_right _ (List.mem_append_right _ (List.mem_append_right _ (List.mem_append_right _ (List.mem_append_left _ h))))))
theorem kc5 : vwCl[5]? = some (RX3, TX3, 10) := rfl
theorem inX4 : ∀ w ∈ u_ws RX4 TX4 18, w ∈ rTs := fun _ h => List.mem_append_right _ (List.mem_append_right _ (List.mem_append_right _ (List.mem_append_right _ (List.mem_append_right _ (List.mem_append_right _ (List.mem_append_right _ (List.mem_append_left _ h)))))))
theorem kc6 : vwCl[6]? = some (RX4, TX4, 18) := rfl
theorem inX5 : ∀ w ∈ u_ws RX5 TX5 17, w ∈ rTs := fun _ h => List.mem_append_right _ (List.mem_append_right _ (List.mem_append_right _ (List.mem_append_right _ (List.mem_append_right _ (List.mem_append_right _ (List.mem_append_right _ (List.mem_append_right _ (List.mem_append_left _ h))))))))
theorem kc7 : vwCl[7]? = some (RX5, TX5, 17) := rfl
theorem inX6 : ∀ w ∈ u_ws RX6 TX6 12, w ∈ rTs := fun _ h => List.mem_append_right _ (List.mem_append_right _ (List.mem_append_right _ (List.mem_append_right _ (List.mem_append_right _ (List.mem_append_right _ (List.mem_append_right _ (List.mem_append_right _ (List.mem_append_right _ (List.mem_append_left _ h)))))))))
theorem kc8 : vwCl[8]? = some (RX6, TX6, 12) := rfl
theorem inX7 : ∀ w ∈ u_ws RX7 TX7 6, w ∈ rTs := fun _ h => List.mem_append_right _ (List.mem_append_right _ (List.mem_append_right _ (List.mem_append_right _ (List.mem_append_right _ (List.mem_append_right _ (List.mem_append_right _ (List.mem_append_right _ (List.mem_append_right _ (List.mem_append_right _ (List.mem_append_left _ h))))))))))
theorem kc9 : vwCl[9]? = some (RX7, TX7, 6) := rfl
theorem inX8 : ∀ w ∈ u_ws RX8 TX8 20, w ∈ rTs := fun _ h => List.mem_append_right _ (List.mem_append_right _ (List.mem_append_right _ (List.mem_append_right _ (List.mem_append_right _ (List.mem_append_right _ (List.mem_append_right _ (List.mem_append_right _ (List.mem_append_right _ (List.mem_append_right _ (List.mem_append_right _ (List.mem_append_left _ h)))))))))))
theorem kc10 : vwCl[10]? = some (RX8, TX8, 20) := rfl
theorem inX9 : ∀ w ∈ u_ws RX9 TX9 14, w ∈ rTs := fun _ h => List.mem_append_right _ (List.mem_append_right _ (List.mem_append_right _ (List.mem_append_right _ (List.mem_append_right _ (List.mem_append_right _ (List.mem_append_right _ (List.mem_append_right _ (List.mem_append_right _ (List.mem_append_right _ (List.mem_append_right _ (List.mem_append_right _ (List.mem_append_left _ h))))))))))))
theorem kc11 : vwCl[11]? = some (RX9, TX9, 14) := rfl
theorem inX10 : ∀ w ∈ u_ws RX10 TX10 19, w ∈ rTs := fun _ h => List.mem_append_right _ (List.mem_append_right _ (List.mem_append_right _ (List.mem_append_right _ (List.mem_append_right _ (List.mem_append_right _ (List.mem_append_right _ (List.mem_append_right _ (List.mem_append_right _ (List.mem_append_right _ (List.mem_append_right _ (List.mem_append_right _ (List.mem_append_right _ (List.mem_append_left _ h)))))))))))))
theorem kc12 : vwCl[12]? = some (RX10, TX10, 19) := rfl
theorem inX11 : ∀ w ∈ u_ws RX11 TX11 9, w ∈ rTs := fun _ h => List.mem_append_right _ (List.mem_append_right _ (List.mem_append_right _ (List.mem_append_right _ (List.mem_append_right _ (List.mem_append_right _ (List.mem_append_right _ (List.mem_append_right _ (List.mem_append_right _ (List.mem_append_right _ (List.mem_append_right _ (List.mem_append_right _ (List.mem_append_right _ (List.mem_append_right _ (List.mem_append_left _ h))))))))))))))
theorem kc13 : vwCl[13]? = some (RX11, TX11, 9) := rfl
theorem inX12 : ∀ w ∈ u_ws RX12 TX12 13, w ∈ rTs := fun _ h => List.mem_append_right _ (List.mem_append_right _ (List.mem_append_right _ (List.mem_append_right _ (List.mem_append_right _ (List.mem_append_right _ (List.mem_append_right _ (List.mem_append_right _ (List.mem_append_right _ (List.mem_append_right _ (List.mem_append_right _ (List.mem_append_right _ (List.mem_append_right _ (List.mem_append_right _ (List.mem_append_right _ (List.mem_append_left _ h)))))))))))))))
theorem kc14 : vwCl[14]? = some (RX12, TX12, 13) := rfl
theorem inX13 : ∀ w ∈ u_ws RX13 TX13 205, w ∈ rTs := fun _ h => List.mem_append_right _ (List.mem_append_right _ (List.mem_append_right _ (List.mem_append_right _ (List.mem_append_right _ (List.mem_append_right _ (List.mem_append_right _ (List.mem_append_right _ (List.mem_append_right _ (List.mem_append_right _ (List.mem_append_right _ (List.mem_append_right _ (List.mem_append_right _ (List.mem_append_right _ (List.mem_append_right _ (List.mem_append_right _ (h))))))))))))))))
theorem kc15 : vwCl[15]? = some (RX13, TX13, 205) := rfl
set_option maxRecDepth 100000 in
theorem kw0 : Cond.code ⟨"java/lang/Object", "<init>", "()V"⟩ object_method_1_code 1 (Option.none : Option FieldType) ∈ rTs := kMem 0 rfl
set_option maxRecDepth 100000 in
theorem kw1 : Cond.methodLink "NativeWorks$Names" 3 ⟨"java/lang/Object", "<init>", "()V"⟩ ∈ rTs := kMem 1 rfl
set_option maxRecDepth 100000 in
theorem kw2 : Cond.instanceMethod ⟨"java/lang/Object", "<init>", "()V"⟩ ∈ rTs := kMem 2 rfl
set_option maxRecDepth 100000 in
theorem kw3 : Cond.arrayClass FieldType.byte ∈ rTs := kMem 3 rfl
set_option maxRecDepth 100000 in
theorem kw4 : Cond.fieldLink "NativeWorks$Names" 9 "NativeWorks$Names" "letters" "[B" ∈ rTs := kMem 4 rfl
set_option maxRecDepth 100000 in
theorem kw5 : Cond.arrayClass FieldType.int ∈ rTs := kMem 5 rfl
set_option maxRecDepth 100000 in
theorem kw6 : Cond.fieldLink "NativeWorks$Names" 15 "NativeWorks$Names" "from" "[I" ∈ rTs := kMem 6 rfl
set_option maxRecDepth 100000 in
theorem kw7 : Cond.fieldLink "NativeWorks$Names" 19 "NativeWorks$Names" "olde\x72" "[I" ∈ rTs := kMem 7 rfl
set_option maxRecDepth 100000 in
theorem kw8 : Cond.fieldLink "NativeWorks$Names" 22 "NativeWorks$Names" "slot" "[I" ∈ rTs := kMem 8 rfl
set_option maxRecDepth 100000 in
theorem kw9 : Cond.fieldLink "NativeWorks$Names" 25 "NativeWorks$Names" "newest" "[I" ∈ rTs := kMem 9 rfl
set_option maxRecDepth 100000 in
theorem kw10 : Cond.code ⟨"java/util/Arrays", "fill", "([II)V"⟩ prog_38_method_103_code 4 (Option.none : Option FieldType) ∈ rTs := kMem 10 rfl
set_option maxRecDepth 100000 in
theorem kw11 : Cond.methodLink "NativeWorks$Names" 28 ⟨"java/util/Arrays", "fill", "([II)V"⟩ ∈ rTs := kMem 11 rfl
set_option maxRecDepth 100000 in
theorem kw12 : Cond.static ⟨"java/util/Arrays", "fill", "([II)V"⟩ ∈ rTs := kMem 12 rfl
set_option maxRecDepth 100000 in
theorem kw13 : Cond.initialized "java/util/Arrays" ∈ rTs := kMem 13 rfl
set_option maxRecDepth 100000 in
theorem kw14 : Cond.fieldLink "NativeWorks$Names" 34 "NativeWorks$Names" "count" "I" ∈ rTs := kMem 14 rfl
set_option maxRecDepth 100000 in
theorem kw15 : Cond.methodLink "NativeWorks$Units" 3 ⟨"java/lang/Object", "<init>", "()V"⟩ ∈ rTs := kMem 15 rfl
set_option maxRecDepth 100000 in
theorem kw16 : Cond.classLink "NativeWorks$Units" 9 "NativeWorks$Names" ∈ rTs := kMem 16 rfl
set_option maxRecDepth 100000 in
theorem kw17 : Cond.instantiable "NativeWorks$Names" 6 ∈ rTs := kMem 17 rfl
set_option maxRecDepth 100000 in
theorem kw18 : Cond.initialized "NativeWorks$Names" ∈ rTs := kMem 18 rfl
set_option maxRecDepth 100000 in
theorem kw19 : Cond.constant "NativeWorks$Units" 13 (nI 129024) ∈ rTs := kMem 19 (by decide +kernel)
set_option maxRecDepth 100000 in
theorem kw20 : Cond.code ⟨"NativeWorks$Names", "<init>", "(II)V"⟩ prog_9_method_1_code 3 (Option.none : Option FieldType) ∈ rTs := kMem 20 rfl
set_option maxRecDepth 100000 in
theorem kw21 : Cond.methodLink "NativeWorks$Units" 14 ⟨"NativeWorks$Names", "<init>", "(II)V"⟩ ∈ rTs := kMem 21 rfl
set_option maxRecDepth 100000 in
theorem kw22 : Cond.instanceMethod ⟨"NativeWorks$Names", "<init>", "(II)V"⟩ ∈ rTs := kMem 22 rfl
set_option maxRecDepth 100000 in
theorem kw23 : Cond.fieldLink "NativeWorks$Units" 17 "NativeWorks$Units" "names" "LNativeWorks$Names;" ∈ rTs := kMem 23 rfl
set_option maxRecDepth 100000 in
theorem kw24 : Cond.classLink "NativeWorks$Units" 21 "[[I" ∈ rTs := kMem 24 rfl
set_option maxRecDepth 100000 in
theorem kw25 : Cond.fieldLink "NativeWorks$Units" 23 "NativeWorks$Units" "symbols" "[[I" ∈ rTs := kMem 25 rfl
set_option maxRecDepth 100000 in
theorem kw26 : Cond.arrayClass FieldType.long ∈ rTs := kMem 26 rfl
set_option maxRecDepth 100000 in
theorem kw27 : Cond.fieldLink "NativeWorks$Units" 26 "NativeWorks$Units" "constants" "[J" ∈ rTs := kMem 27 rfl
set_option maxRecDepth 100000 in
theorem kw28 : Cond.fieldLink "NativeWorks$Units" 30 "NativeWorks$Units" "labels" "[I" ∈ rTs := kMem 28 rfl
set_option maxRecDepth 100000 in
theorem kw29 : Cond.fieldLink "NativeWorks$Units" 34 "NativeWorks$Units" "statements" "[[I" ∈ rTs := kMem 29 rfl
set_option maxRecDepth 100000 in
theorem kw30 : Cond.fieldLink "NativeWorks$Units" 37 "NativeWorks$Units" "waits" "[[I" ∈ rTs := kMem 30 rfl
set_option maxRecDepth 100000 in
theorem kw31 : Cond.fieldLink "NativeWorks$Units" 40 "NativeWorks$Units" "waitNumbers" "[J" ∈ rTs := kMem 31 rfl
set_option maxRecDepth 100000 in
theorem kw32 : Cond.constant "NativeWorks$Units" 43 (nI 131072) ∈ rTs := kMem 32 (by decide +kernel)
set_option maxRecDepth 100000 in
theorem kw33 : Cond.fieldLink "NativeWorks$Units" 44 "NativeWorks$Units" "put" "[B" ∈ rTs := kMem 33 rfl
set_option maxRecDepth 100000 in
theorem kw34 : Cond.fieldLink "NativeWorks$Units" 48 "NativeWorks$Units" "bytes" "[B" ∈ rTs := kMem 34 rfl
set_option maxRecDepth 100000 in
theorem kw35 : Cond.fieldLink "NativeWorks$Units" 51 "NativeWorks$Units" "rows" "[[I" ∈ rTs := kMem 35 rfl
set_option maxRecDepth 100000 in
theorem kw36 : Cond.fieldLink "NativeWorks$Units" 54 "NativeWorks$Units" "ends" "[I" ∈ rTs := kMem 36 rfl
set_option maxRecDepth 100000 in
theorem kw37 : Cond.fieldLink "java/lang/String" 38 "java/lang/String" "COMPACT_STRINGS" "Z" ∈ rTs := kMem 37 rfl
set_option maxRecDepth 100000 in
theorem kw38 : Cond.fieldLink "java/lang/String" 15 "java/lang/String" "code\x72" "B" ∈ rTs := kMem 38 rfl
set_option maxRecDepth 100000 in
theorem kw39 : Cond.fieldLink "java/lang/String" 9 "java/lang/String" "value" "[B" ∈ rTs := kMem 39 rfl
set_option maxRecDepth 100000 in
theorem kw40 : Cond.code ⟨"java/lang/String", "code\x72", "()B"⟩ prog_30_method_152_code 1 (Option.some FieldType.byte) ∈ rTs := kMem 40 rfl
set_option maxRecDepth 100000 in
theorem kw41 : Cond.methodLink "java/lang/String" 335 ⟨"java/lang/String", "code\x72", "()B"⟩ ∈ rTs := kMem 41 rfl
set_option maxRecDepth 100000 in
theorem kw42 : Cond.instanceMethod ⟨"java/lang/String", "code\x72", "()B"⟩ ∈ rTs := kMem 42 rfl
set_option maxRecDepth 100000 in
theorem kw43 : Cond.selects "java/lang/String" ⟨"java/lang/String", "code\x72", "()B"⟩ ⟨"java/lang/String", "code\x72", "()B"⟩ ∈ rTs := kMem 43 rfl
set_option maxRecDepth 100000 in
theorem kw44 : Cond.initialized "java/lang/String" ∈ rTs := kMem 44 rfl
set_option maxRecDepth 100000 in
theorem kw45 : Cond.fieldLink "java/lang/String" 1053 "jdk/internal/util/Preconditions" "SIOOBE_FORMATTER" "Ljava/util/function/BiFunction;" ∈ rTs := kMem 45 rfl
set_option maxRecDepth 100000 in
theorem kw46 : Cond.code ⟨"jdk/internal/util/Preconditions", "checkIndex", "(IILjava/util/function/BiFunction;)I"⟩ prog_41_method_11_code 3 (Option.some FieldType.int) ∈ rTs := kMem 46 rfl
set_option maxRecDepth 100000 in
theorem kw47 : Cond.methodLink "java/lang/String" 1059 ⟨"jdk/internal/util/Preconditions", "checkIndex", "(IILjava/util/function/BiFunction;)I"⟩ ∈ rTs := kMem 47 rfl
set_option maxRecDepth 100000 in
theorem kw48 : Cond.static ⟨"jdk/internal/util/Preconditions", "checkIndex", "(IILjava/util/function/BiFunction;)I"⟩ ∈ rTs := kMem 48 rfl
set_option maxRecDepth 100000 in
theorem kw49 : Cond.initialized "jdk/internal/util/Preconditions" ∈ rTs := kMem 49 rfl
set_option maxRecDepth 100000 in
theorem kw50 : Cond.code ⟨"java/lang/String", "checkIndex", "(II)V"⟩ prog_30_method_155_code 2 (Option.none : Option FieldType) ∈ rTs := kMem 50 rfl
set_option maxRecDepth 100000 in
theorem kw51 : Cond.methodLink "java/lang/StringLatin1" 9 ⟨"java/lang/String", "checkIndex", "(II)V"⟩ ∈ rTs := kMem 51 rfl
set_option maxRecDepth 100000 in
theorem kw52 : Cond.static ⟨"java/lang/String", "checkIndex", "(II)V"⟩ ∈ rTs := kMem 52 rfl
set_option maxRecDepth 100000 in
theorem kw53 : Cond.code ⟨"java/lang/String", "isLatin1", "()Z"⟩ prog_30_method_154_code 1 (Option.some FieldType.boolean) ∈ rTs := kMem 53 rfl
set_option maxRecDepth 100000 in
theorem kw54 : Cond.methodLink "java/lang/String" 492 ⟨"java/lang/String", "isLatin1", "()Z"⟩ ∈ rTs := kMem 54 rfl
set_option maxRecDepth 100000 in
theorem kw55 : Cond.instanceMethod ⟨"java/lang/String", "isLatin1", "()Z"⟩ ∈ rTs := kMem 55 rfl
set_option maxRecDepth 100000 in
theorem kw56 : Cond.selects "java/lang/String" ⟨"java/lang/String", "isLatin1", "()Z"⟩ ⟨"java/lang/String", "isLatin1", "()Z"⟩ ∈ rTs := kMem 56 rfl
set_option maxRecDepth 100000 in
theorem kw57 : Cond.code ⟨"java/lang/StringLatin1", "charAt", "([BI)C"⟩ prog_32_method_2_code 2 (Option.some FieldType.char) ∈ rTs := kMem 57 rfl
set_option maxRecDepth 100000 in
theorem kw58 : Cond.methodLink "java/lang/String" 495 ⟨"java/lang/StringLatin1", "charAt", "([BI)C"⟩ ∈ rTs := kMem 58 rfl
set_option maxRecDepth 100000 in
theorem kw59 : Cond.static ⟨"java/lang/StringLatin1", "charAt", "([BI)C"⟩ ∈ rTs := kMem 59 rfl
set_option maxRecDepth 100000 in
theorem kw60 : Cond.initialized "java/lang/StringLatin1" ∈ rTs := kMem 60 rfl
set_option maxRecDepth 100000 in
theorem kw61 : Cond.methodLink "NativeWorks$Names" 38 ⟨"java/lang/System", "arraycopy", "(Ljava/lang/Object;ILjava/lang/Object;II)V"⟩ ∈ rTs := kMem 61 rfl
set_option maxRecDepth 100000 in
theorem kw62 : Cond.native ⟨"java/lang/System", "arraycopy", "(Ljava/lang/Object;ILjava/lang/Object;II)V"⟩ ∈ rTs := kMem 62 rfl
set_option maxRecDepth 100000 in
theorem kw63 : Cond.static ⟨"java/lang/System", "arraycopy", "(Ljava/lang/Object;ILjava/lang/Object;II)V"⟩ ∈ rTs := kMem 63 rfl
set_option maxRecDepth 100000 in
theorem kw64 : Cond.initialized "java/lang/System" ∈ rTs := kMem 64 rfl
set_option maxRecDepth 100000 in
theorem kw65 : Cond.code ⟨"java/lang/String", "length", "()I"⟩ prog_30_method_54_code 1 (Option.some FieldType.int) ∈ rTs := kMem 65 rfl
set_option maxRecDepth 100000 in
theorem kw66 : Cond.methodLink "NativeWorks$Line" 76 ⟨"java/lang/String", "length", "()I"⟩ ∈ rTs := kMem 66 rfl
set_option maxRecDepth 100000 in
theorem kw67 : Cond.instanceMethod ⟨"java/lang/String", "length", "()I"⟩ ∈ rTs := kMem 67 rfl
set_option maxRecDepth 100000 in
theorem kw68 : Cond.selects "java/lang/String" ⟨"java/lang/String", "length", "()I"⟩ ⟨"java/lang/String", "length", "()I"⟩ ∈ rTs := kMem 68 rfl
set_option maxRecDepth 100000 in
theorem kw69 : Cond.fieldLink "NativeWorks$Line" 11 "NativeWorks$Line" "text" "[B" ∈ rTs := kMem 69 rfl
set_option maxRecDepth 100000 in
theorem kw70 : Cond.code ⟨"java/lang/String", "charAt", "(I)C"⟩ prog_30_method_56_code 2 (Option.some FieldType.char) ∈ rTs := kMem 70 rfl
set_option maxRecDepth 100000 in
theorem kw71 : Cond.methodLink "NativeWorks$Line" 82 ⟨"java/lang/String", "charAt", "(I)C"⟩ ∈ rTs := kMem 71 rfl
set_option maxRecDepth 100000 in
theorem kw72 : Cond.instanceMethod ⟨"java/lang/String", "charAt", "(I)C"⟩ ∈ rTs := kMem 72 rfl
set_option maxRecDepth 100000 in
theorem kw73 : Cond.selects "java/lang/String" ⟨"java/lang/String", "charAt", "(I)C"⟩ ⟨"java/lang/String", "charAt", "(I)C"⟩ ∈ rTs := kMem 73 rfl
set_option maxRecDepth 100000 in
theorem kw74 : Cond.fieldLink "NativeWorks$Line" 20 "NativeWorks$Line" "words" "LNativeWorks$Names;" ∈ rTs := kMem 74 rfl
set_option maxRecDepth 100000 in
theorem kw75 : Cond.code ⟨"NativeWorks$Names", "add", "([BII)I"⟩ prog_9_method_3_code 6 (Option.some FieldType.int) ∈ rTs := kMem 75 rfl
set_option maxRecDepth 100000 in
theorem kw76 : Cond.methodLink "NativeWorks$Line" 86 ⟨"NativeWorks$Names", "add", "([BII)I"⟩ ∈ rTs := kMem 76 rfl
set_option maxRecDepth 100000 in
theorem kw77 : Cond.instanceMethod ⟨"NativeWorks$Names", "add", "([BII)I"⟩ ∈ rTs := kMem 77 rfl
set_option maxRecDepth 100000 in
theorem kw78 : Cond.selects "NativeWorks$Names" ⟨"NativeWorks$Names", "add", "([BII)I"⟩ ⟨"NativeWorks$Names", "add", "([BII)I"⟩ ∈ rTs := kMem 78 rfl
set_option maxRecDepth 100000 in
theorem kw79 : Cond.methodLink "NativeWorks$Line" 3 ⟨"java/lang/Object", "<init>", "()V"⟩ ∈ rTs := kMem 79 rfl
set_option maxRecDepth 100000 in
theorem kw80 : Cond.classLink "NativeWorks$Line" 15 "NativeWorks$Names" ∈ rTs := kMem 80 rfl
set_option maxRecDepth 100000 in
theorem kw81 : Cond.methodLink "NativeWorks$Line" 17 ⟨"NativeWorks$Names", "<init>", "(II)V"⟩ ∈ rTs := kMem 81 rfl
set_option maxRecDepth 100000 in
theorem kw82 : Cond.fieldLink "NativeWorks$Line" 24 "NativeWorks$Line" "kind" "[I" ∈ rTs := kMem 82 rfl
set_option maxRecDepth 100000 in
theorem kw83 : Cond.fieldLink "NativeWorks$Line" 28 "NativeWorks$Line" "value" "[J" ∈ rTs := kMem 83 rfl
set_option maxRecDepth 100000 in
theorem kw84 : Cond.fieldLink "NativeWorks$Line" 32 "NativeWorks$Line" "from" "[I" ∈ rTs := kMem 84 rfl
set_option maxRecDepth 100000 in
theorem kw85 : Cond.fieldLink "NativeWorks$Line" 35 "NativeWorks$Line" "to" "[I" ∈ rTs := kMem 85 rfl
set_option maxRecDepth 100000 in
theorem kw86 : Cond.code ⟨"NativeWorks$Line", "teach", "(Ljava/lang/String;)V"⟩ prog_5_method_2_code 4 (Option.none : Option FieldType) ∈ rTs := kMem 86 rfl
set_option maxRecDepth 100000 in
theorem kw87 : Cond.methodLink "NativeWorks$Line" 40 ⟨"NativeWorks$Line", "teach", "(Ljava/lang/String;)V"⟩ ∈ rTs := kMem 87 rfl
set_option maxRecDepth 100000 in
theorem kw88 : Cond.instanceMethod ⟨"NativeWorks$Line", "teach", "(Ljava/lang/String;)V"⟩ ∈ rTs := kMem 88 rfl
set_option maxRecDepth 100000 in
theorem kw89 : Cond.selects "NativeWorks$Line" ⟨"NativeWorks$Line", "teach", "(Ljava/lang/String;)V"⟩ ⟨"NativeWorks$Line", "teach", "(Ljava/lang/String;)V"⟩ ∈ rTs := kMem 89 rfl
set_option maxRecDepth 100000 in
theorem kw90 : Cond.initialized "NativeWorks$Line" ∈ rTs := kMem 90 rfl
set_option maxRecDepth 100000 in
theorem kw91 : Cond.methodLink "NativeWorks$Source" 3 ⟨"java/lang/Object", "<init>", "()V"⟩ ∈ rTs := kMem 91 rfl
set_option maxRecDepth 100000 in
theorem kw92 : Cond.fieldLink "NativeWorks$Source" 9 "NativeWorks$Source" "bytes" "[B" ∈ rTs := kMem 92 rfl
set_option maxRecDepth 100000 in
theorem kw93 : Cond.fieldLink "NativeWorks$Source" 15 "NativeWorks$Source" "words" "LNativeWorks$Names;" ∈ rTs := kMem 93 rfl
set_option maxRecDepth 100000 in
theorem kw94 : Cond.constant "NativeWorks$Source" 19 (nI 65538) ∈ rTs := kMem 94 (by decide +kernel)
set_option maxRecDepth 100000 in
theorem kw95 : Cond.fieldLink "NativeWorks$Source" 20 "NativeWorks$Source" "lineAt" "[I" ∈ rTs := kMem 95 rfl
set_option maxRecDepth 100000 in
theorem kw96 : Cond.constant "NativeWorks$Source" 24 (nI 65537) ∈ rTs := kMem 96 (by decide +kernel)
set_option maxRecDepth 100000 in
theorem kw97 : Cond.fieldLink "NativeWorks$Source" 25 "NativeWorks$Source" "sorts" "[B" ∈ rTs := kMem 97 rfl
set_option maxRecDepth 100000 in
theorem kw98 : Cond.fieldLink "NativeWorks$Source" 28 "NativeWorks$Source" "ifEnds" "[I" ∈ rTs := kMem 98 rfl
set_option maxRecDepth 100000 in
theorem kw99 : Cond.fieldLink "NativeWorks$Source" 31 "NativeWorks$Source" "elses" "[I" ∈ rTs := kMem 99 rfl
set_option maxRecDepth 100000 in
theorem kw100 : Cond.fieldLink "NativeWorks$Source" 34 "NativeWorks$Source" "reptEnds" "[I" ∈ rTs := kMem 100 rfl
set_option maxRecDepth 100000 in
theorem kw101 : Cond.classLink "NativeWorks$Source" 37 "NativeWorks$Names" ∈ rTs := kMem 101 rfl
set_option maxRecDepth 100000 in
theorem kw102 : Cond.constant "NativeWorks$Source" 39 (nI 65536) ∈ rTs := kMem 102 (by decide +kernel)
set_option maxRecDepth 100000 in
theorem kw103 : Cond.methodLink "NativeWorks$Source" 40 ⟨"NativeWorks$Names", "<init>", "(II)V"⟩ ∈ rTs := kMem 103 rfl
set_option maxRecDepth 100000 in
theorem kw104 : Cond.fieldLink "NativeWorks$Source" 43 "NativeWorks$Source" "macros" "LNativeWorks$Names;" ∈ rTs := kMem 104 rfl
set_option maxRecDepth 100000 in
theorem kw105 : Cond.fieldLink "NativeWorks$Source" 46 "NativeWorks$Source" "bodyFrom" "[I" ∈ rTs := kMem 105 rfl
set_option maxRecDepth 100000 in
theorem kw106 : Cond.fieldLink "NativeWorks$Source" 49 "NativeWorks$Source" "bodyTo" "[I" ∈ rTs := kMem 106 rfl
set_option maxRecDepth 100000 in
theorem kw107 : Cond.fieldLink "NativeWorks$Source" 52 "NativeWorks$Source" "firstParamete\x72" "[I" ∈ rTs := kMem 107 rfl
set_option maxRecDepth 100000 in
theorem kw108 : Cond.constant "NativeWorks$Source" 55 (nI 32768) ∈ rTs := kMem 108 (by decide +kernel)
set_option maxRecDepth 100000 in
theorem kw109 : Cond.fieldLink "NativeWorks$Source" 56 "NativeWorks$Source" "parameterFrom" "[I" ∈ rTs := kMem 109 rfl
set_option maxRecDepth 100000 in
theorem kw110 : Cond.fieldLink "NativeWorks$Source" 59 "NativeWorks$Source" "parameterTo" "[I" ∈ rTs := kMem 110 rfl
set_option maxRecDepth 100000 in
theorem kw111 : Cond.fieldLink "NativeWorks$Source" 62 "NativeWorks$Source" "lines" "I" ∈ rTs := kMem 111 rfl
set_option maxRecDepth 100000 in
theorem kw112 : Cond.methodLink "NativeWorks$Reade\x72" 3 ⟨"java/lang/Object", "<init>", "()V"⟩ ∈ rTs := kMem 112 rfl
set_option maxRecDepth 100000 in
theorem kw113 : Cond.fieldLink "NativeWorks$Reade\x72" 9 "NativeWorks$Reade\x72" "source" "LNativeWorks$Source;" ∈ rTs := kMem 113 rfl
set_option maxRecDepth 100000 in
theorem kw114 : Cond.fieldLink "NativeWorks$Reade\x72" 15 "NativeWorks$Reade\x72" "line" "LNativeWorks$Line;" ∈ rTs := kMem 114 rfl
set_option maxRecDepth 100000 in
theorem kw115 : Cond.fieldLink "NativeWorks$Reade\x72" 19 "NativeWorks$Reade\x72" "first" "[I" ∈ rTs := kMem 115 rfl
set_option maxRecDepth 100000 in
theorem kw116 : Cond.fieldLink "NativeWorks$Reade\x72" 23 "NativeWorks$Reade\x72" "end" "[I" ∈ rTs := kMem 116 rfl
set_option maxRecDepth 100000 in
theorem kw117 : Cond.fieldLink "NativeWorks$Reade\x72" 26 "NativeWorks$Reade\x72" "next" "[I" ∈ rTs := kMem 117 rfl
set_option maxRecDepth 100000 in
theorem kw118 : Cond.fieldLink "NativeWorks$Reade\x72" 29 "NativeWorks$Reade\x72" "left" "[I" ∈ rTs := kMem 118 rfl
set_option maxRecDepth 100000 in
theorem kw119 : Cond.fieldLink "NativeWorks$Reade\x72" 32 "NativeWorks$Reade\x72" "make\x72" "[I" ∈ rTs := kMem 119 rfl
set_option maxRecDepth 100000 in
theorem kw120 : Cond.fieldLink "NativeWorks$Reade\x72" 35 "NativeWorks$Reade\x72" "ifsBelow" "[I" ∈ rTs := kMem 120 rfl
set_option maxRecDepth 100000 in
theorem kw121 : Cond.fieldLink "NativeWorks$Reade\x72" 38 "NativeWorks$Reade\x72" "macro" "[I" ∈ rTs := kMem 121 rfl
set_option maxRecDepth 100000 in
theorem kw122 : Cond.fieldLink "NativeWorks$Reade\x72" 41 "NativeWorks$Reade\x72" "made" "[I" ∈ rTs := kMem 122 rfl
set_option maxRecDepth 100000 in
theorem kw123 : Cond.fieldLink "NativeWorks$Reade\x72" 46 "NativeWorks$Reade\x72" "arguments" "[B" ∈ rTs := kMem 123 rfl
set_option maxRecDepth 100000 in
theorem kw124 : Cond.fieldLink "NativeWorks$Reade\x72" 50 "NativeWorks$Reade\x72" "argumentFrom" "[I" ∈ rTs := kMem 124 rfl
set_option maxRecDepth 100000 in
theorem kw125 : Cond.fieldLink "NativeWorks$Reade\x72" 53 "NativeWorks$Reade\x72" "argumentTo" "[I" ∈ rTs := kMem 125 rfl
set_option maxRecDepth 100000 in
theorem kw126 : Cond.arrayClass FieldType.boolean ∈ rTs := kMem 126 rfl
set_option maxRecDepth 100000 in
theorem kw127 : Cond.fieldLink "NativeWorks$Reade\x72" 56 "NativeWorks$Reade\x72" "elseRead" "[Z" ∈ rTs := kMem 127 rfl
set_option maxRecDepth 100000 in
theorem kw128 : Cond.methodLink "NativeWorks$Expression" 3 ⟨"java/lang/Object", "<init>", "()V"⟩ ∈ rTs := kMem 128 rfl
set_option maxRecDepth 100000 in
theorem kw129 : Cond.fieldLink "NativeWorks$Expression" 9 "NativeWorks$Expression" "line" "LNativeWorks$Line;" ∈ rTs := kMem 129 rfl
set_option maxRecDepth 100000 in
theorem kw130 : Cond.fieldLink "NativeWorks$Expression" 15 "NativeWorks$Expression" "units" "LNativeWorks$Units;" ∈ rTs := kMem 130 rfl
set_option maxRecDepth 100000 in
theorem kw131 : Cond.fieldLink "NativeWorks$Expression" 21 "NativeWorks$Expression" "numbe\x72" "[J" ∈ rTs := kMem 131 rfl
set_option maxRecDepth 100000 in
theorem kw132 : Cond.fieldLink "NativeWorks$Expression" 25 "NativeWorks$Expression" "plus" "[I" ∈ rTs := kMem 132 rfl
set_option maxRecDepth 100000 in
theorem kw133 : Cond.fieldLink "NativeWorks$Expression" 29 "NativeWorks$Expression" "minus" "[I" ∈ rTs := kMem 133 rfl
set_option maxRecDepth 100000 in
theorem kw134 : Cond.fieldLink "NativeWorks$Expression" 32 "NativeWorks$Expression" "signs" "[I" ∈ rTs := kMem 134 rfl
set_option maxRecDepth 100000 in
theorem kw135 : Cond.fieldLink "NativeWorks$Expression" 35 "NativeWorks$Expression" "name" "[B" ∈ rTs := kMem 135 rfl
set_option maxRecDepth 100000 in
theorem kw136 : Cond.fieldLink "NativeWorks$Expression" 39 "NativeWorks$Expression" "latest" "[B" ∈ rTs := kMem 136 rfl
set_option maxRecDepth 100000 in
theorem kw137 : Cond.fieldLink "NativeWorks$Instruction" 18 "NativeWorks$Instruction" "rows" "[I" ∈ rTs := kMem 137 rfl
set_option maxRecDepth 100000 in
theorem kw138 : Cond.fieldLink "NativeWorks$Instruction" 53 "NativeWorks$Instruction" "L_AT" "[I" ∈ rTs := kMem 138 rfl
set_option maxRecDepth 100000 in
theorem kw139 : Cond.code ⟨"NativeWorks$Instruction", "isConditional", "(I)Z"⟩ prog_4_method_3_code 1 (Option.some FieldType.boolean) ∈ rTs := kMem 139 rfl
set_option maxRecDepth 100000 in
theorem kw140 : Cond.methodLink "NativeWorks$Instruction" 56 ⟨"NativeWorks$Instruction", "isConditional", "(I)Z"⟩ ∈ rTs := kMem 140 rfl
set_option maxRecDepth 100000 in
theorem kw141 : Cond.static ⟨"NativeWorks$Instruction", "isConditional", "(I)Z"⟩ ∈ rTs := kMem 141 rfl
set_option maxRecDepth 100000 in
theorem kw142 : Cond.initialized "NativeWorks$Instruction" ∈ rTs := kMem 142 rfl
set_option maxRecDepth 100000 in
theorem kw143 : Cond.fieldLink "NativeWorks$Instruction" 24 "NativeWorks$Instruction" "rowAt" "[I" ∈ rTs := kMem 143 rfl
set_option maxRecDepth 100000 in
theorem kw144 : Cond.methodLink "NativeWorks$Instruction" 3 ⟨"java/lang/Object", "<init>", "()V"⟩ ∈ rTs := kMem 144 rfl
set_option maxRecDepth 100000 in
theorem kw145 : Cond.fieldLink "NativeWorks$Instruction" 9 "NativeWorks$Instruction" "ARITHMETIC" "[I" ∈ rTs := kMem 145 rfl
set_option maxRecDepth 100000 in
theorem kw146 : Cond.fieldLink "NativeWorks$Instruction" 15 "NativeWorks$Instruction" "TABLE" "[I" ∈ rTs := kMem 146 rfl
set_option maxRecDepth 100000 in
theorem kw147 : Cond.fieldLink "NativeWorks$Instruction" 21 "NativeWorks$Instruction" "firstRow" "[I" ∈ rTs := kMem 147 rfl
set_option maxRecDepth 100000 in
theorem kw148 : Cond.fieldLink "NativeWorks$Instruction" 27 "NativeWorks$Instruction" "kind" "[I" ∈ rTs := kMem 148 rfl
set_option maxRecDepth 100000 in
theorem kw149 : Cond.fieldLink "NativeWorks$Instruction" 30 "NativeWorks$Instruction" "reg" "[I" ∈ rTs := kMem 149 rfl
set_option maxRecDepth 100000 in
theorem kw150 : Cond.fieldLink "NativeWorks$Instruction" 33 "NativeWorks$Instruction" "bytes" "[B" ∈ rTs := kMem 150 rfl
set_option maxRecDepth 100000 in
theorem kw151 : Cond.methodLink "NativeWorks$Instruction" 37 ⟨"java/util/Arrays", "fill", "([II)V"⟩ ∈ rTs := kMem 151 rfl
set_option maxRecDepth 100000 in
theorem kw152 : Cond.methodLink "NativeWorks$Instruction" 43 ⟨"java/lang/System", "arraycopy", "(Ljava/lang/Object;ILjava/lang/Object;II)V"⟩ ∈ rTs := kMem 152 rfl
set_option maxRecDepth 100000 in
theorem kw153 : Cond.code ⟨"NativeWorks$Instruction", "ente\x72", "(I)V"⟩ prog_4_method_2_code 8 (Option.none : Option FieldType) ∈ rTs := kMem 153 rfl
set_option maxRecDepth 100000 in
theorem kw154 : Cond.methodLink "NativeWorks$Instruction" 49 ⟨"NativeWorks$Instruction", "ente\x72", "(I)V"⟩ ∈ rTs := kMem 154 rfl
set_option maxRecDepth 100000 in
theorem kw155 : Cond.instanceMethod ⟨"NativeWorks$Instruction", "ente\x72", "(I)V"⟩ ∈ rTs := kMem 155 rfl
set_option maxRecDepth 100000 in
theorem kw156 : Cond.selects "NativeWorks$Instruction" ⟨"NativeWorks$Instruction", "ente\x72", "(I)V"⟩ ⟨"NativeWorks$Instruction", "ente\x72", "(I)V"⟩ ∈ rTs := kMem 156 rfl
set_option maxRecDepth 100000 in
theorem kw157 : Cond.methodLink "NativeWorks$Assemble\x72" 3 ⟨"java/lang/Object", "<init>", "()V"⟩ ∈ rTs := kMem 157 rfl
set_option maxRecDepth 100000 in
theorem kw158 : Cond.classLink "NativeWorks$Assemble\x72" 9 "NativeWorks$Line" ∈ rTs := kMem 158 rfl
set_option maxRecDepth 100000 in
theorem kw159 : Cond.instantiable "NativeWorks$Line" 10 ∈ rTs := kMem 159 rfl
set_option maxRecDepth 100000 in
theorem kw160 : Cond.code ⟨"NativeWorks$Line", "<init>", "()V"⟩ prog_5_method_1_code 1 (Option.none : Option FieldType) ∈ rTs := kMem 160 rfl
set_option maxRecDepth 100000 in
theorem kw161 : Cond.methodLink "NativeWorks$Assemble\x72" 11 ⟨"NativeWorks$Line", "<init>", "()V"⟩ ∈ rTs := kMem 161 rfl
set_option maxRecDepth 100000 in
theorem kw162 : Cond.instanceMethod ⟨"NativeWorks$Line", "<init>", "()V"⟩ ∈ rTs := kMem 162 rfl
set_option maxRecDepth 100000 in
theorem kw163 : Cond.fieldLink "NativeWorks$Assemble\x72" 12 "NativeWorks$Assemble\x72" "line" "LNativeWorks$Line;" ∈ rTs := kMem 163 rfl
set_option maxRecDepth 100000 in
theorem kw164 : Cond.fieldLink "NativeWorks$Assemble\x72" 18 "NativeWorks$Assemble\x72" "units" "LNativeWorks$Units;" ∈ rTs := kMem 164 rfl
set_option maxRecDepth 100000 in
theorem kw165 : Cond.classLink "NativeWorks$Assemble\x72" 22 "NativeWorks$Reade\x72" ∈ rTs := kMem 165 rfl
set_option maxRecDepth 100000 in
theorem kw166 : Cond.instantiable "NativeWorks$Reade\x72" 20 ∈ rTs := kMem 166 rfl
set_option maxRecDepth 100000 in
theorem kw167 : Cond.initialized "NativeWorks$Reade\x72" ∈ rTs := kMem 167 rfl
set_option maxRecDepth 100000 in
theorem kw168 : Cond.classLink "NativeWorks$Assemble\x72" 24 "NativeWorks$Source" ∈ rTs := kMem 168 rfl
set_option maxRecDepth 100000 in
theorem kw169 : Cond.instantiable "NativeWorks$Source" 14 ∈ rTs := kMem 169 rfl
set_option maxRecDepth 100000 in
theorem kw170 : Cond.initialized "NativeWorks$Source" ∈ rTs := kMem 170 rfl
set_option maxRecDepth 100000 in
theorem kw171 : Cond.fieldLink "NativeWorks$Assemble\x72" 26 "NativeWorks$Line" "words" "LNativeWorks$Names;" ∈ rTs := kMem 171 rfl
set_option maxRecDepth 100000 in
theorem kw172 : Cond.code ⟨"NativeWorks$Source", "<init>", "([BLNativeWorks$Names;)V"⟩ prog_11_method_1_code 3 (Option.none : Option FieldType) ∈ rTs := kMem 172 rfl
set_option maxRecDepth 100000 in
theorem kw173 : Cond.methodLink "NativeWorks$Assemble\x72" 30 ⟨"NativeWorks$Source", "<init>", "([BLNativeWorks$Names;)V"⟩ ∈ rTs := kMem 173 rfl
set_option maxRecDepth 100000 in
theorem kw174 : Cond.instanceMethod ⟨"NativeWorks$Source", "<init>", "([BLNativeWorks$Names;)V"⟩ ∈ rTs := kMem 174 rfl
set_option maxRecDepth 100000 in
theorem kw175 : Cond.code ⟨"NativeWorks$Reade\x72", "<init>", "(LNativeWorks$Source;LNativeWorks$Line;)V"⟩ prog_10_method_1_code 3 (Option.none : Option FieldType) ∈ rTs := kMem 175 rfl
set_option maxRecDepth 100000 in
theorem kw176 : Cond.methodLink "NativeWorks$Assemble\x72" 33 ⟨"NativeWorks$Reade\x72", "<init>", "(LNativeWorks$Source;LNativeWorks$Line;)V"⟩ ∈ rTs := kMem 176 rfl
set_option maxRecDepth 100000 in
theorem kw177 : Cond.instanceMethod ⟨"NativeWorks$Reade\x72", "<init>", "(LNativeWorks$Source;LNativeWorks$Line;)V"⟩ ∈ rTs := kMem 177 rfl
set_option maxRecDepth 100000 in
theorem kw178 : Cond.fieldLink "NativeWorks$Assemble\x72" 36 "NativeWorks$Assemble\x72" "reade\x72" "LNativeWorks$Reader;" ∈ rTs := kMem 178 rfl
set_option maxRecDepth 100000 in
theorem kw179 : Cond.classLink "NativeWorks$Assemble\x72" 40 "NativeWorks$Expression" ∈ rTs := kMem 179 rfl
set_option maxRecDepth 100000 in
theorem kw180 : Cond.instantiable "NativeWorks$Expression" 11 ∈ rTs := kMem 180 rfl
set_option maxRecDepth 100000 in
theorem kw181 : Cond.initialized "NativeWorks$Expression" ∈ rTs := kMem 181 rfl
set_option maxRecDepth 100000 in
theorem kw182 : Cond.code ⟨"NativeWorks$Expression", "<init>", "(LNativeWorks$Line;LNativeWorks$Units;)V"⟩ prog_3_method_1_code 3 (Option.none : Option FieldType) ∈ rTs := kMem 182 rfl
set_option maxRecDepth 100000 in
theorem kw183 : Cond.methodLink "NativeWorks$Assemble\x72" 42 ⟨"NativeWorks$Expression", "<init>", "(LNativeWorks$Line;LNativeWorks$Units;)V"⟩ ∈ rTs := kMem 183 rfl
set_option maxRecDepth 100000 in
theorem kw184 : Cond.instanceMethod ⟨"NativeWorks$Expression", "<init>", "(LNativeWorks$Line;LNativeWorks$Units;)V"⟩ ∈ rTs := kMem 184 rfl
set_option maxRecDepth 100000 in
theorem kw185 : Cond.fieldLink "NativeWorks$Assemble\x72" 45 "NativeWorks$Assemble\x72" "expression" "LNativeWorks$Expression;" ∈ rTs := kMem 185 rfl
set_option maxRecDepth 100000 in
theorem kw186 : Cond.classLink "NativeWorks$Assemble\x72" 49 "NativeWorks$Instruction" ∈ rTs := kMem 186 rfl
set_option maxRecDepth 100000 in
theorem kw187 : Cond.instantiable "NativeWorks$Instruction" 21 ∈ rTs := kMem 187 rfl
set_option maxRecDepth 100000 in
theorem kw188 : Cond.code ⟨"NativeWorks$Instruction", "<init>", "()V"⟩ prog_4_method_1_code 6 (Option.none : Option FieldType) ∈ rTs := kMem 188 rfl
set_option maxRecDepth 100000 in
theorem kw189 : Cond.methodLink "NativeWorks$Assemble\x72" 51 ⟨"NativeWorks$Instruction", "<init>", "()V"⟩ ∈ rTs := kMem 189 rfl
set_option maxRecDepth 100000 in
theorem kw190 : Cond.instanceMethod ⟨"NativeWorks$Instruction", "<init>", "()V"⟩ ∈ rTs := kMem 190 rfl
set_option maxRecDepth 100000 in
theorem kw191 : Cond.fieldLink "NativeWorks$Assemble\x72" 52 "NativeWorks$Assemble\x72" "instruction" "LNativeWorks$Instruction;" ∈ rTs := kMem 191 rfl
set_option maxRecDepth 100000 in
theorem kw192 : Cond.fieldLink "NativeWorks$Assemble\x72" 56 "NativeWorks$Assemble\x72" "told" "[I" ∈ rTs := kMem 192 rfl
set_option maxRecDepth 100000 in
theorem kw193 : Cond.methodLink "NativeWorks$Linke\x72" 3 ⟨"java/lang/Object", "<init>", "()V"⟩ ∈ rTs := kMem 193 rfl
set_option maxRecDepth 100000 in
theorem kw194 : Cond.fieldLink "NativeWorks$Linke\x72" 9 "NativeWorks$Linke\x72" "units" "LNativeWorks$Units;" ∈ rTs := kMem 194 rfl
set_option maxRecDepth 100000 in
theorem kw195 : Cond.fieldLink "NativeWorks$Linke\x72" 17 "NativeWorks$Linke\x72" "taken" "[Z" ∈ rTs := kMem 195 rfl
set_option maxRecDepth 100000 in
theorem kw196 : Cond.fieldLink "NativeWorks$Linke\x72" 21 "NativeWorks$Linke\x72" "needed" "[Z" ∈ rTs := kMem 196 rfl
set_option maxRecDepth 100000 in
theorem kw197 : Cond.fieldLink "NativeWorks$Linke\x72" 24 "NativeWorks$Linke\x72" "places" "[I" ∈ rTs := kMem 197 rfl
set_option maxRecDepth 100000 in
theorem kw198 : Cond.fieldLink "NativeWorks$Linke\x72" 28 "NativeWorks$Linke\x72" "stands" "[I" ∈ rTs := kMem 198 rfl
set_option maxRecDepth 100000 in
theorem kw199 : Cond.fieldLink "NativeWorks$Linke\x72" 31 "NativeWorks$Linke\x72" "from" "[I" ∈ rTs := kMem 199 rfl
set_option maxRecDepth 100000 in
theorem kw200 : Cond.fieldLink "NativeWorks$Linke\x72" 34 "NativeWorks$Linke\x72" "to" "[I" ∈ rTs := kMem 200 rfl
set_option maxRecDepth 100000 in
theorem kw201 : Cond.constant "NativeWorks$Linke\x72" 37 (nI 131072) ∈ rTs := kMem 201 (by decide +kernel)
set_option maxRecDepth 100000 in
theorem kw202 : Cond.fieldLink "NativeWorks$Linke\x72" 38 "NativeWorks$Linke\x72" "bytes" "[B" ∈ rTs := kMem 202 rfl
set_option maxRecDepth 100000 in
theorem kw203 : Cond.fieldLink "NativeWorks$Linke\x72" 42 "NativeWorks$Linke\x72" "origins" "[I" ∈ rTs := kMem 203 rfl
set_option maxRecDepth 100000 in
theorem kw204 : Cond.classLink "NativeWorks$Linke\x72" 45 "NativeWorks$Names" ∈ rTs := kMem 204 rfl
set_option maxRecDepth 100000 in
theorem kw205 : Cond.constant "NativeWorks$Linke\x72" 47 (nI 129024) ∈ rTs := kMem 205 (by decide +kernel)
set_option maxRecDepth 100000 in
theorem kw206 : Cond.methodLink "NativeWorks$Linke\x72" 48 ⟨"NativeWorks$Names", "<init>", "(II)V"⟩ ∈ rTs := kMem 206 rfl
set_option maxRecDepth 100000 in
theorem kw207 : Cond.fieldLink "NativeWorks$Linke\x72" 51 "NativeWorks$Linke\x72" "names" "LNativeWorks$Names;" ∈ rTs := kMem 207 rfl
set_option maxRecDepth 100000 in
theorem kw208 : Cond.fieldLink "NativeWorks$Linke\x72" 55 "NativeWorks$Linke\x72" "addresses" "[J" ∈ rTs := kMem 208 rfl
set_option maxRecDepth 100000 in
theorem kw209 : Cond.methodLink "NativeWorks$Linke\x72" 59 ⟨"java/util/Arrays", "fill", "([II)V"⟩ ∈ rTs := kMem 209 rfl
set_option maxRecDepth 100000 in
theorem kw210 : Cond.methodLink "NativeWorks$Memory" 3 ⟨"java/lang/Object", "<init>", "()V"⟩ ∈ rTs := kMem 210 rfl
set_option maxRecDepth 100000 in
theorem kw211 : Cond.constant "NativeWorks$Memory" 13 (nI 196608) ∈ rTs := kMem 211 (by decide +kernel)
set_option maxRecDepth 100000 in
theorem kw212 : Cond.fieldLink "NativeWorks$Memory" 14 "NativeWorks$Memory" "low" "[B" ∈ rTs := kMem 212 rfl
set_option maxRecDepth 100000 in
theorem kw213 : Cond.constant "NativeWorks$Memory" 18 (nI 65536) ∈ rTs := kMem 213 (by decide +kernel)
set_option maxRecDepth 100000 in
theorem kw214 : Cond.fieldLink "NativeWorks$Memory" 19 "NativeWorks$Memory" "stack" "[B" ∈ rTs := kMem 214 rfl
set_option maxRecDepth 100000 in
theorem kw215 : Cond.constant "NativeWorks$Memory" 22 (nI 131072) ∈ rTs := kMem 215 (by decide +kernel)
set_option maxRecDepth 100000 in
theorem kw216 : Cond.fieldLink "NativeWorks$Memory" 23 "NativeWorks$Memory" "begins" "[Z" ∈ rTs := kMem 216 rfl
set_option maxRecDepth 100000 in
theorem kw217 : Cond.fieldLink "NativeWorks$Memory" 27 "NativeWorks$Memory" "loaded" "Z" ∈ rTs := kMem 217 rfl
set_option maxRecDepth 100000 in
theorem kw218 : Cond.constantLong "NativeWorks$Memory" 31 (lN 4194304) ∈ rTs := kMem 218 (by decide +kernel)
set_option maxRecDepth 100000 in
theorem kw219 : Cond.fieldLink "NativeWorks$Memory" 33 "NativeWorks$Memory" "heap" "J" ∈ rTs := kMem 219 rfl
set_option maxRecDepth 100000 in
theorem kw220 : Cond.fieldLink "NativeWorks$Memory" 37 "NativeWorks$Memory" "end" "J" ∈ rTs := kMem 220 rfl
set_option maxRecDepth 100000 in
theorem kw221 : Cond.methodLink "NativeWorks$Machine" 3 ⟨"java/lang/Object", "<init>", "()V"⟩ ∈ rTs := kMem 221 rfl
set_option maxRecDepth 100000 in
theorem kw222 : Cond.classLink "NativeWorks$Machine" 9 "NativeWorks$Memory" ∈ rTs := kMem 222 rfl
set_option maxRecDepth 100000 in
theorem kw223 : Cond.instantiable "NativeWorks$Memory" 12 ∈ rTs := kMem 223 rfl
set_option maxRecDepth 100000 in
theorem kw224 : Cond.initialized "NativeWorks$Memory" ∈ rTs := kMem 224 rfl
set_option maxRecDepth 100000 in
theorem kw225 : Cond.code ⟨"NativeWorks$Memory", "<init>", "()V"⟩ prog_8_method_1_code 1 (Option.none : Option FieldType) ∈ rTs := kMem 225 rfl
set_option maxRecDepth 100000 in
theorem kw226 : Cond.methodLink "NativeWorks$Machine" 11 ⟨"NativeWorks$Memory", "<init>", "()V"⟩ ∈ rTs := kMem 226 rfl
set_option maxRecDepth 100000 in
theorem kw227 : Cond.instanceMethod ⟨"NativeWorks$Memory", "<init>", "()V"⟩ ∈ rTs := kMem 227 rfl
set_option maxRecDepth 100000 in
theorem kw228 : Cond.fieldLink "NativeWorks$Machine" 12 "NativeWorks$Machine" "memory" "LNativeWorks$Memory;" ∈ rTs := kMem 228 rfl
set_option maxRecDepth 100000 in
theorem kw229 : Cond.classLink "NativeWorks$Machine" 18 "NativeWorks$Instruction" ∈ rTs := kMem 229 rfl
set_option maxRecDepth 100000 in
theorem kw230 : Cond.methodLink "NativeWorks$Machine" 20 ⟨"NativeWorks$Instruction", "<init>", "()V"⟩ ∈ rTs := kMem 230 rfl
set_option maxRecDepth 100000 in
theorem kw231 : Cond.fieldLink "NativeWorks$Machine" 21 "NativeWorks$Machine" "it" "LNativeWorks$Instruction;" ∈ rTs := kMem 231 rfl
set_option maxRecDepth 100000 in
theorem kw232 : Cond.fieldLink "NativeWorks$Machine" 25 "NativeWorks$Machine" "\x72" "[J" ∈ rTs := kMem 232 rfl
set_option maxRecDepth 100000 in
theorem kw233 : Cond.constant "NativeWorks$Machine" 29 (nI 65536) ∈ rTs := kMem 233 (by decide +kernel)
set_option maxRecDepth 100000 in
theorem kw234 : Cond.fieldLink "NativeWorks$Machine" 30 "NativeWorks$Machine" "input" "[B" ∈ rTs := kMem 234 rfl
set_option maxRecDepth 100000 in
theorem kw235 : Cond.fieldLink "NativeWorks$Machine" 34 "NativeWorks$Machine" "output" "[B" ∈ rTs := kMem 235 rfl
set_option maxRecDepth 100000 in
theorem kw236 : Cond.fieldLink "NativeWorks$Machine" 37 "NativeWorks$Machine" "stops" "[J" ∈ rTs := kMem 236 rfl
set_option maxRecDepth 100000 in
theorem kw237 : Cond.methodLink "NativeWorks" 1 ⟨"java/lang/Object", "<init>", "()V"⟩ ∈ rTs := kMem 237 rfl
set_option maxRecDepth 100000 in
theorem kw238 : Cond.constant "NativeWorks" 9 (nI 65536) ∈ rTs := kMem 238 (by decide +kernel)
set_option maxRecDepth 100000 in
theorem kw239 : Cond.classLink "NativeWorks" 10 "NativeWorks$Units" ∈ rTs := kMem 239 rfl
set_option maxRecDepth 100000 in
theorem kw240 : Cond.instantiable "NativeWorks$Units" 19 ∈ rTs := kMem 240 rfl
set_option maxRecDepth 100000 in
theorem kw241 : Cond.initialized "NativeWorks$Units" ∈ rTs := kMem 241 rfl
set_option maxRecDepth 100000 in
theorem kw242 : Cond.code ⟨"NativeWorks$Units", "<init>", "()V"⟩ prog_12_method_1_code 1 (Option.none : Option FieldType) ∈ rTs := kMem 242 rfl
set_option maxRecDepth 100000 in
theorem kw243 : Cond.methodLink "NativeWorks" 12 ⟨"NativeWorks$Units", "<init>", "()V"⟩ ∈ rTs := kMem 243 rfl
set_option maxRecDepth 100000 in
theorem kw244 : Cond.instanceMethod ⟨"NativeWorks$Units", "<init>", "()V"⟩ ∈ rTs := kMem 244 rfl
set_option maxRecDepth 100000 in
theorem kw245 : Cond.fieldLink "NativeWorks" 13 "NativeWorks" "tape" "[B" ∈ rTs := kMem 245 rfl
set_option maxRecDepth 100000 in
theorem kw246 : Cond.fieldLink "NativeWorks" 17 "NativeWorks" "units" "LNativeWorks$Units;" ∈ rTs := kMem 246 rfl
set_option maxRecDepth 100000 in
theorem kw247 : Cond.classLink "NativeWorks" 21 "NativeWorks$Assemble\x72" ∈ rTs := kMem 247 rfl
set_option maxRecDepth 100000 in
theorem kw248 : Cond.instantiable "NativeWorks$Assemble\x72" 15 ∈ rTs := kMem 248 rfl
set_option maxRecDepth 100000 in
theorem kw249 : Cond.initialized "NativeWorks$Assemble\x72" ∈ rTs := kMem 249 rfl
set_option maxRecDepth 100000 in
theorem kw250 : Cond.code ⟨"NativeWorks$Assemble\x72", "<init>", "([BLNativeWorks$Units;)V"⟩ prog_2_method_1_code 4 (Option.none : Option FieldType) ∈ rTs := kMem 250 rfl
set_option maxRecDepth 100000 in
theorem kw251 : Cond.methodLink "NativeWorks" 23 ⟨"NativeWorks$Assemble\x72", "<init>", "([BLNativeWorks$Units;)V"⟩ ∈ rTs := kMem 251 rfl
set_option maxRecDepth 100000 in
theorem kw252 : Cond.instanceMethod ⟨"NativeWorks$Assemble\x72", "<init>", "([BLNativeWorks$Units;)V"⟩ ∈ rTs := kMem 252 rfl
set_option maxRecDepth 100000 in
theorem kw253 : Cond.fieldLink "NativeWorks" 26 "NativeWorks" "assemble\x72" "LNativeWorks$Assembler;" ∈ rTs := kMem 253 rfl
set_option maxRecDepth 100000 in
theorem kw254 : Cond.classLink "NativeWorks" 30 "NativeWorks$Linke\x72" ∈ rTs := kMem 254 rfl
set_option maxRecDepth 100000 in
theorem kw255 : Cond.instantiable "NativeWorks$Linke\x72" 18 ∈ rTs := kMem 255 rfl
set_option maxRecDepth 100000 in
theorem kw256 : Cond.initialized "NativeWorks$Linke\x72" ∈ rTs := kMem 256 rfl
set_option maxRecDepth 100000 in
theorem kw257 : Cond.code ⟨"NativeWorks$Linke\x72", "<init>", "(LNativeWorks$Units;)V"⟩ prog_6_method_1_code 2 (Option.none : Option FieldType) ∈ rTs := kMem 257 rfl
set_option maxRecDepth 100000 in
theorem kw258 : Cond.methodLink "NativeWorks" 32 ⟨"NativeWorks$Linke\x72", "<init>", "(LNativeWorks$Units;)V"⟩ ∈ rTs := kMem 258 rfl
set_option maxRecDepth 100000 in
theorem kw259 : Cond.instanceMethod ⟨"NativeWorks$Linke\x72", "<init>", "(LNativeWorks$Units;)V"⟩ ∈ rTs := kMem 259 rfl
set_option maxRecDepth 100000 in
theorem kw260 : Cond.fieldLink "NativeWorks" 35 "NativeWorks" "linke\x72" "LNativeWorks$Linker;" ∈ rTs := kMem 260 rfl
set_option maxRecDepth 100000 in
theorem kw261 : Cond.classLink "NativeWorks" 39 "NativeWorks$Machine" ∈ rTs := kMem 261 rfl
set_option maxRecDepth 100000 in
theorem kw262 : Cond.instantiable "NativeWorks$Machine" 17 ∈ rTs := kMem 262 rfl
set_option maxRecDepth 100000 in
theorem kw263 : Cond.initialized "NativeWorks$Machine" ∈ rTs := kMem 263 rfl
set_option maxRecDepth 100000 in
theorem kw264 : Cond.code ⟨"NativeWorks$Machine", "<init>", "()V"⟩ prog_7_method_1_code 1 (Option.none : Option FieldType) ∈ rTs := kMem 264 rfl
set_option maxRecDepth 100000 in
theorem kw265 : Cond.methodLink "NativeWorks" 41 ⟨"NativeWorks$Machine", "<init>", "()V"⟩ ∈ rTs := kMem 265 rfl
set_option maxRecDepth 100000 in
theorem kw266 : Cond.instanceMethod ⟨"NativeWorks$Machine", "<init>", "()V"⟩ ∈ rTs := kMem 266 rfl
set_option maxRecDepth 100000 in
theorem kw267 : Cond.fieldLink "NativeWorks" 42 "NativeWorks" "machine" "LNativeWorks$Machine;" ∈ rTs := kMem 267 rfl
set_option maxRecDepth 100000 in
theorem kw268 : Cond.fieldLink "NativeWorks" 46 "NativeWorks" "fed" "I" ∈ rTs := kMem 268 rfl
set_option maxRecDepth 100000 in
theorem kw269 : Cond.fieldLink "NativeWorks" 50 "NativeWorks" "faultKind" "I" ∈ rTs := kMem 269 rfl
set_option maxRecDepth 100000 in
theorem kw270 : Cond.fieldLink "NativeWorks" 53 "NativeWorks" "faultLine" "I" ∈ rTs := kMem 270 rfl
set_option maxRecDepth 100000 in
theorem kw271 : Cond.fieldLink "NativeWorks" 56 "NativeWorks" "faultUnit" "I" ∈ rTs := kMem 271 rfl
set_option maxRecDepth 100000 in
theorem kw272 : Cond.methodLink "NativeWorksModel$Code" 3 ⟨"java/lang/Object", "<init>", "()V"⟩ ∈ rTs := kMem 272 rfl
set_option maxRecDepth 100000 in
theorem kw273 : Cond.fieldLink "NativeWorksModel$Code" 9 "NativeWorksModel$Code" "address" "[I" ∈ rTs := kMem 273 rfl
set_option maxRecDepth 100000 in
theorem kw274 : Cond.fieldLink "NativeWorksModel$Code" 15 "NativeWorksModel$Code" "where" "[I" ∈ rTs := kMem 274 rfl
set_option maxRecDepth 100000 in
theorem kw275 : Cond.fieldLink "NativeWorksModel$Code" 18 "NativeWorksModel$Code" "shape" "[J" ∈ rTs := kMem 275 rfl
set_option maxRecDepth 100000 in
theorem kw276 : Cond.fieldLink "NativeWorksModel$Code" 22 "NativeWorksModel$Code" "displacement" "[J" ∈ rTs := kMem 276 rfl
set_option maxRecDepth 100000 in
theorem kw277 : Cond.fieldLink "NativeWorksModel$Code" 25 "NativeWorksModel$Code" "numbe\x72" "[J" ∈ rTs := kMem 277 rfl
set_option maxRecDepth 100000 in
theorem kw278 : Cond.code ⟨"jdk/internal/util/Preconditions", "checkFromToIndex", "(IIILjava/util/function/BiFunction;)I"⟩ prog_41_method_12_code 4 (Option.some FieldType.int) ∈ rTs := kMem 278 rfl
set_option maxRecDepth 100000 in
theorem kw279 : Cond.methodLink "java/lang/String" 1062 ⟨"jdk/internal/util/Preconditions", "checkFromToIndex", "(IIILjava/util/function/BiFunction;)I"⟩ ∈ rTs := kMem 279 rfl
set_option maxRecDepth 100000 in
theorem kw280 : Cond.static ⟨"jdk/internal/util/Preconditions", "checkFromToIndex", "(IIILjava/util/function/BiFunction;)I"⟩ ∈ rTs := kMem 280 rfl
set_option maxRecDepth 100000 in
theorem kw281 : Cond.code ⟨"java/util/Arrays", "checkLength", "(II)V"⟩ prog_38_method_131_code 2 (Option.none : Option FieldType) ∈ rTs := kMem 281 rfl
set_option maxRecDepth 100000 in
theorem kw282 : Cond.methodLink "java/util/Arrays" 343 ⟨"java/util/Arrays", "checkLength", "(II)V"⟩ ∈ rTs := kMem 282 rfl
set_option maxRecDepth 100000 in
theorem kw283 : Cond.static ⟨"java/util/Arrays", "checkLength", "(II)V"⟩ ∈ rTs := kMem 283 rfl
set_option maxRecDepth 100000 in
theorem kw284 : Cond.methodLink "java/util/Arrays" 304 ⟨"java/lang/Math", "min", "(II)I"⟩ ∈ rTs := kMem 284 rfl
set_option maxRecDepth 100000 in
theorem kw285 : Cond.static ⟨"java/lang/Math", "min", "(II)I"⟩ ∈ rTs := kMem 285 rfl
set_option maxRecDepth 100000 in
theorem kw286 : Cond.initialized "java/lang/Math" ∈ rTs := kMem 286 rfl
set_option maxRecDepth 100000 in
theorem kw287 : Cond.code ⟨"java/lang/Math", "min", "(II)I"⟩ prog_27_method_69_code 2 (Option.some FieldType.int) ∈ rTs := kMem 287 rfl
set_option maxRecDepth 100000 in
theorem kw288 : Cond.methodLink "java/util/Arrays" 150 ⟨"java/lang/System", "arraycopy", "(Ljava/lang/Object;ILjava/lang/Object;II)V"⟩ ∈ rTs := kMem 288 rfl
set_option maxRecDepth 100000 in
theorem kw289 : Cond.code ⟨"java/util/Arrays", "copyOfRangeByte", "([BII)[B"⟩ prog_38_method_133_code 5 (Option.some (FieldType.array FieldType.byte)) ∈ rTs := kMem 289 rfl
set_option maxRecDepth 100000 in
theorem kw290 : Cond.methodLink "java/util/Arrays" 339 ⟨"java/util/Arrays", "copyOfRangeByte", "([BII)[B"⟩ ∈ rTs := kMem 290 rfl
set_option maxRecDepth 100000 in
theorem kw291 : Cond.static ⟨"java/util/Arrays", "copyOfRangeByte", "([BII)[B"⟩ ∈ rTs := kMem 291 rfl
set_option maxRecDepth 100000 in
theorem kw292 : Cond.methodLink "java/lang/String" 1 ⟨"java/lang/Object", "<init>", "()V"⟩ ∈ rTs := kMem 292 rfl
set_option maxRecDepth 100000 in
theorem kw293 : Cond.classLink "java/lang/StringLatin1" 1 "java/lang/String" ∈ rTs := kMem 293 rfl
set_option maxRecDepth 100000 in
theorem kw294 : Cond.instantiable "java/lang/String" 4 ∈ rTs := kMem 294 rfl
set_option maxRecDepth 100000 in
theorem kw295 : Cond.code ⟨"java/util/Arrays", "copyOfRange", "([BII)[B"⟩ prog_38_method_132_code 3 (Option.some (FieldType.array FieldType.byte)) ∈ rTs := kMem 295 rfl
set_option maxRecDepth 100000 in
theorem kw296 : Cond.methodLink "java/lang/StringLatin1" 232 ⟨"java/util/Arrays", "copyOfRange", "([BII)[B"⟩ ∈ rTs := kMem 296 rfl
set_option maxRecDepth 100000 in
theorem kw297 : Cond.static ⟨"java/util/Arrays", "copyOfRange", "([BII)[B"⟩ ∈ rTs := kMem 297 rfl
set_option maxRecDepth 100000 in
theorem kw298 : Cond.code ⟨"java/lang/String", "<init>", "([BB)V"⟩ prog_30_method_151_code 3 (Option.none : Option FieldType) ∈ rTs := kMem 298 rfl
set_option maxRecDepth 100000 in
theorem kw299 : Cond.methodLink "java/lang/StringLatin1" 112 ⟨"java/lang/String", "<init>", "([BB)V"⟩ ∈ rTs := kMem 299 rfl
set_option maxRecDepth 100000 in
theorem kw300 : Cond.instanceMethod ⟨"java/lang/String", "<init>", "([BB)V"⟩ ∈ rTs := kMem 300 rfl
set_option maxRecDepth 100000 in
theorem kw301 : Cond.methodLink "java/lang/String" 505 ⟨"java/lang/String", "length", "()I"⟩ ∈ rTs := kMem 301 rfl
set_option maxRecDepth 100000 in
theorem kw302 : Cond.code ⟨"java/lang/String", "checkBoundsBeginEnd", "(III)V"⟩ prog_30_method_158_code 3 (Option.none : Option FieldType) ∈ rTs := kMem 302 rfl
set_option maxRecDepth 100000 in
theorem kw303 : Cond.methodLink "java/lang/String" 521 ⟨"java/lang/String", "checkBoundsBeginEnd", "(III)V"⟩ ∈ rTs := kMem 303 rfl
set_option maxRecDepth 100000 in
theorem kw304 : Cond.static ⟨"java/lang/String", "checkBoundsBeginEnd", "(III)V"⟩ ∈ rTs := kMem 304 rfl
set_option maxRecDepth 100000 in
theorem kw305 : Cond.code ⟨"java/lang/StringLatin1", "newString", "([BII)Ljava/lang/String;"⟩ prog_32_method_47_code 3 (Option.some (FieldType.object "java/lang/String")) ∈ rTs := kMem 305 rfl
set_option maxRecDepth 100000 in
theorem kw306 : Cond.methodLink "java/lang/String" 685 ⟨"java/lang/StringLatin1", "newString", "([BII)Ljava/lang/String;"⟩ ∈ rTs := kMem 306 rfl
set_option maxRecDepth 100000 in
theorem kw307 : Cond.static ⟨"java/lang/StringLatin1", "newString", "([BII)Ljava/lang/String;"⟩ ∈ rTs := kMem 307 rfl
set_option maxRecDepth 100000 in
theorem kw308 : Cond.methodLink "NativeWorksModel" 469 ⟨"java/lang/String", "length", "()I"⟩ ∈ rTs := kMem 308 rfl
set_option maxRecDepth 100000 in
theorem kw309 : Cond.methodLink "NativeWorksModel" 475 ⟨"java/lang/String", "charAt", "(I)C"⟩ ∈ rTs := kMem 309 rfl
set_option maxRecDepth 100000 in
theorem kw310 : Cond.fieldLink "NativeWorksModel" 14 "NativeWorksModel" "wordName" "[J" ∈ rTs := kMem 310 rfl
set_option maxRecDepth 100000 in
theorem kw311 : Cond.fieldLink "NativeWorksModel" 483 "NativeWorksModel" "words" "I" ∈ rTs := kMem 311 rfl
set_option maxRecDepth 100000 in
theorem kw312 : Cond.code ⟨"NativeWorksModel", "pack", "(Ljava/lang/String;)J"⟩ prog_14_method_2_code 4 (Option.some FieldType.long) ∈ rTs := kMem 312 rfl
set_option maxRecDepth 100000 in
theorem kw313 : Cond.methodLink "NativeWorksModel" 419 ⟨"NativeWorksModel", "pack", "(Ljava/lang/String;)J"⟩ ∈ rTs := kMem 313 rfl
set_option maxRecDepth 100000 in
theorem kw314 : Cond.static ⟨"NativeWorksModel", "pack", "(Ljava/lang/String;)J"⟩ ∈ rTs := kMem 314 rfl
set_option maxRecDepth 100000 in
theorem kw315 : Cond.initialized "NativeWorksModel" ∈ rTs := kMem 315 rfl
set_option maxRecDepth 100000 in
theorem kw316 : Cond.fieldLink "NativeWorksModel" 21 "NativeWorksModel" "wordCode" "[I" ∈ rTs := kMem 316 rfl
set_option maxRecDepth 100000 in
theorem kw317 : Cond.code ⟨"java/lang/String", "substring", "(II)Ljava/lang/String;"⟩ prog_30_method_92_code 5 (Option.some (FieldType.object "java/lang/String")) ∈ rTs := kMem 317 rfl
set_option maxRecDepth 100000 in
theorem kw318 : Cond.methodLink "NativeWorksModel" 479 ⟨"java/lang/String", "substring", "(II)Ljava/lang/String;"⟩ ∈ rTs := kMem 318 rfl
set_option maxRecDepth 100000 in
theorem kw319 : Cond.instanceMethod ⟨"java/lang/String", "substring", "(II)Ljava/lang/String;"⟩ ∈ rTs := kMem 319 rfl
set_option maxRecDepth 100000 in
theorem kw320 : Cond.selects "java/lang/String" ⟨"java/lang/String", "substring", "(II)Ljava/lang/String;"⟩ ⟨"java/lang/String", "substring", "(II)Ljava/lang/String;"⟩ ∈ rTs := kMem 320 rfl
set_option maxRecDepth 100000 in
theorem kw321 : Cond.code ⟨"NativeWorksModel", "word", "(Ljava/lang/String;I)V"⟩ prog_14_method_4_code 3 (Option.none : Option FieldType) ∈ rTs := kMem 321 rfl
set_option maxRecDepth 100000 in
theorem kw322 : Cond.methodLink "NativeWorksModel" 370 ⟨"NativeWorksModel", "word", "(Ljava/lang/String;I)V"⟩ ∈ rTs := kMem 322 rfl
set_option maxRecDepth 100000 in
theorem kw323 : Cond.instanceMethod ⟨"NativeWorksModel", "word", "(Ljava/lang/String;I)V"⟩ ∈ rTs := kMem 323 rfl
set_option maxRecDepth 100000 in
theorem kw324 : Cond.selects "NativeWorksModel" ⟨"NativeWorksModel", "word", "(Ljava/lang/String;I)V"⟩ ⟨"NativeWorksModel", "word", "(Ljava/lang/String;I)V"⟩ ∈ rTs := kMem 324 rfl
set_option maxRecDepth 100000 in
theorem kw325 : Cond.methodLink "java/lang/AbstractStringBuilde\x72" 3 ⟨"java/lang/Object", "<init>", "()V"⟩ ∈ rTs := kMem 325 rfl
set_option maxRecDepth 100000 in
theorem kw326 : Cond.fieldLink "java/lang/AbstractStringBuilde\x72" 18 "java/lang/String" "COMPACT_STRINGS" "Z" ∈ rTs := kMem 326 rfl
set_option maxRecDepth 100000 in
theorem kw327 : Cond.fieldLink "java/lang/AbstractStringBuilde\x72" 15 "java/lang/AbstractStringBuilde\x72" "value" "[B" ∈ rTs := kMem 327 rfl
set_option maxRecDepth 100000 in
theorem kw328 : Cond.fieldLink "java/lang/AbstractStringBuilde\x72" 22 "java/lang/AbstractStringBuilde\x72" "code\x72" "B" ∈ rTs := kMem 328 rfl
set_option maxRecDepth 100000 in
theorem kw329 : Cond.code ⟨"java/lang/AbstractStringBuilde\x72", "<init>", "(I)V"⟩ prog_17_method_2_code 2 (Option.none : Option FieldType) ∈ rTs := kMem 329 rfl
set_option maxRecDepth 100000 in
theorem kw330 : Cond.methodLink "java/lang/StringBuilde\x72" 1 ⟨"java/lang/AbstractStringBuilde\x72", "<init>", "(I)V"⟩ ∈ rTs := kMem 330 rfl
set_option maxRecDepth 100000 in
theorem kw331 : Cond.instanceMethod ⟨"java/lang/AbstractStringBuilde\x72", "<init>", "(I)V"⟩ ∈ rTs := kMem 331 rfl
set_option maxRecDepth 100000 in
theorem kw332 : Cond.initialized "java/lang/AbstractStringBuilde\x72" ∈ rTs := kMem 332 rfl
set_option maxRecDepth 100000 in
theorem kw333 : Cond.methodLink "java/lang/AbstractStringBuilde\x72" 40 ⟨"java/lang/String", "code\x72", "()B"⟩ ∈ rTs := kMem 333 rfl
set_option maxRecDepth 100000 in
theorem kw334 : Cond.methodLink "java/lang/String" 212 ⟨"java/lang/System", "arraycopy", "(Ljava/lang/Object;ILjava/lang/Object;II)V"⟩ ∈ rTs := kMem 334 rfl
set_option maxRecDepth 100000 in
theorem kw335 : Cond.code ⟨"java/lang/AbstractStringBuilde\x72", "inflateIfNeededFo\x72", "(Ljava/lang/String;)V"⟩ prog_17_method_71_code 2 (Option.none : Option FieldType) ∈ rTs := kMem 335 rfl
set_option maxRecDepth 100000 in
theorem kw336 : Cond.methodLink "java/lang/AbstractStringBuilde\x72" 397 ⟨"java/lang/AbstractStringBuilde\x72", "inflateIfNeededFo\x72", "(Ljava/lang/String;)V"⟩ ∈ rTs := kMem 336 rfl
set_option maxRecDepth 100000 in
theorem kw337 : Cond.sameMethod "java/lang/AbstractStringBuilde\x72" "java/lang/AbstractStringBuilde\x72" "inflateIfNeededFo\x72" "(Ljava/lang/String;)V" ∈ rTs := kMem 337 rfl
set_option maxRecDepth 100000 in
theorem kw338 : Cond.selects "java/lang/StringBuilde\x72" ⟨"java/lang/AbstractStringBuilde\x72", "inflateIfNeededFo\x72", "(Ljava/lang/String;)V"⟩ ⟨"java/lang/AbstractStringBuilde\x72", "inflateIfNeededFo\x72", "(Ljava/lang/String;)V"⟩ ∈ rTs := kMem 338 rfl
set_option maxRecDepth 100000 in
theorem kw339 : Cond.instanceMethod ⟨"java/lang/AbstractStringBuilde\x72", "inflateIfNeededFo\x72", "(Ljava/lang/String;)V"⟩ ∈ rTs := kMem 339 rfl
set_option maxRecDepth 100000 in
theorem kw340 : Cond.code ⟨"java/lang/String", "getBytes", "([BIB)V"⟩ prog_30_method_147_code 4 (Option.none : Option FieldType) ∈ rTs := kMem 340 rfl
set_option maxRecDepth 100000 in
theorem kw341 : Cond.methodLink "java/lang/AbstractStringBuilde\x72" 399 ⟨"java/lang/String", "getBytes", "([BIB)V"⟩ ∈ rTs := kMem 341 rfl
set_option maxRecDepth 100000 in
theorem kw342 : Cond.instanceMethod ⟨"java/lang/String", "getBytes", "([BIB)V"⟩ ∈ rTs := kMem 342 rfl
set_option maxRecDepth 100000 in
theorem kw343 : Cond.selects "java/lang/String" ⟨"java/lang/String", "getBytes", "([BIB)V"⟩ ⟨"java/lang/String", "getBytes", "([BIB)V"⟩ ∈ rTs := kMem 343 rfl
set_option maxRecDepth 100000 in
theorem kw344 : Cond.methodLink "java/lang/AbstractStringBuilde\x72" 32 ⟨"java/lang/String", "length", "()I"⟩ ∈ rTs := kMem 344 rfl
set_option maxRecDepth 100000 in
theorem kw345 : Cond.fieldLink "java/lang/AbstractStringBuilde\x72" 79 "java/lang/AbstractStringBuilde\x72" "count" "I" ∈ rTs := kMem 345 rfl
set_option maxRecDepth 100000 in
theorem kw346 : Cond.code ⟨"java/lang/AbstractStringBuilde\x72", "ensureCapacityInternal", "(I)V"⟩ prog_17_method_9_code 3 (Option.none : Option FieldType) ∈ rTs := kMem 346 rfl
set_option maxRecDepth 100000 in
theorem kw347 : Cond.methodLink "java/lang/AbstractStringBuilde\x72" 100 ⟨"java/lang/AbstractStringBuilde\x72", "ensureCapacityInternal", "(I)V"⟩ ∈ rTs := kMem 347 rfl
set_option maxRecDepth 100000 in
theorem kw348 : Cond.sameMethod "java/lang/AbstractStringBuilde\x72" "java/lang/AbstractStringBuilde\x72" "ensureCapacityInternal" "(I)V" ∈ rTs := kMem 348 rfl
set_option maxRecDepth 100000 in
theorem kw349 : Cond.selects "java/lang/StringBuilde\x72" ⟨"java/lang/AbstractStringBuilde\x72", "ensureCapacityInternal", "(I)V"⟩ ⟨"java/lang/AbstractStringBuilde\x72", "ensureCapacityInternal", "(I)V"⟩ ∈ rTs := kMem 349 rfl
set_option maxRecDepth 100000 in
theorem kw350 : Cond.instanceMethod ⟨"java/lang/AbstractStringBuilde\x72", "ensureCapacityInternal", "(I)V"⟩ ∈ rTs := kMem 350 rfl
set_option maxRecDepth 100000 in
theorem kw351 : Cond.code ⟨"java/lang/AbstractStringBuilde\x72", "putStringAt", "(ILjava/lang/String;)V"⟩ prog_17_method_73_code 3 (Option.none : Option FieldType) ∈ rTs := kMem 351 rfl
set_option maxRecDepth 100000 in
theorem kw352 : Cond.methodLink "java/lang/AbstractStringBuilde\x72" 208 ⟨"java/lang/AbstractStringBuilde\x72", "putStringAt", "(ILjava/lang/String;)V"⟩ ∈ rTs := kMem 352 rfl
set_option maxRecDepth 100000 in
theorem kw353 : Cond.sameMethod "java/lang/AbstractStringBuilde\x72" "java/lang/AbstractStringBuilde\x72" "putStringAt" "(ILjava/lang/String;)V" ∈ rTs := kMem 353 rfl
set_option maxRecDepth 100000 in
theorem kw354 : Cond.selects "java/lang/StringBuilde\x72" ⟨"java/lang/AbstractStringBuilde\x72", "putStringAt", "(ILjava/lang/String;)V"⟩ ⟨"java/lang/AbstractStringBuilde\x72", "putStringAt", "(ILjava/lang/String;)V"⟩ ∈ rTs := kMem 354 rfl
set_option maxRecDepth 100000 in
theorem kw355 : Cond.instanceMethod ⟨"java/lang/AbstractStringBuilde\x72", "putStringAt", "(ILjava/lang/String;)V"⟩ ∈ rTs := kMem 355 rfl
set_option maxRecDepth 100000 in
theorem kw356 : Cond.code ⟨"java/lang/AbstractStringBuilde\x72", "append", "(Ljava/lang/String;)Ljava/lang/AbstractStringBuilder;"⟩ prog_17_method_22_code 3 (Option.some (FieldType.object "java/lang/AbstractStringBuilde\x72")) ∈ rTs := kMem 356 rfl
set_option maxRecDepth 100000 in
theorem kw357 : Cond.methodLink "java/lang/StringBuilde\x72" 29 ⟨"java/lang/AbstractStringBuilde\x72", "append", "(Ljava/lang/String;)Ljava/lang/AbstractStringBuilder;"⟩ ∈ rTs := kMem 357 rfl
set_option maxRecDepth 100000 in
theorem kw358 : Cond.sameMethod "java/lang/AbstractStringBuilde\x72" "java/lang/AbstractStringBuilde\x72" "append" "(Ljava/lang/String;)Ljava/lang/AbstractStringBuilder;" ∈ rTs := kMem 358 rfl
set_option maxRecDepth 100000 in
theorem kw359 : Cond.superclass "java/lang/StringBuilde\x72" "java/lang/AbstractStringBuilde\x72" ∈ rTs := kMem 359 rfl
set_option maxRecDepth 100000 in
theorem kw360 : Cond.instanceMethod ⟨"java/lang/AbstractStringBuilde\x72", "append", "(Ljava/lang/String;)Ljava/lang/AbstractStringBuilder;"⟩ ∈ rTs := kMem 360 rfl
set_option maxRecDepth 100000 in
theorem kw361 : Cond.code ⟨"java/lang/AbstractStringBuilde\x72", "length", "()I"⟩ prog_17_method_6_code 1 (Option.some FieldType.int) ∈ rTs := kMem 361 rfl
set_option maxRecDepth 100000 in
theorem kw362 : Cond.methodLink "java/lang/StringBuilde\x72" 343 ⟨"java/lang/AbstractStringBuilde\x72", "length", "()I"⟩ ∈ rTs := kMem 362 rfl
set_option maxRecDepth 100000 in
theorem kw363 : Cond.sameMethod "java/lang/AbstractStringBuilde\x72" "java/lang/AbstractStringBuilde\x72" "length" "()I" ∈ rTs := kMem 363 rfl
set_option maxRecDepth 100000 in
theorem kw364 : Cond.instanceMethod ⟨"java/lang/AbstractStringBuilde\x72", "length", "()I"⟩ ∈ rTs := kMem 364 rfl
set_option maxRecDepth 100000 in
theorem kw365 : Cond.code ⟨"java/lang/AbstractStringBuilde\x72", "getValue", "()[B"⟩ prog_17_method_64_code 1 (Option.some (FieldType.array FieldType.byte)) ∈ rTs := kMem 365 rfl
set_option maxRecDepth 100000 in
theorem kw366 : Cond.methodLink "java/lang/String" 552 ⟨"java/lang/AbstractStringBuilde\x72", "getValue", "()[B"⟩ ∈ rTs := kMem 366 rfl
set_option maxRecDepth 100000 in
theorem kw367 : Cond.sameMethod "java/lang/AbstractStringBuilde\x72" "java/lang/AbstractStringBuilde\x72" "getValue" "()[B" ∈ rTs := kMem 367 rfl
set_option maxRecDepth 100000 in
theorem kw368 : Cond.selects "java/lang/StringBuilde\x72" ⟨"java/lang/AbstractStringBuilde\x72", "getValue", "()[B"⟩ ⟨"java/lang/AbstractStringBuilde\x72", "getValue", "()[B"⟩ ∈ rTs := kMem 368 rfl
set_option maxRecDepth 100000 in
theorem kw369 : Cond.instanceMethod ⟨"java/lang/AbstractStringBuilde\x72", "getValue", "()[B"⟩ ∈ rTs := kMem 369 rfl
set_option maxRecDepth 100000 in
theorem kw370 : Cond.code ⟨"java/lang/StringBuilde\x72", "length", "()I"⟩ prog_31_method_93_code 1 (Option.some FieldType.int) ∈ rTs := kMem 370 rfl
set_option maxRecDepth 100000 in
theorem kw371 : Cond.methodLink "java/lang/String" 549 ⟨"java/lang/AbstractStringBuilde\x72", "length", "()I"⟩ ∈ rTs := kMem 371 rfl
set_option maxRecDepth 100000 in
theorem kw372 : Cond.selects "java/lang/StringBuilde\x72" ⟨"java/lang/AbstractStringBuilde\x72", "length", "()I"⟩ ⟨"java/lang/StringBuilde\x72", "length", "()I"⟩ ∈ rTs := kMem 372 rfl
set_option maxRecDepth 100000 in
theorem kw373 : Cond.instanceMethod ⟨"java/lang/StringBuilde\x72", "length", "()I"⟩ ∈ rTs := kMem 373 rfl
set_option maxRecDepth 100000 in
theorem kw374 : Cond.initialized "java/lang/StringBuilde\x72" ∈ rTs := kMem 374 rfl
set_option maxRecDepth 100000 in
theorem kw375 : Cond.code ⟨"java/lang/AbstractStringBuilde\x72", "isLatin1", "()Z"⟩ prog_17_method_68_code 1 (Option.some FieldType.boolean) ∈ rTs := kMem 375 rfl
set_option maxRecDepth 100000 in
theorem kw376 : Cond.methodLink "java/lang/String" 1047 ⟨"java/lang/AbstractStringBuilde\x72", "isLatin1", "()Z"⟩ ∈ rTs := kMem 376 rfl
set_option maxRecDepth 100000 in
theorem kw377 : Cond.sameMethod "java/lang/AbstractStringBuilde\x72" "java/lang/AbstractStringBuilde\x72" "isLatin1" "()Z" ∈ rTs := kMem 377 rfl
set_option maxRecDepth 100000 in
theorem kw378 : Cond.selects "java/lang/StringBuilde\x72" ⟨"java/lang/AbstractStringBuilde\x72", "isLatin1", "()Z"⟩ ⟨"java/lang/AbstractStringBuilde\x72", "isLatin1", "()Z"⟩ ∈ rTs := kMem 378 rfl
set_option maxRecDepth 100000 in
theorem kw379 : Cond.instanceMethod ⟨"java/lang/AbstractStringBuilde\x72", "isLatin1", "()Z"⟩ ∈ rTs := kMem 379 rfl
set_option maxRecDepth 100000 in
theorem kw380 : Cond.methodLink "java/lang/String" 54 ⟨"java/util/Arrays", "copyOfRange", "([BII)[B"⟩ ∈ rTs := kMem 380 rfl
set_option maxRecDepth 100000 in
theorem kw381 : Cond.code ⟨"java/lang/String", "<init>", "(Ljava/lang/AbstractStringBuilder;Ljava/lang/Void;)V"⟩ prog_30_method_150_code 5 (Option.none : Option FieldType) ∈ rTs := kMem 381 rfl
set_option maxRecDepth 100000 in
theorem kw382 : Cond.methodLink "java/lang/String" 489 ⟨"java/lang/String", "<init>", "(Ljava/lang/AbstractStringBuilder;Ljava/lang/Void;)V"⟩ ∈ rTs := kMem 382 rfl
set_option maxRecDepth 100000 in
theorem kw383 : Cond.instanceMethod ⟨"java/lang/String", "<init>", "(Ljava/lang/AbstractStringBuilder;Ljava/lang/Void;)V"⟩ ∈ rTs := kMem 383 rfl
set_option maxRecDepth 100000 in
theorem kw384 : Cond.classLink "java/lang/StringBuilde\x72" 18 "java/lang/String" ∈ rTs := kMem 384 rfl
set_option maxRecDepth 100000 in
theorem kw385 : Cond.code ⟨"java/lang/String", "<init>", "(Ljava/lang/StringBuilder;)V"⟩ prog_30_method_53_code 2 (Option.none : Option FieldType) ∈ rTs := kMem 385 rfl
set_option maxRecDepth 100000 in
theorem kw386 : Cond.methodLink "java/lang/StringBuilde\x72" 137 ⟨"java/lang/String", "<init>", "(Ljava/lang/StringBuilder;)V"⟩ ∈ rTs := kMem 386 rfl
set_option maxRecDepth 100000 in
theorem kw387 : Cond.instanceMethod ⟨"java/lang/String", "<init>", "(Ljava/lang/StringBuilder;)V"⟩ ∈ rTs := kMem 387 rfl
set_option maxRecDepth 100000 in
theorem kw388 : Cond.classLink "NativeWorksModel" 530 "java/lang/StringBuilde\x72" ∈ rTs := kMem 388 rfl
set_option maxRecDepth 100000 in
theorem kw389 : Cond.instantiable "java/lang/StringBuilde\x72" 4 ∈ rTs := kMem 389 rfl
set_option maxRecDepth 100000 in
theorem kw390 : Cond.code ⟨"java/lang/StringBuilde\x72", "<init>", "()V"⟩ prog_31_method_1_code 1 (Option.none : Option FieldType) ∈ rTs := kMem 390 rfl
set_option maxRecDepth 100000 in
theorem kw391 : Cond.methodLink "NativeWorksModel" 532 ⟨"java/lang/StringBuilde\x72", "<init>", "()V"⟩ ∈ rTs := kMem 391 rfl
set_option maxRecDepth 100000 in
theorem kw392 : Cond.instanceMethod ⟨"java/lang/StringBuilde\x72", "<init>", "()V"⟩ ∈ rTs := kMem 392 rfl
set_option maxRecDepth 100000 in
theorem kw393 : Cond.code ⟨"java/lang/StringBuilde\x72", "append", "(Ljava/lang/String;)Ljava/lang/StringBuilder;"⟩ prog_31_method_7_code 2 (Option.some (FieldType.object "java/lang/StringBuilde\x72")) ∈ rTs := kMem 393 rfl
set_option maxRecDepth 100000 in
theorem kw394 : Cond.methodLink "NativeWorksModel" 533 ⟨"java/lang/StringBuilde\x72", "append", "(Ljava/lang/String;)Ljava/lang/StringBuilder;"⟩ ∈ rTs := kMem 394 rfl
set_option maxRecDepth 100000 in
theorem kw395 : Cond.instanceMethod ⟨"java/lang/StringBuilde\x72", "append", "(Ljava/lang/String;)Ljava/lang/StringBuilder;"⟩ ∈ rTs := kMem 395 rfl
set_option maxRecDepth 100000 in
theorem kw396 : Cond.selects "java/lang/StringBuilde\x72" ⟨"java/lang/StringBuilde\x72", "append", "(Ljava/lang/String;)Ljava/lang/StringBuilder;"⟩ ⟨"java/lang/StringBuilde\x72", "append", "(Ljava/lang/String;)Ljava/lang/StringBuilder;"⟩ ∈ rTs := kMem 396 rfl
set_option maxRecDepth 100000 in
theorem kw397 : Cond.code ⟨"java/lang/StringBuilde\x72", "toString", "()Ljava/lang/String;"⟩ prog_31_method_42_code 1 (Option.some (FieldType.object "java/lang/String")) ∈ rTs := kMem 397 rfl
set_option maxRecDepth 100000 in
theorem kw398 : Cond.methodLink "NativeWorksModel" 537 ⟨"java/lang/StringBuilde\x72", "toString", "()Ljava/lang/String;"⟩ ∈ rTs := kMem 398 rfl
set_option maxRecDepth 100000 in
theorem kw399 : Cond.instanceMethod ⟨"java/lang/StringBuilde\x72", "toString", "()Ljava/lang/String;"⟩ ∈ rTs := kMem 399 rfl
set_option maxRecDepth 100000 in
theorem kw400 : Cond.selects "java/lang/StringBuilde\x72" ⟨"java/lang/StringBuilde\x72", "toString", "()Ljava/lang/String;"⟩ ⟨"java/lang/StringBuilde\x72", "toString", "()Ljava/lang/String;"⟩ ∈ rTs := kMem 400 rfl
set_option maxRecDepth 100000 in
theorem kw401 : Cond.classLink "NativeWorksModel" 470 "java/lang/String" ∈ rTs := kMem 401 rfl
set_option maxRecDepth 100000 in
theorem kw402 : Cond.code ⟨"NativeWorksModel", "joined", "(Ljava/lang/String;Ljava/lang/String;)Ljava/lang/String;"⟩ prog_14_method_6_code 2 (Option.some (FieldType.object "java/lang/String")) ∈ rTs := kMem 402 rfl
set_option maxRecDepth 100000 in
theorem kw403 : Cond.methodLink "NativeWorksModel" 526 ⟨"NativeWorksModel", "joined", "(Ljava/lang/String;Ljava/lang/String;)Ljava/lang/String;"⟩ ∈ rTs := kMem 403 rfl
set_option maxRecDepth 100000 in
theorem kw404 : Cond.static ⟨"NativeWorksModel", "joined", "(Ljava/lang/String;Ljava/lang/String;)Ljava/lang/String;"⟩ ∈ rTs := kMem 404 rfl
set_option maxRecDepth 100000 in
theorem kw405 : Cond.fieldLink "NativeWorksModel" 18 "NativeWorksModel" "registerName" "[J" ∈ rTs := kMem 405 rfl
set_option maxRecDepth 100000 in
theorem kw406 : Cond.fieldLink "NativeWorksModel" 605 "NativeWorksModel" "registers" "I" ∈ rTs := kMem 406 rfl
set_option maxRecDepth 100000 in
theorem kw407 : Cond.fieldLink "NativeWorksModel" 25 "NativeWorksModel" "registerCode" "[I" ∈ rTs := kMem 407 rfl
set_option maxRecDepth 100000 in
theorem kw408 : Cond.fieldLink "java/lang/Intege\x72" 83 "java/lang/Intege\x72" "DigitOnes" "[B" ∈ rTs := kMem 408 rfl
set_option maxRecDepth 100000 in
theorem kw409 : Cond.fieldLink "java/lang/Intege\x72" 87 "java/lang/Intege\x72" "DigitTens" "[B" ∈ rTs := kMem 409 rfl
set_option maxRecDepth 100000 in
theorem kw410 : Cond.code ⟨"java/lang/Intege\x72", "stringSize", "(I)I"⟩ prog_25_method_13_code 4 (Option.some FieldType.int) ∈ rTs := kMem 410 rfl
set_option maxRecDepth 100000 in
theorem kw411 : Cond.methodLink "java/lang/AbstractStringBuilde\x72" 245 ⟨"java/lang/Intege\x72", "stringSize", "(I)I"⟩ ∈ rTs := kMem 411 rfl
set_option maxRecDepth 100000 in
theorem kw412 : Cond.static ⟨"java/lang/Intege\x72", "stringSize", "(I)I"⟩ ∈ rTs := kMem 412 rfl
set_option maxRecDepth 100000 in
theorem kw413 : Cond.initialized "java/lang/Intege\x72" ∈ rTs := kMem 413 rfl
set_option maxRecDepth 100000 in
theorem kw414 : Cond.methodLink "java/lang/AbstractStringBuilde\x72" 83 ⟨"java/lang/AbstractStringBuilde\x72", "isLatin1", "()Z"⟩ ∈ rTs := kMem 414 rfl
set_option maxRecDepth 100000 in
theorem kw415 : Cond.code ⟨"java/lang/Intege\x72", "getChars", "(II[B)I"⟩ prog_25_method_12_code 7 (Option.some FieldType.int) ∈ rTs := kMem 415 rfl
set_option maxRecDepth 100000 in
theorem kw416 : Cond.methodLink "java/lang/AbstractStringBuilde\x72" 248 ⟨"java/lang/Intege\x72", "getChars", "(II[B)I"⟩ ∈ rTs := kMem 416 rfl
set_option maxRecDepth 100000 in
theorem kw417 : Cond.static ⟨"java/lang/Intege\x72", "getChars", "(II[B)I"⟩ ∈ rTs := kMem 417 rfl
set_option maxRecDepth 100000 in
theorem kw418 : Cond.code ⟨"java/lang/AbstractStringBuilde\x72", "append", "(I)Ljava/lang/AbstractStringBuilder;"⟩ prog_17_method_32_code 4 (Option.some (FieldType.object "java/lang/AbstractStringBuilde\x72")) ∈ rTs := kMem 418 rfl
set_option maxRecDepth 100000 in
theorem kw419 : Cond.methodLink "java/lang/StringBuilde\x72" 53 ⟨"java/lang/AbstractStringBuilde\x72", "append", "(I)Ljava/lang/AbstractStringBuilder;"⟩ ∈ rTs := kMem 419 rfl
set_option maxRecDepth 100000 in
theorem kw420 : Cond.sameMethod "java/lang/AbstractStringBuilde\x72" "java/lang/AbstractStringBuilde\x72" "append" "(I)Ljava/lang/AbstractStringBuilder;" ∈ rTs := kMem 420 rfl
set_option maxRecDepth 100000 in
theorem kw421 : Cond.instanceMethod ⟨"java/lang/AbstractStringBuilde\x72", "append", "(I)Ljava/lang/AbstractStringBuilder;"⟩ ∈ rTs := kMem 421 rfl
set_option maxRecDepth 100000 in
theorem kw422 : Cond.code ⟨"java/lang/StringBuilde\x72", "append", "(I)Ljava/lang/StringBuilder;"⟩ prog_31_method_15_code 2 (Option.some (FieldType.object "java/lang/StringBuilde\x72")) ∈ rTs := kMem 422 rfl
set_option maxRecDepth 100000 in
theorem kw423 : Cond.methodLink "NativeWorksModel" 543 ⟨"java/lang/StringBuilde\x72", "append", "(I)Ljava/lang/StringBuilder;"⟩ ∈ rTs := kMem 423 rfl
set_option maxRecDepth 100000 in
theorem kw424 : Cond.instanceMethod ⟨"java/lang/StringBuilde\x72", "append", "(I)Ljava/lang/StringBuilder;"⟩ ∈ rTs := kMem 424 rfl
set_option maxRecDepth 100000 in
theorem kw425 : Cond.selects "java/lang/StringBuilde\x72" ⟨"java/lang/StringBuilde\x72", "append", "(I)Ljava/lang/StringBuilder;"⟩ ⟨"java/lang/StringBuilde\x72", "append", "(I)Ljava/lang/StringBuilder;"⟩ ∈ rTs := kMem 425 rfl
set_option maxRecDepth 100000 in
theorem kw426 : Cond.code ⟨"NativeWorksModel", "registerNamed", "(Ljava/lang/String;I)V"⟩ prog_14_method_9_code 3 (Option.none : Option FieldType) ∈ rTs := kMem 426 rfl
set_option maxRecDepth 100000 in
theorem kw427 : Cond.methodLink "NativeWorksModel" 594 ⟨"NativeWorksModel", "registerNamed", "(Ljava/lang/String;I)V"⟩ ∈ rTs := kMem 427 rfl
set_option maxRecDepth 100000 in
theorem kw428 : Cond.instanceMethod ⟨"NativeWorksModel", "registerNamed", "(Ljava/lang/String;I)V"⟩ ∈ rTs := kMem 428 rfl
set_option maxRecDepth 100000 in
theorem kw429 : Cond.selects "NativeWorksModel" ⟨"NativeWorksModel", "registerNamed", "(Ljava/lang/String;I)V"⟩ ⟨"NativeWorksModel", "registerNamed", "(Ljava/lang/String;I)V"⟩ ∈ rTs := kMem 429 rfl
set_option maxRecDepth 100000 in
theorem kw430 : Cond.code ⟨"NativeWorksModel", "numbered", "(ILjava/lang/String;)Ljava/lang/String;"⟩ prog_14_method_7_code 2 (Option.some (FieldType.object "java/lang/String")) ∈ rTs := kMem 430 rfl
set_option maxRecDepth 100000 in
theorem kw431 : Cond.methodLink "NativeWorksModel" 599 ⟨"NativeWorksModel", "numbered", "(ILjava/lang/String;)Ljava/lang/String;"⟩ ∈ rTs := kMem 431 rfl
set_option maxRecDepth 100000 in
theorem kw432 : Cond.static ⟨"NativeWorksModel", "numbered", "(ILjava/lang/String;)Ljava/lang/String;"⟩ ∈ rTs := kMem 432 rfl
set_option maxRecDepth 100000 in
theorem kw433 : Cond.fieldLink "NativeWorksModel" 258 "NativeWorksModel" "rowOp" "[I" ∈ rTs := kMem 433 rfl
set_option maxRecDepth 100000 in
theorem kw434 : Cond.fieldLink "NativeWorksModel" 1075 "NativeWorksModel" "rows" "I" ∈ rTs := kMem 434 rfl
set_option maxRecDepth 100000 in
theorem kw435 : Cond.fieldLink "NativeWorksModel" 261 "NativeWorksModel" "rowSizes" "[I" ∈ rTs := kMem 435 rfl
set_option maxRecDepth 100000 in
theorem kw436 : Cond.fieldLink "NativeWorksModel" 264 "NativeWorksModel" "rowPattern" "[I" ∈ rTs := kMem 436 rfl
set_option maxRecDepth 100000 in
theorem kw437 : Cond.fieldLink "NativeWorksModel" 267 "NativeWorksModel" "rowLead" "[I" ∈ rTs := kMem 437 rfl
set_option maxRecDepth 100000 in
theorem kw438 : Cond.fieldLink "NativeWorksModel" 270 "NativeWorksModel" "rowCode" "[I" ∈ rTs := kMem 438 rfl
set_option maxRecDepth 100000 in
theorem kw439 : Cond.fieldLink "NativeWorksModel" 273 "NativeWorksModel" "rowTell" "[I" ∈ rTs := kMem 439 rfl
set_option maxRecDepth 100000 in
theorem kw440 : Cond.fieldLink "NativeWorksModel" 276 "NativeWorksModel" "rowNumbe\x72" "[I" ∈ rTs := kMem 440 rfl
set_option maxRecDepth 100000 in
theorem kw441 : Cond.code ⟨"NativeWorksModel", "row", "(IIIIIII)V"⟩ prog_14_method_102_code 8 (Option.none : Option FieldType) ∈ rTs := kMem 441 rfl
set_option maxRecDepth 100000 in
theorem kw442 : Cond.methodLink "NativeWorksModel" 1103 ⟨"NativeWorksModel", "row", "(IIIIIII)V"⟩ ∈ rTs := kMem 442 rfl
set_option maxRecDepth 100000 in
theorem kw443 : Cond.instanceMethod ⟨"NativeWorksModel", "row", "(IIIIIII)V"⟩ ∈ rTs := kMem 443 rfl
set_option maxRecDepth 100000 in
theorem kw444 : Cond.selects "NativeWorksModel" ⟨"NativeWorksModel", "row", "(IIIIIII)V"⟩ ⟨"NativeWorksModel", "row", "(IIIIIII)V"⟩ ∈ rTs := kMem 444 rfl
set_option maxRecDepth 100000 in
theorem kw445 : Cond.code ⟨"NativeWorksModel", "fillRest", "()V"⟩ prog_14_method_104_code 2 (Option.none : Option FieldType) ∈ rTs := kMem 445 rfl
set_option maxRecDepth 100000 in
theorem kw446 : Cond.methodLink "NativeWorksModel" 1107 ⟨"NativeWorksModel", "fillRest", "()V"⟩ ∈ rTs := kMem 446 rfl
set_option maxRecDepth 100000 in
theorem kw447 : Cond.instanceMethod ⟨"NativeWorksModel", "fillRest", "()V"⟩ ∈ rTs := kMem 447 rfl
set_option maxRecDepth 100000 in
theorem kw448 : Cond.selects "NativeWorksModel" ⟨"NativeWorksModel", "fillRest", "()V"⟩ ⟨"NativeWorksModel", "fillRest", "()V"⟩ ∈ rTs := kMem 448 rfl
set_option maxRecDepth 100000 in
theorem kw449 : Cond.methodLink "NativeWorksModel" 1 ⟨"java/lang/Object", "<init>", "()V"⟩ ∈ rTs := kMem 449 rfl
set_option maxRecDepth 100000 in
theorem kw450 : Cond.constant "NativeWorksModel" 9 (nI 65536) ∈ rTs := kMem 450 (by decide +kernel)
set_option maxRecDepth 100000 in
theorem kw451 : Cond.fieldLink "NativeWorksModel" 10 "NativeWorksModel" "tape" "[B" ∈ rTs := kMem 451 rfl
set_option maxRecDepth 100000 in
theorem kw452 : Cond.fieldLink "NativeWorksModel" 28 "NativeWorksModel" "symbolUnit" "[I" ∈ rTs := kMem 452 rfl
set_option maxRecDepth 100000 in
theorem kw453 : Cond.fieldLink "NativeWorksModel" 31 "NativeWorksModel" "isLibrary" "[Z" ∈ rTs := kMem 453 rfl
set_option maxRecDepth 100000 in
theorem kw454 : Cond.fieldLink "NativeWorksModel" 35 "NativeWorksModel" "firstItem" "[I" ∈ rTs := kMem 454 rfl
set_option maxRecDepth 100000 in
theorem kw455 : Cond.fieldLink "NativeWorksModel" 38 "NativeWorksModel" "firstSymbol" "[I" ∈ rTs := kMem 455 rfl
set_option maxRecDepth 100000 in
theorem kw456 : Cond.fieldLink "NativeWorksModel" 41 "NativeWorksModel" "firstWait" "[I" ∈ rTs := kMem 456 rfl
set_option maxRecDepth 100000 in
theorem kw457 : Cond.fieldLink "NativeWorksModel" 44 "NativeWorksModel" "sectionSize" "[I" ∈ rTs := kMem 457 rfl
set_option maxRecDepth 100000 in
theorem kw458 : Cond.fieldLink "NativeWorksModel" 47 "NativeWorksModel" "kept" "[Z" ∈ rTs := kMem 458 rfl
set_option maxRecDepth 100000 in
theorem kw459 : Cond.fieldLink "NativeWorksModel" 50 "NativeWorksModel" "faultUnit" "I" ∈ rTs := kMem 459 rfl
set_option maxRecDepth 100000 in
theorem kw460 : Cond.constant "NativeWorksModel" 54 (nI 129024) ∈ rTs := kMem 460 (by decide +kernel)
set_option maxRecDepth 100000 in
theorem kw461 : Cond.fieldLink "NativeWorksModel" 55 "NativeWorksModel" "pool" "[B" ∈ rTs := kMem 461 rfl
set_option maxRecDepth 100000 in
theorem kw462 : Cond.fieldLink "NativeWorksModel" 58 "NativeWorksModel" "nameAt" "[I" ∈ rTs := kMem 462 rfl
set_option maxRecDepth 100000 in
theorem kw463 : Cond.fieldLink "NativeWorksModel" 61 "NativeWorksModel" "nameLength" "[I" ∈ rTs := kMem 463 rfl
set_option maxRecDepth 100000 in
theorem kw464 : Cond.fieldLink "NativeWorksModel" 64 "NativeWorksModel" "nameSum" "[J" ∈ rTs := kMem 464 rfl
set_option maxRecDepth 100000 in
theorem kw465 : Cond.fieldLink "NativeWorksModel" 67 "NativeWorksModel" "labelItem" "[I" ∈ rTs := kMem 465 rfl
set_option maxRecDepth 100000 in
theorem kw466 : Cond.fieldLink "NativeWorksModel" 70 "NativeWorksModel" "isConstant" "[Z" ∈ rTs := kMem 466 rfl
set_option maxRecDepth 100000 in
theorem kw467 : Cond.fieldLink "NativeWorksModel" 73 "NativeWorksModel" "isUsed" "[Z" ∈ rTs := kMem 467 rfl
set_option maxRecDepth 100000 in
theorem kw468 : Cond.fieldLink "NativeWorksModel" 76 "NativeWorksModel" "isGlobal" "[Z" ∈ rTs := kMem 468 rfl
set_option maxRecDepth 100000 in
theorem kw469 : Cond.fieldLink "NativeWorksModel" 79 "NativeWorksModel" "isWeak" "[Z" ∈ rTs := kMem 469 rfl
set_option maxRecDepth 100000 in
theorem kw470 : Cond.fieldLink "NativeWorksModel" 82 "NativeWorksModel" "constant" "[J" ∈ rTs := kMem 470 rfl
set_option maxRecDepth 100000 in
theorem kw471 : Cond.fieldLink "NativeWorksModel" 85 "NativeWorksModel" "itemKind" "[B" ∈ rTs := kMem 471 rfl
set_option maxRecDepth 100000 in
theorem kw472 : Cond.fieldLink "NativeWorksModel" 88 "NativeWorksModel" "itemSection" "[B" ∈ rTs := kMem 472 rfl
set_option maxRecDepth 100000 in
theorem kw473 : Cond.fieldLink "NativeWorksModel" 91 "NativeWorksModel" "itemLine" "[I" ∈ rTs := kMem 473 rfl
set_option maxRecDepth 100000 in
theorem kw474 : Cond.fieldLink "NativeWorksModel" 94 "NativeWorksModel" "itemSize" "[I" ∈ rTs := kMem 474 rfl
set_option maxRecDepth 100000 in
theorem kw475 : Cond.fieldLink "NativeWorksModel" 97 "NativeWorksModel" "itemOffset" "[I" ∈ rTs := kMem 475 rfl
set_option maxRecDepth 100000 in
theorem kw476 : Cond.fieldLink "NativeWorksModel" 100 "NativeWorksModel" "itemData" "[I" ∈ rTs := kMem 476 rfl
set_option maxRecDepth 100000 in
theorem kw477 : Cond.fieldLink "NativeWorksModel" 103 "NativeWorksModel" "itemShape" "[J" ∈ rTs := kMem 477 rfl
set_option maxRecDepth 100000 in
theorem kw478 : Cond.fieldLink "NativeWorksModel" 106 "NativeWorksModel" "itemDisplacement" "[I" ∈ rTs := kMem 478 rfl
set_option maxRecDepth 100000 in
theorem kw479 : Cond.fieldLink "NativeWorksModel" 109 "NativeWorksModel" "itemNumbe\x72" "[J" ∈ rTs := kMem 479 rfl
set_option maxRecDepth 100000 in
theorem kw480 : Cond.constant "NativeWorksModel" 112 (nI 132172) ∈ rTs := kMem 480 (by decide +kernel)
set_option maxRecDepth 100000 in
theorem kw481 : Cond.fieldLink "NativeWorksModel" 113 "NativeWorksModel" "data" "[B" ∈ rTs := kMem 481 rfl
set_option maxRecDepth 100000 in
theorem kw482 : Cond.fieldLink "NativeWorksModel" 116 "NativeWorksModel" "waitItem" "[I" ∈ rTs := kMem 482 rfl
set_option maxRecDepth 100000 in
theorem kw483 : Cond.fieldLink "NativeWorksModel" 119 "NativeWorksModel" "waitAt" "[I" ∈ rTs := kMem 483 rfl
set_option maxRecDepth 100000 in
theorem kw484 : Cond.fieldLink "NativeWorksModel" 122 "NativeWorksModel" "waitPlus" "[I" ∈ rTs := kMem 484 rfl
set_option maxRecDepth 100000 in
theorem kw485 : Cond.fieldLink "NativeWorksModel" 125 "NativeWorksModel" "waitMinus" "[I" ∈ rTs := kMem 485 rfl
set_option maxRecDepth 100000 in
theorem kw486 : Cond.fieldLink "NativeWorksModel" 128 "NativeWorksModel" "waitSize" "[B" ∈ rTs := kMem 486 rfl
set_option maxRecDepth 100000 in
theorem kw487 : Cond.fieldLink "NativeWorksModel" 131 "NativeWorksModel" "waitWhat" "[B" ∈ rTs := kMem 487 rfl
set_option maxRecDepth 100000 in
theorem kw488 : Cond.fieldLink "NativeWorksModel" 134 "NativeWorksModel" "waitConstant" "[J" ∈ rTs := kMem 488 rfl
set_option maxRecDepth 100000 in
theorem kw489 : Cond.fieldLink "NativeWorksModel" 137 "NativeWorksModel" "line" "[B" ∈ rTs := kMem 489 rfl
set_option maxRecDepth 100000 in
theorem kw490 : Cond.fieldLink "NativeWorksModel" 140 "NativeWorksModel" "frameKind" "[I" ∈ rTs := kMem 490 rfl
set_option maxRecDepth 100000 in
theorem kw491 : Cond.fieldLink "NativeWorksModel" 143 "NativeWorksModel" "frameStop" "[I" ∈ rTs := kMem 491 rfl
set_option maxRecDepth 100000 in
theorem kw492 : Cond.fieldLink "NativeWorksModel" 146 "NativeWorksModel" "frameStopLine" "[I" ∈ rTs := kMem 492 rfl
set_option maxRecDepth 100000 in
theorem kw493 : Cond.fieldLink "NativeWorksModel" 149 "NativeWorksModel" "frameBody" "[I" ∈ rTs := kMem 493 rfl
set_option maxRecDepth 100000 in
theorem kw494 : Cond.fieldLink "NativeWorksModel" 152 "NativeWorksModel" "frameBodyLine" "[I" ∈ rTs := kMem 494 rfl
set_option maxRecDepth 100000 in
theorem kw495 : Cond.fieldLink "NativeWorksModel" 155 "NativeWorksModel" "frameLeft" "[I" ∈ rTs := kMem 495 rfl
set_option maxRecDepth 100000 in
theorem kw496 : Cond.fieldLink "NativeWorksModel" 158 "NativeWorksModel" "frameOwn" "[I" ∈ rTs := kMem 496 rfl
set_option maxRecDepth 100000 in
theorem kw497 : Cond.fieldLink "NativeWorksModel" 161 "NativeWorksModel" "frameMacro" "[I" ∈ rTs := kMem 497 rfl
set_option maxRecDepth 100000 in
theorem kw498 : Cond.fieldLink "NativeWorksModel" 164 "NativeWorksModel" "frameNumbe\x72" "[I" ∈ rTs := kMem 498 rfl
set_option maxRecDepth 100000 in
theorem kw499 : Cond.fieldLink "NativeWorksModel" 167 "NativeWorksModel" "frameElse" "[Z" ∈ rTs := kMem 499 rfl
set_option maxRecDepth 100000 in
theorem kw500 : Cond.classLink "NativeWorksModel" 170 "[[B" ∈ rTs := kMem 500 rfl
set_option maxRecDepth 100000 in
theorem kw501 : Cond.fieldLink "NativeWorksModel" 172 "NativeWorksModel" "argument" "[[B" ∈ rTs := kMem 501 rfl
set_option maxRecDepth 100000 in
theorem kw502 : Cond.classLink "NativeWorksModel" 175 "[[I" ∈ rTs := kMem 502 rfl
set_option maxRecDepth 100000 in
theorem kw503 : Cond.fieldLink "NativeWorksModel" 177 "NativeWorksModel" "argumentAt" "[[I" ∈ rTs := kMem 503 rfl
set_option maxRecDepth 100000 in
theorem kw504 : Cond.fieldLink "NativeWorksModel" 180 "NativeWorksModel" "arguments" "[I" ∈ rTs := kMem 504 rfl
set_option maxRecDepth 100000 in
theorem kw505 : Cond.fieldLink "NativeWorksModel" 183 "NativeWorksModel" "macroName" "[I" ∈ rTs := kMem 505 rfl
set_option maxRecDepth 100000 in
theorem kw506 : Cond.fieldLink "NativeWorksModel" 186 "NativeWorksModel" "macroLength" "[I" ∈ rTs := kMem 506 rfl
set_option maxRecDepth 100000 in
theorem kw507 : Cond.fieldLink "NativeWorksModel" 189 "NativeWorksModel" "macroParameters" "[I" ∈ rTs := kMem 507 rfl
set_option maxRecDepth 100000 in
theorem kw508 : Cond.fieldLink "NativeWorksModel" 192 "NativeWorksModel" "macroBody" "[I" ∈ rTs := kMem 508 rfl
set_option maxRecDepth 100000 in
theorem kw509 : Cond.fieldLink "NativeWorksModel" 195 "NativeWorksModel" "macroBodyLine" "[I" ∈ rTs := kMem 509 rfl
set_option maxRecDepth 100000 in
theorem kw510 : Cond.fieldLink "NativeWorksModel" 198 "NativeWorksModel" "macroEnd" "[I" ∈ rTs := kMem 510 rfl
set_option maxRecDepth 100000 in
theorem kw511 : Cond.fieldLink "NativeWorksModel" 201 "NativeWorksModel" "macroEndLine" "[I" ∈ rTs := kMem 511 rfl
set_option maxRecDepth 100000 in
theorem kw512 : Cond.fieldLink "NativeWorksModel" 204 "NativeWorksModel" "token" "[I" ∈ rTs := kMem 512 rfl
set_option maxRecDepth 100000 in
theorem kw513 : Cond.fieldLink "NativeWorksModel" 207 "NativeWorksModel" "tokenStart" "[I" ∈ rTs := kMem 513 rfl
set_option maxRecDepth 100000 in
theorem kw514 : Cond.fieldLink "NativeWorksModel" 210 "NativeWorksModel" "tokenLength" "[I" ∈ rTs := kMem 514 rfl
set_option maxRecDepth 100000 in
theorem kw515 : Cond.fieldLink "NativeWorksModel" 213 "NativeWorksModel" "tokenValue" "[J" ∈ rTs := kMem 515 rfl
set_option maxRecDepth 100000 in
theorem kw516 : Cond.fieldLink "NativeWorksModel" 216 "NativeWorksModel" "name" "[B" ∈ rTs := kMem 516 rfl
set_option maxRecDepth 100000 in
theorem kw517 : Cond.fieldLink "NativeWorksModel" 219 "NativeWorksModel" "value" "[J" ∈ rTs := kMem 517 rfl
set_option maxRecDepth 100000 in
theorem kw518 : Cond.fieldLink "NativeWorksModel" 222 "NativeWorksModel" "plus" "[I" ∈ rTs := kMem 518 rfl
set_option maxRecDepth 100000 in
theorem kw519 : Cond.fieldLink "NativeWorksModel" 225 "NativeWorksModel" "minus" "[I" ∈ rTs := kMem 519 rfl
set_option maxRecDepth 100000 in
theorem kw520 : Cond.fieldLink "NativeWorksModel" 228 "NativeWorksModel" "operato\x72" "[I" ∈ rTs := kMem 520 rfl
set_option maxRecDepth 100000 in
theorem kw521 : Cond.fieldLink "NativeWorksModel" 231 "NativeWorksModel" "piece" "[I" ∈ rTs := kMem 521 rfl
set_option maxRecDepth 100000 in
theorem kw522 : Cond.fieldLink "NativeWorksModel" 234 "NativeWorksModel" "spanPlus" "[I" ∈ rTs := kMem 522 rfl
set_option maxRecDepth 100000 in
theorem kw523 : Cond.fieldLink "NativeWorksModel" 237 "NativeWorksModel" "spanMinus" "[I" ∈ rTs := kMem 523 rfl
set_option maxRecDepth 100000 in
theorem kw524 : Cond.fieldLink "NativeWorksModel" 240 "NativeWorksModel" "spanLine" "[I" ∈ rTs := kMem 524 rfl
set_option maxRecDepth 100000 in
theorem kw525 : Cond.fieldLink "NativeWorksModel" 243 "NativeWorksModel" "kind" "[I" ∈ rTs := kMem 525 rfl
set_option maxRecDepth 100000 in
theorem kw526 : Cond.fieldLink "NativeWorksModel" 246 "NativeWorksModel" "registe\x72" "[I" ∈ rTs := kMem 526 rfl
set_option maxRecDepth 100000 in
theorem kw527 : Cond.fieldLink "NativeWorksModel" 249 "NativeWorksModel" "told" "[I" ∈ rTs := kMem 527 rfl
set_option maxRecDepth 100000 in
theorem kw528 : Cond.fieldLink "NativeWorksModel" 252 "NativeWorksModel" "from" "[I" ∈ rTs := kMem 528 rfl
set_option maxRecDepth 100000 in
theorem kw529 : Cond.fieldLink "NativeWorksModel" 255 "NativeWorksModel" "to" "[I" ∈ rTs := kMem 529 rfl
set_option maxRecDepth 100000 in
theorem kw530 : Cond.fieldLink "NativeWorksModel" 279 "NativeWorksModel" "best" "[B" ∈ rTs := kMem 530 rfl
set_option maxRecDepth 100000 in
theorem kw531 : Cond.fieldLink "NativeWorksModel" 282 "NativeWorksModel" "trial" "[B" ∈ rTs := kMem 531 rfl
set_option maxRecDepth 100000 in
theorem kw532 : Cond.fieldLink "NativeWorksModel" 285 "NativeWorksModel" "termRegiste\x72" "[I" ∈ rTs := kMem 532 rfl
set_option maxRecDepth 100000 in
theorem kw533 : Cond.fieldLink "NativeWorksModel" 288 "NativeWorksModel" "termScale" "[I" ∈ rTs := kMem 533 rfl
set_option maxRecDepth 100000 in
theorem kw534 : Cond.classLink "NativeWorksModel" 291 "NativeWorksModel$Code" ∈ rTs := kMem 534 rfl
set_option maxRecDepth 100000 in
theorem kw535 : Cond.instantiable "NativeWorksModel$Code" 13 ∈ rTs := kMem 535 rfl
set_option maxRecDepth 100000 in
theorem kw536 : Cond.initialized "NativeWorksModel$Code" ∈ rTs := kMem 536 rfl
set_option maxRecDepth 100000 in
theorem kw537 : Cond.code ⟨"NativeWorksModel$Code", "<init>", "()V"⟩ prog_15_method_1_code 1 (Option.none : Option FieldType) ∈ rTs := kMem 537 rfl
set_option maxRecDepth 100000 in
theorem kw538 : Cond.instanceMethod ⟨"NativeWorksModel$Code", "<init>", "()V"⟩ ∈ rTs := kMem 538 rfl
set_option maxRecDepth 100000 in
theorem kw539 : Cond.fieldLink "NativeWorksModel" 294 "NativeWorksModel" "image" "LNativeWorksModel$Code;" ∈ rTs := kMem 539 rfl
set_option maxRecDepth 100000 in
theorem kw540 : Cond.fieldLink "NativeWorksModel" 298 "NativeWorksModel" "code" "LNativeWorksModel$Code;" ∈ rTs := kMem 540 rfl
set_option maxRecDepth 100000 in
theorem kw541 : Cond.constant "NativeWorksModel" 301 (nI 131072) ∈ rTs := kMem 541 (by decide +kernel)
set_option maxRecDepth 100000 in
theorem kw542 : Cond.fieldLink "NativeWorksModel" 302 "NativeWorksModel" "imageBytes" "[B" ∈ rTs := kMem 542 rfl
set_option maxRecDepth 100000 in
theorem kw543 : Cond.fieldLink "NativeWorksModel" 305 "NativeWorksModel" "taken" "[Z" ∈ rTs := kMem 543 rfl
set_option maxRecDepth 100000 in
theorem kw544 : Cond.fieldLink "NativeWorksModel" 308 "NativeWorksModel" "needed" "[Z" ∈ rTs := kMem 544 rfl
set_option maxRecDepth 100000 in
theorem kw545 : Cond.fieldLink "NativeWorksModel" 311 "NativeWorksModel" "addressOf" "[I" ∈ rTs := kMem 545 rfl
set_option maxRecDepth 100000 in
theorem kw546 : Cond.fieldLink "NativeWorksModel" 314 "NativeWorksModel" "imagePool" "[B" ∈ rTs := kMem 546 rfl
set_option maxRecDepth 100000 in
theorem kw547 : Cond.fieldLink "NativeWorksModel" 317 "NativeWorksModel" "imageNameAt" "[I" ∈ rTs := kMem 547 rfl
set_option maxRecDepth 100000 in
theorem kw548 : Cond.fieldLink "NativeWorksModel" 320 "NativeWorksModel" "imageNameLength" "[I" ∈ rTs := kMem 548 rfl
set_option maxRecDepth 100000 in
theorem kw549 : Cond.fieldLink "NativeWorksModel" 323 "NativeWorksModel" "imageNameAddress" "[I" ∈ rTs := kMem 549 rfl
set_option maxRecDepth 100000 in
theorem kw550 : Cond.fieldLink "NativeWorksModel" 326 "NativeWorksModel" "memory" "[B" ∈ rTs := kMem 550 rfl
set_option maxRecDepth 100000 in
theorem kw551 : Cond.fieldLink "NativeWorksModel" 329 "NativeWorksModel" "heap" "[B" ∈ rTs := kMem 551 rfl
set_option maxRecDepth 100000 in
theorem kw552 : Cond.fieldLink "NativeWorksModel" 332 "NativeWorksModel" "stack" "[B" ∈ rTs := kMem 552 rfl
set_option maxRecDepth 100000 in
theorem kw553 : Cond.fieldLink "NativeWorksModel" 335 "NativeWorksModel" "given" "[B" ∈ rTs := kMem 553 rfl
set_option maxRecDepth 100000 in
theorem kw554 : Cond.fieldLink "NativeWorksModel" 338 "NativeWorksModel" "shown" "[B" ∈ rTs := kMem 554 rfl
set_option maxRecDepth 100000 in
theorem kw555 : Cond.fieldLink "NativeWorksModel" 341 "NativeWorksModel" "registers0" "[J" ∈ rTs := kMem 555 rfl
set_option maxRecDepth 100000 in
theorem kw556 : Cond.fieldLink "NativeWorksModel" 344 "NativeWorksModel" "kept0" "[J" ∈ rTs := kMem 556 rfl
set_option maxRecDepth 100000 in
theorem kw557 : Cond.fieldLink "NativeWorksModel" 347 "NativeWorksModel" "places" "[J" ∈ rTs := kMem 557 rfl
set_option maxRecDepth 100000 in
theorem kw558 : Cond.code ⟨"NativeWorksModel", "wordsOf", "(Ljava/lang/String;I)V"⟩ prog_14_method_3_code 6 (Option.none : Option FieldType) ∈ rTs := kMem 558 rfl
set_option maxRecDepth 100000 in
theorem kw559 : Cond.methodLink "NativeWorksModel" 352 ⟨"NativeWorksModel", "wordsOf", "(Ljava/lang/String;I)V"⟩ ∈ rTs := kMem 559 rfl
set_option maxRecDepth 100000 in
theorem kw560 : Cond.instanceMethod ⟨"NativeWorksModel", "wordsOf", "(Ljava/lang/String;I)V"⟩ ∈ rTs := kMem 560 rfl
set_option maxRecDepth 100000 in
theorem kw561 : Cond.selects "NativeWorksModel" ⟨"NativeWorksModel", "wordsOf", "(Ljava/lang/String;I)V"⟩ ⟨"NativeWorksModel", "wordsOf", "(Ljava/lang/String;I)V"⟩ ∈ rTs := kMem 561 rfl
set_option maxRecDepth 100000 in
theorem kw562 : Cond.code ⟨"NativeWorksModel", "conditions", "(Ljava/lang/String;I)V"⟩ prog_14_method_5_code 5 (Option.none : Option FieldType) ∈ rTs := kMem 562 rfl
set_option maxRecDepth 100000 in
theorem kw563 : Cond.methodLink "NativeWorksModel" 360 ⟨"NativeWorksModel", "conditions", "(Ljava/lang/String;I)V"⟩ ∈ rTs := kMem 563 rfl
set_option maxRecDepth 100000 in
theorem kw564 : Cond.instanceMethod ⟨"NativeWorksModel", "conditions", "(Ljava/lang/String;I)V"⟩ ∈ rTs := kMem 564 rfl
set_option maxRecDepth 100000 in
theorem kw565 : Cond.selects "NativeWorksModel" ⟨"NativeWorksModel", "conditions", "(Ljava/lang/String;I)V"⟩ ⟨"NativeWorksModel", "conditions", "(Ljava/lang/String;I)V"⟩ ∈ rTs := kMem 565 rfl
set_option maxRecDepth 100000 in
theorem kw566 : Cond.constant "NativeWorksModel" 369 (nI 262181) ∈ rTs := kMem 566 (by decide +kernel)
set_option maxRecDepth 100000 in
theorem kw567 : Cond.constant "NativeWorksModel" 375 (nI 524325) ∈ rTs := kMem 567 (by decide +kernel)
set_option maxRecDepth 100000 in
theorem kw568 : Cond.constant "NativeWorksModel" 378 (nI 262182) ∈ rTs := kMem 568 (by decide +kernel)
set_option maxRecDepth 100000 in
theorem kw569 : Cond.constant "NativeWorksModel" 381 (nI 524326) ∈ rTs := kMem 569 (by decide +kernel)
set_option maxRecDepth 100000 in
theorem kw570 : Cond.constant "NativeWorksModel" 386 (nI 65586) ∈ rTs := kMem 570 (by decide +kernel)
set_option maxRecDepth 100000 in
theorem kw571 : Cond.constant "NativeWorksModel" 389 (nI 262194) ∈ rTs := kMem 571 (by decide +kernel)
set_option maxRecDepth 100000 in
theorem kw572 : Cond.constant "NativeWorksModel" 392 (nI 524338) ∈ rTs := kMem 572 (by decide +kernel)
set_option maxRecDepth 100000 in
theorem kw573 : Cond.constant "NativeWorksModel" 395 (nI 65587) ∈ rTs := kMem 573 (by decide +kernel)
set_option maxRecDepth 100000 in
theorem kw574 : Cond.constant "NativeWorksModel" 398 (nI 262195) ∈ rTs := kMem 574 (by decide +kernel)
set_option maxRecDepth 100000 in
theorem kw575 : Cond.constant "NativeWorksModel" 401 (nI 524339) ∈ rTs := kMem 575 (by decide +kernel)
set_option maxRecDepth 100000 in
theorem kw576 : Cond.code ⟨"NativeWorksModel", "registerNames", "()V"⟩ prog_14_method_8_code 5 (Option.none : Option FieldType) ∈ rTs := kMem 576 rfl
set_option maxRecDepth 100000 in
theorem kw577 : Cond.methodLink "NativeWorksModel" 414 ⟨"NativeWorksModel", "registerNames", "()V"⟩ ∈ rTs := kMem 577 rfl
set_option maxRecDepth 100000 in
theorem kw578 : Cond.instanceMethod ⟨"NativeWorksModel", "registerNames", "()V"⟩ ∈ rTs := kMem 578 rfl
set_option maxRecDepth 100000 in
theorem kw579 : Cond.selects "NativeWorksModel" ⟨"NativeWorksModel", "registerNames", "()V"⟩ ⟨"NativeWorksModel", "registerNames", "()V"⟩ ∈ rTs := kMem 579 rfl
set_option maxRecDepth 100000 in
theorem kw580 : Cond.fieldLink "NativeWorksModel" 423 "NativeWorksModel" "textWord" "J" ∈ rTs := kMem 580 rfl
set_option maxRecDepth 100000 in
theorem kw581 : Cond.fieldLink "NativeWorksModel" 429 "NativeWorksModel" "rodataWord" "J" ∈ rTs := kMem 581 rfl
set_option maxRecDepth 100000 in
theorem kw582 : Cond.fieldLink "NativeWorksModel" 433 "NativeWorksModel" "dataWord" "J" ∈ rTs := kMem 582 rfl
set_option maxRecDepth 100000 in
theorem kw583 : Cond.fieldLink "NativeWorksModel" 438 "NativeWorksModel" "bssWord" "J" ∈ rTs := kMem 583 rfl
set_option maxRecDepth 100000 in
theorem kw584 : Cond.fieldLink "NativeWorksModel" 441 "NativeWorksModel" "byteWord" "J" ∈ rTs := kMem 584 rfl
set_option maxRecDepth 100000 in
theorem kw585 : Cond.fieldLink "NativeWorksModel" 444 "NativeWorksModel" "dwordWord" "J" ∈ rTs := kMem 585 rfl
set_option maxRecDepth 100000 in
theorem kw586 : Cond.fieldLink "NativeWorksModel" 447 "NativeWorksModel" "qwordWord" "J" ∈ rTs := kMem 586 rfl
set_option maxRecDepth 100000 in
theorem kw587 : Cond.fieldLink "NativeWorksModel" 450 "NativeWorksModel" "relWord" "J" ∈ rTs := kMem 587 rfl
set_option maxRecDepth 100000 in
theorem kw588 : Cond.fieldLink "NativeWorksModel" 453 "NativeWorksModel" "equWord" "J" ∈ rTs := kMem 588 rfl
set_option maxRecDepth 100000 in
theorem kw589 : Cond.fieldLink "NativeWorksModel" 458 "NativeWorksModel" "repWord" "J" ∈ rTs := kMem 589 rfl
set_option maxRecDepth 100000 in
theorem kw590 : Cond.fieldLink "NativeWorksModel" 463 "NativeWorksModel" "startWord" "J" ∈ rTs := kMem 590 rfl
set_option maxRecDepth 100000 in
theorem kw591 : Cond.code ⟨"NativeWorksModel", "fillTable", "()V"⟩ prog_14_method_103_code 3 (Option.none : Option FieldType) ∈ rTs := kMem 591 rfl
set_option maxRecDepth 100000 in
theorem kw592 : Cond.methodLink "NativeWorksModel" 466 ⟨"NativeWorksModel", "fillTable", "()V"⟩ ∈ rTs := kMem 592 rfl
set_option maxRecDepth 100000 in
theorem kw593 : Cond.instanceMethod ⟨"NativeWorksModel", "fillTable", "()V"⟩ ∈ rTs := kMem 593 rfl
set_option maxRecDepth 100000 in
theorem kw594 : Cond.selects "NativeWorksModel" ⟨"NativeWorksModel", "fillTable", "()V"⟩ ⟨"NativeWorksModel", "fillTable", "()V"⟩ ∈ rTs := kMem 594 rfl
set_option maxRecDepth 100000 in
theorem kw595 : Cond.code ⟨"NativeWorks", "append", "(I)V"⟩ prog_1_method_21_code 3 (Option.none : Option FieldType) ∈ rTs := kMem 595 rfl
set_option maxRecDepth 100000 in
theorem kw596 : Cond.methodLink "NativeWorks" 59 ⟨"NativeWorks", "append", "(I)V"⟩ ∈ rTs := kMem 596 rfl
set_option maxRecDepth 100000 in
theorem kw597 : Cond.instanceMethod ⟨"NativeWorks", "append", "(I)V"⟩ ∈ rTs := kMem 597 rfl
set_option maxRecDepth 100000 in
theorem kw598 : Cond.selects "NativeWorks" ⟨"NativeWorks", "append", "(I)V"⟩ ⟨"NativeWorks", "append", "(I)V"⟩ ∈ rTs := kMem 598 rfl
set_option maxRecDepth 100000 in
theorem kw599 : Cond.initialized "NativeWorks" ∈ rTs := kMem 599 rfl
set_option maxRecDepth 100000 in
theorem kw600 : Cond.methodLink "NativeWorks" 224 ⟨"java/lang/Math", "min", "(II)I"⟩ ∈ rTs := kMem 600 rfl
set_option maxRecDepth 100000 in
theorem kw601 : Cond.methodLink "NativeWorks" 230 ⟨"java/lang/Math", "max", "(II)I"⟩ ∈ rTs := kMem 601 rfl
set_option maxRecDepth 100000 in
theorem kw602 : Cond.static ⟨"java/lang/Math", "max", "(II)I"⟩ ∈ rTs := kMem 602 rfl
set_option maxRecDepth 100000 in
theorem kw603 : Cond.code ⟨"java/lang/Math", "max", "(II)I"⟩ prog_27_method_65_code 2 (Option.some FieldType.int) ∈ rTs := kMem 603 rfl
set_option maxRecDepth 100000 in
theorem kw604 : Cond.fieldLink "NativeWorks$Units" 57 "NativeWorks$Units" "count" "I" ∈ rTs := kMem 604 rfl
set_option maxRecDepth 100000 in
theorem kw605 : Cond.methodLink "NativeWorks$Units" 77 ⟨"java/util/Arrays", "fill", "([II)V"⟩ ∈ rTs := kMem 605 rfl
set_option maxRecDepth 100000 in
theorem kw606 : Cond.fieldLink "NativeWorks$Units" 83 "NativeWorks$Names" "count" "I" ∈ rTs := kMem 606 rfl
set_option maxRecDepth 100000 in
theorem kw607 : Cond.fieldLink "NativeWorks$Units" 65 "NativeWorks$Units" "statementCount" "I" ∈ rTs := kMem 607 rfl
set_option maxRecDepth 100000 in
theorem kw608 : Cond.fieldLink "NativeWorks$Units" 68 "NativeWorks$Units" "waitCount" "I" ∈ rTs := kMem 608 rfl
set_option maxRecDepth 100000 in
theorem kw609 : Cond.fieldLink "NativeWorks$Units" 84 "NativeWorks$Units" "symbolsFrom" "I" ∈ rTs := kMem 609 rfl
set_option maxRecDepth 100000 in
theorem kw610 : Cond.fieldLink "NativeWorks$Units" 87 "NativeWorks$Units" "labelCount" "I" ∈ rTs := kMem 610 rfl
set_option maxRecDepth 100000 in
theorem kw611 : Cond.fieldLink "NativeWorks$Units" 90 "NativeWorks$Units" "putCount" "I" ∈ rTs := kMem 611 rfl
set_option maxRecDepth 100000 in
theorem kw612 : Cond.code ⟨"NativeWorks$Names", "cut", "(I)V"⟩ prog_9_method_4_code 2 (Option.none : Option FieldType) ∈ rTs := kMem 612 rfl
set_option maxRecDepth 100000 in
theorem kw613 : Cond.methodLink "NativeWorks$Source" 66 ⟨"NativeWorks$Names", "cut", "(I)V"⟩ ∈ rTs := kMem 613 rfl
set_option maxRecDepth 100000 in
theorem kw614 : Cond.instanceMethod ⟨"NativeWorks$Names", "cut", "(I)V"⟩ ∈ rTs := kMem 614 rfl
set_option maxRecDepth 100000 in
theorem kw615 : Cond.selects "NativeWorks$Names" ⟨"NativeWorks$Names", "cut", "(I)V"⟩ ⟨"NativeWorks$Names", "cut", "(I)V"⟩ ∈ rTs := kMem 615 rfl
set_option maxRecDepth 100000 in
theorem kw616 : Cond.code ⟨"NativeWorks$Source", "match", "()V"⟩ prog_11_method_4_code 5 (Option.none : Option FieldType) ∈ rTs := kMem 616 rfl
set_option maxRecDepth 100000 in
theorem kw617 : Cond.methodLink "NativeWorks$Source" 74 ⟨"NativeWorks$Source", "match", "()V"⟩ ∈ rTs := kMem 617 rfl
set_option maxRecDepth 100000 in
theorem kw618 : Cond.instanceMethod ⟨"NativeWorks$Source", "match", "()V"⟩ ∈ rTs := kMem 618 rfl
set_option maxRecDepth 100000 in
theorem kw619 : Cond.selects "NativeWorks$Source" ⟨"NativeWorks$Source", "match", "()V"⟩ ⟨"NativeWorks$Source", "match", "()V"⟩ ∈ rTs := kMem 619 rfl
set_option maxRecDepth 100000 in
theorem kw620 : Cond.code ⟨"NativeWorks$Source", "split", "(I)V"⟩ prog_11_method_2_code 3 (Option.none : Option FieldType) ∈ rTs := kMem 620 rfl
set_option maxRecDepth 100000 in
theorem kw621 : Cond.methodLink "NativeWorks$Reade\x72" 60 ⟨"NativeWorks$Source", "split", "(I)V"⟩ ∈ rTs := kMem 621 rfl
set_option maxRecDepth 100000 in
theorem kw622 : Cond.instanceMethod ⟨"NativeWorks$Source", "split", "(I)V"⟩ ∈ rTs := kMem 622 rfl
set_option maxRecDepth 100000 in
theorem kw623 : Cond.selects "NativeWorks$Source" ⟨"NativeWorks$Source", "split", "(I)V"⟩ ⟨"NativeWorks$Source", "split", "(I)V"⟩ ∈ rTs := kMem 623 rfl
set_option maxRecDepth 100000 in
theorem kw624 : Cond.fieldLink "NativeWorks$Reade\x72" 66 "NativeWorks$Reade\x72" "depth" "I" ∈ rTs := kMem 624 rfl
set_option maxRecDepth 100000 in
theorem kw625 : Cond.fieldLink "NativeWorks$Reade\x72" 70 "NativeWorks$Source" "lines" "I" ∈ rTs := kMem 625 rfl
set_option maxRecDepth 100000 in
theorem kw626 : Cond.fieldLink "NativeWorks$Reade\x72" 73 "NativeWorks$Reade\x72" "ifs" "I" ∈ rTs := kMem 626 rfl
set_option maxRecDepth 100000 in
theorem kw627 : Cond.fieldLink "NativeWorks$Reade\x72" 76 "NativeWorks$Reade\x72" "told" "I" ∈ rTs := kMem 627 rfl
set_option maxRecDepth 100000 in
theorem kw628 : Cond.fieldLink "NativeWorks$Reade\x72" 79 "NativeWorks$Reade\x72" "read" "I" ∈ rTs := kMem 628 rfl
set_option maxRecDepth 100000 in
theorem kw629 : Cond.fieldLink "NativeWorks$Reade\x72" 82 "NativeWorks$Reade\x72" "used" "I" ∈ rTs := kMem 629 rfl
set_option maxRecDepth 100000 in
theorem kw630 : Cond.fieldLink "NativeWorks$Reade\x72" 85 "NativeWorks$Reade\x72" "unended" "Z" ∈ rTs := kMem 630 rfl
set_option maxRecDepth 100000 in
theorem kw631 : Cond.constant "NativeWorks$Reade\x72" 89 (nI 1000000) ∈ rTs := kMem 631 (by decide +kernel)
set_option maxRecDepth 100000 in
theorem kw632 : Cond.code ⟨"NativeWorks$Units", "place", "()V"⟩ prog_12_method_17_code 5 (Option.none : Option FieldType) ∈ rTs := kMem 632 rfl
set_option maxRecDepth 100000 in
theorem kw633 : Cond.methodLink "NativeWorks$Units" 103 ⟨"NativeWorks$Units", "place", "()V"⟩ ∈ rTs := kMem 633 rfl
set_option maxRecDepth 100000 in
theorem kw634 : Cond.instanceMethod ⟨"NativeWorks$Units", "place", "()V"⟩ ∈ rTs := kMem 634 rfl
set_option maxRecDepth 100000 in
theorem kw635 : Cond.selects "NativeWorks$Units" ⟨"NativeWorks$Units", "place", "()V"⟩ ⟨"NativeWorks$Units", "place", "()V"⟩ ∈ rTs := kMem 635 rfl
set_option maxRecDepth 100000 in
theorem kw636 : Cond.code ⟨"NativeWorks$Units", "lengthen", "()Z"⟩ prog_12_method_18_code 6 (Option.some FieldType.boolean) ∈ rTs := kMem 636 rfl
set_option maxRecDepth 100000 in
theorem kw637 : Cond.methodLink "NativeWorks$Units" 106 ⟨"NativeWorks$Units", "lengthen", "()Z"⟩ ∈ rTs := kMem 637 rfl
set_option maxRecDepth 100000 in
theorem kw638 : Cond.instanceMethod ⟨"NativeWorks$Units", "lengthen", "()Z"⟩ ∈ rTs := kMem 638 rfl
set_option maxRecDepth 100000 in
theorem kw639 : Cond.selects "NativeWorks$Units" ⟨"NativeWorks$Units", "lengthen", "()Z"⟩ ⟨"NativeWorks$Units", "lengthen", "()Z"⟩ ∈ rTs := kMem 639 rfl
set_option maxRecDepth 100000 in
theorem kw640 : Cond.code ⟨"NativeWorks$Units", "settleWaits", "()V"⟩ prog_12_method_20_code 4 (Option.none : Option FieldType) ∈ rTs := kMem 640 rfl
set_option maxRecDepth 100000 in
theorem kw641 : Cond.methodLink "NativeWorks$Units" 110 ⟨"NativeWorks$Units", "settleWaits", "()V"⟩ ∈ rTs := kMem 641 rfl
set_option maxRecDepth 100000 in
theorem kw642 : Cond.instanceMethod ⟨"NativeWorks$Units", "settleWaits", "()V"⟩ ∈ rTs := kMem 642 rfl
set_option maxRecDepth 100000 in
theorem kw643 : Cond.selects "NativeWorks$Units" ⟨"NativeWorks$Units", "settleWaits", "()V"⟩ ⟨"NativeWorks$Units", "settleWaits", "()V"⟩ ∈ rTs := kMem 643 rfl
set_option maxRecDepth 100000 in
theorem kw644 : Cond.code ⟨"java/util/Arrays", "rangeCheck", "(III)V"⟩ prog_38_method_30_code 3 (Option.none : Option FieldType) ∈ rTs := kMem 644 rfl
set_option maxRecDepth 100000 in
theorem kw645 : Cond.methodLink "java/util/Arrays" 13 ⟨"java/util/Arrays", "rangeCheck", "(III)V"⟩ ∈ rTs := kMem 645 rfl
set_option maxRecDepth 100000 in
theorem kw646 : Cond.static ⟨"java/util/Arrays", "rangeCheck", "(III)V"⟩ ∈ rTs := kMem 646 rfl
set_option maxRecDepth 100000 in
theorem kw647 : Cond.fieldLink "NativeWorks$Units" 71 "NativeWorks$Units" "byteCount" "I" ∈ rTs := kMem 647 rfl
set_option maxRecDepth 100000 in
theorem kw648 : Cond.code ⟨"java/util/Arrays", "fill", "([BIIB)V"⟩ prog_38_method_110_code 5 (Option.none : Option FieldType) ∈ rTs := kMem 648 rfl
set_option maxRecDepth 100000 in
theorem kw649 : Cond.methodLink "NativeWorks$Units" 125 ⟨"java/util/Arrays", "fill", "([BIIB)V"⟩ ∈ rTs := kMem 649 rfl
set_option maxRecDepth 100000 in
theorem kw650 : Cond.static ⟨"java/util/Arrays", "fill", "([BIIB)V"⟩ ∈ rTs := kMem 650 rfl
set_option maxRecDepth 100000 in
theorem kw651 : Cond.fieldLink "NativeWorks$Assemble\x72" 122 "NativeWorks$Reade\x72" "source" "LNativeWorks$Source;" ∈ rTs := kMem 651 rfl
set_option maxRecDepth 100000 in
theorem kw652 : Cond.fieldLink "NativeWorks$Assemble\x72" 126 "NativeWorks$Source" "lines" "I" ∈ rTs := kMem 652 rfl
set_option maxRecDepth 100000 in
theorem kw653 : Cond.fieldLink "NativeWorks$Assemble\x72" 129 "NativeWorks$Reade\x72" "unended" "Z" ∈ rTs := kMem 653 rfl
set_option maxRecDepth 100000 in
theorem kw654 : Cond.fieldLink "NativeWorks$Assemble\x72" 133 "NativeWorks$Reade\x72" "ifs" "I" ∈ rTs := kMem 654 rfl
set_option maxRecDepth 100000 in
theorem kw655 : Cond.code ⟨"NativeWorks$Units", "brokenSpan", "()I"⟩ prog_12_method_12_code 5 (Option.some FieldType.int) ∈ rTs := kMem 655 rfl
set_option maxRecDepth 100000 in
theorem kw656 : Cond.methodLink "NativeWorks$Assemble\x72" 136 ⟨"NativeWorks$Units", "brokenSpan", "()I"⟩ ∈ rTs := kMem 656 rfl
set_option maxRecDepth 100000 in
theorem kw657 : Cond.instanceMethod ⟨"NativeWorks$Units", "brokenSpan", "()I"⟩ ∈ rTs := kMem 657 rfl
set_option maxRecDepth 100000 in
theorem kw658 : Cond.selects "NativeWorks$Units" ⟨"NativeWorks$Units", "brokenSpan", "()I"⟩ ⟨"NativeWorks$Units", "brokenSpan", "()I"⟩ ∈ rTs := kMem 658 rfl
set_option maxRecDepth 100000 in
theorem kw659 : Cond.code ⟨"NativeWorks$Units", "layOut", "()V"⟩ prog_12_method_15_code 3 (Option.none : Option FieldType) ∈ rTs := kMem 659 rfl
set_option maxRecDepth 100000 in
theorem kw660 : Cond.methodLink "NativeWorks$Assemble\x72" 139 ⟨"NativeWorks$Units", "layOut", "()V"⟩ ∈ rTs := kMem 660 rfl
set_option maxRecDepth 100000 in
theorem kw661 : Cond.instanceMethod ⟨"NativeWorks$Units", "layOut", "()V"⟩ ∈ rTs := kMem 661 rfl
set_option maxRecDepth 100000 in
theorem kw662 : Cond.selects "NativeWorks$Units" ⟨"NativeWorks$Units", "layOut", "()V"⟩ ⟨"NativeWorks$Units", "layOut", "()V"⟩ ∈ rTs := kMem 662 rfl
set_option maxRecDepth 100000 in
theorem kw663 : Cond.code ⟨"NativeWorks$Units", "overlong", "()I"⟩ prog_12_method_21_code 2 (Option.some FieldType.int) ∈ rTs := kMem 663 rfl
set_option maxRecDepth 100000 in
theorem kw664 : Cond.methodLink "NativeWorks$Assemble\x72" 142 ⟨"NativeWorks$Units", "overlong", "()I"⟩ ∈ rTs := kMem 664 rfl
set_option maxRecDepth 100000 in
theorem kw665 : Cond.instanceMethod ⟨"NativeWorks$Units", "overlong", "()I"⟩ ∈ rTs := kMem 665 rfl
set_option maxRecDepth 100000 in
theorem kw666 : Cond.selects "NativeWorks$Units" ⟨"NativeWorks$Units", "overlong", "()I"⟩ ⟨"NativeWorks$Units", "overlong", "()I"⟩ ∈ rTs := kMem 666 rfl
set_option maxRecDepth 100000 in
theorem kw667 : Cond.code ⟨"NativeWorks$Units", "write", "()Z"⟩ prog_12_method_22_code 5 (Option.some FieldType.boolean) ∈ rTs := kMem 667 rfl
set_option maxRecDepth 100000 in
theorem kw668 : Cond.methodLink "NativeWorks$Assemble\x72" 145 ⟨"NativeWorks$Units", "write", "()Z"⟩ ∈ rTs := kMem 668 rfl
set_option maxRecDepth 100000 in
theorem kw669 : Cond.instanceMethod ⟨"NativeWorks$Units", "write", "()Z"⟩ ∈ rTs := kMem 669 rfl
set_option maxRecDepth 100000 in
theorem kw670 : Cond.selects "NativeWorks$Units" ⟨"NativeWorks$Units", "write", "()Z"⟩ ⟨"NativeWorks$Units", "write", "()Z"⟩ ∈ rTs := kMem 670 rfl
set_option maxRecDepth 100000 in
theorem kw671 : Cond.code ⟨"NativeWorks$Units", "keepAll", "()V"⟩ prog_12_method_6_code 2 (Option.none : Option FieldType) ∈ rTs := kMem 671 rfl
set_option maxRecDepth 100000 in
theorem kw672 : Cond.methodLink "NativeWorks$Assemble\x72" 148 ⟨"NativeWorks$Units", "keepAll", "()V"⟩ ∈ rTs := kMem 672 rfl
set_option maxRecDepth 100000 in
theorem kw673 : Cond.instanceMethod ⟨"NativeWorks$Units", "keepAll", "()V"⟩ ∈ rTs := kMem 673 rfl
set_option maxRecDepth 100000 in
theorem kw674 : Cond.selects "NativeWorks$Units" ⟨"NativeWorks$Units", "keepAll", "()V"⟩ ⟨"NativeWorks$Units", "keepAll", "()V"⟩ ∈ rTs := kMem 674 rfl
set_option maxRecDepth 100000 in
theorem kw675 : Cond.code ⟨"NativeWorks$Units", "begin", "(Z)V"⟩ prog_12_method_4_code 3 (Option.none : Option FieldType) ∈ rTs := kMem 675 rfl
set_option maxRecDepth 100000 in
theorem kw676 : Cond.methodLink "NativeWorks$Assemble\x72" 60 ⟨"NativeWorks$Units", "begin", "(Z)V"⟩ ∈ rTs := kMem 676 rfl
set_option maxRecDepth 100000 in
theorem kw677 : Cond.instanceMethod ⟨"NativeWorks$Units", "begin", "(Z)V"⟩ ∈ rTs := kMem 677 rfl
set_option maxRecDepth 100000 in
theorem kw678 : Cond.selects "NativeWorks$Units" ⟨"NativeWorks$Units", "begin", "(Z)V"⟩ ⟨"NativeWorks$Units", "begin", "(Z)V"⟩ ∈ rTs := kMem 678 rfl
set_option maxRecDepth 100000 in
theorem kw679 : Cond.code ⟨"NativeWorks$Reade\x72", "open", "(I)V"⟩ prog_10_method_2_code 2 (Option.none : Option FieldType) ∈ rTs := kMem 679 rfl
set_option maxRecDepth 100000 in
theorem kw680 : Cond.methodLink "NativeWorks$Assemble\x72" 66 ⟨"NativeWorks$Reade\x72", "open", "(I)V"⟩ ∈ rTs := kMem 680 rfl
set_option maxRecDepth 100000 in
theorem kw681 : Cond.instanceMethod ⟨"NativeWorks$Reade\x72", "open", "(I)V"⟩ ∈ rTs := kMem 681 rfl
set_option maxRecDepth 100000 in
theorem kw682 : Cond.selects "NativeWorks$Reade\x72" ⟨"NativeWorks$Reade\x72", "open", "(I)V"⟩ ⟨"NativeWorks$Reade\x72", "open", "(I)V"⟩ ∈ rTs := kMem 682 rfl
set_option maxRecDepth 100000 in
theorem kw683 : Cond.fieldLink "NativeWorks$Assemble\x72" 70 "NativeWorks$Expression" "latestLength" "I" ∈ rTs := kMem 683 rfl
set_option maxRecDepth 100000 in
theorem kw684 : Cond.fieldLink "NativeWorks$Assemble\x72" 74 "NativeWorks$Assemble\x72" "section" "I" ∈ rTs := kMem 684 rfl
set_option maxRecDepth 100000 in
theorem kw685 : Cond.constant "NativeWorks$Assemble\x72" 77 (nI 65536) ∈ rTs := kMem 685 (by decide +kernel)
set_option maxRecDepth 100000 in
theorem kw686 : Cond.code ⟨"NativeWorks$Reade\x72", "advance", "()Z"⟩ prog_10_method_3_code 2 (Option.some FieldType.boolean) ∈ rTs := kMem 686 rfl
set_option maxRecDepth 100000 in
theorem kw687 : Cond.methodLink "NativeWorks$Assemble\x72" 78 ⟨"NativeWorks$Reade\x72", "advance", "()Z"⟩ ∈ rTs := kMem 687 rfl
set_option maxRecDepth 100000 in
theorem kw688 : Cond.instanceMethod ⟨"NativeWorks$Reade\x72", "advance", "()Z"⟩ ∈ rTs := kMem 688 rfl
set_option maxRecDepth 100000 in
theorem kw689 : Cond.selects "NativeWorks$Reade\x72" ⟨"NativeWorks$Reade\x72", "advance", "()Z"⟩ ⟨"NativeWorks$Reade\x72", "advance", "()Z"⟩ ∈ rTs := kMem 689 rfl
set_option maxRecDepth 100000 in
theorem kw690 : Cond.code ⟨"NativeWorks$Assemble\x72", "finish", "()I"⟩ prog_2_method_4_code 4 (Option.some FieldType.int) ∈ rTs := kMem 690 rfl
set_option maxRecDepth 100000 in
theorem kw691 : Cond.methodLink "NativeWorks$Assemble\x72" 113 ⟨"NativeWorks$Assemble\x72", "finish", "()I"⟩ ∈ rTs := kMem 691 rfl
set_option maxRecDepth 100000 in
theorem kw692 : Cond.instanceMethod ⟨"NativeWorks$Assemble\x72", "finish", "()I"⟩ ∈ rTs := kMem 692 rfl
set_option maxRecDepth 100000 in
theorem kw693 : Cond.selects "NativeWorks$Assemble\x72" ⟨"NativeWorks$Assemble\x72", "finish", "()I"⟩ ⟨"NativeWorks$Assemble\x72", "finish", "()I"⟩ ∈ rTs := kMem 693 rfl
set_option maxRecDepth 100000 in
theorem kw694 : Cond.code ⟨"NativeWorks", "emptied", "(I)I"⟩ prog_1_method_22_code 3 (Option.some FieldType.int) ∈ rTs := kMem 694 rfl
set_option maxRecDepth 100000 in
theorem kw695 : Cond.methodLink "NativeWorks" 63 ⟨"NativeWorks", "emptied", "(I)I"⟩ ∈ rTs := kMem 695 rfl
set_option maxRecDepth 100000 in
theorem kw696 : Cond.instanceMethod ⟨"NativeWorks", "emptied", "(I)I"⟩ ∈ rTs := kMem 696 rfl
set_option maxRecDepth 100000 in
theorem kw697 : Cond.selects "NativeWorks" ⟨"NativeWorks", "emptied", "(I)I"⟩ ⟨"NativeWorks", "emptied", "(I)I"⟩ ∈ rTs := kMem 697 rfl
set_option maxRecDepth 100000 in
theorem kw698 : Cond.fieldLink "NativeWorks" 67 "NativeWorks$Units" "count" "I" ∈ rTs := kMem 698 rfl
set_option maxRecDepth 100000 in
theorem kw699 : Cond.code ⟨"NativeWorks$Assemble\x72", "assemble", "(IZ)I"⟩ prog_2_method_2_code 4 (Option.some FieldType.int) ∈ rTs := kMem 699 rfl
set_option maxRecDepth 100000 in
theorem kw700 : Cond.methodLink "NativeWorks" 81 ⟨"NativeWorks$Assemble\x72", "assemble", "(IZ)I"⟩ ∈ rTs := kMem 700 rfl
set_option maxRecDepth 100000 in
theorem kw701 : Cond.instanceMethod ⟨"NativeWorks$Assemble\x72", "assemble", "(IZ)I"⟩ ∈ rTs := kMem 701 rfl
set_option maxRecDepth 100000 in
theorem kw702 : Cond.selects "NativeWorks$Assemble\x72" ⟨"NativeWorks$Assemble\x72", "assemble", "(IZ)I"⟩ ⟨"NativeWorks$Assemble\x72", "assemble", "(IZ)I"⟩ ∈ rTs := kMem 702 rfl
set_option maxRecDepth 100000 in
theorem kw703 : Cond.code ⟨"NativeWorks", "tell", "(III)V"⟩ prog_1_method_23_code 4 (Option.none : Option FieldType) ∈ rTs := kMem 703 rfl
set_option maxRecDepth 100000 in
theorem kw704 : Cond.methodLink "NativeWorks" 70 ⟨"NativeWorks", "tell", "(III)V"⟩ ∈ rTs := kMem 704 rfl
set_option maxRecDepth 100000 in
theorem kw705 : Cond.instanceMethod ⟨"NativeWorks", "tell", "(III)V"⟩ ∈ rTs := kMem 705 rfl
set_option maxRecDepth 100000 in
theorem kw706 : Cond.selects "NativeWorks" ⟨"NativeWorks", "tell", "(III)V"⟩ ⟨"NativeWorks", "tell", "(III)V"⟩ ∈ rTs := kMem 706 rfl
set_option maxRecDepth 100000 in
theorem kw707 : Cond.methodLink "NativeWorks$Units" 61 ⟨"NativeWorks$Names", "cut", "(I)V"⟩ ∈ rTs := kMem 707 rfl
set_option maxRecDepth 100000 in
theorem kw708 : Cond.fieldLink "NativeWorks$Units" 74 "NativeWorks$Units" "counted" "I" ∈ rTs := kMem 708 rfl
set_option maxRecDepth 100000 in
theorem kw709 : Cond.code ⟨"NativeWorks$Units", "empty", "()V"⟩ prog_12_method_3_code 1 (Option.none : Option FieldType) ∈ rTs := kMem 709 rfl
set_option maxRecDepth 100000 in
theorem kw710 : Cond.methodLink "NativeWorks" 88 ⟨"NativeWorks$Units", "empty", "()V"⟩ ∈ rTs := kMem 710 rfl
set_option maxRecDepth 100000 in
theorem kw711 : Cond.instanceMethod ⟨"NativeWorks$Units", "empty", "()V"⟩ ∈ rTs := kMem 711 rfl
set_option maxRecDepth 100000 in
theorem kw712 : Cond.selects "NativeWorks$Units" ⟨"NativeWorks$Units", "empty", "()V"⟩ ⟨"NativeWorks$Units", "empty", "()V"⟩ ∈ rTs := kMem 712 rfl
set_option maxRecDepth 100000 in
theorem kw713 : Cond.code ⟨"NativeWorks$Units", "has", "(II)Z"⟩ prog_12_method_2_code 3 (Option.some FieldType.boolean) ∈ rTs := kMem 713 rfl
set_option maxRecDepth 100000 in
theorem kw714 : Cond.methodLink "NativeWorks" 91 ⟨"NativeWorks$Units", "has", "(II)Z"⟩ ∈ rTs := kMem 714 rfl
set_option maxRecDepth 100000 in
theorem kw715 : Cond.instanceMethod ⟨"NativeWorks$Units", "has", "(II)Z"⟩ ∈ rTs := kMem 715 rfl
set_option maxRecDepth 100000 in
theorem kw716 : Cond.selects "NativeWorks$Units" ⟨"NativeWorks$Units", "has", "(II)Z"⟩ ⟨"NativeWorks$Units", "has", "(II)Z"⟩ ∈ rTs := kMem 716 rfl
set_option maxRecDepth 100000 in
theorem kw717 : Cond.fieldLink "NativeWorks$Linke\x72" 133 "NativeWorks$Linke\x72" "faultKind" "I" ∈ rTs := kMem 717 rfl
set_option maxRecDepth 100000 in
theorem kw718 : Cond.fieldLink "NativeWorks$Linke\x72" 136 "NativeWorks$Linke\x72" "faultLine" "I" ∈ rTs := kMem 718 rfl
set_option maxRecDepth 100000 in
theorem kw719 : Cond.fieldLink "NativeWorks$Linke\x72" 139 "NativeWorks$Linke\x72" "faultUnit" "I" ∈ rTs := kMem 719 rfl
set_option maxRecDepth 100000 in
theorem kw720 : Cond.fieldLink "NativeWorks$Linke\x72" 154 "NativeWorks$Units" "count" "I" ∈ rTs := kMem 720 rfl
set_option maxRecDepth 100000 in
theorem kw721 : Cond.code ⟨"NativeWorks$Linke\x72", "tell", "(III)V"⟩ prog_6_method_3_code 4 (Option.none : Option FieldType) ∈ rTs := kMem 721 rfl
set_option maxRecDepth 100000 in
theorem kw722 : Cond.methodLink "NativeWorks$Linke\x72" 65 ⟨"NativeWorks$Linke\x72", "tell", "(III)V"⟩ ∈ rTs := kMem 722 rfl
set_option maxRecDepth 100000 in
theorem kw723 : Cond.instanceMethod ⟨"NativeWorks$Linke\x72", "tell", "(III)V"⟩ ∈ rTs := kMem 723 rfl
set_option maxRecDepth 100000 in
theorem kw724 : Cond.selects "NativeWorks$Linke\x72" ⟨"NativeWorks$Linke\x72", "tell", "(III)V"⟩ ⟨"NativeWorks$Linke\x72", "tell", "(III)V"⟩ ∈ rTs := kMem 724 rfl
set_option maxRecDepth 100000 in
theorem kw725 : Cond.code ⟨"NativeWorks$Linke\x72", "takeUnits", "()V"⟩ prog_6_method_9_code 3 (Option.none : Option FieldType) ∈ rTs := kMem 725 rfl
set_option maxRecDepth 100000 in
theorem kw726 : Cond.methodLink "NativeWorks$Linke\x72" 69 ⟨"NativeWorks$Linke\x72", "takeUnits", "()V"⟩ ∈ rTs := kMem 726 rfl
set_option maxRecDepth 100000 in
theorem kw727 : Cond.instanceMethod ⟨"NativeWorks$Linke\x72", "takeUnits", "()V"⟩ ∈ rTs := kMem 727 rfl
set_option maxRecDepth 100000 in
theorem kw728 : Cond.selects "NativeWorks$Linke\x72" ⟨"NativeWorks$Linke\x72", "takeUnits", "()V"⟩ ⟨"NativeWorks$Linke\x72", "takeUnits", "()V"⟩ ∈ rTs := kMem 728 rfl
set_option maxRecDepth 100000 in
theorem kw729 : Cond.fieldLink "NativeWorks$Linke\x72" 72 "NativeWorks$Units" "names" "LNativeWorks$Names;" ∈ rTs := kMem 729 rfl
set_option maxRecDepth 100000 in
theorem kw730 : Cond.fieldLink "NativeWorks$Linke\x72" 73 "NativeWorks$Linke\x72" "START" "[B" ∈ rTs := kMem 730 rfl
set_option maxRecDepth 100000 in
theorem kw731 : Cond.fieldLink "NativeWorks$Linke\x72" 76 "NativeWorks$Names" "count" "I" ∈ rTs := kMem 731 rfl
set_option maxRecDepth 100000 in
theorem kw732 : Cond.code ⟨"NativeWorks$Names", "find", "([BIII)I"⟩ prog_9_method_2_code 9 (Option.some FieldType.int) ∈ rTs := kMem 732 rfl
set_option maxRecDepth 100000 in
theorem kw733 : Cond.methodLink "NativeWorks$Linke\x72" 80 ⟨"NativeWorks$Names", "find", "([BIII)I"⟩ ∈ rTs := kMem 733 rfl
set_option maxRecDepth 100000 in
theorem kw734 : Cond.instanceMethod ⟨"NativeWorks$Names", "find", "([BIII)I"⟩ ∈ rTs := kMem 734 rfl
set_option maxRecDepth 100000 in
theorem kw735 : Cond.selects "NativeWorks$Names" ⟨"NativeWorks$Names", "find", "([BIII)I"⟩ ⟨"NativeWorks$Names", "find", "([BIII)I"⟩ ∈ rTs := kMem 735 rfl
set_option maxRecDepth 100000 in
theorem kw736 : Cond.code ⟨"NativeWorks$Linke\x72", "make", "()Z"⟩ prog_6_method_2_code 4 (Option.some FieldType.boolean) ∈ rTs := kMem 736 rfl
set_option maxRecDepth 100000 in
theorem kw737 : Cond.methodLink "NativeWorks" 102 ⟨"NativeWorks$Linke\x72", "make", "()Z"⟩ ∈ rTs := kMem 737 rfl
set_option maxRecDepth 100000 in
theorem kw738 : Cond.instanceMethod ⟨"NativeWorks$Linke\x72", "make", "()Z"⟩ ∈ rTs := kMem 738 rfl
set_option maxRecDepth 100000 in
theorem kw739 : Cond.selects "NativeWorks$Linke\x72" ⟨"NativeWorks$Linke\x72", "make", "()Z"⟩ ⟨"NativeWorks$Linke\x72", "make", "()Z"⟩ ∈ rTs := kMem 739 rfl
set_option maxRecDepth 100000 in
theorem kw740 : Cond.fieldLink "NativeWorks" 106 "NativeWorks$Linke\x72" "faultKind" "I" ∈ rTs := kMem 740 rfl
set_option maxRecDepth 100000 in
theorem kw741 : Cond.fieldLink "NativeWorks" 107 "NativeWorks$Linke\x72" "faultLine" "I" ∈ rTs := kMem 741 rfl
set_option maxRecDepth 100000 in
theorem kw742 : Cond.fieldLink "NativeWorks" 108 "NativeWorks$Linke\x72" "faultUnit" "I" ∈ rTs := kMem 742 rfl
set_option maxRecDepth 100000 in
theorem kw743 : Cond.classLink "NativeWorks" 109 "java/lang/IllegalStateException" ∈ rTs := kMem 743 rfl
set_option maxRecDepth 100000 in
theorem kw744 : Cond.initialized "java/lang/IllegalStateException" ∈ rTs := kMem 744 rfl
set_option maxRecDepth 100000 in
theorem kw745 : Cond.fieldLink "NativeWorks" 117 "NativeWorks$Linke\x72" "names" "LNativeWorks$Names;" ∈ rTs := kMem 745 rfl
set_option maxRecDepth 100000 in
theorem kw746 : Cond.fieldLink "NativeWorks" 121 "NativeWorks$Names" "count" "I" ∈ rTs := kMem 746 rfl
set_option maxRecDepth 100000 in
theorem kw747 : Cond.methodLink "NativeWorks" 124 ⟨"NativeWorks$Names", "find", "([BIII)I"⟩ ∈ rTs := kMem 747 rfl
set_option maxRecDepth 100000 in
theorem kw748 : Cond.classLink "NativeWorks" 128 "java/util/NoSuchElementException" ∈ rTs := kMem 748 rfl
set_option maxRecDepth 100000 in
theorem kw749 : Cond.initialized "java/util/NoSuchElementException" ∈ rTs := kMem 749 rfl
set_option maxRecDepth 100000 in
theorem kw750 : Cond.fieldLink "NativeWorks" 137 "NativeWorks$Linke\x72" "made" "Z" ∈ rTs := kMem 750 rfl
set_option maxRecDepth 100000 in
theorem kw751 : Cond.fieldLink "NativeWorks$Machine" 64 "NativeWorks$Machine" "waiting" "I" ∈ rTs := kMem 751 rfl
set_option maxRecDepth 100000 in
theorem kw752 : Cond.methodLink "NativeWorks$Machine" 79 ⟨"java/lang/Math", "min", "(II)I"⟩ ∈ rTs := kMem 752 rfl
set_option maxRecDepth 100000 in
theorem kw753 : Cond.methodLink "NativeWorks$Machine" 85 ⟨"java/lang/System", "arraycopy", "(Ljava/lang/Object;ILjava/lang/Object;II)V"⟩ ∈ rTs := kMem 753 rfl
set_option maxRecDepth 100000 in
theorem kw754 : Cond.code ⟨"NativeWorks$Machine", "take", "([BI)I"⟩ prog_7_method_4_code 4 (Option.some FieldType.int) ∈ rTs := kMem 754 rfl
set_option maxRecDepth 100000 in
theorem kw755 : Cond.methodLink "NativeWorks" 150 ⟨"NativeWorks$Machine", "take", "([BI)I"⟩ ∈ rTs := kMem 755 rfl
set_option maxRecDepth 100000 in
theorem kw756 : Cond.instanceMethod ⟨"NativeWorks$Machine", "take", "([BI)I"⟩ ∈ rTs := kMem 756 rfl
set_option maxRecDepth 100000 in
theorem kw757 : Cond.selects "NativeWorks$Machine" ⟨"NativeWorks$Machine", "take", "([BI)I"⟩ ⟨"NativeWorks$Machine", "take", "([BI)I"⟩ ∈ rTs := kMem 757 rfl
set_option maxRecDepth 100000 in
theorem kw758 : Cond.classLink "NativeWorks" 74 "java/lang/IllegalArgumentException" ∈ rTs := kMem 758 rfl
set_option maxRecDepth 100000 in
theorem kw759 : Cond.initialized "java/lang/IllegalArgumentException" ∈ rTs := kMem 759 rfl
set_option maxRecDepth 100000 in
theorem kw760 : Cond.fieldLink "NativeWorks" 156 "NativeWorks$Machine" "memory" "LNativeWorks$Memory;" ∈ rTs := kMem 760 rfl
set_option maxRecDepth 100000 in
theorem kw761 : Cond.fieldLink "NativeWorks" 160 "NativeWorks$Memory" "loaded" "Z" ∈ rTs := kMem 761 rfl
set_option maxRecDepth 100000 in
theorem kw762 : Cond.fieldLink "NativeWorks" 165 "NativeWorks$Machine" "stop" "I" ∈ rTs := kMem 762 rfl
set_option maxRecDepth 100000 in
theorem kw763 : Cond.fieldLink "NativeWorks" 173 "NativeWorks$Machine" "stopValue" "J" ∈ rTs := kMem 763 rfl
set_option maxRecDepth 100000 in
theorem kw764 : Cond.fieldLink "NativeWorks$Machine" 61 "NativeWorks$Machine" "flags" "I" ∈ rTs := kMem 764 rfl
set_option maxRecDepth 100000 in
theorem kw765 : Cond.fieldLink "NativeWorks" 177 "NativeWorks$Machine" "\x72" "[J" ∈ rTs := kMem 765 rfl
set_option maxRecDepth 100000 in
theorem kw766 : Cond.fieldLink "NativeWorks" 180 "NativeWorks$Machine" "ip" "J" ∈ rTs := kMem 766 rfl
set_option maxRecDepth 100000 in
theorem kw767 : Cond.code ⟨"NativeWorks$Machine", "told", "()I"⟩ prog_7_method_3_code 1 (Option.some FieldType.int) ∈ rTs := kMem 767 rfl
set_option maxRecDepth 100000 in
theorem kw768 : Cond.methodLink "NativeWorks" 183 ⟨"NativeWorks$Machine", "told", "()I"⟩ ∈ rTs := kMem 768 rfl
set_option maxRecDepth 100000 in
theorem kw769 : Cond.instanceMethod ⟨"NativeWorks$Machine", "told", "()I"⟩ ∈ rTs := kMem 769 rfl
set_option maxRecDepth 100000 in
theorem kw770 : Cond.selects "NativeWorks$Machine" ⟨"NativeWorks$Machine", "told", "()I"⟩ ⟨"NativeWorks$Machine", "told", "()I"⟩ ∈ rTs := kMem 770 rfl
set_option maxRecDepth 100000 in
theorem kw771 : Cond.fieldLink "NativeWorks" 187 "NativeWorks$Memory" "end" "J" ∈ rTs := kMem 771 rfl
set_option maxRecDepth 100000 in
theorem kw772 : Cond.fieldLink "NativeWorks" 190 "NativeWorks$Machine" "steps" "I" ∈ rTs := kMem 772 rfl
set_option maxRecDepth 100000 in
theorem kw773 : Cond.code ⟨"NativeWorks$Memory", "may", "(JJZ)Z"⟩ prog_8_method_4_code 13 (Option.some FieldType.boolean) ∈ rTs := kMem 773 rfl
set_option maxRecDepth 100000 in
theorem kw774 : Cond.methodLink "NativeWorks" 193 ⟨"NativeWorks$Memory", "may", "(JJZ)Z"⟩ ∈ rTs := kMem 774 rfl
set_option maxRecDepth 100000 in
theorem kw775 : Cond.instanceMethod ⟨"NativeWorks$Memory", "may", "(JJZ)Z"⟩ ∈ rTs := kMem 775 rfl
set_option maxRecDepth 100000 in
theorem kw776 : Cond.selects "NativeWorks$Memory" ⟨"NativeWorks$Memory", "may", "(JJZ)Z"⟩ ⟨"NativeWorks$Memory", "may", "(JJZ)Z"⟩ ∈ rTs := kMem 776 rfl
set_option maxRecDepth 100000 in
theorem kw777 : Cond.fieldLink "NativeWorks$Machine" 91 "NativeWorks$Machine" "stopCount" "I" ∈ rTs := kMem 777 rfl
set_option maxRecDepth 100000 in
theorem kw778 : Cond.code ⟨"NativeWorks$Machine", "stopPlace", "(J)I"⟩ prog_7_method_5_code 4 (Option.some FieldType.int) ∈ rTs := kMem 778 rfl
set_option maxRecDepth 100000 in
theorem kw779 : Cond.methodLink "NativeWorks$Machine" 94 ⟨"NativeWorks$Machine", "stopPlace", "(J)I"⟩ ∈ rTs := kMem 779 rfl
set_option maxRecDepth 100000 in
theorem kw780 : Cond.instanceMethod ⟨"NativeWorks$Machine", "stopPlace", "(J)I"⟩ ∈ rTs := kMem 780 rfl
set_option maxRecDepth 100000 in
theorem kw781 : Cond.selects "NativeWorks$Machine" ⟨"NativeWorks$Machine", "stopPlace", "(J)I"⟩ ⟨"NativeWorks$Machine", "stopPlace", "(J)I"⟩ ∈ rTs := kMem 781 rfl
set_option maxRecDepth 100000 in
theorem kw782 : Cond.code ⟨"NativeWorks$Machine", "addPlace", "(J)Z"⟩ prog_7_method_6_code 3 (Option.some FieldType.boolean) ∈ rTs := kMem 782 rfl
set_option maxRecDepth 100000 in
theorem kw783 : Cond.methodLink "NativeWorks" 205 ⟨"NativeWorks$Machine", "addPlace", "(J)Z"⟩ ∈ rTs := kMem 783 rfl
set_option maxRecDepth 100000 in
theorem kw784 : Cond.instanceMethod ⟨"NativeWorks$Machine", "addPlace", "(J)Z"⟩ ∈ rTs := kMem 784 rfl
set_option maxRecDepth 100000 in
theorem kw785 : Cond.selects "NativeWorks$Machine" ⟨"NativeWorks$Machine", "addPlace", "(J)Z"⟩ ⟨"NativeWorks$Machine", "addPlace", "(J)Z"⟩ ∈ rTs := kMem 785 rfl
set_option maxRecDepth 100000 in
theorem kw786 : Cond.code ⟨"NativeWorks$Machine", "dropPlace", "(J)Z"⟩ prog_7_method_7_code 4 (Option.some FieldType.boolean) ∈ rTs := kMem 786 rfl
set_option maxRecDepth 100000 in
theorem kw787 : Cond.methodLink "NativeWorks" 209 ⟨"NativeWorks$Machine", "dropPlace", "(J)Z"⟩ ∈ rTs := kMem 787 rfl
set_option maxRecDepth 100000 in
theorem kw788 : Cond.instanceMethod ⟨"NativeWorks$Machine", "dropPlace", "(J)Z"⟩ ∈ rTs := kMem 788 rfl
set_option maxRecDepth 100000 in
theorem kw789 : Cond.selects "NativeWorks$Machine" ⟨"NativeWorks$Machine", "dropPlace", "(J)Z"⟩ ⟨"NativeWorks$Machine", "dropPlace", "(J)Z"⟩ ∈ rTs := kMem 789 rfl
set_option maxRecDepth 100000 in
theorem kw790 : Cond.fieldLink "NativeWorks" 212 "NativeWorks$Machine" "written" "I" ∈ rTs := kMem 790 rfl
set_option maxRecDepth 100000 in
theorem kw791 : Cond.constantLong "NativeWorks" 218 (lN 4194304) ∈ rTs := kMem 791 (by decide +kernel)
set_option maxRecDepth 100000 in
theorem kw792 : Cond.fieldLink "NativeWorks" 220 "NativeWorks$Linke\x72" "origins" "[I" ∈ rTs := kMem 792 rfl
set_option maxRecDepth 100000 in
theorem kw793 : Cond.fieldLink "NativeWorksModel" 608 "NativeWorksModel" "thrown" "I" ∈ rTs := kMem 793 rfl
set_option maxRecDepth 100000 in
theorem kw794 : Cond.fieldLink "NativeWorksModel" 611 "NativeWorksModel" "taped" "I" ∈ rTs := kMem 794 rfl
set_option maxRecDepth 100000 in
theorem kw795 : Cond.fieldLink "NativeWorksModel" 629 "NativeWorksModel" "frames" "I" ∈ rTs := kMem 795 rfl
set_option maxRecDepth 100000 in
theorem kw796 : Cond.code ⟨"NativeWorksModel", "reade\x72", "()I"⟩ prog_14_method_26_code 2 (Option.some FieldType.int) ∈ rTs := kMem 796 rfl
set_option maxRecDepth 100000 in
theorem kw797 : Cond.methodLink "NativeWorksModel" 672 ⟨"NativeWorksModel", "reade\x72", "()I"⟩ ∈ rTs := kMem 797 rfl
set_option maxRecDepth 100000 in
theorem kw798 : Cond.instanceMethod ⟨"NativeWorksModel", "reade\x72", "()I"⟩ ∈ rTs := kMem 798 rfl
set_option maxRecDepth 100000 in
theorem kw799 : Cond.selects "NativeWorksModel" ⟨"NativeWorksModel", "reade\x72", "()I"⟩ ⟨"NativeWorksModel", "reade\x72", "()I"⟩ ∈ rTs := kMem 799 rfl
set_option maxRecDepth 100000 in
theorem kw800 : Cond.fieldLink "NativeWorksModel" 632 "NativeWorksModel" "bad" "I" ∈ rTs := kMem 800 rfl
set_option maxRecDepth 100000 in
theorem kw801 : Cond.fieldLink "NativeWorksModel" 675 "NativeWorksModel" "at" "I" ∈ rTs := kMem 801 rfl
set_option maxRecDepth 100000 in
theorem kw802 : Cond.fieldLink "NativeWorksModel" 649 "NativeWorksModel" "sourceEnd" "I" ∈ rTs := kMem 802 rfl
set_option maxRecDepth 100000 in
theorem kw803 : Cond.fieldLink "NativeWorksModel" 739 "NativeWorksModel" "unit" "I" ∈ rTs := kMem 803 rfl
set_option maxRecDepth 100000 in
theorem kw804 : Cond.fieldLink "NativeWorksModel" 791 "NativeWorksModel" "items" "I" ∈ rTs := kMem 804 rfl
set_option maxRecDepth 100000 in
theorem kw805 : Cond.fieldLink "NativeWorksModel" 842 "NativeWorksModel" "waits" "I" ∈ rTs := kMem 805 rfl
set_option maxRecDepth 100000 in
theorem kw806 : Cond.code ⟨"NativeWorksModel", "layOut", "()V"⟩ prog_14_method_115_code 9 (Option.none : Option FieldType) ∈ rTs := kMem 806 rfl
set_option maxRecDepth 100000 in
theorem kw807 : Cond.methodLink "NativeWorksModel" 1143 ⟨"NativeWorksModel", "layOut", "()V"⟩ ∈ rTs := kMem 807 rfl
set_option maxRecDepth 100000 in
theorem kw808 : Cond.instanceMethod ⟨"NativeWorksModel", "layOut", "()V"⟩ ∈ rTs := kMem 808 rfl
set_option maxRecDepth 100000 in
theorem kw809 : Cond.selects "NativeWorksModel" ⟨"NativeWorksModel", "layOut", "()V"⟩ ⟨"NativeWorksModel", "layOut", "()V"⟩ ∈ rTs := kMem 809 rfl
set_option maxRecDepth 100000 in
theorem kw810 : Cond.fieldLink "NativeWorksModel" 967 "NativeWorksModel" "notEnded" "Z" ∈ rTs := kMem 810 rfl
set_option maxRecDepth 100000 in
theorem kw811 : Cond.fieldLink "NativeWorksModel" 848 "NativeWorksModel" "spans" "I" ∈ rTs := kMem 811 rfl
set_option maxRecDepth 100000 in
theorem kw812 : Cond.code ⟨"NativeWorksModel", "shorten", "()V"⟩ prog_14_method_118_code 6 (Option.none : Option FieldType) ∈ rTs := kMem 812 rfl
set_option maxRecDepth 100000 in
theorem kw813 : Cond.methodLink "NativeWorksModel" 1156 ⟨"NativeWorksModel", "shorten", "()V"⟩ ∈ rTs := kMem 813 rfl
set_option maxRecDepth 100000 in
theorem kw814 : Cond.instanceMethod ⟨"NativeWorksModel", "shorten", "()V"⟩ ∈ rTs := kMem 814 rfl
set_option maxRecDepth 100000 in
theorem kw815 : Cond.selects "NativeWorksModel" ⟨"NativeWorksModel", "shorten", "()V"⟩ ⟨"NativeWorksModel", "shorten", "()V"⟩ ∈ rTs := kMem 815 rfl
set_option maxRecDepth 100000 in
theorem kw816 : Cond.code ⟨"NativeWorksModel", "used", "(I)I"⟩ prog_14_method_13_code 2 (Option.some FieldType.int) ∈ rTs := kMem 816 rfl
set_option maxRecDepth 100000 in
theorem kw817 : Cond.methodLink "NativeWorksModel" 1159 ⟨"NativeWorksModel", "used", "(I)I"⟩ ∈ rTs := kMem 817 rfl
set_option maxRecDepth 100000 in
theorem kw818 : Cond.instanceMethod ⟨"NativeWorksModel", "used", "(I)I"⟩ ∈ rTs := kMem 818 rfl
set_option maxRecDepth 100000 in
theorem kw819 : Cond.selects "NativeWorksModel" ⟨"NativeWorksModel", "used", "(I)I"⟩ ⟨"NativeWorksModel", "used", "(I)I"⟩ ∈ rTs := kMem 819 rfl
set_option maxRecDepth 100000 in
theorem kw820 : Cond.fieldLink "NativeWorksModel" 1162 "NativeWorksModel" "units" "I" ∈ rTs := kMem 820 rfl
set_option maxRecDepth 100000 in
theorem kw821 : Cond.fieldLink "NativeWorksModel" 742 "NativeWorksModel" "symbols" "I" ∈ rTs := kMem 821 rfl
set_option maxRecDepth 100000 in
theorem kw822 : Cond.fieldLink "NativeWorksModel" 751 "NativeWorksModel" "pooled" "I" ∈ rTs := kMem 822 rfl
set_option maxRecDepth 100000 in
theorem kw823 : Cond.fieldLink "NativeWorksModel" 785 "NativeWorksModel" "datas" "I" ∈ rTs := kMem 823 rfl
set_option maxRecDepth 100000 in
theorem kw824 : Cond.fieldLink "NativeWorksModel" 845 "NativeWorksModel" "plain" "I" ∈ rTs := kMem 824 rfl
set_option maxRecDepth 100000 in
theorem kw825 : Cond.fieldLink "NativeWorksModel" 839 "NativeWorksModel" "statements" "I" ∈ rTs := kMem 825 rfl
set_option maxRecDepth 100000 in
theorem kw826 : Cond.fieldLink "NativeWorksModel" 626 "NativeWorksModel" "lineNumbe\x72" "I" ∈ rTs := kMem 826 rfl
set_option maxRecDepth 100000 in
theorem kw827 : Cond.fieldLink "NativeWorksModel" 851 "NativeWorksModel" "linesRead" "I" ∈ rTs := kMem 827 rfl
set_option maxRecDepth 100000 in
theorem kw828 : Cond.fieldLink "NativeWorksModel" 970 "NativeWorksModel" "macrosRead" "I" ∈ rTs := kMem 828 rfl
set_option maxRecDepth 100000 in
theorem kw829 : Cond.fieldLink "NativeWorksModel" 763 "NativeWorksModel" "macros" "I" ∈ rTs := kMem 829 rfl
set_option maxRecDepth 100000 in
theorem kw830 : Cond.fieldLink "NativeWorksModel" 782 "NativeWorksModel" "section" "I" ∈ rTs := kMem 830 rfl
set_option maxRecDepth 100000 in
theorem kw831 : Cond.fieldLink "NativeWorksModel" 736 "NativeWorksModel" "latest" "I" ∈ rTs := kMem 831 rfl
set_option maxRecDepth 100000 in
theorem kw832 : Cond.fieldLink "NativeWorksModel" 754 "NativeWorksModel" "full" "Z" ∈ rTs := kMem 832 rfl
set_option maxRecDepth 100000 in
theorem kw833 : Cond.code ⟨"NativeWorksModel", "nextLine", "()Z"⟩ prog_14_method_28_code 2 (Option.some FieldType.boolean) ∈ rTs := kMem 833 rfl
set_option maxRecDepth 100000 in
theorem kw834 : Cond.methodLink "NativeWorksModel" 1165 ⟨"NativeWorksModel", "nextLine", "()Z"⟩ ∈ rTs := kMem 834 rfl
set_option maxRecDepth 100000 in
theorem kw835 : Cond.instanceMethod ⟨"NativeWorksModel", "nextLine", "()Z"⟩ ∈ rTs := kMem 835 rfl
set_option maxRecDepth 100000 in
theorem kw836 : Cond.selects "NativeWorksModel" ⟨"NativeWorksModel", "nextLine", "()Z"⟩ ⟨"NativeWorksModel", "nextLine", "()Z"⟩ ∈ rTs := kMem 836 rfl
set_option maxRecDepth 100000 in
theorem kw837 : Cond.code ⟨"NativeWorksModel", "finish", "()V"⟩ prog_14_method_120_code 4 (Option.none : Option FieldType) ∈ rTs := kMem 837 rfl
set_option maxRecDepth 100000 in
theorem kw838 : Cond.methodLink "NativeWorksModel" 1171 ⟨"NativeWorksModel", "finish", "()V"⟩ ∈ rTs := kMem 838 rfl
set_option maxRecDepth 100000 in
theorem kw839 : Cond.instanceMethod ⟨"NativeWorksModel", "finish", "()V"⟩ ∈ rTs := kMem 839 rfl
set_option maxRecDepth 100000 in
theorem kw840 : Cond.selects "NativeWorksModel" ⟨"NativeWorksModel", "finish", "()V"⟩ ⟨"NativeWorksModel", "finish", "()V"⟩ ∈ rTs := kMem 840 rfl
set_option maxRecDepth 100000 in
theorem kw841 : Cond.fieldLink "NativeWorksModel" 1174 "NativeWorksModel" "faultKind" "I" ∈ rTs := kMem 841 rfl
set_option maxRecDepth 100000 in
theorem kw842 : Cond.fieldLink "NativeWorksModel" 1177 "NativeWorksModel" "faultLine" "I" ∈ rTs := kMem 842 rfl
set_option maxRecDepth 100000 in
theorem kw843 : Cond.code ⟨"NativeWorksModel", "give", "(II)I"⟩ prog_14_method_10_code 3 (Option.some FieldType.int) ∈ rTs := kMem 843 rfl
set_option maxRecDepth 100000 in
theorem kw844 : Cond.methodLink "NativeWorksModel" 1180 ⟨"NativeWorksModel", "give", "(II)I"⟩ ∈ rTs := kMem 844 rfl
set_option maxRecDepth 100000 in
theorem kw845 : Cond.instanceMethod ⟨"NativeWorksModel", "give", "(II)I"⟩ ∈ rTs := kMem 845 rfl
set_option maxRecDepth 100000 in
theorem kw846 : Cond.selects "NativeWorksModel" ⟨"NativeWorksModel", "give", "(II)I"⟩ ⟨"NativeWorksModel", "give", "(II)I"⟩ ∈ rTs := kMem 846 rfl
set_option maxRecDepth 100000 in
theorem kw847 : Cond.fieldLink "NativeWorksModel" 733 "NativeWorksModel" "nameSize" "I" ∈ rTs := kMem 847 rfl
set_option maxRecDepth 100000 in
theorem kw848 : Cond.code ⟨"NativeWorksModel", "takeUnits", "()V"⟩ prog_14_method_133_code 3 (Option.none : Option FieldType) ∈ rTs := kMem 848 rfl
set_option maxRecDepth 100000 in
theorem kw849 : Cond.methodLink "NativeWorksModel" 1225 ⟨"NativeWorksModel", "takeUnits", "()V"⟩ ∈ rTs := kMem 849 rfl
set_option maxRecDepth 100000 in
theorem kw850 : Cond.instanceMethod ⟨"NativeWorksModel", "takeUnits", "()V"⟩ ∈ rTs := kMem 850 rfl
set_option maxRecDepth 100000 in
theorem kw851 : Cond.selects "NativeWorksModel" ⟨"NativeWorksModel", "takeUnits", "()V"⟩ ⟨"NativeWorksModel", "takeUnits", "()V"⟩ ∈ rTs := kMem 851 rfl
set_option maxRecDepth 100000 in
theorem kw852 : Cond.code ⟨"NativeWorksModel", "startSymbol", "()I"⟩ prog_14_method_143_code 2 (Option.some FieldType.int) ∈ rTs := kMem 852 rfl
set_option maxRecDepth 100000 in
theorem kw853 : Cond.methodLink "NativeWorksModel" 1228 ⟨"NativeWorksModel", "startSymbol", "()I"⟩ ∈ rTs := kMem 853 rfl
set_option maxRecDepth 100000 in
theorem kw854 : Cond.instanceMethod ⟨"NativeWorksModel", "startSymbol", "()I"⟩ ∈ rTs := kMem 854 rfl
set_option maxRecDepth 100000 in
theorem kw855 : Cond.selects "NativeWorksModel" ⟨"NativeWorksModel", "startSymbol", "()I"⟩ ⟨"NativeWorksModel", "startSymbol", "()I"⟩ ∈ rTs := kMem 855 rfl
set_option maxRecDepth 100000 in
theorem kw856 : Cond.code ⟨"NativeWorksModel", "linkFault", "(III)V"⟩ prog_14_method_142_code 4 (Option.none : Option FieldType) ∈ rTs := kMem 856 rfl
set_option maxRecDepth 100000 in
theorem kw857 : Cond.methodLink "NativeWorksModel" 1222 ⟨"NativeWorksModel", "linkFault", "(III)V"⟩ ∈ rTs := kMem 857 rfl
set_option maxRecDepth 100000 in
theorem kw858 : Cond.instanceMethod ⟨"NativeWorksModel", "linkFault", "(III)V"⟩ ∈ rTs := kMem 858 rfl
set_option maxRecDepth 100000 in
theorem kw859 : Cond.selects "NativeWorksModel" ⟨"NativeWorksModel", "linkFault", "(III)V"⟩ ⟨"NativeWorksModel", "linkFault", "(III)V"⟩ ∈ rTs := kMem 859 rfl
set_option maxRecDepth 100000 in
theorem kw860 : Cond.fieldLink "NativeWorksModel" 1296 "NativeWorksModel" "imageNames" "I" ∈ rTs := kMem 860 rfl
set_option maxRecDepth 100000 in
theorem kw861 : Cond.fieldLink "NativeWorksModel" 1248 "NativeWorksModel" "hasImage" "Z" ∈ rTs := kMem 861 rfl
set_option maxRecDepth 100000 in
theorem kw862 : Cond.fieldLink "NativeWorksModel" 1472 "NativeWorksModel" "givenSize" "I" ∈ rTs := kMem 862 rfl
set_option maxRecDepth 100000 in
theorem kw863 : Cond.fieldLink "NativeWorksModel" 1302 "NativeWorksModel" "loaded" "Z" ∈ rTs := kMem 863 rfl
set_option maxRecDepth 100000 in
theorem kw864 : Cond.fieldLink "NativeWorksModel" 1535 "NativeWorksModel" "stopKind" "I" ∈ rTs := kMem 864 rfl
set_option maxRecDepth 100000 in
theorem kw865 : Cond.fieldLink "NativeWorksModel" 1538 "NativeWorksModel" "stopValue" "J" ∈ rTs := kMem 865 rfl
set_option maxRecDepth 100000 in
theorem kw866 : Cond.constantLong "NativeWorksModel" 973 (lN 2) ∈ rTs := kMem 866 (by decide +kernel)
set_option maxRecDepth 100000 in
theorem kw867 : Cond.fieldLink "NativeWorksModel" 1381 "NativeWorksModel" "carry" "Z" ∈ rTs := kMem 867 rfl
set_option maxRecDepth 100000 in
theorem kw868 : Cond.fieldLink "NativeWorksModel" 1378 "NativeWorksModel" "parity" "Z" ∈ rTs := kMem 868 rfl
set_option maxRecDepth 100000 in
theorem kw869 : Cond.fieldLink "NativeWorksModel" 1366 "NativeWorksModel" "zero" "Z" ∈ rTs := kMem 869 rfl
set_option maxRecDepth 100000 in
theorem kw870 : Cond.fieldLink "NativeWorksModel" 1372 "NativeWorksModel" "negative" "Z" ∈ rTs := kMem 870 rfl
set_option maxRecDepth 100000 in
theorem kw871 : Cond.fieldLink "NativeWorksModel" 1384 "NativeWorksModel" "ove\x72" "Z" ∈ rTs := kMem 871 rfl
set_option maxRecDepth 100000 in
theorem kw872 : Cond.constantLong "NativeWorksModel" 1213 (lN 4194304) ∈ rTs := kMem 872 (by decide +kernel)
set_option maxRecDepth 100000 in
theorem kw873 : Cond.fieldLink "NativeWorksModel" 1444 "NativeWorksModel" "ip" "J" ∈ rTs := kMem 873 rfl
set_option maxRecDepth 100000 in
theorem kw874 : Cond.code ⟨"NativeWorksModel", "flags", "()J"⟩ prog_14_method_171_code 1 (Option.some FieldType.long) ∈ rTs := kMem 874 rfl
set_option maxRecDepth 100000 in
theorem kw875 : Cond.methodLink "NativeWorksModel" 1469 ⟨"NativeWorksModel", "flags", "()J"⟩ ∈ rTs := kMem 875 rfl
set_option maxRecDepth 100000 in
theorem kw876 : Cond.instanceMethod ⟨"NativeWorksModel", "flags", "()J"⟩ ∈ rTs := kMem 876 rfl
set_option maxRecDepth 100000 in
theorem kw877 : Cond.selects "NativeWorksModel" ⟨"NativeWorksModel", "flags", "()J"⟩ ⟨"NativeWorksModel", "flags", "()J"⟩ ∈ rTs := kMem 877 rfl
set_option maxRecDepth 100000 in
theorem kw878 : Cond.code ⟨"NativeWorksModel", "heapBegin", "()J"⟩ prog_14_method_151_code 1 (Option.some FieldType.long) ∈ rTs := kMem 878 rfl
set_option maxRecDepth 100000 in
theorem kw879 : Cond.methodLink "NativeWorksModel" 1305 ⟨"NativeWorksModel", "heapBegin", "()J"⟩ ∈ rTs := kMem 879 rfl
set_option maxRecDepth 100000 in
theorem kw880 : Cond.instanceMethod ⟨"NativeWorksModel", "heapBegin", "()J"⟩ ∈ rTs := kMem 880 rfl
set_option maxRecDepth 100000 in
theorem kw881 : Cond.selects "NativeWorksModel" ⟨"NativeWorksModel", "heapBegin", "()J"⟩ ⟨"NativeWorksModel", "heapBegin", "()J"⟩ ∈ rTs := kMem 881 rfl
set_option maxRecDepth 100000 in
theorem kw882 : Cond.fieldLink "NativeWorksModel" 1309 "NativeWorksModel" "heapSize" "I" ∈ rTs := kMem 882 rfl
set_option maxRecDepth 100000 in
theorem kw883 : Cond.fieldLink "NativeWorksModel" 1544 "NativeWorksModel" "stepsDone" "J" ∈ rTs := kMem 883 rfl
set_option maxRecDepth 100000 in
theorem kw884 : Cond.code ⟨"NativeWorksModel", "find", "(JZ)I"⟩ prog_14_method_152_code 10 (Option.some FieldType.int) ∈ rTs := kMem 884 rfl
set_option maxRecDepth 100000 in
theorem kw885 : Cond.methodLink "NativeWorksModel" 1321 ⟨"NativeWorksModel", "find", "(JZ)I"⟩ ∈ rTs := kMem 885 rfl
set_option maxRecDepth 100000 in
theorem kw886 : Cond.instanceMethod ⟨"NativeWorksModel", "find", "(JZ)I"⟩ ∈ rTs := kMem 886 rfl
set_option maxRecDepth 100000 in
theorem kw887 : Cond.selects "NativeWorksModel" ⟨"NativeWorksModel", "find", "(JZ)I"⟩ ⟨"NativeWorksModel", "find", "(JZ)I"⟩ ∈ rTs := kMem 887 rfl
set_option maxRecDepth 100000 in
theorem kw888 : Cond.fieldLink "NativeWorksModel" 1556 "NativeWorksModel" "placesMany" "I" ∈ rTs := kMem 888 rfl
set_option maxRecDepth 100000 in
theorem kw889 : Cond.code ⟨"NativeWorksModel", "isPlace", "(J)Z"⟩ prog_14_method_196_code 4 (Option.some FieldType.boolean) ∈ rTs := kMem 889 rfl
set_option maxRecDepth 100000 in
theorem kw890 : Cond.methodLink "NativeWorksModel" 1559 ⟨"NativeWorksModel", "isPlace", "(J)Z"⟩ ∈ rTs := kMem 890 rfl
set_option maxRecDepth 100000 in
theorem kw891 : Cond.instanceMethod ⟨"NativeWorksModel", "isPlace", "(J)Z"⟩ ∈ rTs := kMem 891 rfl
set_option maxRecDepth 100000 in
theorem kw892 : Cond.selects "NativeWorksModel" ⟨"NativeWorksModel", "isPlace", "(J)Z"⟩ ⟨"NativeWorksModel", "isPlace", "(J)Z"⟩ ∈ rTs := kMem 892 rfl
set_option maxRecDepth 100000 in
theorem kw893 : Cond.fieldLink "NativeWorksModel" 1481 "NativeWorksModel" "shownSize" "I" ∈ rTs := kMem 893 rfl
set_option maxRecDepth 100000 in
theorem kw894 : Cond.initialized "java/lang/Throwable" ∈ rTs := kMem 894 rfl
set_option maxRecDepth 100000 in
theorem kw895 : Cond.superclass "java/lang/Throwable" "java/lang/Object" ∈ rTs := kMem 895 rfl
set_option maxRecDepth 100000 in
theorem kw896 : Cond.instanceMethod ⟨"java/lang/Throwable", "fillInStackTrace", "()Ljava/lang/Throwable;"⟩ ∈ rTs := kMem 896 rfl
set_option maxRecDepth 100000 in
theorem kw897 : Cond.codeSync ⟨"java/lang/Throwable", "fillInStackTrace", "()Ljava/lang/Throwable;"⟩ prog_35_method_18_code 1 (Option.some (FieldType.object "java/lang/Throwable")) ∈ rTs := kMem 897 rfl
set_option maxRecDepth 100000 in
theorem kw898 : Cond.instanceMethod ⟨"java/lang/Throwable", "fillInStackTrace", "(I)Ljava/lang/Throwable;"⟩ ∈ rTs := kMem 898 rfl
set_option maxRecDepth 100000 in
theorem kw899 : Cond.native ⟨"java/lang/Throwable", "fillInStackTrace", "(I)Ljava/lang/Throwable;"⟩ ∈ rTs := kMem 899 rfl
set_option maxRecDepth 100000 in
theorem kw900 : Cond.instanceMethod ⟨"java/lang/Throwable", "<init>", "()V"⟩ ∈ rTs := kMem 900 rfl
set_option maxRecDepth 100000 in
theorem kw901 : Cond.code ⟨"java/lang/Throwable", "<init>", "()V"⟩ prog_35_method_1_code 1 (Option.none : Option FieldType) ∈ rTs := kMem 901 rfl
set_option maxRecDepth 100000 in
theorem kw902 : Cond.methodLink "java/lang/Throwable" 1 ⟨"java/lang/Object", "<init>", "()V"⟩ ∈ rTs := kMem 902 rfl
set_option maxRecDepth 100000 in
theorem kw903 : Cond.methodLink "java/lang/Throwable" 27 ⟨"java/lang/Throwable", "fillInStackTrace", "()Ljava/lang/Throwable;"⟩ ∈ rTs := kMem 903 rfl
set_option maxRecDepth 100000 in
theorem kw904 : Cond.methodLink "java/lang/Throwable" 202 ⟨"java/lang/Throwable", "fillInStackTrace", "(I)Ljava/lang/Throwable;"⟩ ∈ rTs := kMem 904 rfl
set_option maxRecDepth 100000 in
theorem kw905 : Cond.fieldLink "java/lang/Throwable" 7 "java/lang/Throwable" "cause" "Ljava/lang/Throwable;" ∈ rTs := kMem 905 rfl
set_option maxRecDepth 100000 in
theorem kw906 : Cond.lays "java/lang/Throwable" "java/lang/Throwable" "cause" "Ljava/lang/Throwable;" ∈ rTs := kMem 906 rfl
set_option maxRecDepth 100000 in
theorem kw907 : Cond.fieldLink "java/lang/Throwable" 17 "java/lang/Throwable" "stackTrace" "[Ljava/lang/StackTraceElement;" ∈ rTs := kMem 907 rfl
set_option maxRecDepth 100000 in
theorem kw908 : Cond.lays "java/lang/Throwable" "java/lang/Throwable" "stackTrace" "[Ljava/lang/StackTraceElement;" ∈ rTs := kMem 908 rfl
set_option maxRecDepth 100000 in
theorem kw909 : Cond.fieldLink "java/lang/Throwable" 24 "java/lang/Throwable" "suppressedExceptions" "Ljava/util/List;" ∈ rTs := kMem 909 rfl
set_option maxRecDepth 100000 in
theorem kw910 : Cond.lays "java/lang/Throwable" "java/lang/Throwable" "suppressedExceptions" "Ljava/util/List;" ∈ rTs := kMem 910 rfl
set_option maxRecDepth 100000 in
theorem kw911 : Cond.fieldLink "java/lang/Throwable" 13 "java/lang/Throwable" "UNASSIGNED_STACK" "[Ljava/lang/StackTraceElement;" ∈ rTs := kMem 911 rfl
set_option maxRecDepth 100000 in
theorem kw912 : Cond.fieldLink "java/lang/Throwable" 20 "java/lang/Throwable" "SUPPRESSED_SENTINEL" "Ljava/util/List;" ∈ rTs := kMem 912 rfl
set_option maxRecDepth 100000 in
theorem kw913 : Cond.lays "java/lang/Throwable" "java/lang/Throwable" "detailMessage" "Ljava/lang/String;" ∈ rTs := kMem 913 rfl
set_option maxRecDepth 100000 in
theorem kw914 : Cond.instanceMethod ⟨"java/lang/Throwable", "<init>", "(Ljava/lang/String;)V"⟩ ∈ rTs := kMem 914 rfl
set_option maxRecDepth 100000 in
theorem kw915 : Cond.code ⟨"java/lang/Throwable", "<init>", "(Ljava/lang/String;)V"⟩ prog_35_method_2_code 2 (Option.none : Option FieldType) ∈ rTs := kMem 915 rfl
set_option maxRecDepth 100000 in
theorem kw916 : Cond.fieldLink "java/lang/Throwable" 31 "java/lang/Throwable" "detailMessage" "Ljava/lang/String;" ∈ rTs := kMem 916 rfl
set_option maxRecDepth 100000 in
theorem kw917 : Cond.instanceMethod ⟨"java/lang/IllegalStateException", "<init>", "(Ljava/lang/String;)V"⟩ ∈ rTs := kMem 917 rfl
set_option maxRecDepth 100000 in
theorem kw918 : Cond.code ⟨"java/lang/IllegalStateException", "<init>", "(Ljava/lang/String;)V"⟩ prog_24_method_2_code 2 (Option.none : Option FieldType) ∈ rTs := kMem 918 rfl
set_option maxRecDepth 100000 in
theorem kw919 : Cond.methodLink "java/lang/IllegalStateException" 7 ⟨"java/lang/RuntimeException", "<init>", "(Ljava/lang/String;)V"⟩ ∈ rTs := kMem 919 rfl
set_option maxRecDepth 100000 in
theorem kw920 : Cond.instanceMethod ⟨"java/lang/RuntimeException", "<init>", "(Ljava/lang/String;)V"⟩ ∈ rTs := kMem 920 rfl
set_option maxRecDepth 100000 in
theorem kw921 : Cond.code ⟨"java/lang/RuntimeException", "<init>", "(Ljava/lang/String;)V"⟩ prog_29_method_2_code 2 (Option.none : Option FieldType) ∈ rTs := kMem 921 rfl
set_option maxRecDepth 100000 in
theorem kw922 : Cond.methodLink "java/lang/RuntimeException" 7 ⟨"java/lang/Exception", "<init>", "(Ljava/lang/String;)V"⟩ ∈ rTs := kMem 922 rfl
set_option maxRecDepth 100000 in
theorem kw923 : Cond.instanceMethod ⟨"java/lang/Exception", "<init>", "(Ljava/lang/String;)V"⟩ ∈ rTs := kMem 923 rfl
set_option maxRecDepth 100000 in
theorem kw924 : Cond.code ⟨"java/lang/Exception", "<init>", "(Ljava/lang/String;)V"⟩ prog_22_method_2_code 2 (Option.none : Option FieldType) ∈ rTs := kMem 924 rfl
set_option maxRecDepth 100000 in
theorem kw925 : Cond.methodLink "java/lang/Exception" 7 ⟨"java/lang/Throwable", "<init>", "(Ljava/lang/String;)V"⟩ ∈ rTs := kMem 925 rfl
set_option maxRecDepth 100000 in
theorem kw926 : Cond.methodLink "NativeWorks" 113 ⟨"java/lang/IllegalStateException", "<init>", "(Ljava/lang/String;)V"⟩ ∈ rTs := kMem 926 rfl
set_option maxRecDepth 100000 in
theorem kw927 : Cond.instantiable "java/lang/IllegalStateException" 6 ∈ rTs := kMem 927 rfl
set_option maxRecDepth 100000 in
theorem kw928 : Cond.selects "java/lang/IllegalStateException" ⟨"java/lang/Throwable", "fillInStackTrace", "(I)Ljava/lang/Throwable;"⟩ ⟨"java/lang/Throwable", "fillInStackTrace", "(I)Ljava/lang/Throwable;"⟩ ∈ rTs := kMem 928 rfl
set_option maxRecDepth 100000 in
theorem kw929 : Cond.selects "java/lang/IllegalStateException" ⟨"java/lang/Throwable", "fillInStackTrace", "()Ljava/lang/Throwable;"⟩ ⟨"java/lang/Throwable", "fillInStackTrace", "()Ljava/lang/Throwable;"⟩ ∈ rTs := kMem 929 rfl
set_option maxRecDepth 100000 in
theorem kw930 : Cond.lays "java/lang/IllegalStateException" "java/lang/Throwable" "cause" "Ljava/lang/Throwable;" ∈ rTs := kMem 930 rfl
set_option maxRecDepth 100000 in
theorem kw931 : Cond.lays "java/lang/IllegalStateException" "java/lang/Throwable" "stackTrace" "[Ljava/lang/StackTraceElement;" ∈ rTs := kMem 931 rfl
set_option maxRecDepth 100000 in
theorem kw932 : Cond.lays "java/lang/IllegalStateException" "java/lang/Throwable" "suppressedExceptions" "Ljava/util/List;" ∈ rTs := kMem 932 rfl
set_option maxRecDepth 100000 in
theorem kw933 : Cond.lays "java/lang/IllegalStateException" "java/lang/Throwable" "detailMessage" "Ljava/lang/String;" ∈ rTs := kMem 933 rfl
set_option maxRecDepth 100000 in
theorem kw934 : Cond.fieldLink "java/lang/Throwable" 198 "java/lang/Throwable" "backtrace" "Ljava/lang/Object;" ∈ rTs := kMem 934 rfl
set_option maxRecDepth 100000 in
theorem kw935 : Cond.lays "java/lang/Throwable" "java/lang/Throwable" "backtrace" "Ljava/lang/Object;" ∈ rTs := kMem 935 rfl
set_option maxRecDepth 100000 in
theorem kw936 : Cond.lays "java/lang/IllegalStateException" "java/lang/Throwable" "backtrace" "Ljava/lang/Object;" ∈ rTs := kMem 936 rfl
set_option maxRecDepth 100000 in
theorem kw937 : Cond.instanceMethod ⟨"java/util/NoSuchElementException", "<init>", "(Ljava/lang/String;)V"⟩ ∈ rTs := kMem 937 rfl
set_option maxRecDepth 100000 in
theorem kw938 : Cond.code ⟨"java/util/NoSuchElementException", "<init>", "(Ljava/lang/String;)V"⟩ prog_39_method_4_code 2 (Option.none : Option FieldType) ∈ rTs := kMem 938 rfl
set_option maxRecDepth 100000 in
theorem kw939 : Cond.methodLink "java/util/NoSuchElementException" 13 ⟨"java/lang/RuntimeException", "<init>", "(Ljava/lang/String;)V"⟩ ∈ rTs := kMem 939 rfl
set_option maxRecDepth 100000 in
theorem kw940 : Cond.methodLink "NativeWorks" 132 ⟨"java/util/NoSuchElementException", "<init>", "(Ljava/lang/String;)V"⟩ ∈ rTs := kMem 940 rfl
set_option maxRecDepth 100000 in
theorem kw941 : Cond.instantiable "java/util/NoSuchElementException" 6 ∈ rTs := kMem 941 rfl
set_option maxRecDepth 100000 in
theorem kw942 : Cond.selects "java/util/NoSuchElementException" ⟨"java/lang/Throwable", "fillInStackTrace", "(I)Ljava/lang/Throwable;"⟩ ⟨"java/lang/Throwable", "fillInStackTrace", "(I)Ljava/lang/Throwable;"⟩ ∈ rTs := kMem 942 rfl
set_option maxRecDepth 100000 in
theorem kw943 : Cond.selects "java/util/NoSuchElementException" ⟨"java/lang/Throwable", "fillInStackTrace", "()Ljava/lang/Throwable;"⟩ ⟨"java/lang/Throwable", "fillInStackTrace", "()Ljava/lang/Throwable;"⟩ ∈ rTs := kMem 943 rfl
set_option maxRecDepth 100000 in
theorem kw944 : Cond.lays "java/util/NoSuchElementException" "java/lang/Throwable" "cause" "Ljava/lang/Throwable;" ∈ rTs := kMem 944 rfl
set_option maxRecDepth 100000 in
theorem kw945 : Cond.lays "java/util/NoSuchElementException" "java/lang/Throwable" "stackTrace" "[Ljava/lang/StackTraceElement;" ∈ rTs := kMem 945 rfl
set_option maxRecDepth 100000 in
theorem kw946 : Cond.lays "java/util/NoSuchElementException" "java/lang/Throwable" "suppressedExceptions" "Ljava/util/List;" ∈ rTs := kMem 946 rfl
set_option maxRecDepth 100000 in
theorem kw947 : Cond.lays "java/util/NoSuchElementException" "java/lang/Throwable" "detailMessage" "Ljava/lang/String;" ∈ rTs := kMem 947 rfl
set_option maxRecDepth 100000 in
theorem kw948 : Cond.lays "java/util/NoSuchElementException" "java/lang/Throwable" "backtrace" "Ljava/lang/Object;" ∈ rTs := kMem 948 rfl
set_option maxRecDepth 100000 in
theorem kw949 : Cond.instanceMethod ⟨"java/lang/IllegalArgumentException", "<init>", "(Ljava/lang/String;)V"⟩ ∈ rTs := kMem 949 rfl
set_option maxRecDepth 100000 in
theorem kw950 : Cond.code ⟨"java/lang/IllegalArgumentException", "<init>", "(Ljava/lang/String;)V"⟩ prog_23_method_2_code 2 (Option.none : Option FieldType) ∈ rTs := kMem 950 rfl
set_option maxRecDepth 100000 in
theorem kw951 : Cond.methodLink "java/lang/IllegalArgumentException" 7 ⟨"java/lang/RuntimeException", "<init>", "(Ljava/lang/String;)V"⟩ ∈ rTs := kMem 951 rfl
set_option maxRecDepth 100000 in
theorem kw952 : Cond.methodLink "NativeWorks" 78 ⟨"java/lang/IllegalArgumentException", "<init>", "(Ljava/lang/String;)V"⟩ ∈ rTs := kMem 952 rfl
set_option maxRecDepth 100000 in
theorem kw953 : Cond.instantiable "java/lang/IllegalArgumentException" 6 ∈ rTs := kMem 953 rfl
set_option maxRecDepth 100000 in
theorem kw954 : Cond.selects "java/lang/IllegalArgumentException" ⟨"java/lang/Throwable", "fillInStackTrace", "(I)Ljava/lang/Throwable;"⟩ ⟨"java/lang/Throwable", "fillInStackTrace", "(I)Ljava/lang/Throwable;"⟩ ∈ rTs := kMem 954 rfl
set_option maxRecDepth 100000 in
theorem kw955 : Cond.selects "java/lang/IllegalArgumentException" ⟨"java/lang/Throwable", "fillInStackTrace", "()Ljava/lang/Throwable;"⟩ ⟨"java/lang/Throwable", "fillInStackTrace", "()Ljava/lang/Throwable;"⟩ ∈ rTs := kMem 955 rfl
set_option maxRecDepth 100000 in
theorem kw956 : Cond.lays "java/lang/IllegalArgumentException" "java/lang/Throwable" "cause" "Ljava/lang/Throwable;" ∈ rTs := kMem 956 rfl
set_option maxRecDepth 100000 in
theorem kw957 : Cond.lays "java/lang/IllegalArgumentException" "java/lang/Throwable" "stackTrace" "[Ljava/lang/StackTraceElement;" ∈ rTs := kMem 957 rfl
set_option maxRecDepth 100000 in
theorem kw958 : Cond.lays "java/lang/IllegalArgumentException" "java/lang/Throwable" "suppressedExceptions" "Ljava/util/List;" ∈ rTs := kMem 958 rfl
set_option maxRecDepth 100000 in
theorem kw959 : Cond.lays "java/lang/IllegalArgumentException" "java/lang/Throwable" "detailMessage" "Ljava/lang/String;" ∈ rTs := kMem 959 rfl
set_option maxRecDepth 100000 in
theorem kw960 : Cond.lays "java/lang/IllegalArgumentException" "java/lang/Throwable" "backtrace" "Ljava/lang/Object;" ∈ rTs := kMem 960 rfl
set_option maxRecDepth 100000 in
theorem kw961 : Cond.methodLink "NativeWorksLaw" 7 ⟨"NativeWorks", "unit", "(IZ)I"⟩ ∈ rTs := kMem 961 rfl
set_option maxRecDepth 100000 in
theorem kw962 : Cond.instanceMethod ⟨"NativeWorks", "unit", "(IZ)I"⟩ ∈ rTs := kMem 962 rfl
set_option maxRecDepth 100000 in
theorem kw963 : Cond.code ⟨"NativeWorks", "unit", "(IZ)I"⟩ prog_1_method_3_code 6 (Option.some FieldType.int) ∈ rTs := kMem 963 rfl
set_option maxRecDepth 100000 in
theorem kw964 : Cond.selects "NativeWorks" ⟨"NativeWorks", "unit", "(IZ)I"⟩ ⟨"NativeWorks", "unit", "(IZ)I"⟩ ∈ rTs := kMem 964 rfl
set_option maxRecDepth 100000 in
theorem kw965 : Cond.methodLink "NativeWorksLaw" 15 ⟨"NativeWorks", "link", "()I"⟩ ∈ rTs := kMem 965 rfl
set_option maxRecDepth 100000 in
theorem kw966 : Cond.instanceMethod ⟨"NativeWorks", "link", "()I"⟩ ∈ rTs := kMem 966 rfl
set_option maxRecDepth 100000 in
theorem kw967 : Cond.code ⟨"NativeWorks", "link", "()I"⟩ prog_1_method_8_code 2 (Option.some FieldType.int) ∈ rTs := kMem 967 rfl
set_option maxRecDepth 100000 in
theorem kw968 : Cond.selects "NativeWorks" ⟨"NativeWorks", "link", "()I"⟩ ⟨"NativeWorks", "link", "()I"⟩ ∈ rTs := kMem 968 rfl
set_option maxRecDepth 100000 in
theorem kw969 : Cond.methodLink "NativeWorksLaw" 21 ⟨"NativeWorks", "symbol", "(I)J"⟩ ∈ rTs := kMem 969 rfl
set_option maxRecDepth 100000 in
theorem kw970 : Cond.instanceMethod ⟨"NativeWorks", "symbol", "(I)J"⟩ ∈ rTs := kMem 970 rfl
set_option maxRecDepth 100000 in
theorem kw971 : Cond.code ⟨"NativeWorks", "symbol", "(I)J"⟩ prog_1_method_9_code 4 (Option.some FieldType.long) ∈ rTs := kMem 971 rfl
set_option maxRecDepth 100000 in
theorem kw972 : Cond.selects "NativeWorks" ⟨"NativeWorks", "symbol", "(I)J"⟩ ⟨"NativeWorks", "symbol", "(I)J"⟩ ∈ rTs := kMem 972 rfl
set_option maxRecDepth 100000 in
theorem kw973 : Cond.methodLink "NativeWorksLaw" 27 ⟨"NativeWorks", "load", "()J"⟩ ∈ rTs := kMem 973 rfl
set_option maxRecDepth 100000 in
theorem kw974 : Cond.instanceMethod ⟨"NativeWorks", "load", "()J"⟩ ∈ rTs := kMem 974 rfl
set_option maxRecDepth 100000 in
theorem kw975 : Cond.code ⟨"NativeWorks", "load", "()J"⟩ prog_1_method_10_code 1 (Option.some FieldType.long) ∈ rTs := kMem 975 rfl
set_option maxRecDepth 100000 in
theorem kw976 : Cond.selects "NativeWorks" ⟨"NativeWorks", "load", "()J"⟩ ⟨"NativeWorks", "load", "()J"⟩ ∈ rTs := kMem 976 rfl
set_option maxRecDepth 100000 in
theorem kw977 : Cond.methodLink "NativeWorksLaw" 31 ⟨"NativeWorks", "run", "(I)I"⟩ ∈ rTs := kMem 977 rfl
set_option maxRecDepth 100000 in
theorem kw978 : Cond.instanceMethod ⟨"NativeWorks", "run", "(I)I"⟩ ∈ rTs := kMem 978 rfl
set_option maxRecDepth 100000 in
theorem kw979 : Cond.code ⟨"NativeWorks", "run", "(I)I"⟩ prog_1_method_12_code 2 (Option.some FieldType.int) ∈ rTs := kMem 979 rfl
set_option maxRecDepth 100000 in
theorem kw980 : Cond.selects "NativeWorks" ⟨"NativeWorks", "run", "(I)I"⟩ ⟨"NativeWorks", "run", "(I)I"⟩ ∈ rTs := kMem 980 rfl
set_option maxRecDepth 100000 in
theorem kw981 : Cond.classLink "NativeWorksLaw" 8 "NativeWorks" ∈ rTs := kMem 981 rfl
set_option maxRecDepth 100000 in
theorem kw982 : Cond.instantiable "NativeWorks" 9 ∈ rTs := kMem 982 rfl
set_option maxRecDepth 100000 in
theorem kw983 : Cond.methodLink "NativeWorksLaw" 35 ⟨"NativeWorks", "<init>", "()V"⟩ ∈ rTs := kMem 983 rfl
set_option maxRecDepth 100000 in
theorem kw984 : Cond.instanceMethod ⟨"NativeWorks", "<init>", "()V"⟩ ∈ rTs := kMem 984 rfl
set_option maxRecDepth 100000 in
theorem kw985 : Cond.code ⟨"NativeWorks", "<init>", "()V"⟩ prog_1_method_1_code 3 (Option.none : Option FieldType) ∈ rTs := kMem 985 rfl
set_option maxRecDepth 100000 in
theorem kw986 : Cond.classLink "NativeWorksLaw" 36 "NativeWorksModel" ∈ rTs := kMem 986 rfl
set_option maxRecDepth 100000 in
theorem kw987 : Cond.instantiable "NativeWorksModel" 205 ∈ rTs := kMem 987 rfl
set_option maxRecDepth 100000 in
theorem kw988 : Cond.methodLink "NativeWorksLaw" 38 ⟨"NativeWorksModel", "<init>", "()V"⟩ ∈ rTs := kMem 988 rfl
set_option maxRecDepth 100000 in
theorem kw989 : Cond.instanceMethod ⟨"NativeWorksModel", "<init>", "()V"⟩ ∈ rTs := kMem 989 rfl
set_option maxRecDepth 100000 in
theorem kw990 : Cond.code ⟨"NativeWorksModel", "<init>", "()V"⟩ prog_14_method_1_code 2 (Option.none : Option FieldType) ∈ rTs := kMem 990 rfl
set_option maxRecDepth 100000 in
theorem kw991 : Cond.methodLink "NativeWorksLaw" 39 ⟨"NativeWorks", "feed", "(IIIII)I"⟩ ∈ rTs := kMem 991 rfl
set_option maxRecDepth 100000 in
theorem kw992 : Cond.instanceMethod ⟨"NativeWorks", "feed", "(IIIII)I"⟩ ∈ rTs := kMem 992 rfl
set_option maxRecDepth 100000 in
theorem kw993 : Cond.code ⟨"NativeWorks", "feed", "(IIIII)I"⟩ prog_1_method_2_code 6 (Option.some FieldType.int) ∈ rTs := kMem 993 rfl
set_option maxRecDepth 100000 in
theorem kw994 : Cond.selects "NativeWorks" ⟨"NativeWorks", "feed", "(IIIII)I"⟩ ⟨"NativeWorks", "feed", "(IIIII)I"⟩ ∈ rTs := kMem 994 rfl
set_option maxRecDepth 100000 in
theorem kw995 : Cond.methodLink "NativeWorksLaw" 43 ⟨"NativeWorksModel", "feed", "(IIIII)I"⟩ ∈ rTs := kMem 995 rfl
set_option maxRecDepth 100000 in
theorem kw996 : Cond.instanceMethod ⟨"NativeWorksModel", "feed", "(IIIII)I"⟩ ∈ rTs := kMem 996 rfl
set_option maxRecDepth 100000 in
theorem kw997 : Cond.code ⟨"NativeWorksModel", "feed", "(IIIII)I"⟩ prog_14_method_12_code 8 (Option.some FieldType.int) ∈ rTs := kMem 997 rfl
set_option maxRecDepth 100000 in
theorem kw998 : Cond.selects "NativeWorksModel" ⟨"NativeWorksModel", "feed", "(IIIII)I"⟩ ⟨"NativeWorksModel", "feed", "(IIIII)I"⟩ ∈ rTs := kMem 998 rfl
set_option maxRecDepth 100000 in
theorem kw999 : Cond.methodLink "NativeWorksLaw" 44 ⟨"NativeWorksLaw", "unit", "(LNativeWorks;IZ[J)I"⟩ ∈ rTs := kMem 999 rfl
set_option maxRecDepth 100000 in
theorem kw1000 : Cond.static ⟨"NativeWorksLaw", "unit", "(LNativeWorks;IZ[J)I"⟩ ∈ rTs := kMem 1000 rfl
set_option maxRecDepth 100000 in
theorem kw1001 : Cond.initialized "NativeWorksLaw" ∈ rTs := kMem 1001 rfl
set_option maxRecDepth 100000 in
theorem kw1002 : Cond.codeWith ⟨"NativeWorksLaw", "unit", "(LNativeWorks;IZ[J)I"⟩ method_3_code 5 (Option.some FieldType.int) [(0, 10, 13, 13)] ∈ rTs := kMem 1002 rfl
set_option maxRecDepth 100000 in
theorem kw1003 : Cond.methodLink "NativeWorksLaw" 49 ⟨"NativeWorksModel", "unit", "(IZ)I"⟩ ∈ rTs := kMem 1003 rfl
set_option maxRecDepth 100000 in
theorem kw1004 : Cond.instanceMethod ⟨"NativeWorksModel", "unit", "(IZ)I"⟩ ∈ rTs := kMem 1004 rfl
set_option maxRecDepth 100000 in
theorem kw1005 : Cond.code ⟨"NativeWorksModel", "unit", "(IZ)I"⟩ prog_14_method_121_code 11 (Option.some FieldType.int) ∈ rTs := kMem 1005 rfl
set_option maxRecDepth 100000 in
theorem kw1006 : Cond.selects "NativeWorksModel" ⟨"NativeWorksModel", "unit", "(IZ)I"⟩ ⟨"NativeWorksModel", "unit", "(IZ)I"⟩ ∈ rTs := kMem 1006 rfl
set_option maxRecDepth 100000 in
theorem kw1007 : Cond.methodLink "NativeWorksLaw" 50 ⟨"NativeWorks", "clea\x72", "()V"⟩ ∈ rTs := kMem 1007 rfl
set_option maxRecDepth 100000 in
theorem kw1008 : Cond.instanceMethod ⟨"NativeWorks", "clea\x72", "()V"⟩ ∈ rTs := kMem 1008 rfl
set_option maxRecDepth 100000 in
theorem kw1009 : Cond.code ⟨"NativeWorks", "clea\x72", "()V"⟩ prog_1_method_4_code 1 (Option.none : Option FieldType) ∈ rTs := kMem 1009 rfl
set_option maxRecDepth 100000 in
theorem kw1010 : Cond.selects "NativeWorks" ⟨"NativeWorks", "clea\x72", "()V"⟩ ⟨"NativeWorks", "clea\x72", "()V"⟩ ∈ rTs := kMem 1010 rfl
set_option maxRecDepth 100000 in
theorem kw1011 : Cond.methodLink "NativeWorksLaw" 53 ⟨"NativeWorksModel", "clea\x72", "()V"⟩ ∈ rTs := kMem 1011 rfl
set_option maxRecDepth 100000 in
theorem kw1012 : Cond.instanceMethod ⟨"NativeWorksModel", "clea\x72", "()V"⟩ ∈ rTs := kMem 1012 rfl
set_option maxRecDepth 100000 in
theorem kw1013 : Cond.code ⟨"NativeWorksModel", "clea\x72", "()V"⟩ prog_14_method_122_code 1 (Option.none : Option FieldType) ∈ rTs := kMem 1013 rfl
set_option maxRecDepth 100000 in
theorem kw1014 : Cond.selects "NativeWorksModel" ⟨"NativeWorksModel", "clea\x72", "()V"⟩ ⟨"NativeWorksModel", "clea\x72", "()V"⟩ ∈ rTs := kMem 1014 rfl
set_option maxRecDepth 100000 in
theorem kw1015 : Cond.methodLink "NativeWorksLaw" 54 ⟨"NativeWorks", "fault", "(I)I"⟩ ∈ rTs := kMem 1015 rfl
set_option maxRecDepth 100000 in
theorem kw1016 : Cond.instanceMethod ⟨"NativeWorks", "fault", "(I)I"⟩ ∈ rTs := kMem 1016 rfl
set_option maxRecDepth 100000 in
theorem kw1017 : Cond.code ⟨"NativeWorks", "fault", "(I)I"⟩ prog_1_method_5_code 2 (Option.some FieldType.int) ∈ rTs := kMem 1017 rfl
set_option maxRecDepth 100000 in
theorem kw1018 : Cond.selects "NativeWorks" ⟨"NativeWorks", "fault", "(I)I"⟩ ⟨"NativeWorks", "fault", "(I)I"⟩ ∈ rTs := kMem 1018 rfl
set_option maxRecDepth 100000 in
theorem kw1019 : Cond.methodLink "NativeWorksLaw" 57 ⟨"NativeWorksModel", "fault", "(I)I"⟩ ∈ rTs := kMem 1019 rfl
set_option maxRecDepth 100000 in
theorem kw1020 : Cond.instanceMethod ⟨"NativeWorksModel", "fault", "(I)I"⟩ ∈ rTs := kMem 1020 rfl
set_option maxRecDepth 100000 in
theorem kw1021 : Cond.code ⟨"NativeWorksModel", "fault", "(I)I"⟩ prog_14_method_123_code 2 (Option.some FieldType.int) ∈ rTs := kMem 1021 rfl
set_option maxRecDepth 100000 in
theorem kw1022 : Cond.selects "NativeWorksModel" ⟨"NativeWorksModel", "fault", "(I)I"⟩ ⟨"NativeWorksModel", "fault", "(I)I"⟩ ∈ rTs := kMem 1022 rfl
set_option maxRecDepth 100000 in
theorem kw1023 : Cond.methodLink "NativeWorksLaw" 58 ⟨"NativeWorks", "size", "(II)I"⟩ ∈ rTs := kMem 1023 rfl
set_option maxRecDepth 100000 in
theorem kw1024 : Cond.instanceMethod ⟨"NativeWorks", "size", "(II)I"⟩ ∈ rTs := kMem 1024 rfl
set_option maxRecDepth 100000 in
theorem kw1025 : Cond.code ⟨"NativeWorks", "size", "(II)I"⟩ prog_1_method_6_code 3 (Option.some FieldType.int) ∈ rTs := kMem 1025 rfl
set_option maxRecDepth 100000 in
theorem kw1026 : Cond.selects "NativeWorks" ⟨"NativeWorks", "size", "(II)I"⟩ ⟨"NativeWorks", "size", "(II)I"⟩ ∈ rTs := kMem 1026 rfl
set_option maxRecDepth 100000 in
theorem kw1027 : Cond.methodLink "NativeWorksLaw" 62 ⟨"NativeWorksModel", "size", "(II)I"⟩ ∈ rTs := kMem 1027 rfl
set_option maxRecDepth 100000 in
theorem kw1028 : Cond.instanceMethod ⟨"NativeWorksModel", "size", "(II)I"⟩ ∈ rTs := kMem 1028 rfl
set_option maxRecDepth 100000 in
theorem kw1029 : Cond.code ⟨"NativeWorksModel", "size", "(II)I"⟩ prog_14_method_124_code 3 (Option.some FieldType.int) ∈ rTs := kMem 1029 rfl
set_option maxRecDepth 100000 in
theorem kw1030 : Cond.selects "NativeWorksModel" ⟨"NativeWorksModel", "size", "(II)I"⟩ ⟨"NativeWorksModel", "size", "(II)I"⟩ ∈ rTs := kMem 1030 rfl
set_option maxRecDepth 100000 in
theorem kw1031 : Cond.methodLink "NativeWorksLaw" 63 ⟨"NativeWorks", "octet", "(III)I"⟩ ∈ rTs := kMem 1031 rfl
set_option maxRecDepth 100000 in
theorem kw1032 : Cond.instanceMethod ⟨"NativeWorks", "octet", "(III)I"⟩ ∈ rTs := kMem 1032 rfl
set_option maxRecDepth 100000 in
theorem kw1033 : Cond.code ⟨"NativeWorks", "octet", "(III)I"⟩ prog_1_method_7_code 4 (Option.some FieldType.int) ∈ rTs := kMem 1033 rfl
set_option maxRecDepth 100000 in
theorem kw1034 : Cond.selects "NativeWorks" ⟨"NativeWorks", "octet", "(III)I"⟩ ⟨"NativeWorks", "octet", "(III)I"⟩ ∈ rTs := kMem 1034 rfl
set_option maxRecDepth 100000 in
theorem kw1035 : Cond.methodLink "NativeWorksLaw" 67 ⟨"NativeWorksModel", "octet", "(III)I"⟩ ∈ rTs := kMem 1035 rfl
set_option maxRecDepth 100000 in
theorem kw1036 : Cond.instanceMethod ⟨"NativeWorksModel", "octet", "(III)I"⟩ ∈ rTs := kMem 1036 rfl
set_option maxRecDepth 100000 in
theorem kw1037 : Cond.code ⟨"NativeWorksModel", "octet", "(III)I"⟩ prog_14_method_126_code 5 (Option.some FieldType.int) ∈ rTs := kMem 1037 rfl
set_option maxRecDepth 100000 in
theorem kw1038 : Cond.selects "NativeWorksModel" ⟨"NativeWorksModel", "octet", "(III)I"⟩ ⟨"NativeWorksModel", "octet", "(III)I"⟩ ∈ rTs := kMem 1038 rfl
set_option maxRecDepth 100000 in
theorem kw1039 : Cond.methodLink "NativeWorksLaw" 68 ⟨"NativeWorksLaw", "link", "(LNativeWorks;[J)I"⟩ ∈ rTs := kMem 1039 rfl
set_option maxRecDepth 100000 in
theorem kw1040 : Cond.static ⟨"NativeWorksLaw", "link", "(LNativeWorks;[J)I"⟩ ∈ rTs := kMem 1040 rfl
set_option maxRecDepth 100000 in
theorem kw1041 : Cond.codeWith ⟨"NativeWorksLaw", "link", "(LNativeWorks;[J)I"⟩ method_4_code 3 (Option.some FieldType.int) [(0, 8, 11, 19)] ∈ rTs := kMem 1041 rfl
set_option maxRecDepth 100000 in
theorem kw1042 : Cond.methodLink "NativeWorksLaw" 71 ⟨"NativeWorksModel", "link", "()I"⟩ ∈ rTs := kMem 1042 rfl
set_option maxRecDepth 100000 in
theorem kw1043 : Cond.instanceMethod ⟨"NativeWorksModel", "link", "()I"⟩ ∈ rTs := kMem 1043 rfl
set_option maxRecDepth 100000 in
theorem kw1044 : Cond.code ⟨"NativeWorksModel", "link", "()I"⟩ prog_14_method_145_code 9 (Option.some FieldType.int) ∈ rTs := kMem 1044 rfl
set_option maxRecDepth 100000 in
theorem kw1045 : Cond.selects "NativeWorksModel" ⟨"NativeWorksModel", "link", "()I"⟩ ⟨"NativeWorksModel", "link", "()I"⟩ ∈ rTs := kMem 1045 rfl
set_option maxRecDepth 100000 in
theorem kw1046 : Cond.methodLink "NativeWorksLaw" 72 ⟨"NativeWorksLaw", "symbol", "(LNativeWorks;I[J)I"⟩ ∈ rTs := kMem 1046 rfl
set_option maxRecDepth 100000 in
theorem kw1047 : Cond.static ⟨"NativeWorksLaw", "symbol", "(LNativeWorks;I[J)I"⟩ ∈ rTs := kMem 1047 rfl
set_option maxRecDepth 100000 in
theorem kw1048 : Cond.codeWith ⟨"NativeWorksLaw", "symbol", "(LNativeWorks;I[J)I"⟩ method_5_code 4 (Option.some FieldType.int) [(0, 8, 11, 25)] ∈ rTs := kMem 1048 rfl
set_option maxRecDepth 100000 in
theorem kw1049 : Cond.methodLink "NativeWorksLaw" 75 ⟨"NativeWorksModel", "symbol", "(I)J"⟩ ∈ rTs := kMem 1049 rfl
set_option maxRecDepth 100000 in
theorem kw1050 : Cond.instanceMethod ⟨"NativeWorksModel", "symbol", "(I)J"⟩ ∈ rTs := kMem 1050 rfl
set_option maxRecDepth 100000 in
theorem kw1051 : Cond.code ⟨"NativeWorksModel", "symbol", "(I)J"⟩ prog_14_method_149_code 6 (Option.some FieldType.long) ∈ rTs := kMem 1051 rfl
set_option maxRecDepth 100000 in
theorem kw1052 : Cond.selects "NativeWorksModel" ⟨"NativeWorksModel", "symbol", "(I)J"⟩ ⟨"NativeWorksModel", "symbol", "(I)J"⟩ ∈ rTs := kMem 1052 rfl
set_option maxRecDepth 100000 in
theorem kw1053 : Cond.methodLink "NativeWorksLaw" 76 ⟨"NativeWorksLaw", "load", "(LNativeWorks;[J)I"⟩ ∈ rTs := kMem 1053 rfl
set_option maxRecDepth 100000 in
theorem kw1054 : Cond.static ⟨"NativeWorksLaw", "load", "(LNativeWorks;[J)I"⟩ ∈ rTs := kMem 1054 rfl
set_option maxRecDepth 100000 in
theorem kw1055 : Cond.codeWith ⟨"NativeWorksLaw", "load", "(LNativeWorks;[J)I"⟩ method_6_code 3 (Option.some FieldType.int) [(0, 7, 10, 19)] ∈ rTs := kMem 1055 rfl
set_option maxRecDepth 100000 in
theorem kw1056 : Cond.methodLink "NativeWorksLaw" 78 ⟨"NativeWorksModel", "load", "()J"⟩ ∈ rTs := kMem 1056 rfl
set_option maxRecDepth 100000 in
theorem kw1057 : Cond.instanceMethod ⟨"NativeWorksModel", "load", "()J"⟩ ∈ rTs := kMem 1057 rfl
set_option maxRecDepth 100000 in
theorem kw1058 : Cond.code ⟨"NativeWorksModel", "load", "()J"⟩ prog_14_method_194_code 2 (Option.some FieldType.long) ∈ rTs := kMem 1058 rfl
set_option maxRecDepth 100000 in
theorem kw1059 : Cond.selects "NativeWorksModel" ⟨"NativeWorksModel", "load", "()J"⟩ ⟨"NativeWorksModel", "load", "()J"⟩ ∈ rTs := kMem 1059 rfl
set_option maxRecDepth 100000 in
theorem kw1060 : Cond.methodLink "NativeWorksLaw" 79 ⟨"NativeWorks", "input", "(I)I"⟩ ∈ rTs := kMem 1060 rfl
set_option maxRecDepth 100000 in
theorem kw1061 : Cond.instanceMethod ⟨"NativeWorks", "input", "(I)I"⟩ ∈ rTs := kMem 1061 rfl
set_option maxRecDepth 100000 in
theorem kw1062 : Cond.code ⟨"NativeWorks", "input", "(I)I"⟩ prog_1_method_11_code 2 (Option.some FieldType.int) ∈ rTs := kMem 1062 rfl
set_option maxRecDepth 100000 in
theorem kw1063 : Cond.selects "NativeWorks" ⟨"NativeWorks", "input", "(I)I"⟩ ⟨"NativeWorks", "input", "(I)I"⟩ ∈ rTs := kMem 1063 rfl
set_option maxRecDepth 100000 in
theorem kw1064 : Cond.methodLink "NativeWorksLaw" 82 ⟨"NativeWorksModel", "input", "(I)I"⟩ ∈ rTs := kMem 1064 rfl
set_option maxRecDepth 100000 in
theorem kw1065 : Cond.instanceMethod ⟨"NativeWorksModel", "input", "(I)I"⟩ ∈ rTs := kMem 1065 rfl
set_option maxRecDepth 100000 in
theorem kw1066 : Cond.code ⟨"NativeWorksModel", "input", "(I)I"⟩ prog_14_method_195_code 4 (Option.some FieldType.int) ∈ rTs := kMem 1066 rfl
set_option maxRecDepth 100000 in
theorem kw1067 : Cond.selects "NativeWorksModel" ⟨"NativeWorksModel", "input", "(I)I"⟩ ⟨"NativeWorksModel", "input", "(I)I"⟩ ∈ rTs := kMem 1067 rfl
set_option maxRecDepth 100000 in
theorem kw1068 : Cond.methodLink "NativeWorksLaw" 83 ⟨"NativeWorksLaw", "run", "(LNativeWorks;I[J)I"⟩ ∈ rTs := kMem 1068 rfl
set_option maxRecDepth 100000 in
theorem kw1069 : Cond.static ⟨"NativeWorksLaw", "run", "(LNativeWorks;I[J)I"⟩ ∈ rTs := kMem 1069 rfl
set_option maxRecDepth 100000 in
theorem kw1070 : Cond.codeWith ⟨"NativeWorksLaw", "run", "(LNativeWorks;I[J)I"⟩ method_7_code 4 (Option.some FieldType.int) [(0, 9, 12, 13), (0, 9, 15, 19)] ∈ rTs := kMem 1070 rfl
set_option maxRecDepth 100000 in
theorem kw1071 : Cond.methodLink "NativeWorksLaw" 85 ⟨"NativeWorksModel", "run", "(I)I"⟩ ∈ rTs := kMem 1071 rfl
set_option maxRecDepth 100000 in
theorem kw1072 : Cond.instanceMethod ⟨"NativeWorksModel", "run", "(I)I"⟩ ∈ rTs := kMem 1072 rfl
set_option maxRecDepth 100000 in
theorem kw1073 : Cond.code ⟨"NativeWorksModel", "run", "(I)I"⟩ prog_14_method_197_code 3 (Option.some FieldType.int) ∈ rTs := kMem 1073 rfl
set_option maxRecDepth 100000 in
theorem kw1074 : Cond.selects "NativeWorksModel" ⟨"NativeWorksModel", "run", "(I)I"⟩ ⟨"NativeWorksModel", "run", "(I)I"⟩ ∈ rTs := kMem 1074 rfl
set_option maxRecDepth 100000 in
theorem kw1075 : Cond.methodLink "NativeWorksLaw" 86 ⟨"NativeWorks", "stop", "(I)J"⟩ ∈ rTs := kMem 1075 rfl
set_option maxRecDepth 100000 in
theorem kw1076 : Cond.instanceMethod ⟨"NativeWorks", "stop", "(I)J"⟩ ∈ rTs := kMem 1076 rfl
set_option maxRecDepth 100000 in
theorem kw1077 : Cond.code ⟨"NativeWorks", "stop", "(I)J"⟩ prog_1_method_13_code 2 (Option.some FieldType.long) ∈ rTs := kMem 1077 rfl
set_option maxRecDepth 100000 in
theorem kw1078 : Cond.selects "NativeWorks" ⟨"NativeWorks", "stop", "(I)J"⟩ ⟨"NativeWorks", "stop", "(I)J"⟩ ∈ rTs := kMem 1078 rfl
set_option maxRecDepth 100000 in
theorem kw1079 : Cond.methodLink "NativeWorksLaw" 89 ⟨"NativeWorksModel", "stop", "(I)J"⟩ ∈ rTs := kMem 1079 rfl
set_option maxRecDepth 100000 in
theorem kw1080 : Cond.instanceMethod ⟨"NativeWorksModel", "stop", "(I)J"⟩ ∈ rTs := kMem 1080 rfl
set_option maxRecDepth 100000 in
theorem kw1081 : Cond.code ⟨"NativeWorksModel", "stop", "(I)J"⟩ prog_14_method_198_code 2 (Option.some FieldType.long) ∈ rTs := kMem 1081 rfl
set_option maxRecDepth 100000 in
theorem kw1082 : Cond.selects "NativeWorksModel" ⟨"NativeWorksModel", "stop", "(I)J"⟩ ⟨"NativeWorksModel", "stop", "(I)J"⟩ ∈ rTs := kMem 1082 rfl
set_option maxRecDepth 100000 in
theorem kw1083 : Cond.methodLink "NativeWorksLaw" 90 ⟨"NativeWorks", "registe\x72", "(I)J"⟩ ∈ rTs := kMem 1083 rfl
set_option maxRecDepth 100000 in
theorem kw1084 : Cond.instanceMethod ⟨"NativeWorks", "registe\x72", "(I)J"⟩ ∈ rTs := kMem 1084 rfl
set_option maxRecDepth 100000 in
theorem kw1085 : Cond.code ⟨"NativeWorks", "registe\x72", "(I)J"⟩ prog_1_method_14_code 2 (Option.some FieldType.long) ∈ rTs := kMem 1085 rfl
set_option maxRecDepth 100000 in
theorem kw1086 : Cond.selects "NativeWorks" ⟨"NativeWorks", "registe\x72", "(I)J"⟩ ⟨"NativeWorks", "registe\x72", "(I)J"⟩ ∈ rTs := kMem 1086 rfl
set_option maxRecDepth 100000 in
theorem kw1087 : Cond.methodLink "NativeWorksLaw" 93 ⟨"NativeWorksModel", "registe\x72", "(I)J"⟩ ∈ rTs := kMem 1087 rfl
set_option maxRecDepth 100000 in
theorem kw1088 : Cond.instanceMethod ⟨"NativeWorksModel", "registe\x72", "(I)J"⟩ ∈ rTs := kMem 1088 rfl
set_option maxRecDepth 100000 in
theorem kw1089 : Cond.code ⟨"NativeWorksModel", "registe\x72", "(I)J"⟩ prog_14_method_199_code 2 (Option.some FieldType.long) ∈ rTs := kMem 1089 rfl
set_option maxRecDepth 100000 in
theorem kw1090 : Cond.selects "NativeWorksModel" ⟨"NativeWorksModel", "registe\x72", "(I)J"⟩ ⟨"NativeWorksModel", "registe\x72", "(I)J"⟩ ∈ rTs := kMem 1090 rfl
set_option maxRecDepth 100000 in
theorem kw1091 : Cond.constantLong "NativeWorksLaw" 94 (lN 4294967295) ∈ rTs := kMem 1091 (by decide +kernel)
set_option maxRecDepth 100000 in
theorem kw1092 : Cond.methodLink "NativeWorksLaw" 96 ⟨"NativeWorks", "set", "(IJ)Z"⟩ ∈ rTs := kMem 1092 rfl
set_option maxRecDepth 100000 in
theorem kw1093 : Cond.instanceMethod ⟨"NativeWorks", "set", "(IJ)Z"⟩ ∈ rTs := kMem 1093 rfl
set_option maxRecDepth 100000 in
theorem kw1094 : Cond.code ⟨"NativeWorks", "set", "(IJ)Z"⟩ prog_1_method_15_code 4 (Option.some FieldType.boolean) ∈ rTs := kMem 1094 rfl
set_option maxRecDepth 100000 in
theorem kw1095 : Cond.selects "NativeWorks" ⟨"NativeWorks", "set", "(IJ)Z"⟩ ⟨"NativeWorks", "set", "(IJ)Z"⟩ ∈ rTs := kMem 1095 rfl
set_option maxRecDepth 100000 in
theorem kw1096 : Cond.methodLink "NativeWorksLaw" 100 ⟨"NativeWorksModel", "set", "(IJ)Z"⟩ ∈ rTs := kMem 1096 rfl
set_option maxRecDepth 100000 in
theorem kw1097 : Cond.instanceMethod ⟨"NativeWorksModel", "set", "(IJ)Z"⟩ ∈ rTs := kMem 1097 rfl
set_option maxRecDepth 100000 in
theorem kw1098 : Cond.code ⟨"NativeWorksModel", "set", "(IJ)Z"⟩ prog_14_method_200_code 4 (Option.some FieldType.boolean) ∈ rTs := kMem 1098 rfl
set_option maxRecDepth 100000 in
theorem kw1099 : Cond.selects "NativeWorksModel" ⟨"NativeWorksModel", "set", "(IJ)Z"⟩ ⟨"NativeWorksModel", "set", "(IJ)Z"⟩ ∈ rTs := kMem 1099 rfl
set_option maxRecDepth 100000 in
theorem kw1100 : Cond.methodLink "NativeWorksLaw" 101 ⟨"NativeWorks", "peek", "(J)I"⟩ ∈ rTs := kMem 1100 rfl
set_option maxRecDepth 100000 in
theorem kw1101 : Cond.instanceMethod ⟨"NativeWorks", "peek", "(J)I"⟩ ∈ rTs := kMem 1101 rfl
set_option maxRecDepth 100000 in
theorem kw1102 : Cond.code ⟨"NativeWorks", "peek", "(J)I"⟩ prog_1_method_16_code 3 (Option.some FieldType.int) ∈ rTs := kMem 1102 rfl
set_option maxRecDepth 100000 in
theorem kw1103 : Cond.selects "NativeWorks" ⟨"NativeWorks", "peek", "(J)I"⟩ ⟨"NativeWorks", "peek", "(J)I"⟩ ∈ rTs := kMem 1103 rfl
set_option maxRecDepth 100000 in
theorem kw1104 : Cond.methodLink "NativeWorksLaw" 105 ⟨"NativeWorksModel", "peek", "(J)I"⟩ ∈ rTs := kMem 1104 rfl
set_option maxRecDepth 100000 in
theorem kw1105 : Cond.instanceMethod ⟨"NativeWorksModel", "peek", "(J)I"⟩ ∈ rTs := kMem 1105 rfl
set_option maxRecDepth 100000 in
theorem kw1106 : Cond.code ⟨"NativeWorksModel", "peek", "(J)I"⟩ prog_14_method_201_code 4 (Option.some FieldType.int) ∈ rTs := kMem 1106 rfl
set_option maxRecDepth 100000 in
theorem kw1107 : Cond.selects "NativeWorksModel" ⟨"NativeWorksModel", "peek", "(J)I"⟩ ⟨"NativeWorksModel", "peek", "(J)I"⟩ ∈ rTs := kMem 1107 rfl
set_option maxRecDepth 100000 in
theorem kw1108 : Cond.methodLink "NativeWorksLaw" 106 ⟨"NativeWorks", "poke", "(JI)Z"⟩ ∈ rTs := kMem 1108 rfl
set_option maxRecDepth 100000 in
theorem kw1109 : Cond.instanceMethod ⟨"NativeWorks", "poke", "(JI)Z"⟩ ∈ rTs := kMem 1109 rfl
set_option maxRecDepth 100000 in
theorem kw1110 : Cond.code ⟨"NativeWorks", "poke", "(JI)Z"⟩ prog_1_method_17_code 4 (Option.some FieldType.boolean) ∈ rTs := kMem 1110 rfl
set_option maxRecDepth 100000 in
theorem kw1111 : Cond.selects "NativeWorks" ⟨"NativeWorks", "poke", "(JI)Z"⟩ ⟨"NativeWorks", "poke", "(JI)Z"⟩ ∈ rTs := kMem 1111 rfl
set_option maxRecDepth 100000 in
theorem kw1112 : Cond.methodLink "NativeWorksLaw" 110 ⟨"NativeWorksModel", "poke", "(JI)Z"⟩ ∈ rTs := kMem 1112 rfl
set_option maxRecDepth 100000 in
theorem kw1113 : Cond.instanceMethod ⟨"NativeWorksModel", "poke", "(JI)Z"⟩ ∈ rTs := kMem 1113 rfl
set_option maxRecDepth 100000 in
theorem kw1114 : Cond.code ⟨"NativeWorksModel", "poke", "(JI)Z"⟩ prog_14_method_202_code 5 (Option.some FieldType.boolean) ∈ rTs := kMem 1114 rfl
set_option maxRecDepth 100000 in
theorem kw1115 : Cond.selects "NativeWorksModel" ⟨"NativeWorksModel", "poke", "(JI)Z"⟩ ⟨"NativeWorksModel", "poke", "(JI)Z"⟩ ∈ rTs := kMem 1115 rfl
set_option maxRecDepth 100000 in
theorem kw1116 : Cond.methodLink "NativeWorksLaw" 111 ⟨"NativeWorks", "stopAt", "(JZ)Z"⟩ ∈ rTs := kMem 1116 rfl
set_option maxRecDepth 100000 in
theorem kw1117 : Cond.instanceMethod ⟨"NativeWorks", "stopAt", "(JZ)Z"⟩ ∈ rTs := kMem 1117 rfl
set_option maxRecDepth 100000 in
theorem kw1118 : Cond.code ⟨"NativeWorks", "stopAt", "(JZ)Z"⟩ prog_1_method_18_code 4 (Option.some FieldType.boolean) ∈ rTs := kMem 1118 rfl
set_option maxRecDepth 100000 in
theorem kw1119 : Cond.selects "NativeWorks" ⟨"NativeWorks", "stopAt", "(JZ)Z"⟩ ⟨"NativeWorks", "stopAt", "(JZ)Z"⟩ ∈ rTs := kMem 1119 rfl
set_option maxRecDepth 100000 in
theorem kw1120 : Cond.methodLink "NativeWorksLaw" 115 ⟨"NativeWorksModel", "stopAt", "(JZ)Z"⟩ ∈ rTs := kMem 1120 rfl
set_option maxRecDepth 100000 in
theorem kw1121 : Cond.instanceMethod ⟨"NativeWorksModel", "stopAt", "(JZ)Z"⟩ ∈ rTs := kMem 1121 rfl
set_option maxRecDepth 100000 in
theorem kw1122 : Cond.code ⟨"NativeWorksModel", "stopAt", "(JZ)Z"⟩ prog_14_method_203_code 5 (Option.some FieldType.boolean) ∈ rTs := kMem 1122 rfl
set_option maxRecDepth 100000 in
theorem kw1123 : Cond.selects "NativeWorksModel" ⟨"NativeWorksModel", "stopAt", "(JZ)Z"⟩ ⟨"NativeWorksModel", "stopAt", "(JZ)Z"⟩ ∈ rTs := kMem 1123 rfl
set_option maxRecDepth 100000 in
theorem kw1124 : Cond.methodLink "NativeWorksLaw" 116 ⟨"NativeWorks", "output", "(I)I"⟩ ∈ rTs := kMem 1124 rfl
set_option maxRecDepth 100000 in
theorem kw1125 : Cond.instanceMethod ⟨"NativeWorks", "output", "(I)I"⟩ ∈ rTs := kMem 1125 rfl
set_option maxRecDepth 100000 in
theorem kw1126 : Cond.code ⟨"NativeWorks", "output", "(I)I"⟩ prog_1_method_19_code 2 (Option.some FieldType.int) ∈ rTs := kMem 1126 rfl
set_option maxRecDepth 100000 in
theorem kw1127 : Cond.selects "NativeWorks" ⟨"NativeWorks", "output", "(I)I"⟩ ⟨"NativeWorks", "output", "(I)I"⟩ ∈ rTs := kMem 1127 rfl
set_option maxRecDepth 100000 in
theorem kw1128 : Cond.methodLink "NativeWorksLaw" 119 ⟨"NativeWorksModel", "output", "(I)I"⟩ ∈ rTs := kMem 1128 rfl
set_option maxRecDepth 100000 in
theorem kw1129 : Cond.instanceMethod ⟨"NativeWorksModel", "output", "(I)I"⟩ ∈ rTs := kMem 1129 rfl
set_option maxRecDepth 100000 in
theorem kw1130 : Cond.code ⟨"NativeWorksModel", "output", "(I)I"⟩ prog_14_method_204_code 2 (Option.some FieldType.int) ∈ rTs := kMem 1130 rfl
set_option maxRecDepth 100000 in
theorem kw1131 : Cond.selects "NativeWorksModel" ⟨"NativeWorksModel", "output", "(I)I"⟩ ⟨"NativeWorksModel", "output", "(I)I"⟩ ∈ rTs := kMem 1131 rfl
set_option maxRecDepth 100000 in
theorem kw1132 : Cond.methodLink "NativeWorksLaw" 120 ⟨"NativeWorks", "where", "(J)I"⟩ ∈ rTs := kMem 1132 rfl
set_option maxRecDepth 100000 in
theorem kw1133 : Cond.instanceMethod ⟨"NativeWorks", "where", "(J)I"⟩ ∈ rTs := kMem 1133 rfl
set_option maxRecDepth 100000 in
theorem kw1134 : Cond.code ⟨"NativeWorks", "where", "(J)I"⟩ prog_1_method_20_code 5 (Option.some FieldType.int) ∈ rTs := kMem 1134 rfl
set_option maxRecDepth 100000 in
theorem kw1135 : Cond.selects "NativeWorks" ⟨"NativeWorks", "where", "(J)I"⟩ ⟨"NativeWorks", "where", "(J)I"⟩ ∈ rTs := kMem 1135 rfl
set_option maxRecDepth 100000 in
theorem kw1136 : Cond.methodLink "NativeWorksLaw" 123 ⟨"NativeWorksModel", "where", "(J)I"⟩ ∈ rTs := kMem 1136 rfl
set_option maxRecDepth 100000 in
theorem kw1137 : Cond.instanceMethod ⟨"NativeWorksModel", "where", "(J)I"⟩ ∈ rTs := kMem 1137 rfl
set_option maxRecDepth 100000 in
theorem kw1138 : Cond.code ⟨"NativeWorksModel", "where", "(J)I"⟩ prog_14_method_150_code 4 (Option.some FieldType.int) ∈ rTs := kMem 1138 rfl
set_option maxRecDepth 100000 in
theorem kw1139 : Cond.selects "NativeWorksModel" ⟨"NativeWorksModel", "where", "(J)I"⟩ ⟨"NativeWorksModel", "where", "(J)I"⟩ ∈ rTs := kMem 1139 rfl
set_option maxRecDepth 100000 in
theorem kw1140 : Cond.classLink "NativeWorksLaw" 13 "java/lang/IllegalArgumentException" ∈ rTs := kMem 1140 rfl
set_option maxRecDepth 100000 in
theorem kw1141 : Cond.classLink "NativeWorksLaw" 19 "java/lang/IllegalStateException" ∈ rTs := kMem 1141 rfl
set_option maxRecDepth 100000 in
theorem kw1142 : Cond.classLink "NativeWorksLaw" 25 "java/util/NoSuchElementException" ∈ rTs := kMem 1142 rfl
set_option maxRecDepth 100000 in
theorem kwObj : Cond.code Lib.objectInit ⟨#[0xb1]⟩ 1 none ∈ rTs := kMem 0 (by decide +kernel)
set_option maxRecDepth 100000 in
theorem kGood : ∀ w ∈ rTs, goodWord w = true := List.all_eq_true.mp (by decide +kernel)
def rNs : List Cond := [Cond.arrayOver (FieldType.array FieldType.int), Cond.arrayOver (FieldType.object "java/lang/String"), Cond.arrayOver (FieldType.array FieldType.byte), Cond.methodLinkNest "NativeWorksModel" 293 ⟨"NativeWorksModel$Code", "<init>", "()V"⟩ "NativeWorksModel", Cond.fieldLinkNest "NativeWorksModel" 1251 "NativeWorksModel$Code" "end" "I" "NativeWorksModel", Cond.declares ⟨"java/lang/RuntimeException", "<init>", "(Ljava/lang/String;)V"⟩, Cond.declares ⟨"java/lang/Exception", "<init>", "(Ljava/lang/String;)V"⟩, Cond.declares ⟨"java/lang/Throwable", "<init>", "(Ljava/lang/String;)V"⟩, Cond.castable "java/lang/IllegalStateException" "java/lang/IllegalStateException", Cond.castable "java/util/NoSuchElementException" "java/util/NoSuchElementException", Cond.castable "java/lang/IllegalArgumentException" "java/lang/IllegalArgumentException"]
theorem kn0 : Cond.arrayOver (FieldType.array FieldType.int) ∈ rNs := List.mem_of_getElem? (i := 0) rfl
theorem kn1 : Cond.arrayOver (FieldType.object "java/lang/String") ∈ rNs := List.mem_of_getElem? (i := 1) rfl
theorem kn2 : Cond.arrayOver (FieldType.array FieldType.byte) ∈ rNs := List.mem_of_getElem? (i := 2) rfl
theorem kn3 : Cond.methodLinkNest "NativeWorksModel" 293 ⟨"NativeWorksModel$Code", "<init>", "()V"⟩ "NativeWorksModel" ∈ rNs := List.mem_of_getElem? (i := 3) rfl
theorem kn4 : Cond.fieldLinkNest "NativeWorksModel" 1251 "NativeWorksModel$Code" "end" "I" "NativeWorksModel" ∈ rNs := List.mem_of_getElem? (i := 4) rfl
theorem kn5 : Cond.declares ⟨"java/lang/RuntimeException", "<init>", "(Ljava/lang/String;)V"⟩ ∈ rNs := List.mem_of_getElem? (i := 5) rfl
theorem kn6 : Cond.declares ⟨"java/lang/Exception", "<init>", "(Ljava/lang/String;)V"⟩ ∈ rNs := List.mem_of_getElem? (i := 6) rfl
theorem kn7 : Cond.declares ⟨"java/lang/Throwable", "<init>", "(Ljava/lang/String;)V"⟩ ∈ rNs := List.mem_of_getElem? (i := 7) rfl
theorem kn8 : Cond.castable "java/lang/IllegalStateException" "java/lang/IllegalStateException" ∈ rNs := List.mem_of_getElem? (i := 8) rfl
theorem kn9 : Cond.castable "java/util/NoSuchElementException" "java/util/NoSuchElementException" ∈ rNs := List.mem_of_getElem? (i := 9) rfl
theorem kn10 : Cond.castable "java/lang/IllegalArgumentException" "java/lang/IllegalArgumentException" ∈ rNs := List.mem_of_getElem? (i := 10) rfl
