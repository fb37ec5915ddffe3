theorem kp0 : Cond.selects "Manypanes" ⟨"Manypanes", "beginLongRow", "()V"⟩ ⟨"Manypanes", "beginLongRow", "()V"⟩ ∈ gw := gw_p (i := 0) rfl rfl
theorem kp1 : Cond.selects "java/lang/Throwable" ⟨"java/lang/Throwable", "fillInStackTrace", "(I)Ljava/lang/Throwable;"⟩ ⟨"java/lang/Throwable", "fillInStackTrace", "(I)Ljava/lang/Throwable;"⟩ ∈ gw := gw_p (i := 1) rfl rfl
theorem kp2 : Cond.selects "Manypanes$Line" ⟨"Manypanes$Line", "addNumber", "(J)V"⟩ ⟨"Manypanes$Line", "addNumber", "(J)V"⟩ ∈ gw := gw_p (i := 2) rfl rfl
theorem kp3 : Cond.selects "Manypanes" ⟨"Manypanes", "hasTrueTwins", "(LManypanes$Pane;)Z"⟩ ⟨"Manypanes", "hasTrueTwins", "(LManypanes$Pane;)Z"⟩ ∈ gw := gw_p (i := 3) rfl rfl
theorem kp4 : Cond.selects "Manypanes" ⟨"Manypanes", "hasTrueRemainder", "(LManypanes$Pane;)Z"⟩ ⟨"Manypanes", "hasTrueRemainder", "(LManypanes$Pane;)Z"⟩ ∈ gw := gw_p (i := 4) rfl rfl
theorem kp5 : Cond.selects "Manypanes" ⟨"Manypanes", "houseNumber", "(I)I"⟩ ⟨"Manypanes", "houseNumber", "(I)I"⟩ ∈ gw := gw_p (i := 5) rfl rfl
theorem kp6 : Cond.selects "Manypanes" ⟨"Manypanes", "howManyReaders", "()I"⟩ ⟨"Manypanes", "howManyReaders", "()I"⟩ ∈ gw := gw_p (i := 6) rfl rfl
theorem kp7 : Cond.selects "Manypanes" ⟨"Manypanes", "howManyMarks", "()I"⟩ ⟨"Manypanes", "howManyMarks", "()I"⟩ ∈ gw := gw_p (i := 7) rfl rfl
theorem kp8 : Cond.selects "Manypanes" ⟨"Manypanes", "mixPane", "(JLManypanes$Pane;)J"⟩ ⟨"Manypanes", "mixPane", "(JLManypanes$Pane;)J"⟩ ∈ gw := gw_p (i := 8) rfl rfl
theorem kp9 : Cond.selects "Manypanes$Line" ⟨"Manypanes$Line", "addSigns", "(LManypanes$Pane;I)V"⟩ ⟨"Manypanes$Line", "addSigns", "(LManypanes$Pane;I)V"⟩ ∈ gw := gw_p (i := 9) rfl rfl
theorem kp10 : Cond.selects "Manypanes" ⟨"Manypanes", "mixLine", "(J)J"⟩ ⟨"Manypanes", "mixLine", "(J)J"⟩ ∈ gw := gw_p (i := 10) rfl rfl
theorem kp11 : Cond.selects "Manypanes" ⟨"Manypanes", "paneOf", "(I)LManypanes$Pane;"⟩ ⟨"Manypanes", "paneOf", "(I)LManypanes$Pane;"⟩ ∈ gw := gw_p (i := 11) rfl rfl
theorem kp12 : Cond.selects "Manypanes" ⟨"Manypanes", "done", "(I)I"⟩ ⟨"Manypanes", "done", "(I)I"⟩ ∈ gw := gw_p (i := 12) rfl rfl
theorem kp13 : Cond.selects "Manypanes" ⟨"Manypanes", "refuse", "(I)I"⟩ ⟨"Manypanes", "refuse", "(I)I"⟩ ∈ gw := gw_p (i := 13) rfl rfl
theorem kp14 : Cond.selects "Manypanes" ⟨"Manypanes", "setPane", "(ILManypanes$Pane;)V"⟩ ⟨"Manypanes", "setPane", "(ILManypanes$Pane;)V"⟩ ∈ gw := gw_p (i := 14) rfl rfl
theorem kp15 : Cond.selects "Manypanes" ⟨"Manypanes", "tryPut", "(LManypanes$Pane;I)Z"⟩ ⟨"Manypanes", "tryPut", "(LManypanes$Pane;I)Z"⟩ ∈ gw := gw_p (i := 15) rfl rfl
theorem kp16 : Cond.selects "Manypanes" ⟨"Manypanes", "pourOne", "(LManypanes$Pane;LManypanes$Pane;)Z"⟩ ⟨"Manypanes", "pourOne", "(LManypanes$Pane;LManypanes$Pane;)Z"⟩ ∈ gw := gw_p (i := 16) rfl rfl
theorem kp17 : Cond.selects "ManypanesModel" ⟨"ManypanesModel", "made", "(I)[I"⟩ ⟨"ManypanesModel", "made", "(I)[I"⟩ ∈ gw := gw_p (i := 17) rfl rfl
theorem kp18 : Cond.selects "ManypanesModel" ⟨"ManypanesModel", "isLet", "(ZZ)Z"⟩ ⟨"ManypanesModel", "isLet", "(ZZ)Z"⟩ ∈ gw := gw_p (i := 18) rfl rfl
theorem kp19 : Cond.selects "ManypanesModel" ⟨"ManypanesModel", "did", "(I)I"⟩ ⟨"ManypanesModel", "did", "(I)I"⟩ ∈ gw := gw_p (i := 19) rfl rfl
theorem kp20 : Cond.selects "ManypanesModel" ⟨"ManypanesModel", "cut", "(I[III)I"⟩ ⟨"ManypanesModel", "cut", "(I[III)I"⟩ ∈ gw := gw_p (i := 20) rfl rfl
theorem kp21 : Cond.selects "ManypanesModel" ⟨"ManypanesModel", "refuse", "(I)I"⟩ ⟨"ManypanesModel", "refuse", "(I)I"⟩ ∈ gw := gw_p (i := 21) rfl rfl
theorem kp22 : Cond.selects "ManypanesModel" ⟨"ManypanesModel", "moved", "([II)V"⟩ ⟨"ManypanesModel", "moved", "([II)V"⟩ ∈ gw := gw_p (i := 22) rfl rfl
theorem kp23 : Cond.selects "ManypanesModel" ⟨"ManypanesModel", "ended", "([II)V"⟩ ⟨"ManypanesModel", "ended", "([II)V"⟩ ∈ gw := gw_p (i := 23) rfl rfl
theorem kp24 : Cond.selects "ManypanesModel" ⟨"ManypanesModel", "begun", "([III)I"⟩ ⟨"ManypanesModel", "begun", "([III)I"⟩ ∈ gw := gw_p (i := 24) rfl rfl
theorem kp25 : Cond.selects "ManypanesModel" ⟨"ManypanesModel", "puts", "([II)I"⟩ ⟨"ManypanesModel", "puts", "([II)I"⟩ ∈ gw := gw_p (i := 25) rfl rfl
theorem kp26 : Cond.selects "ManypanesModel" ⟨"ManypanesModel", "where", "([II)I"⟩ ⟨"ManypanesModel", "where", "([II)I"⟩ ∈ gw := gw_p (i := 26) rfl rfl
theorem kp27 : Cond.selects "ManypanesModel" ⟨"ManypanesModel", "written", "(II)I"⟩ ⟨"ManypanesModel", "written", "(II)I"⟩ ∈ gw := gw_p (i := 27) rfl rfl
theorem kp28 : Cond.selects "ManypanesModel" ⟨"ManypanesModel", "joined", "(II)Ljava/lang/String;"⟩ ⟨"ManypanesModel", "joined", "(II)Ljava/lang/String;"⟩ ∈ gw := gw_p (i := 28) rfl rfl
theorem kp29 : Cond.selects "ManypanesModel" ⟨"ManypanesModel", "areReaders", "(II)Z"⟩ ⟨"ManypanesModel", "areReaders", "(II)Z"⟩ ∈ gw := gw_p (i := 29) rfl rfl
theorem kw0 : Cond.initialized "ManypanesLaw" ∈ gw := gw_1 (i := 0) rfl rfl
theorem kw1 : Cond.initialized "Manypanes" ∈ gw := gw_1 (i := 1) rfl rfl
theorem kw2 : Cond.initialized "Manypanes$Row" ∈ gw := gw_1 (i := 2) rfl rfl
theorem kw3 : Cond.initialized "Manypanes$Pane" ∈ gw := gw_1 (i := 3) rfl rfl
theorem kw4 : Cond.initialized "Manypanes$Line" ∈ gw := gw_1 (i := 4) rfl rfl
theorem kw5 : Cond.initialized "java/lang/AbstractStringBuilder" ∈ gw := gw_1 (i := 5) rfl rfl
theorem kw6 : Cond.initialized "java/lang/StringBuilder" ∈ gw := gw_1 (i := 6) rfl rfl
theorem kw7 : Cond.initialized "java/lang/String" ∈ gw := gw_1 (i := 7) rfl rfl
theorem kw8 : Cond.initialized "java/lang/StringUTF16" ∈ gw := gw_1 (i := 8) rfl rfl
theorem kw9 : Cond.initialized "ManypanesModel" ∈ gw := gw_1 (i := 9) rfl rfl
theorem kw10 : Cond.initialized "ManypanesLaw$Out" ∈ gw := gw_1 (i := 10) rfl rfl
theorem kw11 : Cond.initialized "java/lang/Throwable" ∈ gw := gw_1 (i := 11) rfl rfl
theorem kw12 : Cond.initialized "java/lang/Exception" ∈ gw := gw_1 (i := 12) rfl rfl
theorem kw13 : Cond.initialized "java/lang/RuntimeException" ∈ gw := gw_1 (i := 13) rfl rfl
theorem kw14 : Cond.initialized "java/lang/IndexOutOfBoundsException" ∈ gw := gw_1 (i := 14) rfl rfl
theorem kw15 : Cond.initialized "java/lang/IllegalArgumentException" ∈ gw := gw_1 (i := 15) rfl rfl
theorem kw16 : Cond.initialized "java/lang/Math" ∈ gw := gw_1 (i := 16) rfl rfl
theorem kw17 : Cond.initialized "java/lang/StringIndexOutOfBoundsException" ∈ gw := gw_1 (i := 17) rfl rfl
theorem kw18 : Cond.initialized "jdk/internal/util/ArraysSupport" ∈ gw := gw_1 (i := 18) rfl rfl
theorem kw19 : Cond.initialized "java/util/Arrays" ∈ gw := gw_1 (i := 19) rfl rfl
theorem kw20 : Cond.initialized "java/lang/System" ∈ gw := gw_1 (i := 20) rfl rfl
theorem kw21 : Cond.initialized "jdk/internal/util/Preconditions" ∈ gw := gw_1 (i := 21) rfl rfl
theorem kw22 : Cond.initialized "java/lang/StringLatin1" ∈ gw := gw_1 (i := 22) rfl rfl
theorem kw23 : Cond.initialized "java/lang/Integer" ∈ gw := gw_1 (i := 23) rfl rfl
theorem kw24 : Cond.initialized "java/lang/ArrayIndexOutOfBoundsException" ∈ gw := gw_1 (i := 24) rfl rfl
theorem kw25 : Cond.initialized "java/lang/Long" ∈ gw := gw_1 (i := 25) rfl rfl
theorem kw26 : Cond.classLink "ManypanesLaw" 8 "Manypanes" ∈ gw := gw_1 (i := 26) rfl rfl
theorem kw27 : Cond.instantiable "Manypanes" 7 ∈ gw := gw_1 (i := 27) rfl rfl
theorem kw28 : Cond.methodLink "ManypanesLaw" 139 ⟨"Manypanes", "<init>", "()V"⟩ ∈ gw := gw_1 (i := 28) rfl rfl
theorem kw29 : Cond.instanceMethod ⟨"Manypanes", "<init>", "()V"⟩ ∈ gw := gw_1 (i := 29) rfl rfl
theorem kw30 : Cond.code ⟨"Manypanes", "<init>", "()V"⟩ prog_1_method_1_code 2 (Option.none : Option ClassFile.FieldType) ∈ gw := gw_1 (i := 30) rfl rfl
theorem kw31 : Cond.methodLink "Manypanes" 1 ⟨"java/lang/Object", "<init>", "()V"⟩ ∈ gw := gw_1 (i := 31) rfl rfl
theorem kw32 : Cond.instanceMethod ⟨"java/lang/Object", "<init>", "()V"⟩ ∈ gw := gw_1 (i := 32) rfl rfl
theorem kw33 : Cond.code ⟨"java/lang/Object", "<init>", "()V"⟩ object_method_1_code 1 (Option.none : Option ClassFile.FieldType) ∈ gw := gw_1 (i := 33) rfl rfl
theorem kw34 : Cond.classLink "Manypanes" 7 "Manypanes$Row" ∈ gw := gw_1 (i := 34) rfl rfl
theorem kw35 : Cond.instantiable "Manypanes$Row" 1 ∈ gw := gw_1 (i := 35) rfl rfl
theorem kw36 : Cond.methodLink "Manypanes" 11 ⟨"Manypanes$Row", "<init>", "(I)V"⟩ ∈ gw := gw_1 (i := 36) rfl rfl
theorem kw37 : Cond.instanceMethod ⟨"Manypanes$Row", "<init>", "(I)V"⟩ ∈ gw := gw_1 (i := 37) rfl rfl
theorem kw38 : Cond.code ⟨"Manypanes$Row", "<init>", "(I)V"⟩ prog_4_method_1_code 2 (Option.none : Option ClassFile.FieldType) ∈ gw := gw_1 (i := 38) rfl rfl
theorem kw39 : Cond.methodLink "Manypanes$Row" 1 ⟨"java/lang/Object", "<init>", "()V"⟩ ∈ gw := gw_1 (i := 39) rfl rfl
theorem kw40 : Cond.fieldLink "Manypanes$Row" 7 "Manypanes$Row" "values" "[I" ∈ gw := gw_1 (i := 40) rfl rfl
theorem kw41 : Cond.laysFinal "Manypanes$Row" "Manypanes$Row" "values" "[I" ∈ gw := gw_1 (i := 41) rfl rfl
theorem kw43 : Cond.superclass "Manypanes$Row" "java/lang/Object" ∈ gw := gw_1 (i := 43) rfl rfl
theorem kw44 : Cond.arrayClass .int ∈ gw := gw_1 (i := 44) rfl rfl
theorem kw45 : Cond.classLink "Manypanes" 18 "Manypanes$Pane" ∈ gw := gw_1 (i := 45) rfl rfl
theorem kn46 : Cond.arrayOver (.object "Manypanes$Pane") ∈ z_nest := gn_1 (i := 46) rfl rfl
theorem kw47 : Cond.instantiable "Manypanes$Pane" 7 ∈ gw := gw_1 (i := 47) rfl rfl
theorem kw48 : Cond.methodLink "Manypanes" 24 ⟨"Manypanes$Pane", "<init>", "(LManypanes$Row;)V"⟩ ∈ gw := gw_1 (i := 48) rfl rfl
theorem kw49 : Cond.instanceMethod ⟨"Manypanes$Pane", "<init>", "(LManypanes$Row;)V"⟩ ∈ gw := gw_1 (i := 49) rfl rfl
theorem kw50 : Cond.code ⟨"Manypanes$Pane", "<init>", "(LManypanes$Row;)V"⟩ prog_3_method_1_code 2 (Option.none : Option ClassFile.FieldType) ∈ gw := gw_1 (i := 50) rfl rfl
theorem kw51 : Cond.methodLink "Manypanes$Pane" 3 ⟨"java/lang/Object", "<init>", "()V"⟩ ∈ gw := gw_1 (i := 51) rfl rfl
theorem kw52 : Cond.methodLink "Manypanes$Pane" 19 ⟨"Manypanes$Row", "length", "()I"⟩ ∈ gw := gw_1 (i := 52) rfl rfl
theorem kw53 : Cond.instanceMethod ⟨"Manypanes$Row", "length", "()I"⟩ ∈ gw := gw_1 (i := 53) rfl rfl
theorem kw54 : Cond.selects "Manypanes$Row" ⟨"Manypanes$Row", "length", "()I"⟩ ⟨"Manypanes$Row", "length", "()I"⟩ ∈ gw := gw_1 (i := 54) rfl rfl
theorem kw55 : Cond.code ⟨"Manypanes$Row", "length", "()I"⟩ prog_4_method_2_code 1 (Option.some .int) ∈ gw := gw_1 (i := 55) rfl rfl
theorem kw56 : Cond.fieldLink "Manypanes$Pane" 9 "Manypanes$Pane" "over" "LManypanes$Row;" ∈ gw := gw_1 (i := 56) rfl rfl
theorem kn57 : Cond.fieldLinkNest "Manypanes" 230 "Manypanes$Pane" "over" "LManypanes$Row;" "Manypanes" ∈ z_nest := gn_1 (i := 57) rfl rfl
theorem kw58 : Cond.fieldLink "Manypanes$Pane" 15 "Manypanes$Pane" "start" "I" ∈ gw := gw_1 (i := 58) rfl rfl
theorem kn59 : Cond.fieldLinkNest "Manypanes" 233 "Manypanes$Pane" "start" "I" "Manypanes" ∈ z_nest := gn_1 (i := 59) rfl rfl
theorem kw60 : Cond.fieldLink "Manypanes$Pane" 25 "Manypanes$Pane" "capacity" "I" ∈ gw := gw_1 (i := 60) rfl rfl
theorem kn61 : Cond.fieldLinkNest "Manypanes$Line" 45 "Manypanes$Pane" "capacity" "I" "Manypanes" ∈ z_nest := gn_1 (i := 61) rfl rfl
theorem kn62 : Cond.fieldLinkNest "Manypanes" 100 "Manypanes$Pane" "capacity" "I" "Manypanes" ∈ z_nest := gn_1 (i := 62) rfl rfl
theorem kw63 : Cond.fieldLink "Manypanes$Pane" 28 "Manypanes$Pane" "position" "I" ∈ gw := gw_1 (i := 63) rfl rfl
theorem kn64 : Cond.fieldLinkNest "Manypanes" 60 "Manypanes$Pane" "position" "I" "Manypanes" ∈ z_nest := gn_1 (i := 64) rfl rfl
theorem kn65 : Cond.fieldLinkNest "Manypanes$Line" 24 "Manypanes$Pane" "position" "I" "Manypanes" ∈ z_nest := gn_1 (i := 65) rfl rfl
theorem kw66 : Cond.fieldLink "Manypanes$Pane" 31 "Manypanes$Pane" "limit" "I" ∈ gw := gw_1 (i := 66) rfl rfl
theorem kn67 : Cond.fieldLinkNest "Manypanes" 63 "Manypanes$Pane" "limit" "I" "Manypanes" ∈ z_nest := gn_1 (i := 67) rfl rfl
theorem kn68 : Cond.fieldLinkNest "Manypanes$Line" 30 "Manypanes$Pane" "limit" "I" "Manypanes" ∈ z_nest := gn_1 (i := 68) rfl rfl
theorem kw69 : Cond.fieldLink "Manypanes$Pane" 34 "Manypanes$Pane" "marked" "I" ∈ gw := gw_1 (i := 69) rfl rfl
theorem kn70 : Cond.fieldLinkNest "Manypanes$Line" 52 "Manypanes$Pane" "marked" "I" "Manypanes" ∈ z_nest := gn_1 (i := 70) rfl rfl
theorem kn71 : Cond.fieldLinkNest "Manypanes" 106 "Manypanes$Pane" "marked" "I" "Manypanes" ∈ z_nest := gn_1 (i := 71) rfl rfl
theorem kw72 : Cond.fieldLink "Manypanes$Pane" 37 "Manypanes$Pane" "isReader" "Z" ∈ gw := gw_1 (i := 72) rfl rfl
theorem kn73 : Cond.fieldLinkNest "Manypanes" 89 "Manypanes$Pane" "isReader" "Z" "Manypanes" ∈ z_nest := gn_1 (i := 73) rfl rfl
theorem kw74 : Cond.lays "Manypanes$Pane" "Manypanes$Pane" "over" "LManypanes$Row;" ∈ gw := gw_1 (i := 74) rfl rfl
theorem kw76 : Cond.lays "Manypanes$Pane" "Manypanes$Pane" "start" "I" ∈ gw := gw_1 (i := 76) rfl rfl
theorem kw78 : Cond.lays "Manypanes$Pane" "Manypanes$Pane" "capacity" "I" ∈ gw := gw_1 (i := 78) rfl rfl
theorem kw80 : Cond.lays "Manypanes$Pane" "Manypanes$Pane" "position" "I" ∈ gw := gw_1 (i := 80) rfl rfl
theorem kw82 : Cond.lays "Manypanes$Pane" "Manypanes$Pane" "limit" "I" ∈ gw := gw_1 (i := 82) rfl rfl
theorem kw84 : Cond.lays "Manypanes$Pane" "Manypanes$Pane" "marked" "I" ∈ gw := gw_1 (i := 84) rfl rfl
theorem kw86 : Cond.lays "Manypanes$Pane" "Manypanes$Pane" "isReader" "Z" ∈ gw := gw_1 (i := 86) rfl rfl
theorem kw88 : Cond.superclass "Manypanes$Pane" "java/lang/Object" ∈ gw := gw_1 (i := 88) rfl rfl
theorem kw89 : Cond.classLink "Manypanes" 31 "Manypanes$Line" ∈ gw := gw_1 (i := 89) rfl rfl
theorem kw90 : Cond.instantiable "Manypanes$Line" 1 ∈ gw := gw_1 (i := 90) rfl rfl
theorem kn91 : Cond.methodLinkNest "Manypanes" 33 ⟨"Manypanes$Line", "<init>", "()V"⟩ "Manypanes" ∈ z_nest := gn_1 (i := 91) rfl rfl
theorem kw92 : Cond.instanceMethod ⟨"Manypanes$Line", "<init>", "()V"⟩ ∈ gw := gw_1 (i := 92) rfl rfl
theorem kw93 : Cond.code ⟨"Manypanes$Line", "<init>", "()V"⟩ prog_2_method_1_code 1 (Option.none : Option ClassFile.FieldType) ∈ gw := gw_1 (i := 93) rfl rfl
theorem kw94 : Cond.methodLink "Manypanes$Line" 1 ⟨"java/lang/Object", "<init>", "()V"⟩ ∈ gw := gw_1 (i := 94) rfl rfl
theorem kw95 : Cond.classLink "Manypanes$Line" 7 "java/lang/StringBuilder" ∈ gw := gw_1 (i := 95) rfl rfl
theorem kw96 : Cond.instantiable "java/lang/StringBuilder" 4 ∈ gw := gw_1 (i := 96) rfl rfl
theorem kw97 : Cond.methodLink "Manypanes$Line" 9 ⟨"java/lang/StringBuilder", "<init>", "()V"⟩ ∈ gw := gw_1 (i := 97) rfl rfl
theorem kw98 : Cond.instanceMethod ⟨"java/lang/StringBuilder", "<init>", "()V"⟩ ∈ gw := gw_1 (i := 98) rfl rfl
theorem kw99 : Cond.code ⟨"java/lang/StringBuilder", "<init>", "()V"⟩ prog_19_method_1_code 1 (Option.none : Option ClassFile.FieldType) ∈ gw := gw_1 (i := 99) rfl rfl
theorem kw100 : Cond.methodLink "java/lang/StringBuilder" 1 ⟨"java/lang/AbstractStringBuilder", "<init>", "(I)V"⟩ ∈ gw := gw_1 (i := 100) rfl rfl
theorem kw101 : Cond.instanceMethod ⟨"java/lang/AbstractStringBuilder", "<init>", "(I)V"⟩ ∈ gw := gw_1 (i := 101) rfl rfl
theorem kw102 : Cond.code ⟨"java/lang/AbstractStringBuilder", "<init>", "(I)V"⟩ prog_8_method_2_code 2 (Option.none : Option ClassFile.FieldType) ∈ gw := gw_1 (i := 102) rfl rfl
theorem kw103 : Cond.methodLink "java/lang/AbstractStringBuilder" 3 ⟨"java/lang/Object", "<init>", "()V"⟩ ∈ gw := gw_1 (i := 103) rfl rfl
theorem kw104 : Cond.fieldLink "java/lang/AbstractStringBuilder" 18 "java/lang/String" "COMPACT_STRINGS" "Z" ∈ gw := gw_1 (i := 104) rfl rfl
theorem kw106 : Cond.methodLink "java/lang/AbstractStringBuilder" 26 ⟨"java/lang/StringUTF16", "newBytesFor", "(I)[B"⟩ ∈ gw := gw_1 (i := 106) rfl rfl
theorem kw107 : Cond.static ⟨"java/lang/StringUTF16", "newBytesFor", "(I)[B"⟩ ∈ gw := gw_1 (i := 107) rfl rfl
theorem kw108 : Cond.code ⟨"java/lang/StringUTF16", "newBytesFor", "(I)[B"⟩ prog_22_method_2_code 1 (Option.some (.array .byte)) ∈ gw := gw_1 (i := 108) rfl rfl
theorem kw109 : Cond.methodLink "java/lang/StringUTF16" 11 ⟨"java/lang/StringUTF16", "newBytesLength", "(I)I"⟩ ∈ gw := gw_1 (i := 109) rfl rfl
theorem kw110 : Cond.static ⟨"java/lang/StringUTF16", "newBytesLength", "(I)I"⟩ ∈ gw := gw_1 (i := 110) rfl rfl
theorem kw111 : Cond.code ⟨"java/lang/StringUTF16", "newBytesLength", "(I)I"⟩ prog_22_method_3_code 1 (Option.some .int) ∈ gw := gw_1 (i := 111) rfl rfl
theorem kw112 : Cond.constant "java/lang/StringUTF16" 20 (1073741823 : Int32) ∈ gw := gw_1 (i := 112) rfl rfl
theorem kw113 : Cond.fieldLink "java/lang/AbstractStringBuilder" 15 "java/lang/AbstractStringBuilder" "value" "[B" ∈ gw := gw_1 (i := 113) rfl rfl
theorem kw114 : Cond.fieldLink "java/lang/AbstractStringBuilder" 22 "java/lang/AbstractStringBuilder" "coder" "B" ∈ gw := gw_1 (i := 114) rfl rfl
theorem kw115 : Cond.fieldLink "java/lang/AbstractStringBuilder" 73 "java/lang/AbstractStringBuilder" "maybeLatin1" "Z" ∈ gw := gw_1 (i := 115) rfl rfl
theorem kw116 : Cond.fieldLink "java/lang/String" 1048 "java/lang/AbstractStringBuilder" "maybeLatin1" "Z" ∈ gw := gw_1 (i := 116) rfl rfl
theorem kw117 : Cond.fieldLink "java/lang/AbstractStringBuilder" 79 "java/lang/AbstractStringBuilder" "count" "I" ∈ gw := gw_1 (i := 117) rfl rfl
theorem kw118 : Cond.lays "java/lang/StringBuilder" "java/lang/AbstractStringBuilder" "value" "[B" ∈ gw := gw_1 (i := 118) rfl rfl
theorem kw120 : Cond.lays "java/lang/StringBuilder" "java/lang/AbstractStringBuilder" "coder" "B" ∈ gw := gw_1 (i := 120) rfl rfl
theorem kw122 : Cond.lays "java/lang/StringBuilder" "java/lang/AbstractStringBuilder" "maybeLatin1" "Z" ∈ gw := gw_1 (i := 122) rfl rfl
theorem kw124 : Cond.lays "java/lang/StringBuilder" "java/lang/AbstractStringBuilder" "count" "I" ∈ gw := gw_1 (i := 124) rfl rfl
theorem kw126 : Cond.superclass "java/lang/StringBuilder" "java/lang/AbstractStringBuilder" ∈ gw := gw_1 (i := 126) rfl rfl
theorem kw127 : Cond.arrayClass .byte ∈ gw := gw_1 (i := 127) rfl rfl
theorem kw128 : Cond.fieldLink "Manypanes$Line" 10 "Manypanes$Line" "signs" "Ljava/lang/StringBuilder;" ∈ gw := gw_1 (i := 128) rfl rfl
theorem kn129 : Cond.fieldLinkNest "Manypanes" 247 "Manypanes$Line" "signs" "Ljava/lang/StringBuilder;" "Manypanes" ∈ z_nest := gn_1 (i := 129) rfl rfl
theorem kw130 : Cond.laysFinal "Manypanes$Line" "Manypanes$Line" "signs" "Ljava/lang/StringBuilder;" ∈ gw := gw_1 (i := 130) rfl rfl
theorem kw132 : Cond.superclass "Manypanes$Line" "java/lang/Object" ∈ gw := gw_1 (i := 132) rfl rfl
theorem kw133 : Cond.fieldLink "Manypanes" 14 "Manypanes" "longRow" "LManypanes$Row;" ∈ gw := gw_1 (i := 133) rfl rfl
theorem kw134 : Cond.fieldLink "Manypanes" 20 "Manypanes" "panes" "[LManypanes$Pane;" ∈ gw := gw_1 (i := 134) rfl rfl
theorem kw135 : Cond.fieldLink "Manypanes" 27 "Manypanes" "spare" "LManypanes$Pane;" ∈ gw := gw_1 (i := 135) rfl rfl
theorem kw136 : Cond.fieldLink "Manypanes" 34 "Manypanes" "line" "LManypanes$Line;" ∈ gw := gw_1 (i := 136) rfl rfl
theorem kw137 : Cond.fieldLink "Manypanes" 38 "Manypanes" "refusals" "[I" ∈ gw := gw_1 (i := 137) rfl rfl
theorem kw138 : Cond.fieldLink "Manypanes" 42 "Manypanes" "acts" "I" ∈ gw := gw_1 (i := 138) rfl rfl
theorem kw139 : Cond.fieldLink "Manypanes" 46 "Manypanes" "knocks" "I" ∈ gw := gw_1 (i := 139) rfl rfl
theorem kw140 : Cond.laysFinal "Manypanes" "Manypanes" "longRow" "LManypanes$Row;" ∈ gw := gw_1 (i := 140) rfl rfl
theorem kw142 : Cond.laysFinal "Manypanes" "Manypanes" "panes" "[LManypanes$Pane;" ∈ gw := gw_1 (i := 142) rfl rfl
theorem kw144 : Cond.laysFinal "Manypanes" "Manypanes" "spare" "LManypanes$Pane;" ∈ gw := gw_1 (i := 144) rfl rfl
theorem kw146 : Cond.laysFinal "Manypanes" "Manypanes" "line" "LManypanes$Line;" ∈ gw := gw_1 (i := 146) rfl rfl
theorem kw148 : Cond.laysFinal "Manypanes" "Manypanes" "refusals" "[I" ∈ gw := gw_1 (i := 148) rfl rfl
theorem kw150 : Cond.lays "Manypanes" "Manypanes" "acts" "I" ∈ gw := gw_1 (i := 150) rfl rfl
theorem kw152 : Cond.lays "Manypanes" "Manypanes" "knocks" "I" ∈ gw := gw_1 (i := 152) rfl rfl
theorem kw154 : Cond.superclass "Manypanes" "java/lang/Object" ∈ gw := gw_1 (i := 154) rfl rfl
theorem kw155 : Cond.methodLink "ManypanesLaw" 253 ⟨"Manypanes", "row", "()Ljava/lang/String;"⟩ ∈ gw := gw_1 (i := 155) rfl rfl
theorem kw156 : Cond.instanceMethod ⟨"Manypanes", "row", "()Ljava/lang/String;"⟩ ∈ gw := gw_1 (i := 156) rfl rfl
theorem kw157 : Cond.selects "Manypanes" ⟨"Manypanes", "row", "()Ljava/lang/String;"⟩ ⟨"Manypanes", "row", "()Ljava/lang/String;"⟩ ∈ gw := gw_1 (i := 157) rfl rfl
theorem kw158 : Cond.code ⟨"Manypanes", "row", "()Ljava/lang/String;"⟩ prog_1_method_35_code 1 (Option.some (.object "java/lang/String")) ∈ gw := gw_1 (i := 158) rfl rfl
theorem kw159 : Cond.methodLink "Manypanes" 174 ⟨"Manypanes", "beginLongRow", "()V"⟩ ∈ gw := gw_1 (i := 159) rfl rfl
theorem kw161 : Cond.instanceMethod ⟨"Manypanes", "beginLongRow", "()V"⟩ ∈ gw := gw_1 (i := 161) rfl rfl
theorem kw162 : Cond.code ⟨"Manypanes", "beginLongRow", "()V"⟩ prog_1_method_63_code 1 (Option.none : Option ClassFile.FieldType) ∈ gw := gw_1 (i := 162) rfl rfl
theorem kw163 : Cond.methodLink "Manypanes" 57 ⟨"Manypanes$Pane", "showAll", "(LManypanes$Row;)V"⟩ ∈ gw := gw_1 (i := 163) rfl rfl
theorem kw164 : Cond.instanceMethod ⟨"Manypanes$Pane", "showAll", "(LManypanes$Row;)V"⟩ ∈ gw := gw_1 (i := 164) rfl rfl
theorem kw165 : Cond.selects "Manypanes$Pane" ⟨"Manypanes$Pane", "showAll", "(LManypanes$Row;)V"⟩ ⟨"Manypanes$Pane", "showAll", "(LManypanes$Row;)V"⟩ ∈ gw := gw_1 (i := 165) rfl rfl
theorem kw166 : Cond.code ⟨"Manypanes$Pane", "showAll", "(LManypanes$Row;)V"⟩ prog_3_method_2_code 2 (Option.none : Option ClassFile.FieldType) ∈ gw := gw_1 (i := 166) rfl rfl
theorem kw167 : Cond.methodLink "Manypanes$Pane" 41 ⟨"Manypanes$Pane", "beginAgain", "(I)V"⟩ ∈ gw := gw_1 (i := 167) rfl rfl
theorem kw168 : Cond.instanceMethod ⟨"Manypanes$Pane", "beginAgain", "(I)V"⟩ ∈ gw := gw_1 (i := 168) rfl rfl
theorem kw169 : Cond.selects "Manypanes$Pane" ⟨"Manypanes$Pane", "beginAgain", "(I)V"⟩ ⟨"Manypanes$Pane", "beginAgain", "(I)V"⟩ ∈ gw := gw_1 (i := 169) rfl rfl
theorem kw170 : Cond.code ⟨"Manypanes$Pane", "beginAgain", "(I)V"⟩ prog_3_method_5_code 2 (Option.none : Option ClassFile.FieldType) ∈ gw := gw_1 (i := 170) rfl rfl
theorem kw171 : Cond.methodLink "Manypanes" 168 ⟨"Manypanes$Line", "beginValues", "(LManypanes$Pane;II)V"⟩ ∈ gw := gw_1 (i := 171) rfl rfl
theorem kw172 : Cond.instanceMethod ⟨"Manypanes$Line", "beginValues", "(LManypanes$Pane;II)V"⟩ ∈ gw := gw_1 (i := 172) rfl rfl
theorem kw173 : Cond.selects "Manypanes$Line" ⟨"Manypanes$Line", "beginValues", "(LManypanes$Pane;II)V"⟩ ⟨"Manypanes$Line", "beginValues", "(LManypanes$Pane;II)V"⟩ ∈ gw := gw_1 (i := 173) rfl rfl
theorem kw174 : Cond.code ⟨"Manypanes$Line", "beginValues", "(LManypanes$Pane;II)V"⟩ prog_2_method_4_code 5 (Option.none : Option ClassFile.FieldType) ∈ gw := gw_1 (i := 174) rfl rfl
theorem kw175 : Cond.methodLink "Manypanes$Line" 20 ⟨"java/lang/StringBuilder", "setLength", "(I)V"⟩ ∈ gw := gw_1 (i := 175) rfl rfl
theorem kw176 : Cond.instanceMethod ⟨"java/lang/StringBuilder", "setLength", "(I)V"⟩ ∈ gw := gw_1 (i := 176) rfl rfl
theorem kw177 : Cond.selects "java/lang/StringBuilder" ⟨"java/lang/StringBuilder", "setLength", "(I)V"⟩ ⟨"java/lang/StringBuilder", "setLength", "(I)V"⟩ ∈ gw := gw_1 (i := 177) rfl rfl
theorem kw178 : Cond.code ⟨"java/lang/StringBuilder", "setLength", "(I)V"⟩ prog_19_method_89_code 2 (Option.none : Option ClassFile.FieldType) ∈ gw := gw_1 (i := 178) rfl rfl
theorem kw179 : Cond.methodLink "java/lang/StringBuilder" 333 ⟨"java/lang/AbstractStringBuilder", "setLength", "(I)V"⟩ ∈ gw := gw_1 (i := 179) rfl rfl
theorem kw180 : Cond.instanceMethod ⟨"java/lang/AbstractStringBuilder", "setLength", "(I)V"⟩ ∈ gw := gw_1 (i := 180) rfl rfl
theorem kw181 : Cond.code ⟨"java/lang/AbstractStringBuilder", "setLength", "(I)V"⟩ prog_8_method_13_code 2 (Option.none : Option ClassFile.FieldType) ∈ gw := gw_1 (i := 181) rfl rfl
theorem kw182 : Cond.classLink "java/lang/AbstractStringBuilder" 129 "java/lang/StringIndexOutOfBoundsException" ∈ gw := gw_1 (i := 182) rfl rfl
theorem kw183 : Cond.instantiable "java/lang/StringIndexOutOfBoundsException" 6 ∈ gw := gw_1 (i := 183) rfl rfl
theorem kw184 : Cond.methodLink "java/lang/AbstractStringBuilder" 131 ⟨"java/lang/StringIndexOutOfBoundsException", "<init>", "(I)V"⟩ ∈ gw := gw_1 (i := 184) rfl rfl
theorem kw185 : Cond.instanceMethod ⟨"java/lang/StringIndexOutOfBoundsException", "<init>", "(I)V"⟩ ∈ gw := gw_1 (i := 185) rfl rfl
theorem kw186 : Cond.code ⟨"java/lang/StringIndexOutOfBoundsException", "<init>", "(I)V"⟩ prog_20_method_3_code 2 (Option.none : Option ClassFile.FieldType) ∈ gw := gw_1 (i := 186) rfl rfl
theorem kw187 : Cond.classLink "java/lang/StringIndexOutOfBoundsException" 10 "java/lang/StringBuilder" ∈ gw := gw_1 (i := 187) rfl rfl
theorem kw188 : Cond.methodLink "java/lang/StringIndexOutOfBoundsException" 12 ⟨"java/lang/StringBuilder", "<init>", "()V"⟩ ∈ gw := gw_1 (i := 188) rfl rfl
theorem kw190 : Cond.methodLink "java/lang/StringIndexOutOfBoundsException" 15 ⟨"java/lang/StringBuilder", "append", "(Ljava/lang/String;)Ljava/lang/StringBuilder;"⟩ ∈ gw := gw_1 (i := 190) rfl rfl
theorem kw191 : Cond.instanceMethod ⟨"java/lang/StringBuilder", "append", "(Ljava/lang/String;)Ljava/lang/StringBuilder;"⟩ ∈ gw := gw_1 (i := 191) rfl rfl
theorem kw192 : Cond.selects "java/lang/StringBuilder" ⟨"java/lang/StringBuilder", "append", "(Ljava/lang/String;)Ljava/lang/StringBuilder;"⟩ ⟨"java/lang/StringBuilder", "append", "(Ljava/lang/String;)Ljava/lang/StringBuilder;"⟩ ∈ gw := gw_1 (i := 192) rfl rfl
theorem kw193 : Cond.code ⟨"java/lang/StringBuilder", "append", "(Ljava/lang/String;)Ljava/lang/StringBuilder;"⟩ prog_19_method_7_code 2 (Option.some (.object "java/lang/StringBuilder")) ∈ gw := gw_1 (i := 193) rfl rfl
theorem kw194 : Cond.methodLink "java/lang/StringBuilder" 29 ⟨"java/lang/AbstractStringBuilder", "append", "(Ljava/lang/String;)Ljava/lang/AbstractStringBuilder;"⟩ ∈ gw := gw_1 (i := 194) rfl rfl
theorem kw195 : Cond.instanceMethod ⟨"java/lang/AbstractStringBuilder", "append", "(Ljava/lang/String;)Ljava/lang/AbstractStringBuilder;"⟩ ∈ gw := gw_1 (i := 195) rfl rfl
theorem kw196 : Cond.code ⟨"java/lang/AbstractStringBuilder", "append", "(Ljava/lang/String;)Ljava/lang/AbstractStringBuilder;"⟩ prog_8_method_22_code 3 (Option.some (.object "java/lang/AbstractStringBuilder")) ∈ gw := gw_1 (i := 196) rfl rfl
theorem kw197 : Cond.methodLink "java/lang/AbstractStringBuilder" 204 ⟨"java/lang/AbstractStringBuilder", "appendNull", "()Ljava/lang/AbstractStringBuilder;"⟩ ∈ gw := gw_1 (i := 197) rfl rfl
theorem kw199 : Cond.instanceMethod ⟨"java/lang/AbstractStringBuilder", "appendNull", "()Ljava/lang/AbstractStringBuilder;"⟩ ∈ gw := gw_1 (i := 199) rfl rfl
theorem kw200 : Cond.code ⟨"java/lang/AbstractStringBuilder", "appendNull", "()Ljava/lang/AbstractStringBuilder;"⟩ prog_8_method_26_code 3 (Option.some (.object "java/lang/AbstractStringBuilder")) ∈ gw := gw_1 (i := 200) rfl rfl
theorem kw201 : Cond.methodLink "java/lang/AbstractStringBuilder" 100 ⟨"java/lang/AbstractStringBuilder", "ensureCapacityInternal", "(I)V"⟩ ∈ gw := gw_1 (i := 201) rfl rfl
theorem kw203 : Cond.instanceMethod ⟨"java/lang/AbstractStringBuilder", "ensureCapacityInternal", "(I)V"⟩ ∈ gw := gw_1 (i := 203) rfl rfl
theorem kw204 : Cond.code ⟨"java/lang/AbstractStringBuilder", "ensureCapacityInternal", "(I)V"⟩ prog_8_method_9_code 3 (Option.none : Option ClassFile.FieldType) ∈ gw := gw_1 (i := 204) rfl rfl
theorem kw205 : Cond.methodLink "java/lang/AbstractStringBuilder" 104 ⟨"java/lang/AbstractStringBuilder", "newCapacity", "(I)I"⟩ ∈ gw := gw_1 (i := 205) rfl rfl
theorem kw207 : Cond.instanceMethod ⟨"java/lang/AbstractStringBuilder", "newCapacity", "(I)I"⟩ ∈ gw := gw_1 (i := 207) rfl rfl
theorem kw208 : Cond.code ⟨"java/lang/AbstractStringBuilder", "newCapacity", "(I)I"⟩ prog_8_method_10_code 6 (Option.some .int) ∈ gw := gw_1 (i := 208) rfl rfl
theorem kw209 : Cond.methodLink "java/lang/AbstractStringBuilder" 114 ⟨"jdk/internal/util/ArraysSupport", "newLength", "(III)I"⟩ ∈ gw := gw_1 (i := 209) rfl rfl
theorem kw210 : Cond.static ⟨"jdk/internal/util/ArraysSupport", "newLength", "(III)I"⟩ ∈ gw := gw_1 (i := 210) rfl rfl
theorem kw211 : Cond.code ⟨"jdk/internal/util/ArraysSupport", "newLength", "(III)I"⟩ prog_26_method_27_code 4 (Option.some .int) ∈ gw := gw_1 (i := 211) rfl rfl
theorem kw212 : Cond.methodLink "jdk/internal/util/ArraysSupport" 194 ⟨"java/lang/Math", "max", "(II)I"⟩ ∈ gw := gw_1 (i := 212) rfl rfl
theorem kw213 : Cond.static ⟨"java/lang/Math", "max", "(II)I"⟩ ∈ gw := gw_1 (i := 213) rfl rfl
theorem kw214 : Cond.code ⟨"java/lang/Math", "max", "(II)I"⟩ prog_16_method_65_code 2 (Option.some .int) ∈ gw := gw_1 (i := 214) rfl rfl
theorem kw215 : Cond.constant "jdk/internal/util/ArraysSupport" 200 (2147483639 : Int32) ∈ gw := gw_1 (i := 215) rfl rfl
theorem kw216 : Cond.methodLink "jdk/internal/util/ArraysSupport" 201 ⟨"jdk/internal/util/ArraysSupport", "hugeLength", "(II)I"⟩ ∈ gw := gw_1 (i := 216) rfl rfl
theorem kw217 : Cond.static ⟨"jdk/internal/util/ArraysSupport", "hugeLength", "(II)I"⟩ ∈ gw := gw_1 (i := 217) rfl rfl
theorem kw218 : Cond.code ⟨"jdk/internal/util/ArraysSupport", "hugeLength", "(II)I"⟩ prog_26_method_28_code 3 (Option.some .int) ∈ gw := gw_1 (i := 218) rfl rfl
theorem kw219 : Cond.constant "java/lang/AbstractStringBuilder" 39 (2147483647 : Int32) ∈ gw := gw_1 (i := 219) rfl rfl
theorem kw220 : Cond.methodLink "java/lang/AbstractStringBuilder" 108 ⟨"java/util/Arrays", "copyOf", "([BI)[B"⟩ ∈ gw := gw_1 (i := 220) rfl rfl
theorem kw221 : Cond.static ⟨"java/util/Arrays", "copyOf", "([BI)[B"⟩ ∈ gw := gw_1 (i := 221) rfl rfl
theorem kw222 : Cond.code ⟨"java/util/Arrays", "copyOf", "([BI)[B"⟩ prog_25_method_121_code 3 (Option.some (.array .byte)) ∈ gw := gw_1 (i := 222) rfl rfl
theorem kw223 : Cond.methodLink "java/util/Arrays" 310 ⟨"[B", "clone", "()Ljava/lang/Object;"⟩ ∈ gw := gw_1 (i := 223) rfl rfl
theorem kw224 : Cond.sameMethod "[B" "java/lang/Object" "clone" "()Ljava/lang/Object;" ∈ gw := gw_1 (i := 224) rfl rfl
theorem kw225 : Cond.native ⟨"java/lang/Object", "clone", "()Ljava/lang/Object;"⟩ ∈ gw := gw_1 (i := 225) rfl rfl
theorem kw226 : Cond.instanceMethod ⟨"java/lang/Object", "clone", "()Ljava/lang/Object;"⟩ ∈ gw := gw_1 (i := 226) rfl rfl
theorem kw227 : Cond.selects "[B" ⟨"[B", "clone", "()Ljava/lang/Object;"⟩ ⟨"java/lang/Object", "clone", "()Ljava/lang/Object;"⟩ ∈ gw := gw_1 (i := 227) rfl rfl
theorem kn228 : Cond.castable "[B" "java/lang/Cloneable" ∈ z_nest := gn_1 (i := 228) rfl rfl
theorem kw229 : Cond.classLink "java/util/Arrays" 311 "[B" ∈ gw := gw_1 (i := 229) rfl rfl
theorem kw230 : Cond.methodLink "java/util/Arrays" 304 ⟨"java/lang/Math", "min", "(II)I"⟩ ∈ gw := gw_1 (i := 230) rfl rfl
theorem kw231 : Cond.static ⟨"java/lang/Math", "min", "(II)I"⟩ ∈ gw := gw_1 (i := 231) rfl rfl
theorem kw232 : Cond.code ⟨"java/lang/Math", "min", "(II)I"⟩ prog_16_method_69_code 2 (Option.some .int) ∈ gw := gw_1 (i := 232) rfl rfl
theorem kw233 : Cond.methodLink "java/util/Arrays" 150 ⟨"java/lang/System", "arraycopy", "(Ljava/lang/Object;ILjava/lang/Object;II)V"⟩ ∈ gw := gw_1 (i := 233) rfl rfl
theorem kw234 : Cond.static ⟨"java/lang/System", "arraycopy", "(Ljava/lang/Object;ILjava/lang/Object;II)V"⟩ ∈ gw := gw_1 (i := 234) rfl rfl
theorem kw235 : Cond.native ⟨"java/lang/System", "arraycopy", "(Ljava/lang/Object;ILjava/lang/Object;II)V"⟩ ∈ gw := gw_1 (i := 235) rfl rfl
theorem kw236 : Cond.methodLink "java/lang/AbstractStringBuilder" 83 ⟨"java/lang/AbstractStringBuilder", "isLatin1", "()Z"⟩ ∈ gw := gw_1 (i := 236) rfl rfl
theorem kw237 : Cond.instanceMethod ⟨"java/lang/AbstractStringBuilder", "isLatin1", "()Z"⟩ ∈ gw := gw_1 (i := 237) rfl rfl
theorem kw238 : Cond.sameMethod "java/lang/AbstractStringBuilder" "java/lang/AbstractStringBuilder" "isLatin1" "()Z" ∈ gw := gw_1 (i := 238) rfl rfl
theorem kw239 : Cond.selects "java/lang/StringBuilder" ⟨"java/lang/AbstractStringBuilder", "isLatin1", "()Z"⟩ ⟨"java/lang/AbstractStringBuilder", "isLatin1", "()Z"⟩ ∈ gw := gw_1 (i := 239) rfl rfl
theorem kw240 : Cond.code ⟨"java/lang/AbstractStringBuilder", "isLatin1", "()Z"⟩ prog_8_method_68_code 1 (Option.some .boolean) ∈ gw := gw_2 (i := 0) rfl rfl
theorem kw241 : Cond.methodLink "java/lang/AbstractStringBuilder" 226 ⟨"java/lang/StringUTF16", "putCharsAt", "([BICCCC)I"⟩ ∈ gw := gw_2 (i := 1) rfl rfl
theorem kw242 : Cond.static ⟨"java/lang/StringUTF16", "putCharsAt", "([BICCCC)I"⟩ ∈ gw := gw_2 (i := 2) rfl rfl
theorem kw243 : Cond.code ⟨"java/lang/StringUTF16", "putCharsAt", "([BICCCC)I"⟩ prog_22_method_81_code 7 (Option.some .int) ∈ gw := gw_2 (i := 3) rfl rfl
theorem kw244 : Cond.methodLink "java/lang/StringUTF16" 96 ⟨"java/lang/StringUTF16", "checkBoundsBeginEnd", "(II[B)V"⟩ ∈ gw := gw_2 (i := 4) rfl rfl
theorem kw245 : Cond.static ⟨"java/lang/StringUTF16", "checkBoundsBeginEnd", "(II[B)V"⟩ ∈ gw := gw_2 (i := 5) rfl rfl
theorem kw246 : Cond.code ⟨"java/lang/StringUTF16", "checkBoundsBeginEnd", "(II[B)V"⟩ prog_22_method_93_code 3 (Option.none : Option ClassFile.FieldType) ∈ gw := gw_2 (i := 6) rfl rfl
theorem kw247 : Cond.methodLink "java/lang/StringUTF16" 48 ⟨"java/lang/StringUTF16", "length", "([B)I"⟩ ∈ gw := gw_2 (i := 7) rfl rfl
theorem kw248 : Cond.static ⟨"java/lang/StringUTF16", "length", "([B)I"⟩ ∈ gw := gw_2 (i := 8) rfl rfl
theorem kw249 : Cond.code ⟨"java/lang/StringUTF16", "length", "([B)I"⟩ prog_22_method_6_code 1 (Option.some .int) ∈ gw := gw_2 (i := 9) rfl rfl
theorem kw250 : Cond.methodLink "java/lang/StringUTF16" 241 ⟨"java/lang/String", "checkBoundsBeginEnd", "(III)V"⟩ ∈ gw := gw_2 (i := 10) rfl rfl
theorem kw251 : Cond.static ⟨"java/lang/String", "checkBoundsBeginEnd", "(III)V"⟩ ∈ gw := gw_2 (i := 11) rfl rfl
theorem kw252 : Cond.code ⟨"java/lang/String", "checkBoundsBeginEnd", "(III)V"⟩ prog_18_method_158_code 3 (Option.none : Option ClassFile.FieldType) ∈ gw := gw_2 (i := 12) rfl rfl
theorem kw253 : Cond.fieldLink "java/lang/String" 1053 "jdk/internal/util/Preconditions" "SIOOBE_FORMATTER" "Ljava/util/function/BiFunction;" ∈ gw := gw_2 (i := 13) rfl rfl
theorem kw255 : Cond.methodLink "java/lang/String" 1062 ⟨"jdk/internal/util/Preconditions", "checkFromToIndex", "(IIILjava/util/function/BiFunction;)I"⟩ ∈ gw := gw_2 (i := 15) rfl rfl
theorem kw256 : Cond.static ⟨"jdk/internal/util/Preconditions", "checkFromToIndex", "(IIILjava/util/function/BiFunction;)I"⟩ ∈ gw := gw_2 (i := 16) rfl rfl
theorem kw257 : Cond.code ⟨"jdk/internal/util/Preconditions", "checkFromToIndex", "(IIILjava/util/function/BiFunction;)I"⟩ prog_27_method_12_code 4 (Option.some .int) ∈ gw := gw_2 (i := 17) rfl rfl
theorem kw258 : Cond.methodLink "java/lang/StringUTF16" 111 ⟨"java/lang/StringUTF16", "putChar", "([BII)V"⟩ ∈ gw := gw_2 (i := 18) rfl rfl
theorem kw259 : Cond.static ⟨"java/lang/StringUTF16", "putChar", "([BII)V"⟩ ∈ gw := gw_2 (i := 19) rfl rfl
theorem kw260 : Cond.code ⟨"java/lang/StringUTF16", "putChar", "([BII)V"⟩ prog_22_method_4_code 3 (Option.none : Option ClassFile.FieldType) ∈ gw := gw_2 (i := 20) rfl rfl
theorem kw261 : Cond.fieldLink "java/lang/StringUTF16" 44 "java/lang/StringUTF16" "$assertionsDisabled" "Z" ∈ gw := gw_2 (i := 21) rfl rfl
theorem kw263 : Cond.fieldLink "java/lang/StringUTF16" 59 "java/lang/StringUTF16" "HI_BYTE_SHIFT" "I" ∈ gw := gw_2 (i := 23) rfl rfl
theorem kw265 : Cond.fieldLink "java/lang/StringUTF16" 63 "java/lang/StringUTF16" "LO_BYTE_SHIFT" "I" ∈ gw := gw_2 (i := 25) rfl rfl
theorem kw267 : Cond.methodLink "java/lang/AbstractStringBuilder" 32 ⟨"java/lang/String", "length", "()I"⟩ ∈ gw := gw_2 (i := 27) rfl rfl
theorem kw268 : Cond.instanceMethod ⟨"java/lang/String", "length", "()I"⟩ ∈ gw := gw_2 (i := 28) rfl rfl
theorem kw269 : Cond.selects "java/lang/String" ⟨"java/lang/String", "length", "()I"⟩ ⟨"java/lang/String", "length", "()I"⟩ ∈ gw := gw_2 (i := 29) rfl rfl
theorem kw270 : Cond.code ⟨"java/lang/String", "length", "()I"⟩ prog_18_method_54_code 1 (Option.some .int) ∈ gw := gw_2 (i := 30) rfl rfl
theorem kw271 : Cond.methodLink "java/lang/String" 335 ⟨"java/lang/String", "coder", "()B"⟩ ∈ gw := gw_2 (i := 31) rfl rfl
theorem kw272 : Cond.instanceMethod ⟨"java/lang/String", "coder", "()B"⟩ ∈ gw := gw_2 (i := 32) rfl rfl
theorem kw273 : Cond.selects "java/lang/String" ⟨"java/lang/String", "coder", "()B"⟩ ⟨"java/lang/String", "coder", "()B"⟩ ∈ gw := gw_2 (i := 33) rfl rfl
theorem kw274 : Cond.code ⟨"java/lang/String", "coder", "()B"⟩ prog_18_method_152_code 1 (Option.some .byte) ∈ gw := gw_2 (i := 34) rfl rfl
theorem kw275 : Cond.fieldLink "java/lang/String" 38 "java/lang/String" "COMPACT_STRINGS" "Z" ∈ gw := gw_2 (i := 35) rfl rfl
theorem kw276 : Cond.methodLink "java/lang/AbstractStringBuilder" 208 ⟨"java/lang/AbstractStringBuilder", "putStringAt", "(ILjava/lang/String;)V"⟩ ∈ gw := gw_2 (i := 36) rfl rfl
theorem kw278 : Cond.instanceMethod ⟨"java/lang/AbstractStringBuilder", "putStringAt", "(ILjava/lang/String;)V"⟩ ∈ gw := gw_2 (i := 38) rfl rfl
theorem kw279 : Cond.code ⟨"java/lang/AbstractStringBuilder", "putStringAt", "(ILjava/lang/String;)V"⟩ prog_8_method_73_code 3 (Option.none : Option ClassFile.FieldType) ∈ gw := gw_2 (i := 39) rfl rfl
theorem kw280 : Cond.methodLink "java/lang/AbstractStringBuilder" 397 ⟨"java/lang/AbstractStringBuilder", "inflateIfNeededFor", "(Ljava/lang/String;)V"⟩ ∈ gw := gw_2 (i := 40) rfl rfl
theorem kw282 : Cond.instanceMethod ⟨"java/lang/AbstractStringBuilder", "inflateIfNeededFor", "(Ljava/lang/String;)V"⟩ ∈ gw := gw_2 (i := 42) rfl rfl
theorem kw283 : Cond.code ⟨"java/lang/AbstractStringBuilder", "inflateIfNeededFor", "(Ljava/lang/String;)V"⟩ prog_8_method_71_code 2 (Option.none : Option ClassFile.FieldType) ∈ gw := gw_2 (i := 43) rfl rfl
theorem kw284 : Cond.methodLink "java/lang/AbstractStringBuilder" 40 ⟨"java/lang/String", "coder", "()B"⟩ ∈ gw := gw_2 (i := 44) rfl rfl
theorem kw285 : Cond.methodLink "java/lang/AbstractStringBuilder" 195 ⟨"java/lang/AbstractStringBuilder", "inflate", "()V"⟩ ∈ gw := gw_2 (i := 45) rfl rfl
theorem kw287 : Cond.instanceMethod ⟨"java/lang/AbstractStringBuilder", "inflate", "()V"⟩ ∈ gw := gw_2 (i := 47) rfl rfl
theorem kw288 : Cond.code ⟨"java/lang/AbstractStringBuilder", "inflate", "()V"⟩ prog_8_method_11_code 2 (Option.none : Option ClassFile.FieldType) ∈ gw := gw_2 (i := 48) rfl rfl
theorem kw289 : Cond.methodLink "java/lang/AbstractStringBuilder" 125 ⟨"java/lang/StringLatin1", "inflate", "([BI[BII)V"⟩ ∈ gw := gw_2 (i := 49) rfl rfl
theorem kw290 : Cond.static ⟨"java/lang/StringLatin1", "inflate", "([BI[BII)V"⟩ ∈ gw := gw_2 (i := 50) rfl rfl
theorem kw291 : Cond.code ⟨"java/lang/StringLatin1", "inflate", "([BI[BII)V"⟩ prog_21_method_50_code 5 (Option.none : Option ClassFile.FieldType) ∈ gw := gw_2 (i := 51) rfl rfl
theorem kw292 : Cond.methodLink "java/lang/StringLatin1" 240 ⟨"java/lang/StringUTF16", "inflate", "([BI[BII)V"⟩ ∈ gw := gw_2 (i := 52) rfl rfl
theorem kw293 : Cond.static ⟨"java/lang/StringUTF16", "inflate", "([BI[BII)V"⟩ ∈ gw := gw_2 (i := 53) rfl rfl
theorem kw294 : Cond.code ⟨"java/lang/StringUTF16", "inflate", "([BI[BII)V"⟩ prog_22_method_86_code 6 (Option.none : Option ClassFile.FieldType) ∈ gw := gw_2 (i := 54) rfl rfl
theorem kw295 : Cond.methodLink "java/lang/StringUTF16" 173 ⟨"java/lang/StringUTF16", "checkBoundsOffCount", "(II[B)V"⟩ ∈ gw := gw_2 (i := 55) rfl rfl
theorem kw296 : Cond.static ⟨"java/lang/StringUTF16", "checkBoundsOffCount", "(II[B)V"⟩ ∈ gw := gw_2 (i := 56) rfl rfl
theorem kw297 : Cond.code ⟨"java/lang/StringUTF16", "checkBoundsOffCount", "(II[B)V"⟩ prog_22_method_94_code 3 (Option.none : Option ClassFile.FieldType) ∈ gw := gw_2 (i := 57) rfl rfl
theorem kw298 : Cond.methodLink "java/lang/StringUTF16" 419 ⟨"java/lang/String", "checkBoundsOffCount", "(III)I"⟩ ∈ gw := gw_2 (i := 58) rfl rfl
theorem kw299 : Cond.static ⟨"java/lang/String", "checkBoundsOffCount", "(III)I"⟩ ∈ gw := gw_2 (i := 59) rfl rfl
theorem kw300 : Cond.code ⟨"java/lang/String", "checkBoundsOffCount", "(III)I"⟩ prog_18_method_157_code 3 (Option.some .int) ∈ gw := gw_2 (i := 60) rfl rfl
theorem kw301 : Cond.methodLink "java/lang/String" 1065 ⟨"jdk/internal/util/Preconditions", "checkFromIndexSize", "(IIILjava/util/function/BiFunction;)I"⟩ ∈ gw := gw_2 (i := 61) rfl rfl
theorem kw302 : Cond.static ⟨"jdk/internal/util/Preconditions", "checkFromIndexSize", "(IIILjava/util/function/BiFunction;)I"⟩ ∈ gw := gw_2 (i := 62) rfl rfl
theorem kw303 : Cond.code ⟨"jdk/internal/util/Preconditions", "checkFromIndexSize", "(IIILjava/util/function/BiFunction;)I"⟩ prog_27_method_13_code 4 (Option.some .int) ∈ gw := gw_2 (i := 63) rfl rfl
theorem kw304 : Cond.methodLink "java/lang/AbstractStringBuilder" 399 ⟨"java/lang/String", "getBytes", "([BIB)V"⟩ ∈ gw := gw_2 (i := 64) rfl rfl
theorem kw305 : Cond.instanceMethod ⟨"java/lang/String", "getBytes", "([BIB)V"⟩ ∈ gw := gw_2 (i := 65) rfl rfl
theorem kw306 : Cond.selects "java/lang/String" ⟨"java/lang/String", "getBytes", "([BIB)V"⟩ ⟨"java/lang/String", "getBytes", "([BIB)V"⟩ ∈ gw := gw_2 (i := 66) rfl rfl
theorem kw307 : Cond.code ⟨"java/lang/String", "getBytes", "([BIB)V"⟩ prog_18_method_147_code 4 (Option.none : Option ClassFile.FieldType) ∈ gw := gw_2 (i := 67) rfl rfl
theorem kw308 : Cond.methodLink "java/lang/String" 212 ⟨"java/lang/System", "arraycopy", "(Ljava/lang/Object;ILjava/lang/Object;II)V"⟩ ∈ gw := gw_2 (i := 68) rfl rfl
theorem kw309 : Cond.methodLink "java/lang/String" 106 ⟨"java/lang/StringLatin1", "inflate", "([BI[BII)V"⟩ ∈ gw := gw_2 (i := 69) rfl rfl
theorem kw310 : Cond.methodLink "java/lang/StringIndexOutOfBoundsException" 19 ⟨"java/lang/StringBuilder", "append", "(I)Ljava/lang/StringBuilder;"⟩ ∈ gw := gw_2 (i := 70) rfl rfl
theorem kw311 : Cond.instanceMethod ⟨"java/lang/StringBuilder", "append", "(I)Ljava/lang/StringBuilder;"⟩ ∈ gw := gw_2 (i := 71) rfl rfl
theorem kw312 : Cond.selects "java/lang/StringBuilder" ⟨"java/lang/StringBuilder", "append", "(I)Ljava/lang/StringBuilder;"⟩ ⟨"java/lang/StringBuilder", "append", "(I)Ljava/lang/StringBuilder;"⟩ ∈ gw := gw_2 (i := 72) rfl rfl
theorem kw313 : Cond.code ⟨"java/lang/StringBuilder", "append", "(I)Ljava/lang/StringBuilder;"⟩ prog_19_method_15_code 2 (Option.some (.object "java/lang/StringBuilder")) ∈ gw := gw_2 (i := 73) rfl rfl
theorem kw314 : Cond.methodLink "java/lang/StringBuilder" 53 ⟨"java/lang/AbstractStringBuilder", "append", "(I)Ljava/lang/AbstractStringBuilder;"⟩ ∈ gw := gw_2 (i := 74) rfl rfl
theorem kw315 : Cond.instanceMethod ⟨"java/lang/AbstractStringBuilder", "append", "(I)Ljava/lang/AbstractStringBuilder;"⟩ ∈ gw := gw_2 (i := 75) rfl rfl
theorem kw316 : Cond.code ⟨"java/lang/AbstractStringBuilder", "append", "(I)Ljava/lang/AbstractStringBuilder;"⟩ prog_8_method_32_code 4 (Option.some (.object "java/lang/AbstractStringBuilder")) ∈ gw := gw_2 (i := 76) rfl rfl
theorem kw317 : Cond.methodLink "java/lang/AbstractStringBuilder" 245 ⟨"java/lang/Integer", "stringSize", "(I)I"⟩ ∈ gw := gw_2 (i := 77) rfl rfl
theorem kw318 : Cond.static ⟨"java/lang/Integer", "stringSize", "(I)I"⟩ ∈ gw := gw_2 (i := 78) rfl rfl
theorem kw319 : Cond.code ⟨"java/lang/Integer", "stringSize", "(I)I"⟩ prog_14_method_13_code 4 (Option.some .int) ∈ gw := gw_2 (i := 79) rfl rfl
theorem kw320 : Cond.methodLink "java/lang/AbstractStringBuilder" 248 ⟨"java/lang/Integer", "getChars", "(II[B)I"⟩ ∈ gw := gw_2 (i := 80) rfl rfl
theorem kw321 : Cond.static ⟨"java/lang/Integer", "getChars", "(II[B)I"⟩ ∈ gw := gw_2 (i := 81) rfl rfl
theorem kw322 : Cond.code ⟨"java/lang/Integer", "getChars", "(II[B)I"⟩ prog_14_method_12_code 7 (Option.some .int) ∈ gw := gw_2 (i := 82) rfl rfl
theorem kw323 : Cond.fieldLink "java/lang/Integer" 83 "java/lang/Integer" "DigitOnes" "[B" ∈ gw := gw_2 (i := 83) rfl rfl
theorem kw325 : Cond.fieldLink "java/lang/Integer" 87 "java/lang/Integer" "DigitTens" "[B" ∈ gw := gw_2 (i := 85) rfl rfl
theorem kw327 : Cond.methodLink "java/lang/AbstractStringBuilder" 251 ⟨"java/lang/StringUTF16", "getChars", "(III[B)I"⟩ ∈ gw := gw_2 (i := 87) rfl rfl
theorem kw328 : Cond.static ⟨"java/lang/StringUTF16", "getChars", "(III[B)I"⟩ ∈ gw := gw_2 (i := 88) rfl rfl
theorem kw329 : Cond.code ⟨"java/lang/StringUTF16", "getChars", "(III[B)I"⟩ prog_22_method_77_code 5 (Option.some .int) ∈ gw := gw_2 (i := 89) rfl rfl
theorem kw330 : Cond.methodLink "java/lang/StringUTF16" 393 ⟨"java/lang/StringUTF16", "getChars", "(II[B)I"⟩ ∈ gw := gw_2 (i := 90) rfl rfl
theorem kw331 : Cond.static ⟨"java/lang/StringUTF16", "getChars", "(II[B)I"⟩ ∈ gw := gw_2 (i := 91) rfl rfl
theorem kw332 : Cond.code ⟨"java/lang/StringUTF16", "getChars", "(II[B)I"⟩ prog_22_method_89_code 7 (Option.some .int) ∈ gw := gw_2 (i := 92) rfl rfl
theorem kw333 : Cond.fieldLink "java/lang/StringUTF16" 403 "java/lang/Integer" "DigitOnes" "[B" ∈ gw := gw_2 (i := 93) rfl rfl
theorem kw334 : Cond.fieldLink "java/lang/StringUTF16" 407 "java/lang/Integer" "DigitTens" "[B" ∈ gw := gw_2 (i := 94) rfl rfl
theorem kw335 : Cond.methodLink "java/lang/StringIndexOutOfBoundsException" 22 ⟨"java/lang/StringBuilder", "toString", "()Ljava/lang/String;"⟩ ∈ gw := gw_2 (i := 95) rfl rfl
theorem kw336 : Cond.instanceMethod ⟨"java/lang/StringBuilder", "toString", "()Ljava/lang/String;"⟩ ∈ gw := gw_2 (i := 96) rfl rfl
theorem kw337 : Cond.selects "java/lang/StringBuilder" ⟨"java/lang/StringBuilder", "toString", "()Ljava/lang/String;"⟩ ⟨"java/lang/StringBuilder", "toString", "()Ljava/lang/String;"⟩ ∈ gw := gw_2 (i := 97) rfl rfl
theorem kw338 : Cond.code ⟨"java/lang/StringBuilder", "toString", "()Ljava/lang/String;"⟩ prog_19_method_42_code 1 (Option.some (.object "java/lang/String")) ∈ gw := gw_2 (i := 98) rfl rfl
theorem kw339 : Cond.classLink "java/lang/StringBuilder" 18 "java/lang/String" ∈ gw := gw_2 (i := 99) rfl rfl
theorem kw340 : Cond.instantiable "java/lang/String" 4 ∈ gw := gw_2 (i := 100) rfl rfl
theorem kw341 : Cond.methodLink "java/lang/StringBuilder" 137 ⟨"java/lang/String", "<init>", "(Ljava/lang/StringBuilder;)V"⟩ ∈ gw := gw_2 (i := 101) rfl rfl
theorem kw342 : Cond.instanceMethod ⟨"java/lang/String", "<init>", "(Ljava/lang/StringBuilder;)V"⟩ ∈ gw := gw_2 (i := 102) rfl rfl
theorem kw343 : Cond.code ⟨"java/lang/String", "<init>", "(Ljava/lang/StringBuilder;)V"⟩ prog_18_method_53_code 2 (Option.none : Option ClassFile.FieldType) ∈ gw := gw_2 (i := 103) rfl rfl
theorem kw344 : Cond.methodLink "java/lang/String" 489 ⟨"java/lang/String", "<init>", "(Ljava/lang/AbstractStringBuilder;Ljava/lang/Void;)V"⟩ ∈ gw := gw_2 (i := 104) rfl rfl
theorem kw345 : Cond.instanceMethod ⟨"java/lang/String", "<init>", "(Ljava/lang/AbstractStringBuilder;Ljava/lang/Void;)V"⟩ ∈ gw := gw_2 (i := 105) rfl rfl
theorem kw346 : Cond.code ⟨"java/lang/String", "<init>", "(Ljava/lang/AbstractStringBuilder;Ljava/lang/Void;)V"⟩ prog_18_method_150_code 5 (Option.none : Option ClassFile.FieldType) ∈ gw := gw_2 (i := 106) rfl rfl
theorem kw347 : Cond.methodLink "java/lang/String" 1 ⟨"java/lang/Object", "<init>", "()V"⟩ ∈ gw := gw_2 (i := 107) rfl rfl
theorem kw348 : Cond.methodLink "java/lang/String" 552 ⟨"java/lang/AbstractStringBuilder", "getValue", "()[B"⟩ ∈ gw := gw_2 (i := 108) rfl rfl
theorem kw349 : Cond.instanceMethod ⟨"java/lang/AbstractStringBuilder", "getValue", "()[B"⟩ ∈ gw := gw_2 (i := 109) rfl rfl
theorem kw350 : Cond.sameMethod "java/lang/AbstractStringBuilder" "java/lang/AbstractStringBuilder" "getValue" "()[B" ∈ gw := gw_2 (i := 110) rfl rfl
theorem kw351 : Cond.selects "java/lang/StringBuilder" ⟨"java/lang/AbstractStringBuilder", "getValue", "()[B"⟩ ⟨"java/lang/AbstractStringBuilder", "getValue", "()[B"⟩ ∈ gw := gw_2 (i := 111) rfl rfl
theorem kw352 : Cond.code ⟨"java/lang/AbstractStringBuilder", "getValue", "()[B"⟩ prog_8_method_64_code 1 (Option.some (.array .byte)) ∈ gw := gw_2 (i := 112) rfl rfl
theorem kw353 : Cond.methodLink "java/lang/String" 549 ⟨"java/lang/AbstractStringBuilder", "length", "()I"⟩ ∈ gw := gw_2 (i := 113) rfl rfl
theorem kw354 : Cond.instanceMethod ⟨"java/lang/AbstractStringBuilder", "length", "()I"⟩ ∈ gw := gw_2 (i := 114) rfl rfl
theorem kw355 : Cond.sameMethod "java/lang/AbstractStringBuilder" "java/lang/AbstractStringBuilder" "length" "()I" ∈ gw := gw_2 (i := 115) rfl rfl
theorem kw356 : Cond.selects "java/lang/StringBuilder" ⟨"java/lang/AbstractStringBuilder", "length", "()I"⟩ ⟨"java/lang/StringBuilder", "length", "()I"⟩ ∈ gw := gw_2 (i := 116) rfl rfl
theorem kw357 : Cond.instanceMethod ⟨"java/lang/StringBuilder", "length", "()I"⟩ ∈ gw := gw_2 (i := 117) rfl rfl
theorem kw358 : Cond.code ⟨"java/lang/StringBuilder", "length", "()I"⟩ prog_19_method_93_code 1 (Option.some .int) ∈ gw := gw_2 (i := 118) rfl rfl
theorem kw359 : Cond.methodLink "java/lang/StringBuilder" 343 ⟨"java/lang/AbstractStringBuilder", "length", "()I"⟩ ∈ gw := gw_2 (i := 119) rfl rfl
theorem kw360 : Cond.code ⟨"java/lang/AbstractStringBuilder", "length", "()I"⟩ prog_8_method_6_code 1 (Option.some .int) ∈ gw := gw_2 (i := 120) rfl rfl
theorem kw361 : Cond.methodLink "java/lang/String" 1047 ⟨"java/lang/AbstractStringBuilder", "isLatin1", "()Z"⟩ ∈ gw := gw_2 (i := 121) rfl rfl
theorem kw362 : Cond.methodLink "java/lang/String" 54 ⟨"java/util/Arrays", "copyOfRange", "([BII)[B"⟩ ∈ gw := gw_2 (i := 122) rfl rfl
theorem kw363 : Cond.static ⟨"java/util/Arrays", "copyOfRange", "([BII)[B"⟩ ∈ gw := gw_2 (i := 123) rfl rfl
theorem kw364 : Cond.code ⟨"java/util/Arrays", "copyOfRange", "([BII)[B"⟩ prog_25_method_132_code 3 (Option.some (.array .byte)) ∈ gw := gw_2 (i := 124) rfl rfl
theorem kw365 : Cond.methodLink "java/util/Arrays" 339 ⟨"java/util/Arrays", "copyOfRangeByte", "([BII)[B"⟩ ∈ gw := gw_2 (i := 125) rfl rfl
theorem kw366 : Cond.static ⟨"java/util/Arrays", "copyOfRangeByte", "([BII)[B"⟩ ∈ gw := gw_2 (i := 126) rfl rfl
theorem kw367 : Cond.code ⟨"java/util/Arrays", "copyOfRangeByte", "([BII)[B"⟩ prog_25_method_133_code 5 (Option.some (.array .byte)) ∈ gw := gw_2 (i := 127) rfl rfl
theorem kw368 : Cond.methodLink "java/util/Arrays" 343 ⟨"java/util/Arrays", "checkLength", "(II)V"⟩ ∈ gw := gw_2 (i := 128) rfl rfl
theorem kw369 : Cond.static ⟨"java/util/Arrays", "checkLength", "(II)V"⟩ ∈ gw := gw_2 (i := 129) rfl rfl
theorem kw370 : Cond.code ⟨"java/util/Arrays", "checkLength", "(II)V"⟩ prog_25_method_131_code 2 (Option.none : Option ClassFile.FieldType) ∈ gw := gw_2 (i := 130) rfl rfl
theorem kw371 : Cond.classLink "java/util/Arrays" 43 "java/lang/IllegalArgumentException" ∈ gw := gw_2 (i := 131) rfl rfl
theorem kw372 : Cond.instantiable "java/lang/IllegalArgumentException" 6 ∈ gw := gw_2 (i := 132) rfl rfl
theorem kn373 : Cond.castable "java/lang/IllegalArgumentException" "java/lang/IllegalArgumentException" ∈ z_nest := gn_2 (i := 133) rfl rfl
theorem kn374 : Cond.declares ⟨"java/lang/RuntimeException", "<init>", "()V"⟩ ∈ z_nest := gn_2 (i := 134) rfl rfl
theorem kn375 : Cond.declares ⟨"java/lang/RuntimeException", "<init>", "(Ljava/lang/String;)V"⟩ ∈ z_nest := gn_2 (i := 135) rfl rfl
theorem kn376 : Cond.declares ⟨"java/lang/Exception", "<init>", "()V"⟩ ∈ z_nest := gn_2 (i := 136) rfl rfl
theorem kn377 : Cond.declares ⟨"java/lang/Exception", "<init>", "(Ljava/lang/String;)V"⟩ ∈ z_nest := gn_2 (i := 137) rfl rfl
theorem kn378 : Cond.declares ⟨"java/lang/Throwable", "<init>", "()V"⟩ ∈ z_nest := gn_2 (i := 138) rfl rfl
theorem kn379 : Cond.declares ⟨"java/lang/Throwable", "<init>", "(Ljava/lang/String;)V"⟩ ∈ z_nest := gn_2 (i := 139) rfl rfl
theorem kw380 : Cond.selects "java/lang/IllegalArgumentException" ⟨"java/lang/Throwable", "fillInStackTrace", "(I)Ljava/lang/Throwable;"⟩ ⟨"java/lang/Throwable", "fillInStackTrace", "(I)Ljava/lang/Throwable;"⟩ ∈ gw := gw_2 (i := 140) rfl rfl
theorem kw381 : Cond.selects "java/lang/IllegalArgumentException" ⟨"java/lang/Throwable", "fillInStackTrace", "()Ljava/lang/Throwable;"⟩ ⟨"java/lang/Throwable", "fillInStackTrace", "()Ljava/lang/Throwable;"⟩ ∈ gw := gw_2 (i := 141) rfl rfl
theorem kw382 : Cond.lays "java/lang/IllegalArgumentException" "java/lang/Throwable" "cause" "Ljava/lang/Throwable;" ∈ gw := gw_2 (i := 142) rfl rfl
theorem kw383 : Cond.lays "java/lang/Throwable" "java/lang/Throwable" "cause" "Ljava/lang/Throwable;" ∈ gw := gw_2 (i := 143) rfl rfl
theorem kw384 : Cond.lays "java/lang/IllegalArgumentException" "java/lang/Throwable" "stackTrace" "[Ljava/lang/StackTraceElement;" ∈ gw := gw_2 (i := 144) rfl rfl
theorem kw385 : Cond.lays "java/lang/Throwable" "java/lang/Throwable" "stackTrace" "[Ljava/lang/StackTraceElement;" ∈ gw := gw_2 (i := 145) rfl rfl
theorem kw386 : Cond.lays "java/lang/IllegalArgumentException" "java/lang/Throwable" "suppressedExceptions" "Ljava/util/List;" ∈ gw := gw_2 (i := 146) rfl rfl
theorem kw387 : Cond.lays "java/lang/Throwable" "java/lang/Throwable" "suppressedExceptions" "Ljava/util/List;" ∈ gw := gw_2 (i := 147) rfl rfl
theorem kw388 : Cond.lays "java/lang/IllegalArgumentException" "java/lang/Throwable" "detailMessage" "Ljava/lang/String;" ∈ gw := gw_2 (i := 148) rfl rfl
theorem kw389 : Cond.lays "java/lang/Throwable" "java/lang/Throwable" "detailMessage" "Ljava/lang/String;" ∈ gw := gw_2 (i := 149) rfl rfl
theorem kw390 : Cond.lays "java/lang/IllegalArgumentException" "java/lang/Throwable" "backtrace" "Ljava/lang/Object;" ∈ gw := gw_2 (i := 150) rfl rfl
theorem kw391 : Cond.lays "java/lang/Throwable" "java/lang/Throwable" "backtrace" "Ljava/lang/Object;" ∈ gw := gw_2 (i := 151) rfl rfl
theorem kw392 : Cond.fieldLink "java/lang/Throwable" 198 "java/lang/Throwable" "backtrace" "Ljava/lang/Object;" ∈ gw := gw_2 (i := 152) rfl rfl
theorem kw393 : Cond.superclass "java/lang/Throwable" "java/lang/Object" ∈ gw := gw_2 (i := 153) rfl rfl
theorem kw394 : Cond.instanceMethod ⟨"java/lang/Throwable", "<init>", "()V"⟩ ∈ gw := gw_2 (i := 154) rfl rfl
theorem kw395 : Cond.code ⟨"java/lang/Throwable", "<init>", "()V"⟩ prog_24_method_1_code 1 (Option.none : Option ClassFile.FieldType) ∈ gw := gw_2 (i := 155) rfl rfl
theorem kw396 : Cond.methodLink "java/lang/Throwable" 1 ⟨"java/lang/Object", "<init>", "()V"⟩ ∈ gw := gw_2 (i := 156) rfl rfl
theorem kw397 : Cond.fieldLink "java/lang/Throwable" 13 "java/lang/Throwable" "UNASSIGNED_STACK" "[Ljava/lang/StackTraceElement;" ∈ gw := gw_2 (i := 157) rfl rfl
theorem kw399 : Cond.fieldLink "java/lang/Throwable" 20 "java/lang/Throwable" "SUPPRESSED_SENTINEL" "Ljava/util/List;" ∈ gw := gw_2 (i := 159) rfl rfl
theorem kw401 : Cond.methodLink "java/lang/Throwable" 27 ⟨"java/lang/Throwable", "fillInStackTrace", "()Ljava/lang/Throwable;"⟩ ∈ gw := gw_2 (i := 161) rfl rfl
theorem kw402 : Cond.instanceMethod ⟨"java/lang/Throwable", "fillInStackTrace", "()Ljava/lang/Throwable;"⟩ ∈ gw := gw_2 (i := 162) rfl rfl
theorem kw403 : Cond.sameMethod "java/lang/Throwable" "java/lang/Throwable" "fillInStackTrace" "()Ljava/lang/Throwable;" ∈ gw := gw_2 (i := 163) rfl rfl
theorem kw404 : Cond.selects "java/lang/ArrayIndexOutOfBoundsException" ⟨"java/lang/Throwable", "fillInStackTrace", "()Ljava/lang/Throwable;"⟩ ⟨"java/lang/Throwable", "fillInStackTrace", "()Ljava/lang/Throwable;"⟩ ∈ gw := gw_2 (i := 164) rfl rfl
theorem kw405 : Cond.selects "java/lang/IndexOutOfBoundsException" ⟨"java/lang/Throwable", "fillInStackTrace", "()Ljava/lang/Throwable;"⟩ ⟨"java/lang/Throwable", "fillInStackTrace", "()Ljava/lang/Throwable;"⟩ ∈ gw := gw_2 (i := 165) rfl rfl
theorem kw406 : Cond.selects "java/lang/StringIndexOutOfBoundsException" ⟨"java/lang/Throwable", "fillInStackTrace", "()Ljava/lang/Throwable;"⟩ ⟨"java/lang/Throwable", "fillInStackTrace", "()Ljava/lang/Throwable;"⟩ ∈ gw := gw_2 (i := 166) rfl rfl
theorem kw408 : Cond.methodLink "java/lang/Throwable" 202 ⟨"java/lang/Throwable", "fillInStackTrace", "(I)Ljava/lang/Throwable;"⟩ ∈ gw := gw_2 (i := 168) rfl rfl
theorem kw410 : Cond.instanceMethod ⟨"java/lang/Throwable", "fillInStackTrace", "(I)Ljava/lang/Throwable;"⟩ ∈ gw := gw_2 (i := 170) rfl rfl
theorem kw411 : Cond.instantiable "java/lang/Throwable" 6 ∈ gw := gw_2 (i := 171) rfl rfl
theorem kw412 : Cond.native ⟨"java/lang/Throwable", "fillInStackTrace", "(I)Ljava/lang/Throwable;"⟩ ∈ gw := gw_2 (i := 172) rfl rfl
theorem kw413 : Cond.classLink "java/util/Arrays" 45 "java/lang/StringBuilder" ∈ gw := gw_2 (i := 173) rfl rfl
theorem kw414 : Cond.methodLink "java/util/Arrays" 47 ⟨"java/lang/StringBuilder", "<init>", "()V"⟩ ∈ gw := gw_2 (i := 174) rfl rfl
theorem kw415 : Cond.methodLink "java/util/Arrays" 54 ⟨"java/lang/StringBuilder", "append", "(I)Ljava/lang/StringBuilder;"⟩ ∈ gw := gw_2 (i := 175) rfl rfl
theorem kw417 : Cond.methodLink "java/util/Arrays" 50 ⟨"java/lang/StringBuilder", "append", "(Ljava/lang/String;)Ljava/lang/StringBuilder;"⟩ ∈ gw := gw_2 (i := 177) rfl rfl
theorem kw418 : Cond.methodLink "java/util/Arrays" 61 ⟨"java/lang/StringBuilder", "toString", "()Ljava/lang/String;"⟩ ∈ gw := gw_2 (i := 178) rfl rfl
theorem kw419 : Cond.methodLink "java/util/Arrays" 65 ⟨"java/lang/IllegalArgumentException", "<init>", "(Ljava/lang/String;)V"⟩ ∈ gw := gw_2 (i := 179) rfl rfl
theorem kw420 : Cond.instanceMethod ⟨"java/lang/IllegalArgumentException", "<init>", "(Ljava/lang/String;)V"⟩ ∈ gw := gw_2 (i := 180) rfl rfl
theorem kw421 : Cond.code ⟨"java/lang/IllegalArgumentException", "<init>", "(Ljava/lang/String;)V"⟩ prog_12_method_2_code 2 (Option.none : Option ClassFile.FieldType) ∈ gw := gw_2 (i := 181) rfl rfl
theorem kw422 : Cond.methodLink "java/lang/IllegalArgumentException" 7 ⟨"java/lang/RuntimeException", "<init>", "(Ljava/lang/String;)V"⟩ ∈ gw := gw_2 (i := 182) rfl rfl
theorem kw423 : Cond.instanceMethod ⟨"java/lang/RuntimeException", "<init>", "(Ljava/lang/String;)V"⟩ ∈ gw := gw_2 (i := 183) rfl rfl
theorem kw424 : Cond.code ⟨"java/lang/RuntimeException", "<init>", "(Ljava/lang/String;)V"⟩ prog_17_method_2_code 2 (Option.none : Option ClassFile.FieldType) ∈ gw := gw_2 (i := 184) rfl rfl
theorem kw425 : Cond.methodLink "java/lang/RuntimeException" 7 ⟨"java/lang/Exception", "<init>", "(Ljava/lang/String;)V"⟩ ∈ gw := gw_2 (i := 185) rfl rfl
theorem kw426 : Cond.instanceMethod ⟨"java/lang/Exception", "<init>", "(Ljava/lang/String;)V"⟩ ∈ gw := gw_2 (i := 186) rfl rfl
theorem kw427 : Cond.code ⟨"java/lang/Exception", "<init>", "(Ljava/lang/String;)V"⟩ prog_11_method_2_code 2 (Option.none : Option ClassFile.FieldType) ∈ gw := gw_2 (i := 187) rfl rfl
theorem kw428 : Cond.methodLink "java/lang/Exception" 7 ⟨"java/lang/Throwable", "<init>", "(Ljava/lang/String;)V"⟩ ∈ gw := gw_2 (i := 188) rfl rfl
theorem kw429 : Cond.instanceMethod ⟨"java/lang/Throwable", "<init>", "(Ljava/lang/String;)V"⟩ ∈ gw := gw_2 (i := 189) rfl rfl
theorem kw430 : Cond.code ⟨"java/lang/Throwable", "<init>", "(Ljava/lang/String;)V"⟩ prog_24_method_2_code 2 (Option.none : Option ClassFile.FieldType) ∈ gw := gw_2 (i := 190) rfl rfl
theorem kw432 : Cond.fieldLink "java/lang/Throwable" 31 "java/lang/Throwable" "detailMessage" "Ljava/lang/String;" ∈ gw := gw_2 (i := 192) rfl rfl
theorem kw433 : Cond.fieldLink "java/lang/Throwable" 7 "java/lang/Throwable" "cause" "Ljava/lang/Throwable;" ∈ gw := gw_2 (i := 193) rfl rfl
theorem kw434 : Cond.fieldLink "java/lang/Throwable" 17 "java/lang/Throwable" "stackTrace" "[Ljava/lang/StackTraceElement;" ∈ gw := gw_2 (i := 194) rfl rfl
theorem kw435 : Cond.fieldLink "java/lang/Throwable" 24 "java/lang/Throwable" "suppressedExceptions" "Ljava/util/List;" ∈ gw := gw_2 (i := 195) rfl rfl
theorem kw440 : Cond.lays "java/lang/IllegalArgumentException" "java/lang/Throwable" "depth" "I" ∈ gw := gw_2 (i := 200) rfl rfl
theorem kw443 : Cond.superclass "java/lang/IllegalArgumentException" "java/lang/RuntimeException" ∈ gw := gw_2 (i := 203) rfl rfl
theorem kw444 : Cond.methodLink "java/lang/String" 1051 ⟨"java/lang/StringUTF16", "compress", "([BII)[B"⟩ ∈ gw := gw_2 (i := 204) rfl rfl
theorem kw445 : Cond.static ⟨"java/lang/StringUTF16", "compress", "([BII)[B"⟩ ∈ gw := gw_2 (i := 205) rfl rfl
theorem kw446 : Cond.code ⟨"java/lang/StringUTF16", "compress", "([BII)[B"⟩ prog_22_method_17_code 6 (Option.some (.array .byte)) ∈ gw := gw_2 (i := 206) rfl rfl
theorem kw447 : Cond.methodLink "java/lang/StringUTF16" 123 ⟨"java/lang/StringUTF16", "compress", "([BI[BII)I"⟩ ∈ gw := gw_2 (i := 207) rfl rfl
theorem kw448 : Cond.static ⟨"java/lang/StringUTF16", "compress", "([BI[BII)I"⟩ ∈ gw := gw_2 (i := 208) rfl rfl
theorem kw449 : Cond.code ⟨"java/lang/StringUTF16", "compress", "([BI[BII)I"⟩ prog_22_method_22_code 7 (Option.some .int) ∈ gw := gw_2 (i := 209) rfl rfl
theorem kw450 : Cond.methodLink "java/lang/StringUTF16" 71 ⟨"java/lang/StringUTF16", "getChar", "([BI)C"⟩ ∈ gw := gw_2 (i := 210) rfl rfl
theorem kw451 : Cond.static ⟨"java/lang/StringUTF16", "getChar", "([BI)C"⟩ ∈ gw := gw_2 (i := 211) rfl rfl
theorem kw452 : Cond.code ⟨"java/lang/StringUTF16", "getChar", "([BI)C"⟩ prog_22_method_5_code 2 (Option.some .char) ∈ gw := gw_2 (i := 212) rfl rfl
theorem kw453 : Cond.methodLink "java/lang/StringUTF16" 126 ⟨"java/util/Arrays", "copyOfRange", "([BII)[B"⟩ ∈ gw := gw_2 (i := 213) rfl rfl
theorem kw454 : Cond.methodLink "java/lang/String" 47 ⟨"java/lang/StringUTF16", "coderFromArrayLen", "([BI)B"⟩ ∈ gw := gw_2 (i := 214) rfl rfl
theorem kw455 : Cond.static ⟨"java/lang/StringUTF16", "coderFromArrayLen", "([BI)B"⟩ ∈ gw := gw_2 (i := 215) rfl rfl
theorem kw456 : Cond.code ⟨"java/lang/StringUTF16", "coderFromArrayLen", "([BI)B"⟩ prog_22_method_15_code 2 (Option.some .byte) ∈ gw := gw_2 (i := 216) rfl rfl
theorem kw457 : Cond.fieldLink "java/lang/String" 9 "java/lang/String" "value" "[B" ∈ gw := gw_2 (i := 217) rfl rfl
theorem kw458 : Cond.fieldLink "java/lang/String" 15 "java/lang/String" "coder" "B" ∈ gw := gw_2 (i := 218) rfl rfl
theorem kw459 : Cond.laysFinal "java/lang/String" "java/lang/String" "value" "[B" ∈ gw := gw_2 (i := 219) rfl rfl
theorem kw461 : Cond.laysFinal "java/lang/String" "java/lang/String" "coder" "B" ∈ gw := gw_2 (i := 221) rfl rfl
theorem kw463 : Cond.lays "java/lang/String" "java/lang/String" "hash" "I" ∈ gw := gw_2 (i := 223) rfl rfl
theorem kw465 : Cond.lays "java/lang/String" "java/lang/String" "hashIsZero" "Z" ∈ gw := gw_2 (i := 225) rfl rfl
theorem kw467 : Cond.superclass "java/lang/String" "java/lang/Object" ∈ gw := gw_2 (i := 227) rfl rfl
theorem kw468 : Cond.methodLink "java/lang/StringIndexOutOfBoundsException" 7 ⟨"java/lang/IndexOutOfBoundsException", "<init>", "(Ljava/lang/String;)V"⟩ ∈ gw := gw_2 (i := 228) rfl rfl
theorem kw469 : Cond.instanceMethod ⟨"java/lang/IndexOutOfBoundsException", "<init>", "(Ljava/lang/String;)V"⟩ ∈ gw := gw_2 (i := 229) rfl rfl
theorem kw470 : Cond.code ⟨"java/lang/IndexOutOfBoundsException", "<init>", "(Ljava/lang/String;)V"⟩ prog_13_method_2_code 2 (Option.none : Option ClassFile.FieldType) ∈ gw := gw_2 (i := 230) rfl rfl
theorem kw471 : Cond.methodLink "java/lang/IndexOutOfBoundsException" 7 ⟨"java/lang/RuntimeException", "<init>", "(Ljava/lang/String;)V"⟩ ∈ gw := gw_2 (i := 231) rfl rfl
theorem kw472 : Cond.lays "java/lang/StringIndexOutOfBoundsException" "java/lang/Throwable" "backtrace" "Ljava/lang/Object;" ∈ gw := gw_2 (i := 232) rfl rfl
theorem kw473 : Cond.lays "java/lang/StringIndexOutOfBoundsException" "java/lang/Throwable" "detailMessage" "Ljava/lang/String;" ∈ gw := gw_2 (i := 233) rfl rfl
theorem kw474 : Cond.lays "java/lang/StringIndexOutOfBoundsException" "java/lang/Throwable" "cause" "Ljava/lang/Throwable;" ∈ gw := gw_2 (i := 234) rfl rfl
theorem kw475 : Cond.lays "java/lang/StringIndexOutOfBoundsException" "java/lang/Throwable" "stackTrace" "[Ljava/lang/StackTraceElement;" ∈ gw := gw_2 (i := 235) rfl rfl
theorem kw476 : Cond.lays "java/lang/StringIndexOutOfBoundsException" "java/lang/Throwable" "depth" "I" ∈ gw := gw_2 (i := 236) rfl rfl
theorem kw477 : Cond.lays "java/lang/StringIndexOutOfBoundsException" "java/lang/Throwable" "suppressedExceptions" "Ljava/util/List;" ∈ gw := gw_2 (i := 237) rfl rfl
theorem kw478 : Cond.superclass "java/lang/StringIndexOutOfBoundsException" "java/lang/IndexOutOfBoundsException" ∈ gw := gw_2 (i := 238) rfl rfl
theorem kw479 : Cond.methodLink "java/lang/AbstractStringBuilder" 133 ⟨"java/lang/StringLatin1", "fillNull", "([BII)V"⟩ ∈ gw := gw_2 (i := 239) rfl rfl
theorem kw480 : Cond.static ⟨"java/lang/StringLatin1", "fillNull", "([BII)V"⟩ ∈ gw := gw_3 (i := 0) rfl rfl
theorem kw481 : Cond.code ⟨"java/lang/StringLatin1", "fillNull", "([BII)V"⟩ prog_21_method_48_code 3 (Option.none : Option ClassFile.FieldType) ∈ gw := gw_3 (i := 1) rfl rfl
theorem kw482 : Cond.methodLink "java/lang/StringLatin1" 236 ⟨"java/util/Arrays", "fill", "([BIIB)V"⟩ ∈ gw := gw_3 (i := 2) rfl rfl
theorem kw483 : Cond.static ⟨"java/util/Arrays", "fill", "([BIIB)V"⟩ ∈ gw := gw_3 (i := 3) rfl rfl
theorem kw484 : Cond.code ⟨"java/util/Arrays", "fill", "([BIIB)V"⟩ prog_25_method_110_code 5 (Option.none : Option ClassFile.FieldType) ∈ gw := gw_3 (i := 4) rfl rfl
theorem kw485 : Cond.methodLink "java/util/Arrays" 13 ⟨"java/util/Arrays", "rangeCheck", "(III)V"⟩ ∈ gw := gw_3 (i := 5) rfl rfl
theorem kw486 : Cond.static ⟨"java/util/Arrays", "rangeCheck", "(III)V"⟩ ∈ gw := gw_3 (i := 6) rfl rfl
theorem kw487 : Cond.code ⟨"java/util/Arrays", "rangeCheck", "(III)V"⟩ prog_25_method_30_code 3 (Option.none : Option ClassFile.FieldType) ∈ gw := gw_3 (i := 7) rfl rfl
theorem kw491 : Cond.classLink "java/util/Arrays" 68 "java/lang/ArrayIndexOutOfBoundsException" ∈ gw := gw_3 (i := 11) rfl rfl
theorem kw492 : Cond.instantiable "java/lang/ArrayIndexOutOfBoundsException" 6 ∈ gw := gw_3 (i := 12) rfl rfl
theorem kn493 : Cond.castable "java/lang/ArrayIndexOutOfBoundsException" "java/lang/ArrayIndexOutOfBoundsException" ∈ z_nest := gn_3 (i := 13) rfl rfl
theorem kn494 : Cond.declares ⟨"java/lang/IndexOutOfBoundsException", "<init>", "()V"⟩ ∈ z_nest := gn_3 (i := 14) rfl rfl
theorem kn495 : Cond.declares ⟨"java/lang/IndexOutOfBoundsException", "<init>", "(Ljava/lang/String;)V"⟩ ∈ z_nest := gn_3 (i := 15) rfl rfl
theorem kw496 : Cond.selects "java/lang/ArrayIndexOutOfBoundsException" ⟨"java/lang/Throwable", "fillInStackTrace", "(I)Ljava/lang/Throwable;"⟩ ⟨"java/lang/Throwable", "fillInStackTrace", "(I)Ljava/lang/Throwable;"⟩ ∈ gw := gw_3 (i := 16) rfl rfl
theorem kw497 : Cond.lays "java/lang/ArrayIndexOutOfBoundsException" "java/lang/Throwable" "cause" "Ljava/lang/Throwable;" ∈ gw := gw_3 (i := 17) rfl rfl
theorem kw498 : Cond.lays "java/lang/ArrayIndexOutOfBoundsException" "java/lang/Throwable" "stackTrace" "[Ljava/lang/StackTraceElement;" ∈ gw := gw_3 (i := 18) rfl rfl
theorem kw499 : Cond.lays "java/lang/ArrayIndexOutOfBoundsException" "java/lang/Throwable" "suppressedExceptions" "Ljava/util/List;" ∈ gw := gw_3 (i := 19) rfl rfl
theorem kw500 : Cond.lays "java/lang/ArrayIndexOutOfBoundsException" "java/lang/Throwable" "detailMessage" "Ljava/lang/String;" ∈ gw := gw_3 (i := 20) rfl rfl
theorem kw501 : Cond.lays "java/lang/ArrayIndexOutOfBoundsException" "java/lang/Throwable" "backtrace" "Ljava/lang/Object;" ∈ gw := gw_3 (i := 21) rfl rfl
theorem kw502 : Cond.methodLink "java/util/Arrays" 70 ⟨"java/lang/ArrayIndexOutOfBoundsException", "<init>", "(I)V"⟩ ∈ gw := gw_3 (i := 22) rfl rfl
theorem kw503 : Cond.instanceMethod ⟨"java/lang/ArrayIndexOutOfBoundsException", "<init>", "(I)V"⟩ ∈ gw := gw_3 (i := 23) rfl rfl
theorem kw504 : Cond.code ⟨"java/lang/ArrayIndexOutOfBoundsException", "<init>", "(I)V"⟩ prog_9_method_3_code 2 (Option.none : Option ClassFile.FieldType) ∈ gw := gw_3 (i := 24) rfl rfl
theorem kw505 : Cond.classLink "java/lang/ArrayIndexOutOfBoundsException" 10 "java/lang/StringBuilder" ∈ gw := gw_3 (i := 25) rfl rfl
theorem kw506 : Cond.methodLink "java/lang/ArrayIndexOutOfBoundsException" 12 ⟨"java/lang/StringBuilder", "<init>", "()V"⟩ ∈ gw := gw_3 (i := 26) rfl rfl
theorem kw508 : Cond.methodLink "java/lang/ArrayIndexOutOfBoundsException" 15 ⟨"java/lang/StringBuilder", "append", "(Ljava/lang/String;)Ljava/lang/StringBuilder;"⟩ ∈ gw := gw_3 (i := 28) rfl rfl
theorem kw509 : Cond.methodLink "java/lang/ArrayIndexOutOfBoundsException" 19 ⟨"java/lang/StringBuilder", "append", "(I)Ljava/lang/StringBuilder;"⟩ ∈ gw := gw_3 (i := 29) rfl rfl
theorem kw510 : Cond.methodLink "java/lang/ArrayIndexOutOfBoundsException" 22 ⟨"java/lang/StringBuilder", "toString", "()Ljava/lang/String;"⟩ ∈ gw := gw_3 (i := 30) rfl rfl
theorem kw511 : Cond.methodLink "java/lang/ArrayIndexOutOfBoundsException" 7 ⟨"java/lang/IndexOutOfBoundsException", "<init>", "(Ljava/lang/String;)V"⟩ ∈ gw := gw_3 (i := 31) rfl rfl
theorem kw512 : Cond.lays "java/lang/ArrayIndexOutOfBoundsException" "java/lang/Throwable" "depth" "I" ∈ gw := gw_3 (i := 32) rfl rfl
theorem kw513 : Cond.superclass "java/lang/ArrayIndexOutOfBoundsException" "java/lang/IndexOutOfBoundsException" ∈ gw := gw_3 (i := 33) rfl rfl
theorem kw514 : Cond.methodLink "java/lang/AbstractStringBuilder" 137 ⟨"java/lang/StringUTF16", "fillNull", "([BII)V"⟩ ∈ gw := gw_3 (i := 34) rfl rfl
theorem kw515 : Cond.static ⟨"java/lang/StringUTF16", "fillNull", "([BII)V"⟩ ∈ gw := gw_3 (i := 35) rfl rfl
theorem kw516 : Cond.code ⟨"java/lang/StringUTF16", "fillNull", "([BII)V"⟩ prog_22_method_70_code 3 (Option.none : Option ClassFile.FieldType) ∈ gw := gw_3 (i := 36) rfl rfl
theorem kw517 : Cond.methodLink "java/lang/StringUTF16" 380 ⟨"java/util/Arrays", "fill", "([BIIB)V"⟩ ∈ gw := gw_3 (i := 37) rfl rfl
theorem kw518 : Cond.methodLink "Manypanes$Line" 41 ⟨"java/lang/StringBuilder", "append", "(C)Ljava/lang/StringBuilder;"⟩ ∈ gw := gw_3 (i := 38) rfl rfl
theorem kw519 : Cond.instanceMethod ⟨"java/lang/StringBuilder", "append", "(C)Ljava/lang/StringBuilder;"⟩ ∈ gw := gw_3 (i := 39) rfl rfl
theorem kw520 : Cond.selects "java/lang/StringBuilder" ⟨"java/lang/StringBuilder", "append", "(C)Ljava/lang/StringBuilder;"⟩ ⟨"java/lang/StringBuilder", "append", "(C)Ljava/lang/StringBuilder;"⟩ ∈ gw := gw_3 (i := 40) rfl rfl
theorem kw521 : Cond.code ⟨"java/lang/StringBuilder", "append", "(C)Ljava/lang/StringBuilder;"⟩ prog_19_method_14_code 2 (Option.some (.object "java/lang/StringBuilder")) ∈ gw := gw_3 (i := 41) rfl rfl
theorem kw522 : Cond.methodLink "java/lang/StringBuilder" 50 ⟨"java/lang/AbstractStringBuilder", "append", "(C)Ljava/lang/AbstractStringBuilder;"⟩ ∈ gw := gw_3 (i := 42) rfl rfl
theorem kw523 : Cond.instanceMethod ⟨"java/lang/AbstractStringBuilder", "append", "(C)Ljava/lang/AbstractStringBuilder;"⟩ ∈ gw := gw_3 (i := 43) rfl rfl
theorem kw524 : Cond.code ⟨"java/lang/AbstractStringBuilder", "append", "(C)Ljava/lang/AbstractStringBuilder;"⟩ prog_8_method_31_code 2 (Option.some (.object "java/lang/AbstractStringBuilder")) ∈ gw := gw_3 (i := 44) rfl rfl
theorem kw525 : Cond.methodLink "java/lang/AbstractStringBuilder" 191 ⟨"java/lang/StringLatin1", "canEncode", "(C)Z"⟩ ∈ gw := gw_3 (i := 45) rfl rfl
theorem kw526 : Cond.static ⟨"java/lang/StringLatin1", "canEncode", "(C)Z"⟩ ∈ gw := gw_3 (i := 46) rfl rfl
theorem kw527 : Cond.code ⟨"java/lang/StringLatin1", "canEncode", "(C)Z"⟩ prog_21_method_3_code 1 (Option.some .boolean) ∈ gw := gw_3 (i := 47) rfl rfl
theorem kw528 : Cond.methodLink "java/lang/AbstractStringBuilder" 197 ⟨"java/lang/StringUTF16", "putCharSB", "([BII)V"⟩ ∈ gw := gw_3 (i := 48) rfl rfl
theorem kw529 : Cond.static ⟨"java/lang/StringUTF16", "putCharSB", "([BII)V"⟩ ∈ gw := gw_3 (i := 49) rfl rfl
theorem kw530 : Cond.code ⟨"java/lang/StringUTF16", "putCharSB", "([BII)V"⟩ prog_22_method_71_code 3 (Option.none : Option ClassFile.FieldType) ∈ gw := gw_3 (i := 50) rfl rfl
theorem kw531 : Cond.methodLink "java/lang/StringUTF16" 67 ⟨"java/lang/StringUTF16", "checkIndex", "(I[B)V"⟩ ∈ gw := gw_3 (i := 51) rfl rfl
theorem kw532 : Cond.static ⟨"java/lang/StringUTF16", "checkIndex", "(I[B)V"⟩ ∈ gw := gw_3 (i := 52) rfl rfl
theorem kw533 : Cond.code ⟨"java/lang/StringUTF16", "checkIndex", "(I[B)V"⟩ prog_22_method_91_code 2 (Option.none : Option ClassFile.FieldType) ∈ gw := gw_3 (i := 53) rfl rfl
theorem kw534 : Cond.methodLink "java/lang/StringUTF16" 414 ⟨"java/lang/String", "checkIndex", "(II)V"⟩ ∈ gw := gw_3 (i := 54) rfl rfl
theorem kw535 : Cond.static ⟨"java/lang/String", "checkIndex", "(II)V"⟩ ∈ gw := gw_3 (i := 55) rfl rfl
theorem kw536 : Cond.code ⟨"java/lang/String", "checkIndex", "(II)V"⟩ prog_18_method_155_code 2 (Option.none : Option ClassFile.FieldType) ∈ gw := gw_3 (i := 56) rfl rfl
theorem kw537 : Cond.methodLink "java/lang/String" 1059 ⟨"jdk/internal/util/Preconditions", "checkIndex", "(IILjava/util/function/BiFunction;)I"⟩ ∈ gw := gw_3 (i := 57) rfl rfl
theorem kw538 : Cond.static ⟨"jdk/internal/util/Preconditions", "checkIndex", "(IILjava/util/function/BiFunction;)I"⟩ ∈ gw := gw_3 (i := 58) rfl rfl
theorem kw539 : Cond.code ⟨"jdk/internal/util/Preconditions", "checkIndex", "(IILjava/util/function/BiFunction;)I"⟩ prog_27_method_11_code 3 (Option.some .int) ∈ gw := gw_3 (i := 59) rfl rfl
theorem kw540 : Cond.methodLink "Manypanes$Line" 33 ⟨"Manypanes$Pane", "valueAt", "(I)I"⟩ ∈ gw := gw_3 (i := 60) rfl rfl
theorem kw541 : Cond.instanceMethod ⟨"Manypanes$Pane", "valueAt", "(I)I"⟩ ∈ gw := gw_3 (i := 61) rfl rfl
theorem kw542 : Cond.selects "Manypanes$Pane" ⟨"Manypanes$Pane", "valueAt", "(I)I"⟩ ⟨"Manypanes$Pane", "valueAt", "(I)I"⟩ ∈ gw := gw_3 (i := 62) rfl rfl
theorem kw543 : Cond.code ⟨"Manypanes$Pane", "valueAt", "(I)I"⟩ prog_3_method_12_code 2 (Option.some .int) ∈ gw := gw_3 (i := 63) rfl rfl
theorem kw544 : Cond.methodLink "Manypanes$Pane" 45 ⟨"Manypanes$Row", "valueAt", "(I)I"⟩ ∈ gw := gw_3 (i := 64) rfl rfl
theorem kw545 : Cond.instanceMethod ⟨"Manypanes$Row", "valueAt", "(I)I"⟩ ∈ gw := gw_3 (i := 65) rfl rfl
theorem kw546 : Cond.selects "Manypanes$Row" ⟨"Manypanes$Row", "valueAt", "(I)I"⟩ ⟨"Manypanes$Row", "valueAt", "(I)I"⟩ ∈ gw := gw_3 (i := 66) rfl rfl
theorem kw547 : Cond.code ⟨"Manypanes$Row", "valueAt", "(I)I"⟩ prog_4_method_4_code 2 (Option.some .int) ∈ gw := gw_3 (i := 67) rfl rfl
theorem kw548 : Cond.methodLink "Manypanes$Row" 13 ⟨"Manypanes$Row", "hasPlace", "(I)Z"⟩ ∈ gw := gw_3 (i := 68) rfl rfl
theorem kw549 : Cond.instanceMethod ⟨"Manypanes$Row", "hasPlace", "(I)Z"⟩ ∈ gw := gw_3 (i := 69) rfl rfl
theorem kw550 : Cond.selects "Manypanes$Row" ⟨"Manypanes$Row", "hasPlace", "(I)Z"⟩ ⟨"Manypanes$Row", "hasPlace", "(I)Z"⟩ ∈ gw := gw_3 (i := 70) rfl rfl
theorem kw551 : Cond.code ⟨"Manypanes$Row", "hasPlace", "(I)Z"⟩ prog_4_method_3_code 2 (Option.some .boolean) ∈ gw := gw_3 (i := 71) rfl rfl
theorem kw552 : Cond.methodLink "Manypanes$Line" 37 ⟨"Manypanes$Line", "addNumber", "(J)V"⟩ ∈ gw := gw_3 (i := 72) rfl rfl
theorem kw554 : Cond.instanceMethod ⟨"Manypanes$Line", "addNumber", "(J)V"⟩ ∈ gw := gw_3 (i := 74) rfl rfl
theorem kw555 : Cond.code ⟨"Manypanes$Line", "addNumber", "(J)V"⟩ prog_2_method_7_code 5 (Option.none : Option ClassFile.FieldType) ∈ gw := gw_3 (i := 75) rfl rfl
theorem kw556 : Cond.constantLong "Manypanes$Line" 55 (10000000000 : Int64) ∈ gw := gw_3 (i := 76) rfl rfl
theorem kw557 : Cond.constantLong "Manypanes$Line" 57 (10 : Int64) ∈ gw := gw_3 (i := 77) rfl rfl
theorem kw558 : Cond.methodLink "Manypanes" 164 ⟨"Manypanes$Line", "written", "()Ljava/lang/String;"⟩ ∈ gw := gw_3 (i := 78) rfl rfl
theorem kw559 : Cond.instanceMethod ⟨"Manypanes$Line", "written", "()Ljava/lang/String;"⟩ ∈ gw := gw_3 (i := 79) rfl rfl
theorem kw560 : Cond.selects "Manypanes$Line" ⟨"Manypanes$Line", "written", "()Ljava/lang/String;"⟩ ⟨"Manypanes$Line", "written", "()Ljava/lang/String;"⟩ ∈ gw := gw_3 (i := 80) rfl rfl
theorem kw561 : Cond.code ⟨"Manypanes$Line", "written", "()Ljava/lang/String;"⟩ prog_2_method_2_code 1 (Option.some (.object "java/lang/String")) ∈ gw := gw_3 (i := 81) rfl rfl
theorem kw562 : Cond.methodLink "Manypanes$Line" 16 ⟨"java/lang/StringBuilder", "toString", "()Ljava/lang/String;"⟩ ∈ gw := gw_3 (i := 82) rfl rfl
theorem kw563 : Cond.methodLink "ManypanesLaw" 270 ⟨"Manypanes", "knock", "()I"⟩ ∈ gw := gw_3 (i := 83) rfl rfl
theorem kw564 : Cond.instanceMethod ⟨"Manypanes", "knock", "()I"⟩ ∈ gw := gw_3 (i := 84) rfl rfl
theorem kw565 : Cond.selects "Manypanes" ⟨"Manypanes", "knock", "()I"⟩ ⟨"Manypanes", "knock", "()I"⟩ ∈ gw := gw_3 (i := 85) rfl rfl
theorem kw566 : Cond.code ⟨"Manypanes", "knock", "()I"⟩ prog_1_method_40_code 1 (Option.some .int) ∈ gw := gw_3 (i := 86) rfl rfl
theorem kw567 : Cond.methodLink "ManypanesLaw" 274 ⟨"Manypanes", "isSound", "()Z"⟩ ∈ gw := gw_3 (i := 87) rfl rfl
theorem kw568 : Cond.instanceMethod ⟨"Manypanes", "isSound", "()Z"⟩ ∈ gw := gw_3 (i := 88) rfl rfl
theorem kw569 : Cond.selects "Manypanes" ⟨"Manypanes", "isSound", "()Z"⟩ ⟨"Manypanes", "isSound", "()Z"⟩ ∈ gw := gw_3 (i := 89) rfl rfl
theorem kw570 : Cond.code ⟨"Manypanes", "isSound", "()Z"⟩ prog_1_method_41_code 3 (Option.some .boolean) ∈ gw := gw_3 (i := 90) rfl rfl
theorem kw571 : Cond.methodLink "Manypanes" 188 ⟨"Manypanes$Pane", "isInOrder", "()Z"⟩ ∈ gw := gw_3 (i := 91) rfl rfl
theorem kw572 : Cond.instanceMethod ⟨"Manypanes$Pane", "isInOrder", "()Z"⟩ ∈ gw := gw_3 (i := 92) rfl rfl
theorem kw573 : Cond.selects "Manypanes$Pane" ⟨"Manypanes$Pane", "isInOrder", "()Z"⟩ ⟨"Manypanes$Pane", "isInOrder", "()Z"⟩ ∈ gw := gw_3 (i := 93) rfl rfl
theorem kw574 : Cond.code ⟨"Manypanes$Pane", "isInOrder", "()Z"⟩ prog_3_method_17_code 1 (Option.some .boolean) ∈ gw := gw_3 (i := 94) rfl rfl
theorem kw575 : Cond.methodLink "Manypanes$Pane" 60 ⟨"Manypanes$Pane", "hasMark", "()Z"⟩ ∈ gw := gw_3 (i := 95) rfl rfl
theorem kw576 : Cond.instanceMethod ⟨"Manypanes$Pane", "hasMark", "()Z"⟩ ∈ gw := gw_3 (i := 96) rfl rfl
theorem kw577 : Cond.selects "Manypanes$Pane" ⟨"Manypanes$Pane", "hasMark", "()Z"⟩ ⟨"Manypanes$Pane", "hasMark", "()Z"⟩ ∈ gw := gw_3 (i := 97) rfl rfl
theorem kw578 : Cond.code ⟨"Manypanes$Pane", "hasMark", "()Z"⟩ prog_3_method_9_code 1 (Option.some .boolean) ∈ gw := gw_3 (i := 98) rfl rfl
theorem kw579 : Cond.methodLink "Manypanes$Pane" 57 ⟨"Manypanes$Pane", "left", "()I"⟩ ∈ gw := gw_3 (i := 99) rfl rfl
theorem kw580 : Cond.instanceMethod ⟨"Manypanes$Pane", "left", "()I"⟩ ∈ gw := gw_3 (i := 100) rfl rfl
theorem kw581 : Cond.selects "Manypanes$Pane" ⟨"Manypanes$Pane", "left", "()I"⟩ ⟨"Manypanes$Pane", "left", "()I"⟩ ∈ gw := gw_3 (i := 101) rfl rfl
theorem kw582 : Cond.code ⟨"Manypanes$Pane", "left", "()I"⟩ prog_3_method_8_code 1 (Option.some .int) ∈ gw := gw_3 (i := 102) rfl rfl
theorem kw583 : Cond.methodLink "Manypanes" 191 ⟨"Manypanes", "hasTrueTwins", "(LManypanes$Pane;)Z"⟩ ∈ gw := gw_3 (i := 103) rfl rfl
theorem kw585 : Cond.instanceMethod ⟨"Manypanes", "hasTrueTwins", "(LManypanes$Pane;)Z"⟩ ∈ gw := gw_3 (i := 105) rfl rfl
theorem kw586 : Cond.code ⟨"Manypanes", "hasTrueTwins", "(LManypanes$Pane;)Z"⟩ prog_1_method_57_code 3 (Option.some .boolean) ∈ gw := gw_3 (i := 106) rfl rfl
theorem kw587 : Cond.methodLink "Manypanes" 70 ⟨"Manypanes$Pane", "becomeTwin", "(LManypanes$Pane;)V"⟩ ∈ gw := gw_3 (i := 107) rfl rfl
theorem kw588 : Cond.instanceMethod ⟨"Manypanes$Pane", "becomeTwin", "(LManypanes$Pane;)V"⟩ ∈ gw := gw_3 (i := 108) rfl rfl
theorem kw589 : Cond.selects "Manypanes$Pane" ⟨"Manypanes$Pane", "becomeTwin", "(LManypanes$Pane;)V"⟩ ⟨"Manypanes$Pane", "becomeTwin", "(LManypanes$Pane;)V"⟩ ∈ gw := gw_3 (i := 109) rfl rfl
theorem kw590 : Cond.code ⟨"Manypanes$Pane", "becomeTwin", "(LManypanes$Pane;)V"⟩ prog_3_method_3_code 2 (Option.none : Option ClassFile.FieldType) ∈ gw := gw_3 (i := 110) rfl rfl
theorem kw591 : Cond.methodLink "Manypanes" 242 ⟨"Manypanes$Pane", "tellsAs", "(LManypanes$Pane;)Z"⟩ ∈ gw := gw_3 (i := 111) rfl rfl
theorem kw592 : Cond.instanceMethod ⟨"Manypanes$Pane", "tellsAs", "(LManypanes$Pane;)Z"⟩ ∈ gw := gw_3 (i := 112) rfl rfl
theorem kw593 : Cond.selects "Manypanes$Pane" ⟨"Manypanes$Pane", "tellsAs", "(LManypanes$Pane;)Z"⟩ ⟨"Manypanes$Pane", "tellsAs", "(LManypanes$Pane;)Z"⟩ ∈ gw := gw_3 (i := 113) rfl rfl
theorem kw594 : Cond.code ⟨"Manypanes$Pane", "tellsAs", "(LManypanes$Pane;)Z"⟩ prog_3_method_18_code 3 (Option.some .boolean) ∈ gw := gw_3 (i := 114) rfl rfl
theorem kw595 : Cond.methodLink "Manypanes$Pane" 53 ⟨"Manypanes$Pane", "valueAt", "(I)I"⟩ ∈ gw := gw_3 (i := 115) rfl rfl
theorem kw596 : Cond.methodLink "Manypanes" 195 ⟨"Manypanes", "hasTrueRemainder", "(LManypanes$Pane;)Z"⟩ ∈ gw := gw_3 (i := 116) rfl rfl
theorem kw598 : Cond.instanceMethod ⟨"Manypanes", "hasTrueRemainder", "(LManypanes$Pane;)Z"⟩ ∈ gw := gw_3 (i := 118) rfl rfl
theorem kw599 : Cond.code ⟨"Manypanes", "hasTrueRemainder", "(LManypanes$Pane;)Z"⟩ prog_1_method_58_code 3 (Option.some .boolean) ∈ gw := gw_3 (i := 119) rfl rfl
theorem kw600 : Cond.methodLink "Manypanes" 74 ⟨"Manypanes$Pane", "left", "()I"⟩ ∈ gw := gw_3 (i := 120) rfl rfl
theorem kw601 : Cond.methodLink "Manypanes" 78 ⟨"Manypanes$Pane", "becomePart", "(LManypanes$Pane;II)V"⟩ ∈ gw := gw_3 (i := 121) rfl rfl
theorem kw602 : Cond.instanceMethod ⟨"Manypanes$Pane", "becomePart", "(LManypanes$Pane;II)V"⟩ ∈ gw := gw_3 (i := 122) rfl rfl
theorem kw603 : Cond.selects "Manypanes$Pane" ⟨"Manypanes$Pane", "becomePart", "(LManypanes$Pane;II)V"⟩ ⟨"Manypanes$Pane", "becomePart", "(LManypanes$Pane;II)V"⟩ ∈ gw := gw_3 (i := 123) rfl rfl
theorem kw604 : Cond.code ⟨"Manypanes$Pane", "becomePart", "(LManypanes$Pane;II)V"⟩ prog_3_method_4_code 4 (Option.none : Option ClassFile.FieldType) ∈ gw := gw_3 (i := 124) rfl rfl
theorem kw605 : Cond.methodLink "Manypanes" 131 ⟨"Manypanes$Pane", "valueAt", "(I)I"⟩ ∈ gw := gw_3 (i := 125) rfl rfl
theorem kw606 : Cond.methodLink "Manypanes" 198 ⟨"Manypanes", "agree", "(LManypanes$Pane;LManypanes$Pane;)Z"⟩ ∈ gw := gw_3 (i := 126) rfl rfl
theorem kw607 : Cond.static ⟨"Manypanes", "agree", "(LManypanes$Pane;LManypanes$Pane;)Z"⟩ ∈ gw := gw_3 (i := 127) rfl rfl
theorem kw608 : Cond.code ⟨"Manypanes", "agree", "(LManypanes$Pane;LManypanes$Pane;)Z"⟩ prog_1_method_59_code 4 (Option.some .boolean) ∈ gw := gw_3 (i := 128) rfl rfl
theorem kw609 : Cond.methodLink "Manypanes" 177 ⟨"Manypanes", "kinship", "(LManypanes$Pane;LManypanes$Pane;)I"⟩ ∈ gw := gw_3 (i := 129) rfl rfl
theorem kw610 : Cond.static ⟨"Manypanes", "kinship", "(LManypanes$Pane;LManypanes$Pane;)I"⟩ ∈ gw := gw_3 (i := 130) rfl rfl
theorem kw611 : Cond.code ⟨"Manypanes", "kinship", "(LManypanes$Pane;LManypanes$Pane;)I"⟩ prog_1_method_52_code 2 (Option.some .int) ∈ gw := gw_3 (i := 131) rfl rfl
theorem kw612 : Cond.methodLink "Manypanes" 181 ⟨"Manypanes", "indexSeen", "(LManypanes$Pane;ILManypanes$Pane;)I"⟩ ∈ gw := gw_3 (i := 132) rfl rfl
theorem kw613 : Cond.static ⟨"Manypanes", "indexSeen", "(LManypanes$Pane;ILManypanes$Pane;)I"⟩ ∈ gw := gw_3 (i := 133) rfl rfl
theorem kw614 : Cond.code ⟨"Manypanes", "indexSeen", "(LManypanes$Pane;ILManypanes$Pane;)I"⟩ prog_1_method_53_code 4 (Option.some .int) ∈ gw := gw_3 (i := 134) rfl rfl
theorem kw615 : Cond.methodLink "Manypanes" 152 ⟨"Manypanes$Pane", "shows", "(I)Z"⟩ ∈ gw := gw_3 (i := 135) rfl rfl
theorem kw616 : Cond.instanceMethod ⟨"Manypanes$Pane", "shows", "(I)Z"⟩ ∈ gw := gw_3 (i := 136) rfl rfl
theorem kw617 : Cond.selects "Manypanes$Pane" ⟨"Manypanes$Pane", "shows", "(I)Z"⟩ ⟨"Manypanes$Pane", "shows", "(I)Z"⟩ ∈ gw := gw_3 (i := 137) rfl rfl
theorem kw618 : Cond.code ⟨"Manypanes$Pane", "shows", "(I)Z"⟩ prog_3_method_11_code 2 (Option.some .boolean) ∈ gw := gw_3 (i := 138) rfl rfl
theorem kw619 : Cond.methodLink "ManypanesLaw" 279 ⟨"Manypanes", "digest", "()J"⟩ ∈ gw := gw_3 (i := 139) rfl rfl
theorem kw620 : Cond.instanceMethod ⟨"Manypanes", "digest", "()J"⟩ ∈ gw := gw_3 (i := 140) rfl rfl
theorem kw621 : Cond.selects "Manypanes" ⟨"Manypanes", "digest", "()J"⟩ ⟨"Manypanes", "digest", "()J"⟩ ∈ gw := gw_3 (i := 141) rfl rfl
theorem kw622 : Cond.code ⟨"Manypanes", "digest", "()J"⟩ prog_1_method_42_code 5 (Option.some .long) ∈ gw := gw_3 (i := 142) rfl rfl
theorem kw623 : Cond.constantLong "Manypanes" 201 (8017 : Int64) ∈ gw := gw_3 (i := 143) rfl rfl
theorem kw624 : Cond.methodLink "Manypanes" 185 ⟨"Manypanes", "houseNumber", "(I)I"⟩ ∈ gw := gw_3 (i := 144) rfl rfl
theorem kw626 : Cond.instanceMethod ⟨"Manypanes", "houseNumber", "(I)I"⟩ ∈ gw := gw_3 (i := 146) rfl rfl
theorem kw627 : Cond.code ⟨"Manypanes", "houseNumber", "(I)I"⟩ prog_1_method_54_code 2 (Option.some .int) ∈ gw := gw_3 (i := 147) rfl rfl
theorem kw628 : Cond.methodLink "Manypanes" 236 ⟨"Manypanes", "howManyReaders", "()I"⟩ ∈ gw := gw_3 (i := 148) rfl rfl
theorem kw630 : Cond.instanceMethod ⟨"Manypanes", "howManyReaders", "()I"⟩ ∈ gw := gw_3 (i := 150) rfl rfl
theorem kw631 : Cond.code ⟨"Manypanes", "howManyReaders", "()I"⟩ prog_1_method_55_code 3 (Option.some .int) ∈ gw := gw_3 (i := 151) rfl rfl
theorem kw632 : Cond.methodLink "Manypanes" 239 ⟨"Manypanes", "howManyMarks", "()I"⟩ ∈ gw := gw_3 (i := 152) rfl rfl
theorem kw634 : Cond.instanceMethod ⟨"Manypanes", "howManyMarks", "()I"⟩ ∈ gw := gw_3 (i := 154) rfl rfl
theorem kw635 : Cond.code ⟨"Manypanes", "howManyMarks", "()I"⟩ prog_1_method_56_code 3 (Option.some .int) ∈ gw := gw_3 (i := 155) rfl rfl
theorem kw636 : Cond.methodLink "Manypanes" 109 ⟨"Manypanes$Pane", "hasMark", "()Z"⟩ ∈ gw := gw_3 (i := 156) rfl rfl
theorem kw637 : Cond.methodLink "Manypanes" 203 ⟨"Manypanes", "mix", "(JI)J"⟩ ∈ gw := gw_3 (i := 157) rfl rfl
theorem kw638 : Cond.static ⟨"Manypanes", "mix", "(JI)J"⟩ ∈ gw := gw_3 (i := 158) rfl rfl
theorem kw639 : Cond.code ⟨"Manypanes", "mix", "(JI)J"⟩ prog_1_method_60_code 3 (Option.some .long) ∈ gw := gw_3 (i := 159) rfl rfl
theorem kw640 : Cond.constantLong "Manypanes" 245 (31 : Int64) ∈ gw := gw_3 (i := 160) rfl rfl
theorem kw641 : Cond.methodLink "Manypanes" 207 ⟨"Manypanes", "mixPane", "(JLManypanes$Pane;)J"⟩ ∈ gw := gw_3 (i := 161) rfl rfl
theorem kw643 : Cond.instanceMethod ⟨"Manypanes", "mixPane", "(JLManypanes$Pane;)J"⟩ ∈ gw := gw_3 (i := 163) rfl rfl
theorem kw644 : Cond.code ⟨"Manypanes", "mixPane", "(JLManypanes$Pane;)J"⟩ prog_1_method_61_code 7 (Option.some .long) ∈ gw := gw_3 (i := 164) rfl rfl
theorem kw645 : Cond.methodLink "Manypanes" 158 ⟨"Manypanes$Pane", "numberOf", "(I)I"⟩ ∈ gw := gw_3 (i := 165) rfl rfl
theorem kw646 : Cond.instanceMethod ⟨"Manypanes$Pane", "numberOf", "(I)I"⟩ ∈ gw := gw_3 (i := 166) rfl rfl
theorem kw647 : Cond.selects "Manypanes$Pane" ⟨"Manypanes$Pane", "numberOf", "(I)I"⟩ ⟨"Manypanes$Pane", "numberOf", "(I)I"⟩ ∈ gw := gw_3 (i := 167) rfl rfl
theorem kw648 : Cond.code ⟨"Manypanes$Pane", "numberOf", "(I)I"⟩ prog_3_method_16_code 2 (Option.some .int) ∈ gw := gw_3 (i := 168) rfl rfl
theorem kw649 : Cond.methodLink "Manypanes" 171 ⟨"Manypanes$Line", "beginWhole", "(LManypanes$Pane;)V"⟩ ∈ gw := gw_3 (i := 169) rfl rfl
theorem kw650 : Cond.instanceMethod ⟨"Manypanes$Line", "beginWhole", "(LManypanes$Pane;)V"⟩ ∈ gw := gw_3 (i := 170) rfl rfl
theorem kw651 : Cond.selects "Manypanes$Line" ⟨"Manypanes$Line", "beginWhole", "(LManypanes$Pane;)V"⟩ ⟨"Manypanes$Line", "beginWhole", "(LManypanes$Pane;)V"⟩ ∈ gw := gw_3 (i := 171) rfl rfl
theorem kw652 : Cond.code ⟨"Manypanes$Line", "beginWhole", "(LManypanes$Pane;)V"⟩ prog_2_method_5_code 3 (Option.none : Option ClassFile.FieldType) ∈ gw := gw_3 (i := 172) rfl rfl
theorem kw653 : Cond.methodLink "Manypanes$Line" 48 ⟨"Manypanes$Line", "addSigns", "(LManypanes$Pane;I)V"⟩ ∈ gw := gw_3 (i := 173) rfl rfl
theorem kw655 : Cond.instanceMethod ⟨"Manypanes$Line", "addSigns", "(LManypanes$Pane;I)V"⟩ ∈ gw := gw_3 (i := 175) rfl rfl
theorem kw656 : Cond.code ⟨"Manypanes$Line", "addSigns", "(LManypanes$Pane;I)V"⟩ prog_2_method_6_code 3 (Option.none : Option ClassFile.FieldType) ∈ gw := gw_3 (i := 176) rfl rfl
theorem kw657 : Cond.methodLink "Manypanes" 211 ⟨"Manypanes", "mixLine", "(J)J"⟩ ∈ gw := gw_3 (i := 177) rfl rfl
theorem kw659 : Cond.instanceMethod ⟨"Manypanes", "mixLine", "(J)J"⟩ ∈ gw := gw_3 (i := 179) rfl rfl
theorem kw660 : Cond.code ⟨"Manypanes", "mixLine", "(J)J"⟩ prog_1_method_62_code 6 (Option.some .long) ∈ gw := gw_3 (i := 180) rfl rfl
theorem kw661 : Cond.methodLink "Manypanes" 251 ⟨"java/lang/StringBuilder", "length", "()I"⟩ ∈ gw := gw_3 (i := 181) rfl rfl
theorem kw662 : Cond.methodLink "Manypanes" 256 ⟨"java/lang/StringBuilder", "charAt", "(I)C"⟩ ∈ gw := gw_3 (i := 182) rfl rfl
theorem kw663 : Cond.instanceMethod ⟨"java/lang/StringBuilder", "charAt", "(I)C"⟩ ∈ gw := gw_3 (i := 183) rfl rfl
theorem kw664 : Cond.selects "java/lang/StringBuilder" ⟨"java/lang/StringBuilder", "charAt", "(I)C"⟩ ⟨"java/lang/StringBuilder", "charAt", "(I)C"⟩ ∈ gw := gw_3 (i := 184) rfl rfl
theorem kw665 : Cond.code ⟨"java/lang/StringBuilder", "charAt", "(I)C"⟩ prog_19_method_88_code 2 (Option.some .char) ∈ gw := gw_3 (i := 185) rfl rfl
theorem kw666 : Cond.methodLink "java/lang/StringBuilder" 329 ⟨"java/lang/AbstractStringBuilder", "charAt", "(I)C"⟩ ∈ gw := gw_3 (i := 186) rfl rfl
theorem kw667 : Cond.instanceMethod ⟨"java/lang/AbstractStringBuilder", "charAt", "(I)C"⟩ ∈ gw := gw_3 (i := 187) rfl rfl
theorem kw668 : Cond.code ⟨"java/lang/AbstractStringBuilder", "charAt", "(I)C"⟩ prog_8_method_14_code 5 (Option.some .char) ∈ gw := gw_3 (i := 188) rfl rfl
theorem kw669 : Cond.methodLink "java/lang/AbstractStringBuilder" 138 ⟨"java/lang/Math", "min", "(II)I"⟩ ∈ gw := gw_3 (i := 189) rfl rfl
theorem kw670 : Cond.methodLink "java/lang/AbstractStringBuilder" 144 ⟨"java/lang/String", "checkIndex", "(II)V"⟩ ∈ gw := gw_3 (i := 190) rfl rfl
theorem kw671 : Cond.methodLink "java/lang/AbstractStringBuilder" 148 ⟨"java/lang/StringUTF16", "getChar", "([BI)C"⟩ ∈ gw := gw_3 (i := 191) rfl rfl
theorem kw672 : Cond.methodLink "Manypanes" 161 ⟨"Manypanes$Line", "beginTotal", "(LManypanes$Pane;)V"⟩ ∈ gw := gw_3 (i := 192) rfl rfl
theorem kw673 : Cond.instanceMethod ⟨"Manypanes$Line", "beginTotal", "(LManypanes$Pane;)V"⟩ ∈ gw := gw_3 (i := 193) rfl rfl
theorem kw674 : Cond.selects "Manypanes$Line" ⟨"Manypanes$Line", "beginTotal", "(LManypanes$Pane;)V"⟩ ⟨"Manypanes$Line", "beginTotal", "(LManypanes$Pane;)V"⟩ ∈ gw := gw_3 (i := 194) rfl rfl
theorem kw675 : Cond.code ⟨"Manypanes$Line", "beginTotal", "(LManypanes$Pane;)V"⟩ prog_2_method_3_code 5 (Option.none : Option ClassFile.FieldType) ∈ gw := gw_3 (i := 195) rfl rfl
theorem kw676 : Cond.methodLink "Manypanes" 215 ⟨"Manypanes", "isSound", "()Z"⟩ ∈ gw := gw_3 (i := 196) rfl rfl
theorem kw677 : Cond.classLink "ManypanesLaw" 14 "ManypanesLaw$Out" ∈ gw := gw_3 (i := 197) rfl rfl
theorem kw678 : Cond.instantiable "ManypanesLaw$Out" 2 ∈ gw := gw_3 (i := 198) rfl rfl
theorem kn679 : Cond.methodLinkNest "ManypanesLaw" 143 ⟨"ManypanesLaw$Out", "<init>", "()V"⟩ "ManypanesLaw" ∈ z_nest := gn_3 (i := 199) rfl rfl
theorem kw680 : Cond.instanceMethod ⟨"ManypanesLaw$Out", "<init>", "()V"⟩ ∈ gw := gw_3 (i := 200) rfl rfl
theorem kw681 : Cond.code ⟨"ManypanesLaw$Out", "<init>", "()V"⟩ prog_6_method_1_code 1 (Option.none : Option ClassFile.FieldType) ∈ gw := gw_3 (i := 201) rfl rfl
theorem kw682 : Cond.methodLink "ManypanesLaw$Out" 1 ⟨"java/lang/Object", "<init>", "()V"⟩ ∈ gw := gw_3 (i := 202) rfl rfl
theorem kn683 : Cond.fieldLinkNest "ManypanesLaw" 13 "ManypanesLaw$Out" "n" "J" "ManypanesLaw" ∈ z_nest := gn_3 (i := 203) rfl rfl
theorem kn684 : Cond.fieldLinkNest "ManypanesLaw" 117 "ManypanesLaw$Out" "s" "Ljava/lang/String;" "ManypanesLaw" ∈ z_nest := gn_3 (i := 204) rfl rfl
theorem kw685 : Cond.lays "ManypanesLaw$Out" "ManypanesLaw$Out" "n" "J" ∈ gw := gw_3 (i := 205) rfl rfl
theorem kw687 : Cond.lays "ManypanesLaw$Out" "ManypanesLaw$Out" "s" "Ljava/lang/String;" ∈ gw := gw_3 (i := 207) rfl rfl
theorem kw689 : Cond.superclass "ManypanesLaw$Out" "java/lang/Object" ∈ gw := gw_3 (i := 209) rfl rfl
theorem kw690 : Cond.methodLink "ManypanesLaw" 144 ⟨"ManypanesLaw", "wrap", "(LManypanes;IIILManypanesLaw$Out;)I"⟩ ∈ gw := gw_3 (i := 210) rfl rfl
theorem kw691 : Cond.static ⟨"ManypanesLaw", "wrap", "(LManypanes;IIILManypanesLaw$Out;)I"⟩ ∈ gw := gw_3 (i := 211) rfl rfl
theorem kw693 : Cond.classLink "ManypanesLaw" 19 "java/lang/IndexOutOfBoundsException" ∈ gw := gw_3 (i := 213) rfl rfl
theorem kw694 : Cond.classLink "ManypanesLaw" 21 "java/lang/IllegalArgumentException" ∈ gw := gw_3 (i := 214) rfl rfl
theorem kw695 : Cond.methodLink "ManypanesLaw" 7 ⟨"Manypanes", "wrap", "(III)I"⟩ ∈ gw := gw_3 (i := 215) rfl rfl
theorem kw696 : Cond.instanceMethod ⟨"Manypanes", "wrap", "(III)I"⟩ ∈ gw := gw_3 (i := 216) rfl rfl
theorem kw697 : Cond.selects "Manypanes" ⟨"Manypanes", "wrap", "(III)I"⟩ ⟨"Manypanes", "wrap", "(III)I"⟩ ∈ gw := gw_3 (i := 217) rfl rfl
theorem kw698 : Cond.code ⟨"Manypanes", "wrap", "(III)I"⟩ prog_1_method_2_code 5 (Option.some .int) ∈ gw := gw_3 (i := 218) rfl rfl
theorem kw699 : Cond.methodLink "Manypanes" 49 ⟨"Manypanes", "paneOf", "(I)LManypanes$Pane;"⟩ ∈ gw := gw_3 (i := 219) rfl rfl
theorem kw701 : Cond.instanceMethod ⟨"Manypanes", "paneOf", "(I)LManypanes$Pane;"⟩ ∈ gw := gw_3 (i := 221) rfl rfl
theorem kw702 : Cond.code ⟨"Manypanes", "paneOf", "(I)LManypanes$Pane;"⟩ prog_1_method_43_code 2 (Option.some (.object "Manypanes$Pane")) ∈ gw := gw_3 (i := 222) rfl rfl
theorem kw703 : Cond.classLink "Manypanes" 142 "java/lang/IndexOutOfBoundsException" ∈ gw := gw_3 (i := 223) rfl rfl
theorem kw704 : Cond.instantiable "java/lang/IndexOutOfBoundsException" 6 ∈ gw := gw_3 (i := 224) rfl rfl
theorem kn705 : Cond.castable "java/lang/IndexOutOfBoundsException" "java/lang/IndexOutOfBoundsException" ∈ z_nest := gn_3 (i := 225) rfl rfl
theorem kw706 : Cond.selects "java/lang/IndexOutOfBoundsException" ⟨"java/lang/Throwable", "fillInStackTrace", "(I)Ljava/lang/Throwable;"⟩ ⟨"java/lang/Throwable", "fillInStackTrace", "(I)Ljava/lang/Throwable;"⟩ ∈ gw := gw_3 (i := 226) rfl rfl
theorem kw707 : Cond.lays "java/lang/IndexOutOfBoundsException" "java/lang/Throwable" "cause" "Ljava/lang/Throwable;" ∈ gw := gw_3 (i := 227) rfl rfl
theorem kw708 : Cond.lays "java/lang/IndexOutOfBoundsException" "java/lang/Throwable" "stackTrace" "[Ljava/lang/StackTraceElement;" ∈ gw := gw_3 (i := 228) rfl rfl
theorem kw709 : Cond.lays "java/lang/IndexOutOfBoundsException" "java/lang/Throwable" "suppressedExceptions" "Ljava/util/List;" ∈ gw := gw_3 (i := 229) rfl rfl
theorem kw710 : Cond.lays "java/lang/IndexOutOfBoundsException" "java/lang/Throwable" "detailMessage" "Ljava/lang/String;" ∈ gw := gw_3 (i := 230) rfl rfl
theorem kw711 : Cond.lays "java/lang/IndexOutOfBoundsException" "java/lang/Throwable" "backtrace" "Ljava/lang/Object;" ∈ gw := gw_3 (i := 231) rfl rfl
theorem kw713 : Cond.methodLink "Manypanes" 146 ⟨"java/lang/IndexOutOfBoundsException", "<init>", "(Ljava/lang/String;)V"⟩ ∈ gw := gw_3 (i := 233) rfl rfl
theorem kw714 : Cond.lays "java/lang/IndexOutOfBoundsException" "java/lang/Throwable" "depth" "I" ∈ gw := gw_3 (i := 234) rfl rfl
theorem kw715 : Cond.superclass "java/lang/IndexOutOfBoundsException" "java/lang/RuntimeException" ∈ gw := gw_3 (i := 235) rfl rfl
theorem kw716 : Cond.methodLink "Manypanes" 53 ⟨"Manypanes", "needWithin", "(III)V"⟩ ∈ gw := gw_3 (i := 236) rfl rfl
theorem kw717 : Cond.static ⟨"Manypanes", "needWithin", "(III)V"⟩ ∈ gw := gw_3 (i := 237) rfl rfl
theorem kw718 : Cond.code ⟨"Manypanes", "needWithin", "(III)V"⟩ prog_1_method_46_code 3 (Option.none : Option ClassFile.FieldType) ∈ gw := gw_3 (i := 238) rfl rfl
theorem kw719 : Cond.methodLink "Manypanes" 82 ⟨"Manypanes", "isWithin", "(III)Z"⟩ ∈ gw := gw_3 (i := 239) rfl rfl
theorem kw720 : Cond.static ⟨"Manypanes", "isWithin", "(III)Z"⟩ ∈ gw := gw_4 (i := 0) rfl rfl
theorem kw721 : Cond.code ⟨"Manypanes", "isWithin", "(III)Z"⟩ prog_1_method_45_code 3 (Option.some .boolean) ∈ gw := gw_4 (i := 1) rfl rfl
theorem kw722 : Cond.classLink "Manypanes" 220 "java/lang/IllegalArgumentException" ∈ gw := gw_4 (i := 2) rfl rfl
theorem kw724 : Cond.methodLink "Manypanes" 224 ⟨"java/lang/IllegalArgumentException", "<init>", "(Ljava/lang/String;)V"⟩ ∈ gw := gw_4 (i := 4) rfl rfl
theorem kw725 : Cond.methodLink "Manypanes" 66 ⟨"Manypanes", "done", "(I)I"⟩ ∈ gw := gw_4 (i := 5) rfl rfl
theorem kw727 : Cond.instanceMethod ⟨"Manypanes", "done", "(I)I"⟩ ∈ gw := gw_4 (i := 7) rfl rfl
theorem kw728 : Cond.code ⟨"Manypanes", "done", "(I)I"⟩ prog_1_method_48_code 2 (Option.some .int) ∈ gw := gw_4 (i := 8) rfl rfl
theorem kw729 : Cond.methodLink "ManypanesLaw" 150 ⟨"ManypanesLaw", "fresh", "(LManypanes;IILManypanesLaw$Out;)I"⟩ ∈ gw := gw_4 (i := 9) rfl rfl
theorem kw730 : Cond.static ⟨"ManypanesLaw", "fresh", "(LManypanes;IILManypanesLaw$Out;)I"⟩ ∈ gw := gw_4 (i := 10) rfl rfl
theorem kw732 : Cond.methodLink "ManypanesLaw" 23 ⟨"Manypanes", "fresh", "(II)I"⟩ ∈ gw := gw_4 (i := 12) rfl rfl
theorem kw733 : Cond.instanceMethod ⟨"Manypanes", "fresh", "(II)I"⟩ ∈ gw := gw_4 (i := 13) rfl rfl
theorem kw734 : Cond.selects "Manypanes" ⟨"Manypanes", "fresh", "(II)I"⟩ ⟨"Manypanes", "fresh", "(II)I"⟩ ∈ gw := gw_4 (i := 14) rfl rfl
theorem kw735 : Cond.code ⟨"Manypanes", "fresh", "(II)I"⟩ prog_1_method_3_code 4 (Option.some .int) ∈ gw := gw_4 (i := 15) rfl rfl
theorem kw736 : Cond.methodLink "ManypanesLaw" 154 ⟨"ManypanesLaw", "twin", "(LManypanes;IILManypanesLaw$Out;)I"⟩ ∈ gw := gw_4 (i := 16) rfl rfl
theorem kw737 : Cond.static ⟨"ManypanesLaw", "twin", "(LManypanes;IILManypanesLaw$Out;)I"⟩ ∈ gw := gw_4 (i := 17) rfl rfl
theorem kw739 : Cond.methodLink "ManypanesLaw" 27 ⟨"Manypanes", "twin", "(II)I"⟩ ∈ gw := gw_4 (i := 19) rfl rfl
theorem kw740 : Cond.instanceMethod ⟨"Manypanes", "twin", "(II)I"⟩ ∈ gw := gw_4 (i := 20) rfl rfl
theorem kw741 : Cond.selects "Manypanes" ⟨"Manypanes", "twin", "(II)I"⟩ ⟨"Manypanes", "twin", "(II)I"⟩ ∈ gw := gw_4 (i := 21) rfl rfl
theorem kw742 : Cond.code ⟨"Manypanes", "twin", "(II)I"⟩ prog_1_method_4_code 5 (Option.some .int) ∈ gw := gw_4 (i := 22) rfl rfl
theorem kw743 : Cond.methodLink "ManypanesLaw" 157 ⟨"ManypanesLaw", "rest", "(LManypanes;IILManypanesLaw$Out;)I"⟩ ∈ gw := gw_4 (i := 23) rfl rfl
theorem kw744 : Cond.static ⟨"ManypanesLaw", "rest", "(LManypanes;IILManypanesLaw$Out;)I"⟩ ∈ gw := gw_4 (i := 24) rfl rfl
theorem kw746 : Cond.methodLink "ManypanesLaw" 30 ⟨"Manypanes", "rest", "(II)I"⟩ ∈ gw := gw_4 (i := 26) rfl rfl
theorem kw747 : Cond.instanceMethod ⟨"Manypanes", "rest", "(II)I"⟩ ∈ gw := gw_4 (i := 27) rfl rfl
theorem kw748 : Cond.selects "Manypanes" ⟨"Manypanes", "rest", "(II)I"⟩ ⟨"Manypanes", "rest", "(II)I"⟩ ∈ gw := gw_4 (i := 28) rfl rfl
theorem kw749 : Cond.code ⟨"Manypanes", "rest", "(II)I"⟩ prog_1_method_5_code 5 (Option.some .int) ∈ gw := gw_4 (i := 29) rfl rfl
theorem kw750 : Cond.methodLink "ManypanesLaw" 160 ⟨"ManypanesLaw", "part", "(LManypanes;IIIILManypanesLaw$Out;)I"⟩ ∈ gw := gw_4 (i := 30) rfl rfl
theorem kw751 : Cond.static ⟨"ManypanesLaw", "part", "(LManypanes;IIIILManypanesLaw$Out;)I"⟩ ∈ gw := gw_4 (i := 31) rfl rfl
theorem kw753 : Cond.methodLink "ManypanesLaw" 33 ⟨"Manypanes", "part", "(IIII)I"⟩ ∈ gw := gw_4 (i := 33) rfl rfl
theorem kw754 : Cond.instanceMethod ⟨"Manypanes", "part", "(IIII)I"⟩ ∈ gw := gw_4 (i := 34) rfl rfl
theorem kw755 : Cond.selects "Manypanes" ⟨"Manypanes", "part", "(IIII)I"⟩ ⟨"Manypanes", "part", "(IIII)I"⟩ ∈ gw := gw_4 (i := 35) rfl rfl
theorem kw756 : Cond.code ⟨"Manypanes", "part", "(IIII)I"⟩ prog_1_method_6_code 7 (Option.some .int) ∈ gw := gw_4 (i := 36) rfl rfl
theorem kw757 : Cond.methodLink "Manypanes" 86 ⟨"Manypanes", "refuse", "(I)I"⟩ ∈ gw := gw_4 (i := 37) rfl rfl
theorem kw759 : Cond.instanceMethod ⟨"Manypanes", "refuse", "(I)I"⟩ ∈ gw := gw_4 (i := 39) rfl rfl
theorem kw760 : Cond.code ⟨"Manypanes", "refuse", "(I)I"⟩ prog_1_method_49_code 2 (Option.some .int) ∈ gw := gw_4 (i := 40) rfl rfl
theorem kw761 : Cond.methodLink "ManypanesLaw" 164 ⟨"ManypanesLaw", "reader", "(LManypanes;IILManypanesLaw$Out;)I"⟩ ∈ gw := gw_4 (i := 41) rfl rfl
theorem kw762 : Cond.static ⟨"ManypanesLaw", "reader", "(LManypanes;IILManypanesLaw$Out;)I"⟩ ∈ gw := gw_4 (i := 42) rfl rfl
theorem kw764 : Cond.methodLink "ManypanesLaw" 37 ⟨"Manypanes", "reader", "(II)I"⟩ ∈ gw := gw_4 (i := 44) rfl rfl
theorem kw765 : Cond.instanceMethod ⟨"Manypanes", "reader", "(II)I"⟩ ∈ gw := gw_4 (i := 45) rfl rfl
theorem kw766 : Cond.selects "Manypanes" ⟨"Manypanes", "reader", "(II)I"⟩ ⟨"Manypanes", "reader", "(II)I"⟩ ∈ gw := gw_4 (i := 46) rfl rfl
theorem kw767 : Cond.code ⟨"Manypanes", "reader", "(II)I"⟩ prog_1_method_7_code 5 (Option.some .int) ∈ gw := gw_4 (i := 47) rfl rfl
theorem kw768 : Cond.methodLink "ManypanesLaw" 167 ⟨"ManypanesLaw", "exchange", "(LManypanes;IILManypanesLaw$Out;)I"⟩ ∈ gw := gw_4 (i := 48) rfl rfl
theorem kw769 : Cond.static ⟨"ManypanesLaw", "exchange", "(LManypanes;IILManypanesLaw$Out;)I"⟩ ∈ gw := gw_4 (i := 49) rfl rfl
theorem kw771 : Cond.methodLink "ManypanesLaw" 40 ⟨"Manypanes", "exchange", "(II)I"⟩ ∈ gw := gw_4 (i := 51) rfl rfl
theorem kw772 : Cond.instanceMethod ⟨"Manypanes", "exchange", "(II)I"⟩ ∈ gw := gw_4 (i := 52) rfl rfl
theorem kw773 : Cond.selects "Manypanes" ⟨"Manypanes", "exchange", "(II)I"⟩ ⟨"Manypanes", "exchange", "(II)I"⟩ ∈ gw := gw_4 (i := 53) rfl rfl
theorem kw774 : Cond.code ⟨"Manypanes", "exchange", "(II)I"⟩ prog_1_method_8_code 5 (Option.some .int) ∈ gw := gw_4 (i := 54) rfl rfl
theorem kw775 : Cond.methodLink "Manypanes" 93 ⟨"Manypanes", "setPane", "(ILManypanes$Pane;)V"⟩ ∈ gw := gw_4 (i := 55) rfl rfl
theorem kw777 : Cond.instanceMethod ⟨"Manypanes", "setPane", "(ILManypanes$Pane;)V"⟩ ∈ gw := gw_4 (i := 57) rfl rfl
theorem kw778 : Cond.code ⟨"Manypanes", "setPane", "(ILManypanes$Pane;)V"⟩ prog_1_method_44_code 3 (Option.none : Option ClassFile.FieldType) ∈ gw := gw_4 (i := 58) rfl rfl
theorem kw779 : Cond.methodLink "ManypanesLaw" 170 ⟨"ManypanesLaw", "go", "(LManypanes;IILManypanesLaw$Out;)I"⟩ ∈ gw := gw_4 (i := 59) rfl rfl
theorem kw780 : Cond.static ⟨"ManypanesLaw", "go", "(LManypanes;IILManypanesLaw$Out;)I"⟩ ∈ gw := gw_4 (i := 60) rfl rfl
theorem kw782 : Cond.methodLink "ManypanesLaw" 43 ⟨"Manypanes", "go", "(II)I"⟩ ∈ gw := gw_4 (i := 62) rfl rfl
theorem kw783 : Cond.instanceMethod ⟨"Manypanes", "go", "(II)I"⟩ ∈ gw := gw_4 (i := 63) rfl rfl
theorem kw784 : Cond.selects "Manypanes" ⟨"Manypanes", "go", "(II)I"⟩ ⟨"Manypanes", "go", "(II)I"⟩ ∈ gw := gw_4 (i := 64) rfl rfl
theorem kw785 : Cond.code ⟨"Manypanes", "go", "(II)I"⟩ prog_1_method_9_code 5 (Option.some .int) ∈ gw := gw_4 (i := 65) rfl rfl
theorem kw786 : Cond.methodLink "Manypanes" 97 ⟨"Manypanes$Pane", "moveTo", "(I)V"⟩ ∈ gw := gw_4 (i := 66) rfl rfl
theorem kw787 : Cond.instanceMethod ⟨"Manypanes$Pane", "moveTo", "(I)V"⟩ ∈ gw := gw_4 (i := 67) rfl rfl
theorem kw788 : Cond.selects "Manypanes$Pane" ⟨"Manypanes$Pane", "moveTo", "(I)V"⟩ ⟨"Manypanes$Pane", "moveTo", "(I)V"⟩ ∈ gw := gw_4 (i := 68) rfl rfl
theorem kw789 : Cond.code ⟨"Manypanes$Pane", "moveTo", "(I)V"⟩ prog_3_method_6_code 2 (Option.none : Option ClassFile.FieldType) ∈ gw := gw_4 (i := 69) rfl rfl
theorem kw790 : Cond.methodLink "ManypanesLaw" 173 ⟨"ManypanesLaw", "move", "(LManypanes;IILManypanesLaw$Out;)I"⟩ ∈ gw := gw_4 (i := 70) rfl rfl
theorem kw791 : Cond.static ⟨"ManypanesLaw", "move", "(LManypanes;IILManypanesLaw$Out;)I"⟩ ∈ gw := gw_4 (i := 71) rfl rfl
theorem kw793 : Cond.methodLink "ManypanesLaw" 46 ⟨"Manypanes", "move", "(II)I"⟩ ∈ gw := gw_4 (i := 73) rfl rfl
theorem kw794 : Cond.instanceMethod ⟨"Manypanes", "move", "(II)I"⟩ ∈ gw := gw_4 (i := 74) rfl rfl
theorem kw795 : Cond.selects "Manypanes" ⟨"Manypanes", "move", "(II)I"⟩ ⟨"Manypanes", "move", "(II)I"⟩ ∈ gw := gw_4 (i := 75) rfl rfl
theorem kw796 : Cond.code ⟨"Manypanes", "move", "(II)I"⟩ prog_1_method_10_code 5 (Option.some .int) ∈ gw := gw_4 (i := 76) rfl rfl
theorem kw797 : Cond.methodLink "ManypanesLaw" 176 ⟨"ManypanesLaw", "end", "(LManypanes;IILManypanesLaw$Out;)I"⟩ ∈ gw := gw_4 (i := 77) rfl rfl
theorem kw798 : Cond.static ⟨"ManypanesLaw", "end", "(LManypanes;IILManypanesLaw$Out;)I"⟩ ∈ gw := gw_4 (i := 78) rfl rfl
theorem kw800 : Cond.methodLink "ManypanesLaw" 49 ⟨"Manypanes", "end", "(II)I"⟩ ∈ gw := gw_4 (i := 80) rfl rfl
theorem kw801 : Cond.instanceMethod ⟨"Manypanes", "end", "(II)I"⟩ ∈ gw := gw_4 (i := 81) rfl rfl
theorem kw802 : Cond.selects "Manypanes" ⟨"Manypanes", "end", "(II)I"⟩ ⟨"Manypanes", "end", "(II)I"⟩ ∈ gw := gw_4 (i := 82) rfl rfl
theorem kw803 : Cond.code ⟨"Manypanes", "end", "(II)I"⟩ prog_1_method_11_code 5 (Option.some .int) ∈ gw := gw_4 (i := 83) rfl rfl
theorem kw804 : Cond.methodLink "Manypanes" 103 ⟨"Manypanes$Pane", "endAt", "(I)V"⟩ ∈ gw := gw_4 (i := 84) rfl rfl
theorem kw805 : Cond.instanceMethod ⟨"Manypanes$Pane", "endAt", "(I)V"⟩ ∈ gw := gw_4 (i := 85) rfl rfl
theorem kw806 : Cond.selects "Manypanes$Pane" ⟨"Manypanes$Pane", "endAt", "(I)V"⟩ ⟨"Manypanes$Pane", "endAt", "(I)V"⟩ ∈ gw := gw_4 (i := 86) rfl rfl
theorem kw807 : Cond.code ⟨"Manypanes$Pane", "endAt", "(I)V"⟩ prog_3_method_7_code 2 (Option.none : Option ClassFile.FieldType) ∈ gw := gw_4 (i := 87) rfl rfl
theorem kw808 : Cond.methodLink "ManypanesLaw" 179 ⟨"ManypanesLaw", "stretch", "(LManypanes;IILManypanesLaw$Out;)I"⟩ ∈ gw := gw_4 (i := 88) rfl rfl
theorem kw809 : Cond.static ⟨"ManypanesLaw", "stretch", "(LManypanes;IILManypanesLaw$Out;)I"⟩ ∈ gw := gw_4 (i := 89) rfl rfl
theorem kw811 : Cond.methodLink "ManypanesLaw" 52 ⟨"Manypanes", "stretch", "(II)I"⟩ ∈ gw := gw_4 (i := 91) rfl rfl
theorem kw812 : Cond.instanceMethod ⟨"Manypanes", "stretch", "(II)I"⟩ ∈ gw := gw_4 (i := 92) rfl rfl
theorem kw813 : Cond.selects "Manypanes" ⟨"Manypanes", "stretch", "(II)I"⟩ ⟨"Manypanes", "stretch", "(II)I"⟩ ∈ gw := gw_4 (i := 93) rfl rfl
theorem kw814 : Cond.code ⟨"Manypanes", "stretch", "(II)I"⟩ prog_1_method_12_code 5 (Option.some .int) ∈ gw := gw_4 (i := 94) rfl rfl
theorem kw815 : Cond.methodLink "ManypanesLaw" 182 ⟨"ManypanesLaw", "mark", "(LManypanes;ILManypanesLaw$Out;)I"⟩ ∈ gw := gw_4 (i := 95) rfl rfl
theorem kw816 : Cond.static ⟨"ManypanesLaw", "mark", "(LManypanes;ILManypanesLaw$Out;)I"⟩ ∈ gw := gw_4 (i := 96) rfl rfl
theorem kw818 : Cond.methodLink "ManypanesLaw" 55 ⟨"Manypanes", "mark", "(I)I"⟩ ∈ gw := gw_4 (i := 98) rfl rfl
theorem kw819 : Cond.instanceMethod ⟨"Manypanes", "mark", "(I)I"⟩ ∈ gw := gw_4 (i := 99) rfl rfl
theorem kw820 : Cond.selects "Manypanes" ⟨"Manypanes", "mark", "(I)I"⟩ ⟨"Manypanes", "mark", "(I)I"⟩ ∈ gw := gw_4 (i := 100) rfl rfl
theorem kw821 : Cond.code ⟨"Manypanes", "mark", "(I)I"⟩ prog_1_method_13_code 3 (Option.some .int) ∈ gw := gw_4 (i := 101) rfl rfl
theorem kw822 : Cond.methodLink "ManypanesLaw" 190 ⟨"ManypanesLaw", "back", "(LManypanes;ILManypanesLaw$Out;)I"⟩ ∈ gw := gw_4 (i := 102) rfl rfl
theorem kw823 : Cond.static ⟨"ManypanesLaw", "back", "(LManypanes;ILManypanesLaw$Out;)I"⟩ ∈ gw := gw_4 (i := 103) rfl rfl
theorem kw825 : Cond.methodLink "ManypanesLaw" 59 ⟨"Manypanes", "back", "(I)I"⟩ ∈ gw := gw_4 (i := 105) rfl rfl
theorem kw826 : Cond.instanceMethod ⟨"Manypanes", "back", "(I)I"⟩ ∈ gw := gw_4 (i := 106) rfl rfl
theorem kw827 : Cond.selects "Manypanes" ⟨"Manypanes", "back", "(I)I"⟩ ⟨"Manypanes", "back", "(I)I"⟩ ∈ gw := gw_4 (i := 107) rfl rfl
theorem kw828 : Cond.code ⟨"Manypanes", "back", "(I)I"⟩ prog_1_method_14_code 4 (Option.some .int) ∈ gw := gw_4 (i := 108) rfl rfl
theorem kw829 : Cond.methodLink "ManypanesLaw" 193 ⟨"ManypanesLaw", "clear", "(LManypanes;ILManypanesLaw$Out;)I"⟩ ∈ gw := gw_4 (i := 109) rfl rfl
theorem kw830 : Cond.static ⟨"ManypanesLaw", "clear", "(LManypanes;ILManypanesLaw$Out;)I"⟩ ∈ gw := gw_4 (i := 110) rfl rfl
theorem kw832 : Cond.methodLink "ManypanesLaw" 62 ⟨"Manypanes", "clear", "(I)I"⟩ ∈ gw := gw_4 (i := 112) rfl rfl
theorem kw833 : Cond.instanceMethod ⟨"Manypanes", "clear", "(I)I"⟩ ∈ gw := gw_4 (i := 113) rfl rfl
theorem kw834 : Cond.selects "Manypanes" ⟨"Manypanes", "clear", "(I)I"⟩ ⟨"Manypanes", "clear", "(I)I"⟩ ∈ gw := gw_4 (i := 114) rfl rfl
theorem kw835 : Cond.code ⟨"Manypanes", "clear", "(I)I"⟩ prog_1_method_15_code 3 (Option.some .int) ∈ gw := gw_4 (i := 115) rfl rfl
theorem kw836 : Cond.methodLink "Manypanes" 113 ⟨"Manypanes$Pane", "beginAgain", "(I)V"⟩ ∈ gw := gw_4 (i := 116) rfl rfl
theorem kw837 : Cond.methodLink "ManypanesLaw" 196 ⟨"ManypanesLaw", "flip", "(LManypanes;ILManypanesLaw$Out;)I"⟩ ∈ gw := gw_4 (i := 117) rfl rfl
theorem kw838 : Cond.static ⟨"ManypanesLaw", "flip", "(LManypanes;ILManypanesLaw$Out;)I"⟩ ∈ gw := gw_4 (i := 118) rfl rfl
theorem kw840 : Cond.methodLink "ManypanesLaw" 65 ⟨"Manypanes", "flip", "(I)I"⟩ ∈ gw := gw_4 (i := 120) rfl rfl
theorem kw841 : Cond.instanceMethod ⟨"Manypanes", "flip", "(I)I"⟩ ∈ gw := gw_4 (i := 121) rfl rfl
theorem kw842 : Cond.selects "Manypanes" ⟨"Manypanes", "flip", "(I)I"⟩ ⟨"Manypanes", "flip", "(I)I"⟩ ∈ gw := gw_4 (i := 122) rfl rfl
theorem kw843 : Cond.code ⟨"Manypanes", "flip", "(I)I"⟩ prog_1_method_16_code 3 (Option.some .int) ∈ gw := gw_4 (i := 123) rfl rfl
theorem kw844 : Cond.methodLink "ManypanesLaw" 199 ⟨"ManypanesLaw", "rewind", "(LManypanes;ILManypanesLaw$Out;)I"⟩ ∈ gw := gw_4 (i := 124) rfl rfl
theorem kw845 : Cond.static ⟨"ManypanesLaw", "rewind", "(LManypanes;ILManypanesLaw$Out;)I"⟩ ∈ gw := gw_4 (i := 125) rfl rfl
theorem kw847 : Cond.methodLink "ManypanesLaw" 68 ⟨"Manypanes", "rewind", "(I)I"⟩ ∈ gw := gw_4 (i := 127) rfl rfl
theorem kw848 : Cond.instanceMethod ⟨"Manypanes", "rewind", "(I)I"⟩ ∈ gw := gw_4 (i := 128) rfl rfl
theorem kw849 : Cond.selects "Manypanes" ⟨"Manypanes", "rewind", "(I)I"⟩ ⟨"Manypanes", "rewind", "(I)I"⟩ ∈ gw := gw_4 (i := 129) rfl rfl
theorem kw850 : Cond.code ⟨"Manypanes", "rewind", "(I)I"⟩ prog_1_method_17_code 3 (Option.some .int) ∈ gw := gw_4 (i := 130) rfl rfl
theorem kw851 : Cond.methodLink "ManypanesLaw" 202 ⟨"ManypanesLaw", "put", "(LManypanes;IILManypanesLaw$Out;)I"⟩ ∈ gw := gw_4 (i := 131) rfl rfl
theorem kw852 : Cond.static ⟨"ManypanesLaw", "put", "(LManypanes;IILManypanesLaw$Out;)I"⟩ ∈ gw := gw_4 (i := 132) rfl rfl
theorem kw854 : Cond.methodLink "ManypanesLaw" 71 ⟨"Manypanes", "put", "(II)I"⟩ ∈ gw := gw_4 (i := 134) rfl rfl
theorem kw855 : Cond.instanceMethod ⟨"Manypanes", "put", "(II)I"⟩ ∈ gw := gw_4 (i := 135) rfl rfl
theorem kw856 : Cond.selects "Manypanes" ⟨"Manypanes", "put", "(II)I"⟩ ⟨"Manypanes", "put", "(II)I"⟩ ∈ gw := gw_4 (i := 136) rfl rfl
theorem kw857 : Cond.code ⟨"Manypanes", "put", "(II)I"⟩ prog_1_method_18_code 4 (Option.some .int) ∈ gw := gw_4 (i := 137) rfl rfl
theorem kw858 : Cond.methodLink "Manypanes" 116 ⟨"Manypanes", "needValue", "(I)V"⟩ ∈ gw := gw_4 (i := 138) rfl rfl
theorem kw859 : Cond.static ⟨"Manypanes", "needValue", "(I)V"⟩ ∈ gw := gw_4 (i := 139) rfl rfl
theorem kw860 : Cond.code ⟨"Manypanes", "needValue", "(I)V"⟩ prog_1_method_47_code 1 (Option.none : Option ClassFile.FieldType) ∈ gw := gw_4 (i := 140) rfl rfl
theorem kw862 : Cond.methodLink "Manypanes" 119 ⟨"Manypanes", "tryPut", "(LManypanes$Pane;I)Z"⟩ ∈ gw := gw_4 (i := 142) rfl rfl
theorem kw864 : Cond.instanceMethod ⟨"Manypanes", "tryPut", "(LManypanes$Pane;I)Z"⟩ ∈ gw := gw_4 (i := 144) rfl rfl
theorem kw865 : Cond.code ⟨"Manypanes", "tryPut", "(LManypanes$Pane;I)Z"⟩ prog_1_method_50_code 3 (Option.some .boolean) ∈ gw := gw_4 (i := 145) rfl rfl
theorem kw866 : Cond.methodLink "Manypanes" 227 ⟨"Manypanes$Pane", "putNext", "(I)V"⟩ ∈ gw := gw_4 (i := 146) rfl rfl
theorem kw867 : Cond.instanceMethod ⟨"Manypanes$Pane", "putNext", "(I)V"⟩ ∈ gw := gw_4 (i := 147) rfl rfl
theorem kw868 : Cond.selects "Manypanes$Pane" ⟨"Manypanes$Pane", "putNext", "(I)V"⟩ ⟨"Manypanes$Pane", "putNext", "(I)V"⟩ ∈ gw := gw_4 (i := 148) rfl rfl
theorem kw869 : Cond.code ⟨"Manypanes$Pane", "putNext", "(I)V"⟩ prog_3_method_15_code 2 (Option.none : Option ClassFile.FieldType) ∈ gw := gw_4 (i := 149) rfl rfl
theorem kw870 : Cond.methodLink "Manypanes$Pane" 54 ⟨"Manypanes$Pane", "replace", "(II)I"⟩ ∈ gw := gw_4 (i := 150) rfl rfl
theorem kw871 : Cond.instanceMethod ⟨"Manypanes$Pane", "replace", "(II)I"⟩ ∈ gw := gw_4 (i := 151) rfl rfl
theorem kw872 : Cond.selects "Manypanes$Pane" ⟨"Manypanes$Pane", "replace", "(II)I"⟩ ⟨"Manypanes$Pane", "replace", "(II)I"⟩ ∈ gw := gw_4 (i := 152) rfl rfl
theorem kw873 : Cond.code ⟨"Manypanes$Pane", "replace", "(II)I"⟩ prog_3_method_13_code 3 (Option.some .int) ∈ gw := gw_4 (i := 153) rfl rfl
theorem kw874 : Cond.methodLink "Manypanes$Pane" 49 ⟨"Manypanes$Row", "exchangeAt", "(II)I"⟩ ∈ gw := gw_4 (i := 154) rfl rfl
theorem kw875 : Cond.instanceMethod ⟨"Manypanes$Row", "exchangeAt", "(II)I"⟩ ∈ gw := gw_4 (i := 155) rfl rfl
theorem kw876 : Cond.selects "Manypanes$Row" ⟨"Manypanes$Row", "exchangeAt", "(II)I"⟩ ⟨"Manypanes$Row", "exchangeAt", "(II)I"⟩ ∈ gw := gw_4 (i := 156) rfl rfl
theorem kw877 : Cond.code ⟨"Manypanes$Row", "exchangeAt", "(II)I"⟩ prog_4_method_5_code 4 (Option.some .int) ∈ gw := gw_4 (i := 157) rfl rfl
theorem kw878 : Cond.methodLink "ManypanesLaw" 205 ⟨"ManypanesLaw", "putAt", "(LManypanes;IIILManypanesLaw$Out;)I"⟩ ∈ gw := gw_4 (i := 158) rfl rfl
theorem kw879 : Cond.static ⟨"ManypanesLaw", "putAt", "(LManypanes;IIILManypanesLaw$Out;)I"⟩ ∈ gw := gw_4 (i := 159) rfl rfl
theorem kw881 : Cond.methodLink "ManypanesLaw" 74 ⟨"Manypanes", "putAt", "(III)I"⟩ ∈ gw := gw_4 (i := 161) rfl rfl
theorem kw882 : Cond.instanceMethod ⟨"Manypanes", "putAt", "(III)I"⟩ ∈ gw := gw_4 (i := 162) rfl rfl
theorem kw883 : Cond.selects "Manypanes" ⟨"Manypanes", "putAt", "(III)I"⟩ ⟨"Manypanes", "putAt", "(III)I"⟩ ∈ gw := gw_4 (i := 163) rfl rfl
theorem kw884 : Cond.code ⟨"Manypanes", "putAt", "(III)I"⟩ prog_1_method_19_code 5 (Option.some .int) ∈ gw := gw_4 (i := 164) rfl rfl
theorem kw885 : Cond.methodLink "Manypanes" 123 ⟨"Manypanes$Pane", "hasIndex", "(I)Z"⟩ ∈ gw := gw_4 (i := 165) rfl rfl
theorem kw886 : Cond.instanceMethod ⟨"Manypanes$Pane", "hasIndex", "(I)Z"⟩ ∈ gw := gw_4 (i := 166) rfl rfl
theorem kw887 : Cond.selects "Manypanes$Pane" ⟨"Manypanes$Pane", "hasIndex", "(I)Z"⟩ ⟨"Manypanes$Pane", "hasIndex", "(I)Z"⟩ ∈ gw := gw_4 (i := 167) rfl rfl
theorem kw888 : Cond.code ⟨"Manypanes$Pane", "hasIndex", "(I)Z"⟩ prog_3_method_10_code 2 (Option.some .boolean) ∈ gw := gw_4 (i := 168) rfl rfl
theorem kw889 : Cond.methodLink "Manypanes" 127 ⟨"Manypanes$Pane", "replace", "(II)I"⟩ ∈ gw := gw_4 (i := 169) rfl rfl
theorem kw890 : Cond.methodLink "ManypanesLaw" 208 ⟨"ManypanesLaw", "bring", "(LManypanes;IIIILManypanesLaw$Out;)I"⟩ ∈ gw := gw_4 (i := 170) rfl rfl
theorem kw891 : Cond.static ⟨"ManypanesLaw", "bring", "(LManypanes;IIIILManypanesLaw$Out;)I"⟩ ∈ gw := gw_4 (i := 171) rfl rfl
theorem kw893 : Cond.methodLink "ManypanesLaw" 77 ⟨"Manypanes", "bring", "(IIII)I"⟩ ∈ gw := gw_4 (i := 173) rfl rfl
theorem kw894 : Cond.instanceMethod ⟨"Manypanes", "bring", "(IIII)I"⟩ ∈ gw := gw_4 (i := 174) rfl rfl
theorem kw895 : Cond.selects "Manypanes" ⟨"Manypanes", "bring", "(IIII)I"⟩ ⟨"Manypanes", "bring", "(IIII)I"⟩ ∈ gw := gw_4 (i := 175) rfl rfl
theorem kw896 : Cond.code ⟨"Manypanes", "bring", "(IIII)I"⟩ prog_1_method_20_code 7 (Option.some .int) ∈ gw := gw_4 (i := 176) rfl rfl
theorem kw897 : Cond.methodLink "ManypanesLaw" 211 ⟨"ManypanesLaw", "fill", "(LManypanes;IIIILManypanesLaw$Out;)I"⟩ ∈ gw := gw_4 (i := 177) rfl rfl
theorem kw898 : Cond.static ⟨"ManypanesLaw", "fill", "(LManypanes;IIIILManypanesLaw$Out;)I"⟩ ∈ gw := gw_4 (i := 178) rfl rfl
theorem kw900 : Cond.methodLink "ManypanesLaw" 80 ⟨"Manypanes", "fill", "(IIII)I"⟩ ∈ gw := gw_4 (i := 180) rfl rfl
theorem kw901 : Cond.instanceMethod ⟨"Manypanes", "fill", "(IIII)I"⟩ ∈ gw := gw_4 (i := 181) rfl rfl
theorem kw902 : Cond.selects "Manypanes" ⟨"Manypanes", "fill", "(IIII)I"⟩ ⟨"Manypanes", "fill", "(IIII)I"⟩ ∈ gw := gw_4 (i := 182) rfl rfl
theorem kw903 : Cond.code ⟨"Manypanes", "fill", "(IIII)I"⟩ prog_1_method_21_code 7 (Option.some .int) ∈ gw := gw_4 (i := 183) rfl rfl
theorem kw904 : Cond.constant "Manypanes" 134 (1000000 : Int32) ∈ gw := gw_4 (i := 184) rfl rfl
theorem kw905 : Cond.methodLink "ManypanesLaw" 214 ⟨"ManypanesLaw", "pack", "(LManypanes;ILManypanesLaw$Out;)I"⟩ ∈ gw := gw_4 (i := 185) rfl rfl
theorem kw906 : Cond.static ⟨"ManypanesLaw", "pack", "(LManypanes;ILManypanesLaw$Out;)I"⟩ ∈ gw := gw_4 (i := 186) rfl rfl
theorem kw908 : Cond.methodLink "ManypanesLaw" 83 ⟨"Manypanes", "pack", "(I)I"⟩ ∈ gw := gw_4 (i := 188) rfl rfl
theorem kw909 : Cond.instanceMethod ⟨"Manypanes", "pack", "(I)I"⟩ ∈ gw := gw_4 (i := 189) rfl rfl
theorem kw910 : Cond.selects "Manypanes" ⟨"Manypanes", "pack", "(I)I"⟩ ⟨"Manypanes", "pack", "(I)I"⟩ ∈ gw := gw_4 (i := 190) rfl rfl
theorem kw911 : Cond.code ⟨"Manypanes", "pack", "(I)I"⟩ prog_1_method_22_code 5 (Option.some .int) ∈ gw := gw_4 (i := 191) rfl rfl
theorem kw912 : Cond.methodLink "ManypanesLaw" 217 ⟨"ManypanesLaw", "pour", "(LManypanes;IIILManypanesLaw$Out;)I"⟩ ∈ gw := gw_4 (i := 192) rfl rfl
theorem kw913 : Cond.static ⟨"ManypanesLaw", "pour", "(LManypanes;IIILManypanesLaw$Out;)I"⟩ ∈ gw := gw_4 (i := 193) rfl rfl
theorem kw915 : Cond.methodLink "ManypanesLaw" 86 ⟨"Manypanes", "pour", "(III)I"⟩ ∈ gw := gw_4 (i := 195) rfl rfl
theorem kw916 : Cond.instanceMethod ⟨"Manypanes", "pour", "(III)I"⟩ ∈ gw := gw_4 (i := 196) rfl rfl
theorem kw917 : Cond.selects "Manypanes" ⟨"Manypanes", "pour", "(III)I"⟩ ⟨"Manypanes", "pour", "(III)I"⟩ ∈ gw := gw_4 (i := 197) rfl rfl
theorem kw918 : Cond.code ⟨"Manypanes", "pour", "(III)I"⟩ prog_1_method_23_code 7 (Option.some .int) ∈ gw := gw_4 (i := 198) rfl rfl
theorem kw919 : Cond.methodLink "Manypanes" 135 ⟨"Manypanes", "pourOne", "(LManypanes$Pane;LManypanes$Pane;)Z"⟩ ∈ gw := gw_4 (i := 199) rfl rfl
theorem kw921 : Cond.instanceMethod ⟨"Manypanes", "pourOne", "(LManypanes$Pane;LManypanes$Pane;)Z"⟩ ∈ gw := gw_4 (i := 201) rfl rfl
theorem kw922 : Cond.code ⟨"Manypanes", "pourOne", "(LManypanes$Pane;LManypanes$Pane;)Z"⟩ prog_1_method_51_code 4 (Option.some .boolean) ∈ gw := gw_4 (i := 202) rfl rfl
theorem kw923 : Cond.methodLink "Manypanes" 155 ⟨"Manypanes$Pane", "takeNext", "()I"⟩ ∈ gw := gw_4 (i := 203) rfl rfl
theorem kw924 : Cond.instanceMethod ⟨"Manypanes$Pane", "takeNext", "()I"⟩ ∈ gw := gw_4 (i := 204) rfl rfl
theorem kw925 : Cond.selects "Manypanes$Pane" ⟨"Manypanes$Pane", "takeNext", "()I"⟩ ⟨"Manypanes$Pane", "takeNext", "()I"⟩ ∈ gw := gw_4 (i := 205) rfl rfl
theorem kw926 : Cond.code ⟨"Manypanes$Pane", "takeNext", "()I"⟩ prog_3_method_14_code 2 (Option.some .int) ∈ gw := gw_4 (i := 206) rfl rfl
theorem kw927 : Cond.methodLink "ManypanesLaw" 220 ⟨"ManypanesLaw", "lay", "(LManypanes;IILManypanesLaw$Out;)I"⟩ ∈ gw := gw_4 (i := 207) rfl rfl
theorem kw928 : Cond.static ⟨"ManypanesLaw", "lay", "(LManypanes;IILManypanesLaw$Out;)I"⟩ ∈ gw := gw_4 (i := 208) rfl rfl
theorem kw930 : Cond.methodLink "ManypanesLaw" 89 ⟨"Manypanes", "lay", "(II)I"⟩ ∈ gw := gw_4 (i := 210) rfl rfl
theorem kw931 : Cond.instanceMethod ⟨"Manypanes", "lay", "(II)I"⟩ ∈ gw := gw_4 (i := 211) rfl rfl
theorem kw932 : Cond.selects "Manypanes" ⟨"Manypanes", "lay", "(II)I"⟩ ⟨"Manypanes", "lay", "(II)I"⟩ ∈ gw := gw_4 (i := 212) rfl rfl
theorem kw933 : Cond.code ⟨"Manypanes", "lay", "(II)I"⟩ prog_1_method_24_code 3 (Option.some .int) ∈ gw := gw_4 (i := 213) rfl rfl
theorem kw934 : Cond.methodLink "Manypanes" 139 ⟨"Manypanes$Row", "hasPlace", "(I)Z"⟩ ∈ gw := gw_4 (i := 214) rfl rfl
theorem kw936 : Cond.methodLink "Manypanes" 149 ⟨"Manypanes$Row", "exchangeAt", "(II)I"⟩ ∈ gw := gw_4 (i := 216) rfl rfl
theorem kw937 : Cond.methodLink "ManypanesLaw" 223 ⟨"ManypanesLaw", "reach", "(LManypanes;IIILManypanesLaw$Out;)I"⟩ ∈ gw := gw_4 (i := 217) rfl rfl
theorem kw938 : Cond.static ⟨"ManypanesLaw", "reach", "(LManypanes;IIILManypanesLaw$Out;)I"⟩ ∈ gw := gw_4 (i := 218) rfl rfl
theorem kw940 : Cond.methodLink "ManypanesLaw" 92 ⟨"Manypanes", "reach", "(III)I"⟩ ∈ gw := gw_4 (i := 220) rfl rfl
theorem kw941 : Cond.instanceMethod ⟨"Manypanes", "reach", "(III)I"⟩ ∈ gw := gw_4 (i := 221) rfl rfl
theorem kw942 : Cond.selects "Manypanes" ⟨"Manypanes", "reach", "(III)I"⟩ ⟨"Manypanes", "reach", "(III)I"⟩ ∈ gw := gw_4 (i := 222) rfl rfl
theorem kw943 : Cond.code ⟨"Manypanes", "reach", "(III)I"⟩ prog_1_method_25_code 5 (Option.some .int) ∈ gw := gw_4 (i := 223) rfl rfl
theorem kw944 : Cond.methodLink "ManypanesLaw" 226 ⟨"ManypanesLaw", "get", "(LManypanes;ILManypanesLaw$Out;)I"⟩ ∈ gw := gw_4 (i := 224) rfl rfl
theorem kw945 : Cond.static ⟨"ManypanesLaw", "get", "(LManypanes;ILManypanesLaw$Out;)I"⟩ ∈ gw := gw_4 (i := 225) rfl rfl
theorem kw947 : Cond.methodLink "ManypanesLaw" 95 ⟨"Manypanes", "get", "(I)I"⟩ ∈ gw := gw_4 (i := 227) rfl rfl
theorem kw948 : Cond.instanceMethod ⟨"Manypanes", "get", "(I)I"⟩ ∈ gw := gw_4 (i := 228) rfl rfl
theorem kw949 : Cond.selects "Manypanes" ⟨"Manypanes", "get", "(I)I"⟩ ⟨"Manypanes", "get", "(I)I"⟩ ∈ gw := gw_4 (i := 229) rfl rfl
theorem kw950 : Cond.code ⟨"Manypanes", "get", "(I)I"⟩ prog_1_method_26_code 3 (Option.some .int) ∈ gw := gw_4 (i := 230) rfl rfl
theorem kw951 : Cond.methodLink "ManypanesLaw" 229 ⟨"ManypanesLaw", "drain", "(LManypanes;IILManypanesLaw$Out;)I"⟩ ∈ gw := gw_4 (i := 231) rfl rfl
theorem kw952 : Cond.static ⟨"ManypanesLaw", "drain", "(LManypanes;IILManypanesLaw$Out;)I"⟩ ∈ gw := gw_4 (i := 232) rfl rfl
theorem kw954 : Cond.methodLink "ManypanesLaw" 98 ⟨"Manypanes", "drain", "(II)I"⟩ ∈ gw := gw_4 (i := 234) rfl rfl
theorem kw955 : Cond.instanceMethod ⟨"Manypanes", "drain", "(II)I"⟩ ∈ gw := gw_4 (i := 235) rfl rfl
theorem kw956 : Cond.selects "Manypanes" ⟨"Manypanes", "drain", "(II)I"⟩ ⟨"Manypanes", "drain", "(II)I"⟩ ∈ gw := gw_4 (i := 236) rfl rfl
theorem kw957 : Cond.code ⟨"Manypanes", "drain", "(II)I"⟩ prog_1_method_27_code 5 (Option.some .int) ∈ gw := gw_4 (i := 237) rfl rfl
theorem kw958 : Cond.methodLink "ManypanesLaw" 232 ⟨"ManypanesLaw", "pop", "(LManypanes;ILManypanesLaw$Out;)I"⟩ ∈ gw := gw_4 (i := 238) rfl rfl
theorem kw959 : Cond.static ⟨"ManypanesLaw", "pop", "(LManypanes;ILManypanesLaw$Out;)I"⟩ ∈ gw := gw_4 (i := 239) rfl rfl
theorem kw961 : Cond.methodLink "ManypanesLaw" 101 ⟨"Manypanes", "pop", "(I)I"⟩ ∈ gw := gw_5 (i := 1) rfl rfl
theorem kw962 : Cond.instanceMethod ⟨"Manypanes", "pop", "(I)I"⟩ ∈ gw := gw_5 (i := 2) rfl rfl
theorem kw963 : Cond.selects "Manypanes" ⟨"Manypanes", "pop", "(I)I"⟩ ⟨"Manypanes", "pop", "(I)I"⟩ ∈ gw := gw_5 (i := 3) rfl rfl
theorem kw964 : Cond.code ⟨"Manypanes", "pop", "(I)I"⟩ prog_1_method_28_code 3 (Option.some .int) ∈ gw := gw_5 (i := 4) rfl rfl
theorem kw965 : Cond.methodLink "ManypanesLaw" 235 ⟨"ManypanesLaw", "ofPane", "(LManypanes;IILManypanesLaw$Out;)I"⟩ ∈ gw := gw_5 (i := 5) rfl rfl
theorem kw966 : Cond.static ⟨"ManypanesLaw", "ofPane", "(LManypanes;IILManypanesLaw$Out;)I"⟩ ∈ gw := gw_5 (i := 6) rfl rfl
theorem kw968 : Cond.methodLink "ManypanesLaw" 104 ⟨"Manypanes", "ofPane", "(II)I"⟩ ∈ gw := gw_5 (i := 8) rfl rfl
theorem kw969 : Cond.instanceMethod ⟨"Manypanes", "ofPane", "(II)I"⟩ ∈ gw := gw_5 (i := 9) rfl rfl
theorem kw970 : Cond.selects "Manypanes" ⟨"Manypanes", "ofPane", "(II)I"⟩ ⟨"Manypanes", "ofPane", "(II)I"⟩ ∈ gw := gw_5 (i := 10) rfl rfl
theorem kw971 : Cond.code ⟨"Manypanes", "ofPane", "(II)I"⟩ prog_1_method_29_code 4 (Option.some .int) ∈ gw := gw_5 (i := 11) rfl rfl
theorem kw972 : Cond.methodLink "ManypanesLaw" 238 ⟨"ManypanesLaw", "at", "(LManypanes;IILManypanesLaw$Out;)I"⟩ ∈ gw := gw_5 (i := 12) rfl rfl
theorem kw973 : Cond.static ⟨"ManypanesLaw", "at", "(LManypanes;IILManypanesLaw$Out;)I"⟩ ∈ gw := gw_5 (i := 13) rfl rfl
theorem kw975 : Cond.methodLink "ManypanesLaw" 107 ⟨"Manypanes", "at", "(II)I"⟩ ∈ gw := gw_5 (i := 15) rfl rfl
theorem kw976 : Cond.instanceMethod ⟨"Manypanes", "at", "(II)I"⟩ ∈ gw := gw_5 (i := 16) rfl rfl
theorem kw977 : Cond.selects "Manypanes" ⟨"Manypanes", "at", "(II)I"⟩ ⟨"Manypanes", "at", "(II)I"⟩ ∈ gw := gw_5 (i := 17) rfl rfl
theorem kw978 : Cond.code ⟨"Manypanes", "at", "(II)I"⟩ prog_1_method_30_code 4 (Option.some .int) ∈ gw := gw_5 (i := 18) rfl rfl
theorem kw979 : Cond.methodLink "ManypanesLaw" 241 ⟨"ManypanesLaw", "peek", "(LManypanes;ILManypanesLaw$Out;)I"⟩ ∈ gw := gw_5 (i := 19) rfl rfl
theorem kw980 : Cond.static ⟨"ManypanesLaw", "peek", "(LManypanes;ILManypanesLaw$Out;)I"⟩ ∈ gw := gw_5 (i := 20) rfl rfl
theorem kw982 : Cond.methodLink "ManypanesLaw" 110 ⟨"Manypanes", "peek", "(I)I"⟩ ∈ gw := gw_5 (i := 22) rfl rfl
theorem kw983 : Cond.instanceMethod ⟨"Manypanes", "peek", "(I)I"⟩ ∈ gw := gw_5 (i := 23) rfl rfl
theorem kw984 : Cond.selects "Manypanes" ⟨"Manypanes", "peek", "(I)I"⟩ ⟨"Manypanes", "peek", "(I)I"⟩ ∈ gw := gw_5 (i := 24) rfl rfl
theorem kw985 : Cond.code ⟨"Manypanes", "peek", "(I)I"⟩ prog_1_method_31_code 3 (Option.some .int) ∈ gw := gw_5 (i := 25) rfl rfl
theorem kw986 : Cond.methodLink "ManypanesLaw" 244 ⟨"ManypanesLaw", "total", "(LManypanes;ILManypanesLaw$Out;)I"⟩ ∈ gw := gw_5 (i := 26) rfl rfl
theorem kw987 : Cond.static ⟨"ManypanesLaw", "total", "(LManypanes;ILManypanesLaw$Out;)I"⟩ ∈ gw := gw_5 (i := 27) rfl rfl
theorem kw989 : Cond.methodLink "ManypanesLaw" 113 ⟨"Manypanes", "total", "(I)Ljava/lang/String;"⟩ ∈ gw := gw_5 (i := 29) rfl rfl
theorem kw990 : Cond.instanceMethod ⟨"Manypanes", "total", "(I)Ljava/lang/String;"⟩ ∈ gw := gw_5 (i := 30) rfl rfl
theorem kw991 : Cond.selects "Manypanes" ⟨"Manypanes", "total", "(I)Ljava/lang/String;"⟩ ⟨"Manypanes", "total", "(I)Ljava/lang/String;"⟩ ∈ gw := gw_5 (i := 31) rfl rfl
theorem kw992 : Cond.code ⟨"Manypanes", "total", "(I)Ljava/lang/String;"⟩ prog_1_method_32_code 3 (Option.some (.object "java/lang/String")) ∈ gw := gw_5 (i := 32) rfl rfl
theorem kw993 : Cond.methodLink "ManypanesLaw" 247 ⟨"ManypanesLaw", "text", "(LManypanes;ILManypanesLaw$Out;)I"⟩ ∈ gw := gw_5 (i := 33) rfl rfl
theorem kw994 : Cond.static ⟨"ManypanesLaw", "text", "(LManypanes;ILManypanesLaw$Out;)I"⟩ ∈ gw := gw_5 (i := 34) rfl rfl
theorem kw996 : Cond.methodLink "ManypanesLaw" 121 ⟨"Manypanes", "text", "(I)Ljava/lang/String;"⟩ ∈ gw := gw_5 (i := 36) rfl rfl
theorem kw997 : Cond.instanceMethod ⟨"Manypanes", "text", "(I)Ljava/lang/String;"⟩ ∈ gw := gw_5 (i := 37) rfl rfl
theorem kw998 : Cond.selects "Manypanes" ⟨"Manypanes", "text", "(I)Ljava/lang/String;"⟩ ⟨"Manypanes", "text", "(I)Ljava/lang/String;"⟩ ∈ gw := gw_5 (i := 38) rfl rfl
theorem kw999 : Cond.code ⟨"Manypanes", "text", "(I)Ljava/lang/String;"⟩ prog_1_method_33_code 3 (Option.some (.object "java/lang/String")) ∈ gw := gw_5 (i := 39) rfl rfl
theorem kw1000 : Cond.methodLink "ManypanesLaw" 250 ⟨"ManypanesLaw", "whole", "(LManypanes;ILManypanesLaw$Out;)I"⟩ ∈ gw := gw_5 (i := 40) rfl rfl
theorem kw1001 : Cond.static ⟨"ManypanesLaw", "whole", "(LManypanes;ILManypanesLaw$Out;)I"⟩ ∈ gw := gw_5 (i := 41) rfl rfl
theorem kw1003 : Cond.methodLink "ManypanesLaw" 124 ⟨"Manypanes", "whole", "(I)Ljava/lang/String;"⟩ ∈ gw := gw_5 (i := 43) rfl rfl
theorem kw1004 : Cond.instanceMethod ⟨"Manypanes", "whole", "(I)Ljava/lang/String;"⟩ ∈ gw := gw_5 (i := 44) rfl rfl
theorem kw1005 : Cond.selects "Manypanes" ⟨"Manypanes", "whole", "(I)Ljava/lang/String;"⟩ ⟨"Manypanes", "whole", "(I)Ljava/lang/String;"⟩ ∈ gw := gw_5 (i := 45) rfl rfl
theorem kw1006 : Cond.code ⟨"Manypanes", "whole", "(I)Ljava/lang/String;"⟩ prog_1_method_34_code 3 (Option.some (.object "java/lang/String")) ∈ gw := gw_5 (i := 46) rfl rfl
theorem kw1007 : Cond.methodLink "ManypanesLaw" 258 ⟨"ManypanesLaw", "isKin", "(LManypanes;IILManypanesLaw$Out;)I"⟩ ∈ gw := gw_5 (i := 47) rfl rfl
theorem kw1008 : Cond.static ⟨"ManypanesLaw", "isKin", "(LManypanes;IILManypanesLaw$Out;)I"⟩ ∈ gw := gw_5 (i := 48) rfl rfl
theorem kw1010 : Cond.methodLink "ManypanesLaw" 127 ⟨"Manypanes", "isKin", "(II)I"⟩ ∈ gw := gw_5 (i := 50) rfl rfl
theorem kw1011 : Cond.instanceMethod ⟨"Manypanes", "isKin", "(II)I"⟩ ∈ gw := gw_5 (i := 51) rfl rfl
theorem kw1012 : Cond.selects "Manypanes" ⟨"Manypanes", "isKin", "(II)I"⟩ ⟨"Manypanes", "isKin", "(II)I"⟩ ∈ gw := gw_5 (i := 52) rfl rfl
theorem kw1013 : Cond.code ⟨"Manypanes", "isKin", "(II)I"⟩ prog_1_method_36_code 3 (Option.some .int) ∈ gw := gw_5 (i := 53) rfl rfl
theorem kw1014 : Cond.methodLink "ManypanesLaw" 261 ⟨"ManypanesLaw", "sees", "(LManypanes;IIILManypanesLaw$Out;)I"⟩ ∈ gw := gw_5 (i := 54) rfl rfl
theorem kw1015 : Cond.static ⟨"ManypanesLaw", "sees", "(LManypanes;IIILManypanesLaw$Out;)I"⟩ ∈ gw := gw_5 (i := 55) rfl rfl
theorem kw1017 : Cond.methodLink "ManypanesLaw" 130 ⟨"Manypanes", "sees", "(III)I"⟩ ∈ gw := gw_5 (i := 57) rfl rfl
theorem kw1018 : Cond.instanceMethod ⟨"Manypanes", "sees", "(III)I"⟩ ∈ gw := gw_5 (i := 58) rfl rfl
theorem kw1019 : Cond.selects "Manypanes" ⟨"Manypanes", "sees", "(III)I"⟩ ⟨"Manypanes", "sees", "(III)I"⟩ ∈ gw := gw_5 (i := 59) rfl rfl
theorem kw1020 : Cond.code ⟨"Manypanes", "sees", "(III)I"⟩ prog_1_method_37_code 4 (Option.some .int) ∈ gw := gw_5 (i := 60) rfl rfl
theorem kw1021 : Cond.methodLink "ManypanesLaw" 264 ⟨"ManypanesLaw", "would", "(LManypanes;IILManypanesLaw$Out;)I"⟩ ∈ gw := gw_5 (i := 61) rfl rfl
theorem kw1022 : Cond.static ⟨"ManypanesLaw", "would", "(LManypanes;IILManypanesLaw$Out;)I"⟩ ∈ gw := gw_5 (i := 62) rfl rfl
theorem kw1024 : Cond.methodLink "ManypanesLaw" 133 ⟨"Manypanes", "would", "(II)I"⟩ ∈ gw := gw_5 (i := 64) rfl rfl
theorem kw1025 : Cond.instanceMethod ⟨"Manypanes", "would", "(II)I"⟩ ∈ gw := gw_5 (i := 65) rfl rfl
theorem kw1026 : Cond.selects "Manypanes" ⟨"Manypanes", "would", "(II)I"⟩ ⟨"Manypanes", "would", "(II)I"⟩ ∈ gw := gw_5 (i := 66) rfl rfl
theorem kw1027 : Cond.code ⟨"Manypanes", "would", "(II)I"⟩ prog_1_method_38_code 4 (Option.some .int) ∈ gw := gw_5 (i := 67) rfl rfl
theorem kw1028 : Cond.methodLink "ManypanesLaw" 267 ⟨"ManypanesLaw", "house", "(LManypanes;ILManypanesLaw$Out;)I"⟩ ∈ gw := gw_5 (i := 68) rfl rfl
theorem kw1029 : Cond.static ⟨"ManypanesLaw", "house", "(LManypanes;ILManypanesLaw$Out;)I"⟩ ∈ gw := gw_5 (i := 69) rfl rfl
theorem kw1031 : Cond.methodLink "ManypanesLaw" 136 ⟨"Manypanes", "house", "(I)I"⟩ ∈ gw := gw_5 (i := 71) rfl rfl
theorem kw1032 : Cond.instanceMethod ⟨"Manypanes", "house", "(I)I"⟩ ∈ gw := gw_5 (i := 72) rfl rfl
theorem kw1033 : Cond.selects "Manypanes" ⟨"Manypanes", "house", "(I)I"⟩ ⟨"Manypanes", "house", "(I)I"⟩ ∈ gw := gw_5 (i := 73) rfl rfl
theorem kw1034 : Cond.code ⟨"Manypanes", "house", "(I)I"⟩ prog_1_method_39_code 2 (Option.some .int) ∈ gw := gw_5 (i := 74) rfl rfl
theorem kw1035 : Cond.classLink "ManypanesLaw" 140 "ManypanesModel" ∈ gw := gw_5 (i := 75) rfl rfl
theorem kw1036 : Cond.instantiable "ManypanesModel" 7 ∈ gw := gw_5 (i := 76) rfl rfl
theorem kw1037 : Cond.methodLink "ManypanesLaw" 142 ⟨"ManypanesModel", "<init>", "()V"⟩ ∈ gw := gw_5 (i := 77) rfl rfl
theorem kw1038 : Cond.instanceMethod ⟨"ManypanesModel", "<init>", "()V"⟩ ∈ gw := gw_5 (i := 78) rfl rfl
theorem kw1039 : Cond.code ⟨"ManypanesModel", "<init>", "()V"⟩ prog_7_method_1_code 2 (Option.none : Option ClassFile.FieldType) ∈ gw := gw_5 (i := 79) rfl rfl
theorem kw1040 : Cond.methodLink "ManypanesModel" 1 ⟨"java/lang/Object", "<init>", "()V"⟩ ∈ gw := gw_5 (i := 80) rfl rfl
theorem kw1041 : Cond.classLink "ManypanesModel" 17 "[I" ∈ gw := gw_5 (i := 81) rfl rfl
theorem kn1042 : Cond.arrayOver (.array .int) ∈ z_nest := gn_5 (i := 82) rfl rfl
theorem kw1043 : Cond.methodLink "ManypanesModel" 25 ⟨"ManypanesModel", "over", "(IIII)[I"⟩ ∈ gw := gw_5 (i := 83) rfl rfl
theorem kw1044 : Cond.static ⟨"ManypanesModel", "over", "(IIII)[I"⟩ ∈ gw := gw_5 (i := 84) rfl rfl
theorem kw1045 : Cond.code ⟨"ManypanesModel", "over", "(IIII)[I"⟩ prog_7_method_3_code 4 (Option.some (.array .int)) ∈ gw := gw_5 (i := 85) rfl rfl
theorem kw1046 : Cond.methodLink "ManypanesModel" 29 ⟨"ManypanesModel", "made", "(I)[I"⟩ ∈ gw := gw_5 (i := 86) rfl rfl
theorem kw1048 : Cond.instanceMethod ⟨"ManypanesModel", "made", "(I)[I"⟩ ∈ gw := gw_5 (i := 88) rfl rfl
theorem kw1049 : Cond.code ⟨"ManypanesModel", "made", "(I)[I"⟩ prog_7_method_4_code 4 (Option.some (.array .int)) ∈ gw := gw_5 (i := 89) rfl rfl
theorem kw1050 : Cond.fieldLink "ManypanesModel" 9 "ManypanesModel" "tape" "[I" ∈ gw := gw_5 (i := 90) rfl rfl
theorem kw1051 : Cond.fieldLink "ManypanesModel" 13 "ManypanesModel" "rows" "I" ∈ gw := gw_5 (i := 91) rfl rfl
theorem kw1052 : Cond.fieldLink "ManypanesModel" 18 "ManypanesModel" "panes" "[[I" ∈ gw := gw_5 (i := 92) rfl rfl
theorem kw1053 : Cond.fieldLink "ManypanesModel" 22 "ManypanesModel" "told" "[I" ∈ gw := gw_5 (i := 93) rfl rfl
theorem kw1054 : Cond.fieldLink "ManypanesModel" 40 "ManypanesModel" "acts" "I" ∈ gw := gw_5 (i := 94) rfl rfl
theorem kw1055 : Cond.fieldLink "ManypanesModel" 139 "ManypanesModel" "knocks" "I" ∈ gw := gw_5 (i := 95) rfl rfl
theorem kw1056 : Cond.fieldLink "ManypanesModel" 33 "ManypanesModel" "thrown" "I" ∈ gw := gw_5 (i := 96) rfl rfl
theorem kw1057 : Cond.lays "ManypanesModel" "ManypanesModel" "tape" "[I" ∈ gw := gw_5 (i := 97) rfl rfl
theorem kw1059 : Cond.lays "ManypanesModel" "ManypanesModel" "rows" "I" ∈ gw := gw_5 (i := 99) rfl rfl
theorem kw1061 : Cond.laysFinal "ManypanesModel" "ManypanesModel" "panes" "[[I" ∈ gw := gw_5 (i := 101) rfl rfl
theorem kw1063 : Cond.laysFinal "ManypanesModel" "ManypanesModel" "told" "[I" ∈ gw := gw_5 (i := 103) rfl rfl
theorem kw1065 : Cond.lays "ManypanesModel" "ManypanesModel" "acts" "I" ∈ gw := gw_5 (i := 105) rfl rfl
theorem kw1067 : Cond.lays "ManypanesModel" "ManypanesModel" "knocks" "I" ∈ gw := gw_5 (i := 107) rfl rfl
theorem kw1069 : Cond.lays "ManypanesModel" "ManypanesModel" "thrown" "I" ∈ gw := gw_5 (i := 109) rfl rfl
theorem kw1071 : Cond.superclass "ManypanesModel" "java/lang/Object" ∈ gw := gw_5 (i := 111) rfl rfl
theorem kw1072 : Cond.methodLink "ManypanesLaw" 186 ⟨"ManypanesModel", "thrown", "()I"⟩ ∈ gw := gw_5 (i := 112) rfl rfl
theorem kw1073 : Cond.instanceMethod ⟨"ManypanesModel", "thrown", "()I"⟩ ∈ gw := gw_5 (i := 113) rfl rfl
theorem kw1074 : Cond.selects "ManypanesModel" ⟨"ManypanesModel", "thrown", "()I"⟩ ⟨"ManypanesModel", "thrown", "()I"⟩ ∈ gw := gw_5 (i := 114) rfl rfl
theorem kw1075 : Cond.code ⟨"ManypanesModel", "thrown", "()I"⟩ prog_7_method_2_code 1 (Option.some .int) ∈ gw := gw_5 (i := 115) rfl rfl
theorem kw1076 : Cond.methodLink "ManypanesLaw" 149 ⟨"ManypanesModel", "wrap", "(III)I"⟩ ∈ gw := gw_5 (i := 116) rfl rfl
theorem kw1077 : Cond.instanceMethod ⟨"ManypanesModel", "wrap", "(III)I"⟩ ∈ gw := gw_5 (i := 117) rfl rfl
theorem kw1078 : Cond.selects "ManypanesModel" ⟨"ManypanesModel", "wrap", "(III)I"⟩ ⟨"ManypanesModel", "wrap", "(III)I"⟩ ∈ gw := gw_5 (i := 118) rfl rfl
theorem kw1079 : Cond.code ⟨"ManypanesModel", "wrap", "(III)I"⟩ prog_7_method_17_code 4 (Option.some .int) ∈ gw := gw_5 (i := 119) rfl rfl
theorem kw1080 : Cond.methodLink "ManypanesModel" 55 ⟨"ManypanesModel", "isPane", "(I)Z"⟩ ∈ gw := gw_5 (i := 120) rfl rfl
theorem kw1081 : Cond.static ⟨"ManypanesModel", "isPane", "(I)Z"⟩ ∈ gw := gw_5 (i := 121) rfl rfl
theorem kw1082 : Cond.code ⟨"ManypanesModel", "isPane", "(I)Z"⟩ prog_7_method_8_code 1 (Option.some .boolean) ∈ gw := gw_5 (i := 122) rfl rfl
theorem kw1083 : Cond.methodLink "ManypanesModel" 36 ⟨"ManypanesModel", "isIn", "(III)Z"⟩ ∈ gw := gw_5 (i := 123) rfl rfl
theorem kw1084 : Cond.static ⟨"ManypanesModel", "isIn", "(III)Z"⟩ ∈ gw := gw_5 (i := 124) rfl rfl
theorem kw1085 : Cond.code ⟨"ManypanesModel", "isIn", "(III)Z"⟩ prog_7_method_5_code 3 (Option.some .boolean) ∈ gw := gw_5 (i := 125) rfl rfl
theorem kw1086 : Cond.methodLink "ManypanesModel" 59 ⟨"ManypanesModel", "isLet", "(ZZ)Z"⟩ ∈ gw := gw_5 (i := 126) rfl rfl
theorem kw1088 : Cond.instanceMethod ⟨"ManypanesModel", "isLet", "(ZZ)Z"⟩ ∈ gw := gw_5 (i := 128) rfl rfl
theorem kw1089 : Cond.code ⟨"ManypanesModel", "isLet", "(ZZ)Z"⟩ prog_7_method_7_code 3 (Option.some .boolean) ∈ gw := gw_5 (i := 129) rfl rfl
theorem kw1090 : Cond.methodLink "ManypanesModel" 63 ⟨"ManypanesModel", "did", "(I)I"⟩ ∈ gw := gw_5 (i := 130) rfl rfl
theorem kw1092 : Cond.instanceMethod ⟨"ManypanesModel", "did", "(I)I"⟩ ∈ gw := gw_5 (i := 132) rfl rfl
theorem kw1093 : Cond.code ⟨"ManypanesModel", "did", "(I)I"⟩ prog_7_method_10_code 2 (Option.some .int) ∈ gw := gw_5 (i := 133) rfl rfl
theorem kw1094 : Cond.methodLink "ManypanesLaw" 153 ⟨"ManypanesModel", "fresh", "(II)I"⟩ ∈ gw := gw_5 (i := 134) rfl rfl
theorem kw1095 : Cond.instanceMethod ⟨"ManypanesModel", "fresh", "(II)I"⟩ ∈ gw := gw_5 (i := 135) rfl rfl
theorem kw1096 : Cond.selects "ManypanesModel" ⟨"ManypanesModel", "fresh", "(II)I"⟩ ⟨"ManypanesModel", "fresh", "(II)I"⟩ ∈ gw := gw_5 (i := 136) rfl rfl
theorem kw1097 : Cond.code ⟨"ManypanesModel", "fresh", "(II)I"⟩ prog_7_method_18_code 3 (Option.some .int) ∈ gw := gw_5 (i := 137) rfl rfl
theorem kw1098 : Cond.methodLink "ManypanesLaw" 156 ⟨"ManypanesModel", "twin", "(II)I"⟩ ∈ gw := gw_5 (i := 138) rfl rfl
theorem kw1099 : Cond.instanceMethod ⟨"ManypanesModel", "twin", "(II)I"⟩ ∈ gw := gw_5 (i := 139) rfl rfl
theorem kw1100 : Cond.selects "ManypanesModel" ⟨"ManypanesModel", "twin", "(II)I"⟩ ⟨"ManypanesModel", "twin", "(II)I"⟩ ∈ gw := gw_5 (i := 140) rfl rfl
theorem kw1101 : Cond.code ⟨"ManypanesModel", "twin", "(II)I"⟩ prog_7_method_19_code 3 (Option.some .int) ∈ gw := gw_5 (i := 141) rfl rfl
theorem kw1102 : Cond.methodLink "ManypanesModel" 66 ⟨"ManypanesModel", "like", "([I)[I"⟩ ∈ gw := gw_5 (i := 142) rfl rfl
theorem kw1103 : Cond.static ⟨"ManypanesModel", "like", "([I)[I"⟩ ∈ gw := gw_5 (i := 143) rfl rfl
theorem kw1104 : Cond.code ⟨"ManypanesModel", "like", "([I)[I"⟩ prog_7_method_6_code 3 (Option.some (.array .int)) ∈ gw := gw_5 (i := 144) rfl rfl
theorem kw1105 : Cond.methodLink "ManypanesModel" 43 ⟨"ManypanesModel", "left", "([I)I"⟩ ∈ gw := gw_5 (i := 145) rfl rfl
theorem kw1106 : Cond.static ⟨"ManypanesModel", "left", "([I)I"⟩ ∈ gw := gw_5 (i := 146) rfl rfl
theorem kw1107 : Cond.code ⟨"ManypanesModel", "left", "([I)I"⟩ prog_7_method_11_code 1 (Option.some .int) ∈ gw := gw_5 (i := 147) rfl rfl
theorem kw1108 : Cond.methodLink "ManypanesLaw" 159 ⟨"ManypanesModel", "rest", "(II)I"⟩ ∈ gw := gw_5 (i := 148) rfl rfl
theorem kw1109 : Cond.instanceMethod ⟨"ManypanesModel", "rest", "(II)I"⟩ ∈ gw := gw_5 (i := 149) rfl rfl
theorem kw1110 : Cond.selects "ManypanesModel" ⟨"ManypanesModel", "rest", "(II)I"⟩ ⟨"ManypanesModel", "rest", "(II)I"⟩ ∈ gw := gw_5 (i := 150) rfl rfl
theorem kw1111 : Cond.code ⟨"ManypanesModel", "rest", "(II)I"⟩ prog_7_method_21_code 3 (Option.some .int) ∈ gw := gw_5 (i := 151) rfl rfl
theorem kw1112 : Cond.methodLink "ManypanesModel" 70 ⟨"ManypanesModel", "cut", "(I[III)I"⟩ ∈ gw := gw_5 (i := 152) rfl rfl
theorem kw1114 : Cond.instanceMethod ⟨"ManypanesModel", "cut", "(I[III)I"⟩ ∈ gw := gw_5 (i := 154) rfl rfl
theorem kw1115 : Cond.code ⟨"ManypanesModel", "cut", "(I[III)I"⟩ prog_7_method_20_code 6 (Option.some .int) ∈ gw := gw_5 (i := 155) rfl rfl
theorem kw1116 : Cond.methodLink "ManypanesLaw" 163 ⟨"ManypanesModel", "part", "(IIII)I"⟩ ∈ gw := gw_5 (i := 156) rfl rfl
theorem kw1117 : Cond.instanceMethod ⟨"ManypanesModel", "part", "(IIII)I"⟩ ∈ gw := gw_5 (i := 157) rfl rfl
theorem kw1118 : Cond.selects "ManypanesModel" ⟨"ManypanesModel", "part", "(IIII)I"⟩ ⟨"ManypanesModel", "part", "(IIII)I"⟩ ∈ gw := gw_5 (i := 158) rfl rfl
theorem kw1119 : Cond.code ⟨"ManypanesModel", "part", "(IIII)I"⟩ prog_7_method_22_code 6 (Option.some .int) ∈ gw := gw_5 (i := 159) rfl rfl
theorem kw1120 : Cond.methodLink "ManypanesModel" 47 ⟨"ManypanesModel", "refuse", "(I)I"⟩ ∈ gw := gw_5 (i := 160) rfl rfl
theorem kw1122 : Cond.instanceMethod ⟨"ManypanesModel", "refuse", "(I)I"⟩ ∈ gw := gw_5 (i := 162) rfl rfl
theorem kw1123 : Cond.code ⟨"ManypanesModel", "refuse", "(I)I"⟩ prog_7_method_9_code 2 (Option.some .int) ∈ gw := gw_5 (i := 163) rfl rfl
theorem kw1124 : Cond.methodLink "ManypanesLaw" 166 ⟨"ManypanesModel", "reader", "(II)I"⟩ ∈ gw := gw_5 (i := 164) rfl rfl
theorem kw1125 : Cond.instanceMethod ⟨"ManypanesModel", "reader", "(II)I"⟩ ∈ gw := gw_5 (i := 165) rfl rfl
theorem kw1126 : Cond.selects "ManypanesModel" ⟨"ManypanesModel", "reader", "(II)I"⟩ ⟨"ManypanesModel", "reader", "(II)I"⟩ ∈ gw := gw_5 (i := 166) rfl rfl
theorem kw1127 : Cond.code ⟨"ManypanesModel", "reader", "(II)I"⟩ prog_7_method_23_code 3 (Option.some .int) ∈ gw := gw_5 (i := 167) rfl rfl
theorem kw1128 : Cond.methodLink "ManypanesLaw" 169 ⟨"ManypanesModel", "exchange", "(II)I"⟩ ∈ gw := gw_5 (i := 168) rfl rfl
theorem kw1129 : Cond.instanceMethod ⟨"ManypanesModel", "exchange", "(II)I"⟩ ∈ gw := gw_5 (i := 169) rfl rfl
theorem kw1130 : Cond.selects "ManypanesModel" ⟨"ManypanesModel", "exchange", "(II)I"⟩ ⟨"ManypanesModel", "exchange", "(II)I"⟩ ∈ gw := gw_5 (i := 170) rfl rfl
theorem kw1131 : Cond.code ⟨"ManypanesModel", "exchange", "(II)I"⟩ prog_7_method_24_code 4 (Option.some .int) ∈ gw := gw_5 (i := 171) rfl rfl
theorem kw1132 : Cond.methodLink "ManypanesLaw" 172 ⟨"ManypanesModel", "go", "(II)I"⟩ ∈ gw := gw_5 (i := 172) rfl rfl
theorem kw1133 : Cond.instanceMethod ⟨"ManypanesModel", "go", "(II)I"⟩ ∈ gw := gw_5 (i := 173) rfl rfl
theorem kw1134 : Cond.selects "ManypanesModel" ⟨"ManypanesModel", "go", "(II)I"⟩ ⟨"ManypanesModel", "go", "(II)I"⟩ ∈ gw := gw_5 (i := 174) rfl rfl
theorem kw1135 : Cond.code ⟨"ManypanesModel", "go", "(II)I"⟩ prog_7_method_25_code 5 (Option.some .int) ∈ gw := gw_5 (i := 175) rfl rfl
theorem kw1136 : Cond.methodLink "ManypanesModel" 74 ⟨"ManypanesModel", "moved", "([II)V"⟩ ∈ gw := gw_5 (i := 176) rfl rfl
theorem kw1138 : Cond.instanceMethod ⟨"ManypanesModel", "moved", "([II)V"⟩ ∈ gw := gw_5 (i := 178) rfl rfl
theorem kw1139 : Cond.code ⟨"ManypanesModel", "moved", "([II)V"⟩ prog_7_method_13_code 3 (Option.none : Option ClassFile.FieldType) ∈ gw := gw_5 (i := 179) rfl rfl
theorem kw1140 : Cond.methodLink "ManypanesLaw" 175 ⟨"ManypanesModel", "move", "(II)I"⟩ ∈ gw := gw_5 (i := 180) rfl rfl
theorem kw1141 : Cond.instanceMethod ⟨"ManypanesModel", "move", "(II)I"⟩ ∈ gw := gw_5 (i := 181) rfl rfl
theorem kw1142 : Cond.selects "ManypanesModel" ⟨"ManypanesModel", "move", "(II)I"⟩ ⟨"ManypanesModel", "move", "(II)I"⟩ ∈ gw := gw_5 (i := 182) rfl rfl
theorem kw1143 : Cond.code ⟨"ManypanesModel", "move", "(II)I"⟩ prog_7_method_26_code 4 (Option.some .int) ∈ gw := gw_5 (i := 183) rfl rfl
theorem kw1144 : Cond.methodLink "ManypanesModel" 78 ⟨"ManypanesModel", "go", "(II)I"⟩ ∈ gw := gw_5 (i := 184) rfl rfl
theorem kw1145 : Cond.methodLink "ManypanesLaw" 178 ⟨"ManypanesModel", "end", "(II)I"⟩ ∈ gw := gw_5 (i := 185) rfl rfl
theorem kw1146 : Cond.instanceMethod ⟨"ManypanesModel", "end", "(II)I"⟩ ∈ gw := gw_5 (i := 186) rfl rfl
theorem kw1147 : Cond.selects "ManypanesModel" ⟨"ManypanesModel", "end", "(II)I"⟩ ⟨"ManypanesModel", "end", "(II)I"⟩ ∈ gw := gw_5 (i := 187) rfl rfl
theorem kw1148 : Cond.code ⟨"ManypanesModel", "end", "(II)I"⟩ prog_7_method_27_code 5 (Option.some .int) ∈ gw := gw_5 (i := 188) rfl rfl
theorem kw1149 : Cond.methodLink "ManypanesModel" 82 ⟨"ManypanesModel", "ended", "([II)V"⟩ ∈ gw := gw_5 (i := 189) rfl rfl
theorem kw1151 : Cond.instanceMethod ⟨"ManypanesModel", "ended", "([II)V"⟩ ∈ gw := gw_5 (i := 191) rfl rfl
theorem kw1152 : Cond.code ⟨"ManypanesModel", "ended", "([II)V"⟩ prog_7_method_14_code 3 (Option.none : Option ClassFile.FieldType) ∈ gw := gw_5 (i := 192) rfl rfl
theorem kw1153 : Cond.methodLink "ManypanesLaw" 181 ⟨"ManypanesModel", "stretch", "(II)I"⟩ ∈ gw := gw_5 (i := 193) rfl rfl
theorem kw1154 : Cond.instanceMethod ⟨"ManypanesModel", "stretch", "(II)I"⟩ ∈ gw := gw_5 (i := 194) rfl rfl
theorem kw1155 : Cond.selects "ManypanesModel" ⟨"ManypanesModel", "stretch", "(II)I"⟩ ⟨"ManypanesModel", "stretch", "(II)I"⟩ ∈ gw := gw_5 (i := 195) rfl rfl
theorem kw1156 : Cond.code ⟨"ManypanesModel", "stretch", "(II)I"⟩ prog_7_method_28_code 4 (Option.some .int) ∈ gw := gw_5 (i := 196) rfl rfl
theorem kw1157 : Cond.methodLink "ManypanesModel" 85 ⟨"ManypanesModel", "end", "(II)I"⟩ ∈ gw := gw_5 (i := 197) rfl rfl
theorem kw1158 : Cond.methodLink "ManypanesLaw" 185 ⟨"ManypanesModel", "mark", "(I)I"⟩ ∈ gw := gw_5 (i := 198) rfl rfl
theorem kw1159 : Cond.instanceMethod ⟨"ManypanesModel", "mark", "(I)I"⟩ ∈ gw := gw_5 (i := 199) rfl rfl
theorem kw1160 : Cond.selects "ManypanesModel" ⟨"ManypanesModel", "mark", "(I)I"⟩ ⟨"ManypanesModel", "mark", "(I)I"⟩ ∈ gw := gw_5 (i := 200) rfl rfl
theorem kw1161 : Cond.code ⟨"ManypanesModel", "mark", "(I)I"⟩ prog_7_method_29_code 2 (Option.some .int) ∈ gw := gw_5 (i := 201) rfl rfl
theorem kw1162 : Cond.methodLink "ManypanesLaw" 192 ⟨"ManypanesModel", "back", "(I)I"⟩ ∈ gw := gw_5 (i := 202) rfl rfl
theorem kw1163 : Cond.instanceMethod ⟨"ManypanesModel", "back", "(I)I"⟩ ∈ gw := gw_5 (i := 203) rfl rfl
theorem kw1164 : Cond.selects "ManypanesModel" ⟨"ManypanesModel", "back", "(I)I"⟩ ⟨"ManypanesModel", "back", "(I)I"⟩ ∈ gw := gw_5 (i := 204) rfl rfl
theorem kw1165 : Cond.code ⟨"ManypanesModel", "back", "(I)I"⟩ prog_7_method_30_code 4 (Option.some .int) ∈ gw := gw_5 (i := 205) rfl rfl
theorem kw1166 : Cond.methodLink "ManypanesLaw" 195 ⟨"ManypanesModel", "clear", "(I)I"⟩ ∈ gw := gw_5 (i := 206) rfl rfl
theorem kw1167 : Cond.instanceMethod ⟨"ManypanesModel", "clear", "(I)I"⟩ ∈ gw := gw_5 (i := 207) rfl rfl
theorem kw1168 : Cond.selects "ManypanesModel" ⟨"ManypanesModel", "clear", "(I)I"⟩ ⟨"ManypanesModel", "clear", "(I)I"⟩ ∈ gw := gw_5 (i := 208) rfl rfl
theorem kw1169 : Cond.code ⟨"ManypanesModel", "clear", "(I)I"⟩ prog_7_method_32_code 2 (Option.some .int) ∈ gw := gw_5 (i := 209) rfl rfl
theorem kw1170 : Cond.methodLink "ManypanesModel" 88 ⟨"ManypanesModel", "begun", "([III)I"⟩ ∈ gw := gw_5 (i := 210) rfl rfl
theorem kw1172 : Cond.instanceMethod ⟨"ManypanesModel", "begun", "([III)I"⟩ ∈ gw := gw_5 (i := 212) rfl rfl
theorem kw1173 : Cond.code ⟨"ManypanesModel", "begun", "([III)I"⟩ prog_7_method_31_code 4 (Option.some .int) ∈ gw := gw_5 (i := 213) rfl rfl
theorem kw1174 : Cond.methodLink "ManypanesLaw" 198 ⟨"ManypanesModel", "flip", "(I)I"⟩ ∈ gw := gw_5 (i := 214) rfl rfl
theorem kw1175 : Cond.instanceMethod ⟨"ManypanesModel", "flip", "(I)I"⟩ ∈ gw := gw_5 (i := 215) rfl rfl
theorem kw1176 : Cond.selects "ManypanesModel" ⟨"ManypanesModel", "flip", "(I)I"⟩ ⟨"ManypanesModel", "flip", "(I)I"⟩ ∈ gw := gw_5 (i := 216) rfl rfl
theorem kw1177 : Cond.code ⟨"ManypanesModel", "flip", "(I)I"⟩ prog_7_method_33_code 2 (Option.some .int) ∈ gw := gw_5 (i := 217) rfl rfl
theorem kw1178 : Cond.methodLink "ManypanesLaw" 201 ⟨"ManypanesModel", "rewind", "(I)I"⟩ ∈ gw := gw_5 (i := 218) rfl rfl
theorem kw1179 : Cond.instanceMethod ⟨"ManypanesModel", "rewind", "(I)I"⟩ ∈ gw := gw_5 (i := 219) rfl rfl
theorem kw1180 : Cond.selects "ManypanesModel" ⟨"ManypanesModel", "rewind", "(I)I"⟩ ⟨"ManypanesModel", "rewind", "(I)I"⟩ ∈ gw := gw_5 (i := 220) rfl rfl
theorem kw1181 : Cond.code ⟨"ManypanesModel", "rewind", "(I)I"⟩ prog_7_method_34_code 2 (Option.some .int) ∈ gw := gw_5 (i := 221) rfl rfl
theorem kw1182 : Cond.methodLink "ManypanesLaw" 204 ⟨"ManypanesModel", "put", "(II)I"⟩ ∈ gw := gw_5 (i := 222) rfl rfl
theorem kw1183 : Cond.instanceMethod ⟨"ManypanesModel", "put", "(II)I"⟩ ∈ gw := gw_5 (i := 223) rfl rfl
theorem kw1184 : Cond.selects "ManypanesModel" ⟨"ManypanesModel", "put", "(II)I"⟩ ⟨"ManypanesModel", "put", "(II)I"⟩ ∈ gw := gw_5 (i := 224) rfl rfl
theorem kw1185 : Cond.code ⟨"ManypanesModel", "put", "(II)I"⟩ prog_7_method_35_code 3 (Option.some .int) ∈ gw := gw_5 (i := 225) rfl rfl
theorem kw1186 : Cond.methodLink "ManypanesModel" 92 ⟨"ManypanesModel", "puts", "([II)I"⟩ ∈ gw := gw_5 (i := 226) rfl rfl
theorem kw1188 : Cond.instanceMethod ⟨"ManypanesModel", "puts", "([II)I"⟩ ∈ gw := gw_5 (i := 228) rfl rfl
theorem kw1189 : Cond.code ⟨"ManypanesModel", "puts", "([II)I"⟩ prog_7_method_15_code 4 (Option.some .int) ∈ gw := gw_5 (i := 229) rfl rfl
theorem kw1190 : Cond.methodLink "ManypanesModel" 51 ⟨"ManypanesModel", "where", "([II)I"⟩ ∈ gw := gw_5 (i := 230) rfl rfl
theorem kw1192 : Cond.instanceMethod ⟨"ManypanesModel", "where", "([II)I"⟩ ∈ gw := gw_5 (i := 232) rfl rfl
theorem kw1193 : Cond.code ⟨"ManypanesModel", "where", "([II)I"⟩ prog_7_method_12_code 3 (Option.some .int) ∈ gw := gw_5 (i := 233) rfl rfl
theorem kw1194 : Cond.methodLink "ManypanesLaw" 207 ⟨"ManypanesModel", "putAt", "(III)I"⟩ ∈ gw := gw_5 (i := 234) rfl rfl
theorem kw1195 : Cond.instanceMethod ⟨"ManypanesModel", "putAt", "(III)I"⟩ ∈ gw := gw_5 (i := 235) rfl rfl
theorem kw1196 : Cond.selects "ManypanesModel" ⟨"ManypanesModel", "putAt", "(III)I"⟩ ⟨"ManypanesModel", "putAt", "(III)I"⟩ ∈ gw := gw_5 (i := 236) rfl rfl
theorem kw1197 : Cond.code ⟨"ManypanesModel", "putAt", "(III)I"⟩ prog_7_method_36_code 5 (Option.some .int) ∈ gw := gw_5 (i := 237) rfl rfl
theorem kw1198 : Cond.methodLink "ManypanesModel" 95 ⟨"ManypanesModel", "written", "(II)I"⟩ ∈ gw := gw_5 (i := 238) rfl rfl
theorem kw1200 : Cond.instanceMethod ⟨"ManypanesModel", "written", "(II)I"⟩ ∈ gw := gw_6 (i := 0) rfl rfl
theorem kw1201 : Cond.code ⟨"ManypanesModel", "written", "(II)I"⟩ prog_7_method_16_code 4 (Option.some .int) ∈ gw := gw_6 (i := 1) rfl rfl
theorem kw1202 : Cond.methodLink "ManypanesLaw" 210 ⟨"ManypanesModel", "bring", "(IIII)I"⟩ ∈ gw := gw_6 (i := 2) rfl rfl
theorem kw1203 : Cond.instanceMethod ⟨"ManypanesModel", "bring", "(IIII)I"⟩ ∈ gw := gw_6 (i := 3) rfl rfl
theorem kw1204 : Cond.selects "ManypanesModel" ⟨"ManypanesModel", "bring", "(IIII)I"⟩ ⟨"ManypanesModel", "bring", "(IIII)I"⟩ ∈ gw := gw_6 (i := 4) rfl rfl
theorem kw1205 : Cond.code ⟨"ManypanesModel", "bring", "(IIII)I"⟩ prog_7_method_37_code 7 (Option.some .int) ∈ gw := gw_6 (i := 5) rfl rfl
theorem kw1206 : Cond.methodLink "ManypanesLaw" 213 ⟨"ManypanesModel", "fill", "(IIII)I"⟩ ∈ gw := gw_6 (i := 6) rfl rfl
theorem kw1207 : Cond.instanceMethod ⟨"ManypanesModel", "fill", "(IIII)I"⟩ ∈ gw := gw_6 (i := 7) rfl rfl
theorem kw1208 : Cond.selects "ManypanesModel" ⟨"ManypanesModel", "fill", "(IIII)I"⟩ ⟨"ManypanesModel", "fill", "(IIII)I"⟩ ∈ gw := gw_6 (i := 8) rfl rfl
theorem kw1209 : Cond.code ⟨"ManypanesModel", "fill", "(IIII)I"⟩ prog_7_method_38_code 6 (Option.some .int) ∈ gw := gw_6 (i := 9) rfl rfl
theorem kw1210 : Cond.constant "ManypanesModel" 98 (1000000 : Int32) ∈ gw := gw_6 (i := 10) rfl rfl
theorem kw1211 : Cond.methodLink "ManypanesLaw" 216 ⟨"ManypanesModel", "pack", "(I)I"⟩ ∈ gw := gw_6 (i := 11) rfl rfl
theorem kw1212 : Cond.instanceMethod ⟨"ManypanesModel", "pack", "(I)I"⟩ ∈ gw := gw_6 (i := 12) rfl rfl
theorem kw1213 : Cond.selects "ManypanesModel" ⟨"ManypanesModel", "pack", "(I)I"⟩ ⟨"ManypanesModel", "pack", "(I)I"⟩ ∈ gw := gw_6 (i := 13) rfl rfl
theorem kw1214 : Cond.code ⟨"ManypanesModel", "pack", "(I)I"⟩ prog_7_method_39_code 5 (Option.some .int) ∈ gw := gw_6 (i := 14) rfl rfl
theorem kw1215 : Cond.methodLink "ManypanesLaw" 219 ⟨"ManypanesModel", "pour", "(III)I"⟩ ∈ gw := gw_6 (i := 15) rfl rfl
theorem kw1216 : Cond.instanceMethod ⟨"ManypanesModel", "pour", "(III)I"⟩ ∈ gw := gw_6 (i := 16) rfl rfl
theorem kw1217 : Cond.selects "ManypanesModel" ⟨"ManypanesModel", "pour", "(III)I"⟩ ⟨"ManypanesModel", "pour", "(III)I"⟩ ∈ gw := gw_6 (i := 17) rfl rfl
theorem kw1218 : Cond.code ⟨"ManypanesModel", "pour", "(III)I"⟩ prog_7_method_40_code 6 (Option.some .int) ∈ gw := gw_6 (i := 18) rfl rfl
theorem kw1219 : Cond.methodLink "ManypanesLaw" 222 ⟨"ManypanesModel", "lay", "(II)I"⟩ ∈ gw := gw_6 (i := 19) rfl rfl
theorem kw1220 : Cond.instanceMethod ⟨"ManypanesModel", "lay", "(II)I"⟩ ∈ gw := gw_6 (i := 20) rfl rfl
theorem kw1221 : Cond.selects "ManypanesModel" ⟨"ManypanesModel", "lay", "(II)I"⟩ ⟨"ManypanesModel", "lay", "(II)I"⟩ ∈ gw := gw_6 (i := 21) rfl rfl
theorem kw1222 : Cond.code ⟨"ManypanesModel", "lay", "(II)I"⟩ prog_7_method_41_code 3 (Option.some .int) ∈ gw := gw_6 (i := 22) rfl rfl
theorem kw1223 : Cond.methodLink "ManypanesLaw" 225 ⟨"ManypanesModel", "reach", "(III)I"⟩ ∈ gw := gw_6 (i := 23) rfl rfl
theorem kw1224 : Cond.instanceMethod ⟨"ManypanesModel", "reach", "(III)I"⟩ ∈ gw := gw_6 (i := 24) rfl rfl
theorem kw1225 : Cond.selects "ManypanesModel" ⟨"ManypanesModel", "reach", "(III)I"⟩ ⟨"ManypanesModel", "reach", "(III)I"⟩ ∈ gw := gw_6 (i := 25) rfl rfl
theorem kw1226 : Cond.code ⟨"ManypanesModel", "reach", "(III)I"⟩ prog_7_method_42_code 5 (Option.some .int) ∈ gw := gw_6 (i := 26) rfl rfl
theorem kw1227 : Cond.methodLink "ManypanesLaw" 228 ⟨"ManypanesModel", "get", "(I)I"⟩ ∈ gw := gw_6 (i := 27) rfl rfl
theorem kw1228 : Cond.instanceMethod ⟨"ManypanesModel", "get", "(I)I"⟩ ∈ gw := gw_6 (i := 28) rfl rfl
theorem kw1229 : Cond.selects "ManypanesModel" ⟨"ManypanesModel", "get", "(I)I"⟩ ⟨"ManypanesModel", "get", "(I)I"⟩ ∈ gw := gw_6 (i := 29) rfl rfl
theorem kw1230 : Cond.code ⟨"ManypanesModel", "get", "(I)I"⟩ prog_7_method_43_code 3 (Option.some .int) ∈ gw := gw_6 (i := 30) rfl rfl
theorem kw1231 : Cond.methodLink "ManypanesLaw" 231 ⟨"ManypanesModel", "drain", "(II)I"⟩ ∈ gw := gw_6 (i := 31) rfl rfl
theorem kw1232 : Cond.instanceMethod ⟨"ManypanesModel", "drain", "(II)I"⟩ ∈ gw := gw_6 (i := 32) rfl rfl
theorem kw1233 : Cond.selects "ManypanesModel" ⟨"ManypanesModel", "drain", "(II)I"⟩ ⟨"ManypanesModel", "drain", "(II)I"⟩ ∈ gw := gw_6 (i := 33) rfl rfl
theorem kw1234 : Cond.code ⟨"ManypanesModel", "drain", "(II)I"⟩ prog_7_method_44_code 5 (Option.some .int) ∈ gw := gw_6 (i := 34) rfl rfl
theorem kw1235 : Cond.methodLink "ManypanesModel" 99 ⟨"java/lang/Math", "min", "(II)I"⟩ ∈ gw := gw_6 (i := 35) rfl rfl
theorem kw1236 : Cond.methodLink "ManypanesLaw" 234 ⟨"ManypanesModel", "pop", "(I)I"⟩ ∈ gw := gw_6 (i := 36) rfl rfl
theorem kw1237 : Cond.instanceMethod ⟨"ManypanesModel", "pop", "(I)I"⟩ ∈ gw := gw_6 (i := 37) rfl rfl
theorem kw1238 : Cond.selects "ManypanesModel" ⟨"ManypanesModel", "pop", "(I)I"⟩ ⟨"ManypanesModel", "pop", "(I)I"⟩ ∈ gw := gw_6 (i := 38) rfl rfl
theorem kw1239 : Cond.code ⟨"ManypanesModel", "pop", "(I)I"⟩ prog_7_method_45_code 3 (Option.some .int) ∈ gw := gw_6 (i := 39) rfl rfl
theorem kw1240 : Cond.methodLink "ManypanesLaw" 237 ⟨"ManypanesModel", "ofPane", "(II)I"⟩ ∈ gw := gw_6 (i := 40) rfl rfl
theorem kw1241 : Cond.instanceMethod ⟨"ManypanesModel", "ofPane", "(II)I"⟩ ∈ gw := gw_6 (i := 41) rfl rfl
theorem kw1242 : Cond.selects "ManypanesModel" ⟨"ManypanesModel", "ofPane", "(II)I"⟩ ⟨"ManypanesModel", "ofPane", "(II)I"⟩ ∈ gw := gw_6 (i := 42) rfl rfl
theorem kw1243 : Cond.code ⟨"ManypanesModel", "ofPane", "(II)I"⟩ prog_7_method_46_code 5 (Option.some .int) ∈ gw := gw_6 (i := 43) rfl rfl
theorem kw1244 : Cond.methodLink "ManypanesLaw" 240 ⟨"ManypanesModel", "at", "(II)I"⟩ ∈ gw := gw_6 (i := 44) rfl rfl
theorem kw1245 : Cond.instanceMethod ⟨"ManypanesModel", "at", "(II)I"⟩ ∈ gw := gw_6 (i := 45) rfl rfl
theorem kw1246 : Cond.selects "ManypanesModel" ⟨"ManypanesModel", "at", "(II)I"⟩ ⟨"ManypanesModel", "at", "(II)I"⟩ ∈ gw := gw_6 (i := 46) rfl rfl
theorem kw1247 : Cond.code ⟨"ManypanesModel", "at", "(II)I"⟩ prog_7_method_47_code 3 (Option.some .int) ∈ gw := gw_6 (i := 47) rfl rfl
theorem kw1248 : Cond.methodLink "ManypanesLaw" 243 ⟨"ManypanesModel", "peek", "(I)I"⟩ ∈ gw := gw_6 (i := 48) rfl rfl
theorem kw1249 : Cond.instanceMethod ⟨"ManypanesModel", "peek", "(I)I"⟩ ∈ gw := gw_6 (i := 49) rfl rfl
theorem kw1250 : Cond.selects "ManypanesModel" ⟨"ManypanesModel", "peek", "(I)I"⟩ ⟨"ManypanesModel", "peek", "(I)I"⟩ ∈ gw := gw_6 (i := 50) rfl rfl
theorem kw1251 : Cond.code ⟨"ManypanesModel", "peek", "(I)I"⟩ prog_7_method_48_code 2 (Option.some .int) ∈ gw := gw_6 (i := 51) rfl rfl
theorem kw1252 : Cond.methodLink "ManypanesLaw" 246 ⟨"ManypanesModel", "total", "(I)Ljava/lang/String;"⟩ ∈ gw := gw_6 (i := 52) rfl rfl
theorem kw1253 : Cond.instanceMethod ⟨"ManypanesModel", "total", "(I)Ljava/lang/String;"⟩ ∈ gw := gw_6 (i := 53) rfl rfl
theorem kw1254 : Cond.selects "ManypanesModel" ⟨"ManypanesModel", "total", "(I)Ljava/lang/String;"⟩ ⟨"ManypanesModel", "total", "(I)Ljava/lang/String;"⟩ ∈ gw := gw_6 (i := 54) rfl rfl
theorem kw1255 : Cond.code ⟨"ManypanesModel", "total", "(I)Ljava/lang/String;"⟩ prog_7_method_49_code 5 (Option.some (.object "java/lang/String")) ∈ gw := gw_6 (i := 55) rfl rfl
theorem kw1257 : Cond.classLink "ManypanesModel" 106 "java/lang/StringBuilder" ∈ gw := gw_6 (i := 57) rfl rfl
theorem kw1258 : Cond.methodLink "ManypanesModel" 108 ⟨"java/lang/StringBuilder", "<init>", "()V"⟩ ∈ gw := gw_6 (i := 58) rfl rfl
theorem kw1259 : Cond.methodLink "ManypanesModel" 109 ⟨"java/lang/StringBuilder", "append", "(Ljava/lang/String;)Ljava/lang/StringBuilder;"⟩ ∈ gw := gw_6 (i := 59) rfl rfl
theorem kw1260 : Cond.methodLink "ManypanesModel" 113 ⟨"java/lang/StringBuilder", "append", "(J)Ljava/lang/StringBuilder;"⟩ ∈ gw := gw_6 (i := 60) rfl rfl
theorem kw1261 : Cond.instanceMethod ⟨"java/lang/StringBuilder", "append", "(J)Ljava/lang/StringBuilder;"⟩ ∈ gw := gw_6 (i := 61) rfl rfl
theorem kw1262 : Cond.selects "java/lang/StringBuilder" ⟨"java/lang/StringBuilder", "append", "(J)Ljava/lang/StringBuilder;"⟩ ⟨"java/lang/StringBuilder", "append", "(J)Ljava/lang/StringBuilder;"⟩ ∈ gw := gw_6 (i := 62) rfl rfl
theorem kw1263 : Cond.code ⟨"java/lang/StringBuilder", "append", "(J)Ljava/lang/StringBuilder;"⟩ prog_19_method_16_code 3 (Option.some (.object "java/lang/StringBuilder")) ∈ gw := gw_6 (i := 63) rfl rfl
theorem kw1264 : Cond.methodLink "java/lang/StringBuilder" 56 ⟨"java/lang/AbstractStringBuilder", "append", "(J)Ljava/lang/AbstractStringBuilder;"⟩ ∈ gw := gw_6 (i := 64) rfl rfl
theorem kw1265 : Cond.instanceMethod ⟨"java/lang/AbstractStringBuilder", "append", "(J)Ljava/lang/AbstractStringBuilder;"⟩ ∈ gw := gw_6 (i := 65) rfl rfl
theorem kw1266 : Cond.code ⟨"java/lang/AbstractStringBuilder", "append", "(J)Ljava/lang/AbstractStringBuilder;"⟩ prog_8_method_33_code 5 (Option.some (.object "java/lang/AbstractStringBuilder")) ∈ gw := gw_6 (i := 66) rfl rfl
theorem kw1267 : Cond.methodLink "java/lang/AbstractStringBuilder" 254 ⟨"java/lang/Long", "stringSize", "(J)I"⟩ ∈ gw := gw_6 (i := 67) rfl rfl
theorem kw1268 : Cond.static ⟨"java/lang/Long", "stringSize", "(J)I"⟩ ∈ gw := gw_6 (i := 68) rfl rfl
theorem kw1269 : Cond.code ⟨"java/lang/Long", "stringSize", "(J)I"⟩ prog_15_method_15_code 6 (Option.some .int) ∈ gw := gw_6 (i := 69) rfl rfl
theorem kw1270 : Cond.constantLong "java/lang/Long" 140 (-10 : Int64) ∈ gw := gw_6 (i := 70) rfl rfl
theorem kw1271 : Cond.constantLong "java/lang/Long" 53 (10 : Int64) ∈ gw := gw_6 (i := 71) rfl rfl
theorem kw1272 : Cond.methodLink "java/lang/AbstractStringBuilder" 259 ⟨"java/lang/Long", "getChars", "(JI[B)I"⟩ ∈ gw := gw_6 (i := 72) rfl rfl
theorem kw1273 : Cond.static ⟨"java/lang/Long", "getChars", "(JI[B)I"⟩ ∈ gw := gw_6 (i := 73) rfl rfl
theorem kw1274 : Cond.code ⟨"java/lang/Long", "getChars", "(JI[B)I"⟩ prog_15_method_14_code 11 (Option.some .int) ∈ gw := gw_6 (i := 74) rfl rfl
theorem kw1275 : Cond.constantLong "java/lang/Long" 129 (-2147483648 : Int64) ∈ gw := gw_6 (i := 75) rfl rfl
theorem kw1276 : Cond.constantLong "java/lang/Long" 131 (100 : Int64) ∈ gw := gw_6 (i := 76) rfl rfl
theorem kw1277 : Cond.fieldLink "java/lang/Long" 133 "java/lang/Integer" "DigitOnes" "[B" ∈ gw := gw_6 (i := 77) rfl rfl
theorem kw1278 : Cond.fieldLink "java/lang/Long" 137 "java/lang/Integer" "DigitTens" "[B" ∈ gw := gw_6 (i := 78) rfl rfl
theorem kw1279 : Cond.methodLink "java/lang/AbstractStringBuilder" 262 ⟨"java/lang/StringUTF16", "getChars", "(JII[B)I"⟩ ∈ gw := gw_6 (i := 79) rfl rfl
theorem kw1280 : Cond.static ⟨"java/lang/StringUTF16", "getChars", "(JII[B)I"⟩ ∈ gw := gw_6 (i := 80) rfl rfl
theorem kw1281 : Cond.code ⟨"java/lang/StringUTF16", "getChars", "(JII[B)I"⟩ prog_22_method_78_code 6 (Option.some .int) ∈ gw := gw_6 (i := 81) rfl rfl
theorem kw1282 : Cond.methodLink "java/lang/StringUTF16" 396 ⟨"java/lang/StringUTF16", "getChars", "(JI[B)I"⟩ ∈ gw := gw_6 (i := 82) rfl rfl
theorem kw1283 : Cond.static ⟨"java/lang/StringUTF16", "getChars", "(JI[B)I"⟩ ∈ gw := gw_6 (i := 83) rfl rfl
theorem kw1284 : Cond.code ⟨"java/lang/StringUTF16", "getChars", "(JI[B)I"⟩ prog_22_method_90_code 11 (Option.some .int) ∈ gw := gw_6 (i := 84) rfl rfl
theorem kw1285 : Cond.constantLong "java/lang/StringUTF16" 410 (-2147483648 : Int64) ∈ gw := gw_6 (i := 85) rfl rfl
theorem kw1286 : Cond.constantLong "java/lang/StringUTF16" 412 (100 : Int64) ∈ gw := gw_6 (i := 86) rfl rfl
theorem kw1287 : Cond.methodLink "ManypanesModel" 116 ⟨"java/lang/StringBuilder", "toString", "()Ljava/lang/String;"⟩ ∈ gw := gw_6 (i := 87) rfl rfl
theorem kw1288 : Cond.methodLink "ManypanesLaw" 249 ⟨"ManypanesModel", "text", "(I)Ljava/lang/String;"⟩ ∈ gw := gw_6 (i := 88) rfl rfl
theorem kw1289 : Cond.instanceMethod ⟨"ManypanesModel", "text", "(I)Ljava/lang/String;"⟩ ∈ gw := gw_6 (i := 89) rfl rfl
theorem kw1290 : Cond.selects "ManypanesModel" ⟨"ManypanesModel", "text", "(I)Ljava/lang/String;"⟩ ⟨"ManypanesModel", "text", "(I)Ljava/lang/String;"⟩ ∈ gw := gw_6 (i := 90) rfl rfl
theorem kw1291 : Cond.code ⟨"ManypanesModel", "text", "(I)Ljava/lang/String;"⟩ prog_7_method_51_code 2 (Option.some (.object "java/lang/String")) ∈ gw := gw_6 (i := 91) rfl rfl
theorem kw1292 : Cond.methodLink "ManypanesModel" 125 ⟨"ManypanesModel", "joined", "(II)Ljava/lang/String;"⟩ ∈ gw := gw_6 (i := 92) rfl rfl
theorem kw1294 : Cond.instanceMethod ⟨"ManypanesModel", "joined", "(II)Ljava/lang/String;"⟩ ∈ gw := gw_6 (i := 94) rfl rfl
theorem kw1295 : Cond.code ⟨"ManypanesModel", "joined", "(II)Ljava/lang/String;"⟩ prog_7_method_50_code 5 (Option.some (.object "java/lang/String")) ∈ gw := gw_6 (i := 95) rfl rfl
theorem kw1297 : Cond.methodLink "ManypanesModel" 122 ⟨"java/lang/StringBuilder", "append", "(I)Ljava/lang/StringBuilder;"⟩ ∈ gw := gw_6 (i := 97) rfl rfl
theorem kw1298 : Cond.methodLink "ManypanesLaw" 252 ⟨"ManypanesModel", "whole", "(I)Ljava/lang/String;"⟩ ∈ gw := gw_6 (i := 98) rfl rfl
theorem kw1299 : Cond.instanceMethod ⟨"ManypanesModel", "whole", "(I)Ljava/lang/String;"⟩ ∈ gw := gw_6 (i := 99) rfl rfl
theorem kw1300 : Cond.selects "ManypanesModel" ⟨"ManypanesModel", "whole", "(I)Ljava/lang/String;"⟩ ⟨"ManypanesModel", "whole", "(I)Ljava/lang/String;"⟩ ∈ gw := gw_6 (i := 100) rfl rfl
theorem kw1301 : Cond.code ⟨"ManypanesModel", "whole", "(I)Ljava/lang/String;"⟩ prog_7_method_52_code 5 (Option.some (.object "java/lang/String")) ∈ gw := gw_6 (i := 101) rfl rfl
theorem kw1305 : Cond.methodLink "ManypanesLaw" 257 ⟨"ManypanesModel", "row", "()Ljava/lang/String;"⟩ ∈ gw := gw_6 (i := 105) rfl rfl
theorem kw1306 : Cond.instanceMethod ⟨"ManypanesModel", "row", "()Ljava/lang/String;"⟩ ∈ gw := gw_6 (i := 106) rfl rfl
theorem kw1307 : Cond.selects "ManypanesModel" ⟨"ManypanesModel", "row", "()Ljava/lang/String;"⟩ ⟨"ManypanesModel", "row", "()Ljava/lang/String;"⟩ ∈ gw := gw_6 (i := 107) rfl rfl
theorem kw1308 : Cond.code ⟨"ManypanesModel", "row", "()Ljava/lang/String;"⟩ prog_7_method_53_code 1 (Option.some (.object "java/lang/String")) ∈ gw := gw_6 (i := 108) rfl rfl
theorem kw1309 : Cond.methodLink "ManypanesLaw" 260 ⟨"ManypanesModel", "isKin", "(II)I"⟩ ∈ gw := gw_6 (i := 109) rfl rfl
theorem kw1310 : Cond.instanceMethod ⟨"ManypanesModel", "isKin", "(II)I"⟩ ∈ gw := gw_6 (i := 110) rfl rfl
theorem kw1311 : Cond.selects "ManypanesModel" ⟨"ManypanesModel", "isKin", "(II)I"⟩ ⟨"ManypanesModel", "isKin", "(II)I"⟩ ∈ gw := gw_6 (i := 111) rfl rfl
theorem kw1312 : Cond.code ⟨"ManypanesModel", "isKin", "(II)I"⟩ prog_7_method_55_code 3 (Option.some .int) ∈ gw := gw_6 (i := 112) rfl rfl
theorem kw1313 : Cond.methodLink "ManypanesModel" 135 ⟨"ManypanesModel", "areReaders", "(II)Z"⟩ ∈ gw := gw_6 (i := 113) rfl rfl
theorem kw1315 : Cond.instanceMethod ⟨"ManypanesModel", "areReaders", "(II)Z"⟩ ∈ gw := gw_6 (i := 115) rfl rfl
theorem kw1316 : Cond.code ⟨"ManypanesModel", "areReaders", "(II)Z"⟩ prog_7_method_54_code 3 (Option.some .boolean) ∈ gw := gw_6 (i := 116) rfl rfl
theorem kw1317 : Cond.methodLink "ManypanesLaw" 263 ⟨"ManypanesModel", "sees", "(III)I"⟩ ∈ gw := gw_6 (i := 117) rfl rfl
theorem kw1318 : Cond.instanceMethod ⟨"ManypanesModel", "sees", "(III)I"⟩ ∈ gw := gw_6 (i := 118) rfl rfl
theorem kw1319 : Cond.selects "ManypanesModel" ⟨"ManypanesModel", "sees", "(III)I"⟩ ⟨"ManypanesModel", "sees", "(III)I"⟩ ∈ gw := gw_6 (i := 119) rfl rfl
theorem kw1320 : Cond.code ⟨"ManypanesModel", "sees", "(III)I"⟩ prog_7_method_56_code 7 (Option.some .int) ∈ gw := gw_6 (i := 120) rfl rfl
theorem kw1321 : Cond.methodLink "ManypanesLaw" 266 ⟨"ManypanesModel", "would", "(II)I"⟩ ∈ gw := gw_6 (i := 121) rfl rfl
theorem kw1322 : Cond.instanceMethod ⟨"ManypanesModel", "would", "(II)I"⟩ ∈ gw := gw_6 (i := 122) rfl rfl
theorem kw1323 : Cond.selects "ManypanesModel" ⟨"ManypanesModel", "would", "(II)I"⟩ ⟨"ManypanesModel", "would", "(II)I"⟩ ∈ gw := gw_6 (i := 123) rfl rfl
theorem kw1324 : Cond.code ⟨"ManypanesModel", "would", "(II)I"⟩ prog_7_method_57_code 4 (Option.some .int) ∈ gw := gw_6 (i := 124) rfl rfl
theorem kw1325 : Cond.methodLink "ManypanesLaw" 269 ⟨"ManypanesModel", "house", "(I)I"⟩ ∈ gw := gw_6 (i := 125) rfl rfl
theorem kw1326 : Cond.instanceMethod ⟨"ManypanesModel", "house", "(I)I"⟩ ∈ gw := gw_6 (i := 126) rfl rfl
theorem kw1327 : Cond.selects "ManypanesModel" ⟨"ManypanesModel", "house", "(I)I"⟩ ⟨"ManypanesModel", "house", "(I)I"⟩ ∈ gw := gw_6 (i := 127) rfl rfl
theorem kw1328 : Cond.code ⟨"ManypanesModel", "house", "(I)I"⟩ prog_7_method_58_code 7 (Option.some .int) ∈ gw := gw_6 (i := 128) rfl rfl
theorem kw1329 : Cond.methodLink "ManypanesLaw" 273 ⟨"ManypanesModel", "knock", "()I"⟩ ∈ gw := gw_6 (i := 129) rfl rfl
theorem kw1330 : Cond.instanceMethod ⟨"ManypanesModel", "knock", "()I"⟩ ∈ gw := gw_6 (i := 130) rfl rfl
theorem kw1331 : Cond.selects "ManypanesModel" ⟨"ManypanesModel", "knock", "()I"⟩ ⟨"ManypanesModel", "knock", "()I"⟩ ∈ gw := gw_6 (i := 131) rfl rfl
theorem kw1332 : Cond.code ⟨"ManypanesModel", "knock", "()I"⟩ prog_7_method_59_code 1 (Option.some .int) ∈ gw := gw_6 (i := 132) rfl rfl
theorem kw1333 : Cond.methodLink "ManypanesLaw" 278 ⟨"ManypanesModel", "isSound", "()Z"⟩ ∈ gw := gw_6 (i := 133) rfl rfl
theorem kw1334 : Cond.instanceMethod ⟨"ManypanesModel", "isSound", "()Z"⟩ ∈ gw := gw_6 (i := 134) rfl rfl
theorem kw1335 : Cond.selects "ManypanesModel" ⟨"ManypanesModel", "isSound", "()Z"⟩ ⟨"ManypanesModel", "isSound", "()Z"⟩ ∈ gw := gw_6 (i := 135) rfl rfl
theorem kw1336 : Cond.code ⟨"ManypanesModel", "isSound", "()Z"⟩ prog_7_method_60_code 1 (Option.some .boolean) ∈ gw := gw_6 (i := 136) rfl rfl
theorem kw1337 : Cond.methodLink "ManypanesLaw" 283 ⟨"ManypanesModel", "digest", "()J"⟩ ∈ gw := gw_6 (i := 137) rfl rfl
theorem kw1338 : Cond.instanceMethod ⟨"ManypanesModel", "digest", "()J"⟩ ∈ gw := gw_6 (i := 138) rfl rfl
theorem kw1339 : Cond.selects "ManypanesModel" ⟨"ManypanesModel", "digest", "()J"⟩ ⟨"ManypanesModel", "digest", "()J"⟩ ∈ gw := gw_6 (i := 139) rfl rfl
theorem kw1340 : Cond.code ⟨"ManypanesModel", "digest", "()J"⟩ prog_7_method_63_code 5 (Option.some .long) ∈ gw := gw_6 (i := 140) rfl rfl
theorem kw1341 : Cond.constantLong "ManypanesModel" 158 (8017 : Int64) ∈ gw := gw_6 (i := 141) rfl rfl
theorem kw1342 : Cond.methodLink "ManypanesModel" 160 ⟨"ManypanesModel", "house", "(I)I"⟩ ∈ gw := gw_6 (i := 142) rfl rfl
theorem kw1343 : Cond.methodLink "ManypanesModel" 154 ⟨"ManypanesModel", "add", "(JJ)J"⟩ ∈ gw := gw_6 (i := 143) rfl rfl
theorem kw1344 : Cond.static ⟨"ManypanesModel", "add", "(JJ)J"⟩ ∈ gw := gw_6 (i := 144) rfl rfl
theorem kw1345 : Cond.code ⟨"ManypanesModel", "add", "(JJ)J"⟩ prog_7_method_61_code 4 (Option.some .long) ∈ gw := gw_6 (i := 145) rfl rfl
theorem kw1346 : Cond.constantLong "ManypanesModel" 142 (31 : Int64) ∈ gw := gw_6 (i := 146) rfl rfl
theorem kw1347 : Cond.methodLink "ManypanesModel" 163 ⟨"ManypanesModel", "ofPane", "(II)I"⟩ ∈ gw := gw_6 (i := 147) rfl rfl
theorem kw1348 : Cond.methodLink "ManypanesModel" 166 ⟨"ManypanesModel", "whole", "(I)Ljava/lang/String;"⟩ ∈ gw := gw_6 (i := 148) rfl rfl
theorem kw1349 : Cond.methodLink "ManypanesModel" 170 ⟨"ManypanesModel", "addSigns", "(JLjava/lang/String;)J"⟩ ∈ gw := gw_6 (i := 149) rfl rfl
theorem kw1350 : Cond.static ⟨"ManypanesModel", "addSigns", "(JLjava/lang/String;)J"⟩ ∈ gw := gw_6 (i := 150) rfl rfl
theorem kw1351 : Cond.code ⟨"ManypanesModel", "addSigns", "(JLjava/lang/String;)J"⟩ prog_7_method_62_code 6 (Option.some .long) ∈ gw := gw_6 (i := 151) rfl rfl
theorem kw1352 : Cond.methodLink "ManypanesModel" 144 ⟨"java/lang/String", "length", "()I"⟩ ∈ gw := gw_6 (i := 152) rfl rfl
theorem kw1353 : Cond.methodLink "ManypanesModel" 150 ⟨"java/lang/String", "charAt", "(I)C"⟩ ∈ gw := gw_6 (i := 153) rfl rfl
theorem kw1354 : Cond.instanceMethod ⟨"java/lang/String", "charAt", "(I)C"⟩ ∈ gw := gw_6 (i := 154) rfl rfl
theorem kw1355 : Cond.selects "java/lang/String" ⟨"java/lang/String", "charAt", "(I)C"⟩ ⟨"java/lang/String", "charAt", "(I)C"⟩ ∈ gw := gw_6 (i := 155) rfl rfl
theorem kw1356 : Cond.code ⟨"java/lang/String", "charAt", "(I)C"⟩ prog_18_method_56_code 2 (Option.some .char) ∈ gw := gw_6 (i := 156) rfl rfl
theorem kw1357 : Cond.methodLink "java/lang/String" 492 ⟨"java/lang/String", "isLatin1", "()Z"⟩ ∈ gw := gw_6 (i := 157) rfl rfl
theorem kw1358 : Cond.instanceMethod ⟨"java/lang/String", "isLatin1", "()Z"⟩ ∈ gw := gw_6 (i := 158) rfl rfl
theorem kw1359 : Cond.selects "java/lang/String" ⟨"java/lang/String", "isLatin1", "()Z"⟩ ⟨"java/lang/String", "isLatin1", "()Z"⟩ ∈ gw := gw_6 (i := 159) rfl rfl
theorem kw1360 : Cond.code ⟨"java/lang/String", "isLatin1", "()Z"⟩ prog_18_method_154_code 1 (Option.some .boolean) ∈ gw := gw_6 (i := 160) rfl rfl
theorem kw1361 : Cond.methodLink "java/lang/String" 495 ⟨"java/lang/StringLatin1", "charAt", "([BI)C"⟩ ∈ gw := gw_6 (i := 161) rfl rfl
theorem kw1362 : Cond.static ⟨"java/lang/StringLatin1", "charAt", "([BI)C"⟩ ∈ gw := gw_6 (i := 162) rfl rfl
theorem kw1363 : Cond.code ⟨"java/lang/StringLatin1", "charAt", "([BI)C"⟩ prog_21_method_2_code 2 (Option.some .char) ∈ gw := gw_6 (i := 163) rfl rfl
theorem kw1364 : Cond.methodLink "java/lang/StringLatin1" 9 ⟨"java/lang/String", "checkIndex", "(II)V"⟩ ∈ gw := gw_6 (i := 164) rfl rfl
theorem kw1365 : Cond.methodLink "java/lang/String" 498 ⟨"java/lang/StringUTF16", "charAt", "([BI)C"⟩ ∈ gw := gw_6 (i := 165) rfl rfl
theorem kw1366 : Cond.static ⟨"java/lang/StringUTF16", "charAt", "([BI)C"⟩ ∈ gw := gw_6 (i := 166) rfl rfl
theorem kw1367 : Cond.code ⟨"java/lang/StringUTF16", "charAt", "([BI)C"⟩ prog_22_method_83_code 2 (Option.some .char) ∈ gw := gw_6 (i := 167) rfl rfl
theorem kw1368 : Cond.methodLink "ManypanesModel" 174 ⟨"ManypanesModel", "total", "(I)Ljava/lang/String;"⟩ ∈ gw := gw_6 (i := 168) rfl rfl
theorem kw1369 : Cond.methodLink "ManypanesModel" 177 ⟨"ManypanesModel", "isKin", "(II)I"⟩ ∈ gw := gw_6 (i := 169) rfl rfl
theorem kw1370 : Cond.methodLink "ManypanesModel" 180 ⟨"ManypanesModel", "sees", "(III)I"⟩ ∈ gw := gw_6 (i := 170) rfl rfl
theorem kw1371 : Cond.methodLink "ManypanesModel" 184 ⟨"ManypanesModel", "row", "()Ljava/lang/String;"⟩ ∈ gw := gw_6 (i := 171) rfl rfl
theorem kw1372 : Cond.sameMethod "java/lang/AbstractStringBuilder" "java/lang/AbstractStringBuilder" "setLength" "(I)V" ∈ gw := gw_6 (i := 172) rfl rfl
theorem kw1373 : Cond.sameMethod "java/lang/AbstractStringBuilder" "java/lang/AbstractStringBuilder" "append" "(Ljava/lang/String;)Ljava/lang/AbstractStringBuilder;" ∈ gw := gw_6 (i := 173) rfl rfl
theorem kw1374 : Cond.sameMethod "java/lang/AbstractStringBuilder" "java/lang/AbstractStringBuilder" "appendNull" "()Ljava/lang/AbstractStringBuilder;" ∈ gw := gw_6 (i := 174) rfl rfl
theorem kw1375 : Cond.sameMethod "java/lang/AbstractStringBuilder" "java/lang/AbstractStringBuilder" "ensureCapacityInternal" "(I)V" ∈ gw := gw_6 (i := 175) rfl rfl
theorem kw1376 : Cond.sameMethod "java/lang/AbstractStringBuilder" "java/lang/AbstractStringBuilder" "newCapacity" "(I)I" ∈ gw := gw_6 (i := 176) rfl rfl
theorem kw1377 : Cond.sameMethod "java/lang/AbstractStringBuilder" "java/lang/AbstractStringBuilder" "putStringAt" "(ILjava/lang/String;)V" ∈ gw := gw_6 (i := 177) rfl rfl
theorem kw1378 : Cond.sameMethod "java/lang/AbstractStringBuilder" "java/lang/AbstractStringBuilder" "inflateIfNeededFor" "(Ljava/lang/String;)V" ∈ gw := gw_6 (i := 178) rfl rfl
theorem kw1379 : Cond.sameMethod "java/lang/AbstractStringBuilder" "java/lang/AbstractStringBuilder" "inflate" "()V" ∈ gw := gw_6 (i := 179) rfl rfl
theorem kw1380 : Cond.sameMethod "java/lang/AbstractStringBuilder" "java/lang/AbstractStringBuilder" "append" "(I)Ljava/lang/AbstractStringBuilder;" ∈ gw := gw_6 (i := 180) rfl rfl
theorem kw1381 : Cond.sameMethod "java/lang/Throwable" "java/lang/Throwable" "fillInStackTrace" "(I)Ljava/lang/Throwable;" ∈ gw := gw_6 (i := 181) rfl rfl
theorem kw1382 : Cond.sameMethod "java/lang/AbstractStringBuilder" "java/lang/AbstractStringBuilder" "append" "(C)Ljava/lang/AbstractStringBuilder;" ∈ gw := gw_6 (i := 182) rfl rfl
theorem kw1383 : Cond.selects "java/lang/StringBuilder" ⟨"java/lang/StringBuilder", "length", "()I"⟩ ⟨"java/lang/StringBuilder", "length", "()I"⟩ ∈ gw := gw_6 (i := 183) rfl rfl
theorem kw1384 : Cond.sameMethod "java/lang/AbstractStringBuilder" "java/lang/AbstractStringBuilder" "charAt" "(I)C" ∈ gw := gw_6 (i := 184) rfl rfl
theorem kw1385 : Cond.sameMethod "java/lang/AbstractStringBuilder" "java/lang/AbstractStringBuilder" "append" "(J)Ljava/lang/AbstractStringBuilder;" ∈ gw := gw_6 (i := 185) rfl rfl
theorem kn1386 : Cond.castable "java/lang/ArrayIndexOutOfBoundsException" "java/lang/IndexOutOfBoundsException" ∈ z_nest := gn_6 (i := 186) rfl rfl
theorem kn1387 : Cond.castable "java/lang/StringIndexOutOfBoundsException" "java/lang/IndexOutOfBoundsException" ∈ z_nest := gn_6 (i := 187) rfl rfl
