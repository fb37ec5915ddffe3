section
theorem kp0 : Cond.selects "Manypanes" ⟨"Manypanes", "beginLongRow", "()V"⟩ ⟨"Manypanes", "beginLongRow", "()V"⟩ ∈ gw := gw_p (i := 0) rfl rfl
theorem kp1 : Cond.selects "java/lang/Throwable" ⟨"java/lang/Throwable", "fillInStackTrace", "(I)Ljava/lang/Throwable;"⟩ ⟨"java/lang/Throwable", "fillInStackTrace", "(I)Ljava/lang/Throwable;"⟩ ∈ gw := gw_p (i := 1) rfl rfl
theorem kp2 : Cond.selects "Manypanes$Line" ⟨"Manypanes$Line", "addNumber", "(J)V"⟩ ⟨"Manypanes$Line", "addNumber", "(J)V"⟩ ∈ gw := gw_p (i := 2) rfl rfl
theorem kp3 : Cond.selects "Manypanes" ⟨"Manypanes", "hasTrueTwins", "(LManypanes$Pane;)Z"⟩ ⟨"Manypanes", "hasTrueTwins", "(LManypanes$Pane;)Z"⟩ ∈ gw := gw_p (i := 3) rfl rfl
theorem kp4 : Cond.selects "Manypanes" ⟨"Manypanes", "hasTrueRemainder", "(LManypanes$Pane;)Z"⟩ ⟨"Manypanes", "hasTrueRemainder", "(LManypanes$Pane;)Z"⟩ ∈ gw := gw_p (i := 4) rfl rfl
theorem kp5 : Cond.selects "Manypanes" ⟨"Manypanes", "houseNumber", "(I)I"⟩ ⟨"Manypanes", "houseNumber", "(I)I"⟩ ∈ gw := gw_p (i := 5) rfl rfl
theorem kp6 : Cond.selects "Manypanes" ⟨"Manypanes", "howManyReaders", "()I"⟩ ⟨"Manypanes", "howManyReaders", "()I"⟩ ∈ gw := gw_p (i := 6) rfl rfl
theorem kp7 : Cond.selects "Manypanes" ⟨"Manypanes", "howManyMarks", "()I"⟩ ⟨"Manypanes", "howManyMarks", "()I"⟩ ∈ gw := gw_p (i := 7) rfl rfl
theorem kp8 : Cond.selects "Manypanes" ⟨"Manypanes", "mixPane", "(JLManypanes$Pane;)J"⟩ ⟨"Manypanes", "mixPane", "(JLManypanes$Pane;)J"⟩ ∈ gw := gw_p (i := 8) rfl rfl
theorem kp9 : Cond.selects "Manypanes$Line" ⟨"Manypanes$Line", "addSigns", "(LManypanes$Pane;I)V"⟩ ⟨"Manypanes$Line", "addSigns", "(LManypanes$Pane;I)V"⟩ ∈ gw := gw_p (i := 9) rfl rfl
theorem kp10 : Cond.selects "Manypanes" ⟨"Manypanes", "mixLine", "(J)J"⟩ ⟨"Manypanes", "mixLine", "(J)J"⟩ ∈ gw := gw_p (i := 10) rfl rfl
theorem kp11 : Cond.selects "Manypanes" ⟨"Manypanes", "paneOf", "(I)LManypanes$Pane;"⟩ ⟨"Manypanes", "paneOf", "(I)LManypanes$Pane;"⟩ ∈ gw := gw_p (i := 11) rfl rfl
theorem kp12 : Cond.selects "Manypanes" ⟨"Manypanes", "done", "(I)I"⟩ ⟨"Manypanes", "done", "(I)I"⟩ ∈ gw := gw_p (i := 12) rfl rfl
theorem kp13 : Cond.selects "Manypanes" ⟨"Manypanes", "refuse", "(I)I"⟩ ⟨"Manypanes", "refuse", "(I)I"⟩ ∈ gw := gw_p (i := 13) rfl rfl
theorem kp14 : Cond.selects "Manypanes" ⟨"Manypanes", "setPane", "(ILManypanes$Pane;)V"⟩ ⟨"Manypanes", "setPane", "(ILManypanes$Pane;)V"⟩ ∈ gw := gw_p (i := 14) rfl rfl
theorem kp15 : Cond.selects "Manypanes" ⟨"Manypanes", "tryPut", "(LManypanes$Pane;I)Z"⟩ ⟨"Manypanes", "tryPut", "(LManypanes$Pane;I)Z"⟩ ∈ gw := gw_p (i := 15) rfl rfl
theorem kp16 : Cond.selects "Manypanes" ⟨"Manypanes", "pourOne", "(LManypanes$Pane;LManypanes$Pane;)Z"⟩ ⟨"Manypanes", "pourOne", "(LManypanes$Pane;LManypanes$Pane;)Z"⟩ ∈ gw := gw_p (i := 16) rfl rfl
theorem kp17 : Cond.selects "ManypanesModel" ⟨"ManypanesModel", "made", "(I)[I"⟩ ⟨"ManypanesModel", "made", "(I)[I"⟩ ∈ gw := gw_p (i := 17) rfl rfl
theorem kp18 : Cond.selects "ManypanesModel" ⟨"ManypanesModel", "isLet", "(ZZ)Z"⟩ ⟨"ManypanesModel", "isLet", "(ZZ)Z"⟩ ∈ gw := gw_p (i := 18) rfl rfl
theorem kp19 : Cond.selects "ManypanesModel" ⟨"ManypanesModel", "did", "(I)I"⟩ ⟨"ManypanesModel", "did", "(I)I"⟩ ∈ gw := gw_p (i := 19) rfl rfl
theorem kp20 : Cond.selects "ManypanesModel" ⟨"ManypanesModel", "cut", "(I[III)I"⟩ ⟨"ManypanesModel", "cut", "(I[III)I"⟩ ∈ gw := gw_p (i := 20) rfl rfl
theorem kp21 : Cond.selects "ManypanesModel" ⟨"ManypanesModel", "refuse", "(I)I"⟩ ⟨"ManypanesModel", "refuse", "(I)I"⟩ ∈ gw := gw_p (i := 21) rfl rfl
theorem kp22 : Cond.selects "ManypanesModel" ⟨"ManypanesModel", "moved", "([II)V"⟩ ⟨"ManypanesModel", "moved", "([II)V"⟩ ∈ gw := gw_p (i := 22) rfl rfl
theorem kp23 : Cond.selects "ManypanesModel" ⟨"ManypanesModel", "ended", "([II)V"⟩ ⟨"ManypanesModel", "ended", "([II)V"⟩ ∈ gw := gw_p (i := 23) rfl rfl
theorem kp24 : Cond.selects "ManypanesModel" ⟨"ManypanesModel", "begun", "([III)I"⟩ ⟨"ManypanesModel", "begun", "([III)I"⟩ ∈ gw := gw_p (i := 24) rfl rfl
theorem kp25 : Cond.selects "ManypanesModel" ⟨"ManypanesModel", "puts", "([II)I"⟩ ⟨"ManypanesModel", "puts", "([II)I"⟩ ∈ gw := gw_p (i := 25) rfl rfl
theorem kp26 : Cond.selects "ManypanesModel" ⟨"ManypanesModel", "where", "([II)I"⟩ ⟨"ManypanesModel", "where", "([II)I"⟩ ∈ gw := gw_p (i := 26) rfl rfl
theorem kp27 : Cond.selects "ManypanesModel" ⟨"ManypanesModel", "written", "(II)I"⟩ ⟨"ManypanesModel", "written", "(II)I"⟩ ∈ gw := gw_p (i := 27) rfl rfl
theorem kp28 : Cond.selects "ManypanesModel" ⟨"ManypanesModel", "joined", "(II)Ljava/lang/String;"⟩ ⟨"ManypanesModel", "joined", "(II)Ljava/lang/String;"⟩ ∈ gw := gw_p (i := 28) rfl rfl
theorem kp29 : Cond.selects "ManypanesModel" ⟨"ManypanesModel", "areReaders", "(II)Z"⟩ ⟨"ManypanesModel", "areReaders", "(II)Z"⟩ ∈ gw := gw_p (i := 29) rfl rfl
theorem kw0 : Cond.initialized "ManypanesLaw" ∈ gw := gw_1 (i := 0) rfl rfl
theorem kw1 : Cond.initialized "Manypanes" ∈ gw := gw_1 (i := 1) rfl rfl
theorem kw2 : Cond.initialized "Manypanes$Row" ∈ gw := gw_1 (i := 2) rfl rfl
theorem kw3 : Cond.initialized "Manypanes$Pane" ∈ gw := gw_1 (i := 3) rfl rfl
theorem kw4 : Cond.initialized "Manypanes$Line" ∈ gw := gw_1 (i := 4) rfl rfl
theorem kw5 : Cond.initialized "java/lang/AbstractStringBuilder" ∈ gw := gw_1 (i := 5) rfl rfl
theorem kw6 : Cond.initialized "java/lang/StringBuilder" ∈ gw := gw_1 (i := 6) rfl rfl
theorem kw7 : Cond.initialized "java/lang/String" ∈ gw := gw_1 (i := 7) rfl rfl
theorem kw8 : Cond.initialized "java/lang/StringUTF16" ∈ gw := gw_1 (i := 8) rfl rfl
theorem kw9 : Cond.initialized "ManypanesModel" ∈ gw := gw_1 (i := 9) rfl rfl
theorem kw10 : Cond.initialized "ManypanesLaw$Out" ∈ gw := gw_1 (i := 10) rfl rfl
theorem kw11 : Cond.initialized "java/lang/Throwable" ∈ gw := gw_1 (i := 11) rfl rfl
theorem kw12 : Cond.initialized "java/lang/Exception" ∈ gw := gw_1 (i := 12) rfl rfl
theorem kw13 : Cond.initialized "java/lang/RuntimeException" ∈ gw := gw_1 (i := 13) rfl rfl
theorem kw14 : Cond.initialized "java/lang/IndexOutOfBoundsException" ∈ gw := gw_1 (i := 14) rfl rfl
theorem kw15 : Cond.initialized "java/lang/IllegalArgumentException" ∈ gw := gw_1 (i := 15) rfl rfl
theorem kw16 : Cond.initialized "java/lang/Math" ∈ gw := gw_1 (i := 16) rfl rfl
theorem kw17 : Cond.initialized "java/lang/StringIndexOutOfBoundsException" ∈ gw := gw_1 (i := 17) rfl rfl
theorem kw18 : Cond.initialized "jdk/internal/util/ArraysSupport" ∈ gw := gw_1 (i := 18) rfl rfl
theorem kw19 : Cond.initialized "java/util/Arrays" ∈ gw := gw_1 (i := 19) rfl rfl
theorem kw20 : Cond.initialized "java/lang/System" ∈ gw := gw_1 (i := 20) rfl rfl
theorem kw21 : Cond.initialized "jdk/internal/util/Preconditions" ∈ gw := gw_1 (i := 21) rfl rfl
theorem kw22 : Cond.initialized "java/lang/StringLatin1" ∈ gw := gw_1 (i := 22) rfl rfl
theorem kw23 : Cond.initialized "java/lang/Integer" ∈ gw := gw_1 (i := 23) rfl rfl
theorem kw24 : Cond.initialized "java/lang/ArrayIndexOutOfBoundsException" ∈ gw := gw_1 (i := 24) rfl rfl
theorem kw25 : Cond.initialized "java/lang/Long" ∈ gw := gw_1 (i := 25) rfl rfl
theorem kw26 : Cond.classLink "ManypanesLaw" 8 "Manypanes" ∈ gw := gw_1 (i := 26) rfl rfl
theorem kw27 : Cond.instantiable "Manypanes" 7 ∈ gw := gw_1 (i := 27) rfl rfl
theorem kw28 : Cond.methodLink "ManypanesLaw" 139 ⟨"Manypanes", "<init>", "()V"⟩ ∈ gw := gw_1 (i := 28) rfl rfl
theorem kw29 : Cond.instanceMethod ⟨"Manypanes", "<init>", "()V"⟩ ∈ gw := gw_1 (i := 29) rfl rfl
theorem kw30 : Cond.code ⟨"Manypanes", "<init>", "()V"⟩ prog_1_method_1_code 2 (Option.none : Option ClassFile.FieldType) ∈ gw := gw_1 (i := 30) rfl rfl
theorem kw31 : Cond.methodLink "Manypanes" 1 ⟨"java/lang/Object", "<init>", "()V"⟩ ∈ gw := gw_1 (i := 31) rfl rfl
theorem kw32 : Cond.instanceMethod ⟨"java/lang/Object", "<init>", "()V"⟩ ∈ gw := gw_1 (i := 32) rfl rfl
theorem kw33 : Cond.code ⟨"java/lang/Object", "<init>", "()V"⟩ object_method_1_code 1 (Option.none : Option ClassFile.FieldType) ∈ gw := gw_1 (i := 33) rfl rfl
theorem kw34 : Cond.classLink "Manypanes" 7 "Manypanes$Row" ∈ gw := gw_1 (i := 34) rfl rfl
theorem kw35 : Cond.instantiable "Manypanes$Row" 1 ∈ gw := gw_1 (i := 35) rfl rfl
theorem kw36 : Cond.methodLink "Manypanes" 11 ⟨"Manypanes$Row", "<init>", "(I)V"⟩ ∈ gw := gw_1 (i := 36) rfl rfl
theorem kw37 : Cond.instanceMethod ⟨"Manypanes$Row", "<init>", "(I)V"⟩ ∈ gw := gw_1 (i := 37) rfl rfl
theorem kw38 : Cond.code ⟨"Manypanes$Row", "<init>", "(I)V"⟩ prog_4_method_1_code 2 (Option.none : Option ClassFile.FieldType) ∈ gw := gw_1 (i := 38) rfl rfl
theorem kw39 : Cond.methodLink "Manypanes$Row" 1 ⟨"java/lang/Object", "<init>", "()V"⟩ ∈ gw := gw_1 (i := 39) rfl rfl
theorem kw40 : Cond.fieldLink "Manypanes$Row" 7 "Manypanes$Row" "values" "[I" ∈ gw := gw_1 (i := 40) rfl rfl
theorem kw41 : Cond.laysFinal "Manypanes$Row" "Manypanes$Row" "values" "[I" ∈ gw := gw_1 (i := 41) rfl rfl
theorem kw43 : Cond.superclass "Manypanes$Row" "java/lang/Object" ∈ gw := gw_1 (i := 43) rfl rfl
theorem kw44 : Cond.arrayClass .int ∈ gw := gw_1 (i := 44) rfl rfl
theorem kw45 : Cond.classLink "Manypanes" 18 "Manypanes$Pane" ∈ gw := gw_1 (i := 45) rfl rfl
theorem kn46 : Cond.arrayOver (.object "Manypanes$Pane") ∈ z_nest := gn_1 (i := 46) rfl rfl
theorem kw47 : Cond.instantiable "Manypanes$Pane" 7 ∈ gw := gw_1 (i := 47) rfl rfl
theorem kw48 : Cond.methodLink "Manypanes" 24 ⟨"Manypanes$Pane", "<init>", "(LManypanes$Row;)V"⟩ ∈ gw := gw_1 (i := 48) rfl rfl
theorem kw49 : Cond.instanceMethod ⟨"Manypanes$Pane", "<init>", "(LManypanes$Row;)V"⟩ ∈ gw := gw_1 (i := 49) rfl rfl
theorem kw50 : Cond.code ⟨"Manypanes$Pane", "<init>", "(LManypanes$Row;)V"⟩ prog_3_method_1_code 2 (Option.none : Option ClassFile.FieldType) ∈ gw := gw_1 (i := 50) rfl rfl
theorem kw51 : Cond.methodLink "Manypanes$Pane" 3 ⟨"java/lang/Object", "<init>", "()V"⟩ ∈ gw := gw_1 (i := 51) rfl rfl
theorem kw52 : Cond.methodLink "Manypanes$Pane" 19 ⟨"Manypanes$Row", "length", "()I"⟩ ∈ gw := gw_1 (i := 52) rfl rfl
theorem kw53 : Cond.instanceMethod ⟨"Manypanes$Row", "length", "()I"⟩ ∈ gw := gw_1 (i := 53) rfl rfl
theorem kw54 : Cond.selects "Manypanes$Row" ⟨"Manypanes$Row", "length", "()I"⟩ ⟨"Manypanes$Row", "length", "()I"⟩ ∈ gw := gw_1 (i := 54) rfl rfl
theorem kw55 : Cond.code ⟨"Manypanes$Row", "length", "()I"⟩ prog_4_method_2_code 1 (Option.some .int) ∈ gw := gw_1 (i := 55) rfl rfl
theorem kw56 : Cond.fieldLink "Manypanes$Pane" 9 "Manypanes$Pane" "over" "LManypanes$Row;" ∈ gw := gw_1 (i := 56) rfl rfl
theorem kn57 : Cond.fieldLinkNest "Manypanes" 230 "Manypanes$Pane" "over" "LManypanes$Row;" "Manypanes" ∈ z_nest := gn_1 (i := 57) rfl rfl
theorem kw58 : Cond.fieldLink "Manypanes$Pane" 15 "Manypanes$Pane" "start" "I" ∈ gw := gw_1 (i := 58) rfl rfl
theorem kn59 : Cond.fieldLinkNest "Manypanes" 233 "Manypanes$Pane" "start" "I" "Manypanes" ∈ z_nest := gn_1 (i := 59) rfl rfl
theorem kw60 : Cond.fieldLink "Manypanes$Pane" 25 "Manypanes$Pane" "capacity" "I" ∈ gw := gw_1 (i := 60) rfl rfl
theorem kn61 : Cond.fieldLinkNest "Manypanes$Line" 45 "Manypanes$Pane" "capacity" "I" "Manypanes" ∈ z_nest := gn_1 (i := 61) rfl rfl
theorem kn62 : Cond.fieldLinkNest "Manypanes" 100 "Manypanes$Pane" "capacity" "I" "Manypanes" ∈ z_nest := gn_1 (i := 62) rfl rfl
theorem kw63 : Cond.fieldLink "Manypanes$Pane" 28 "Manypanes$Pane" "position" "I" ∈ gw := gw_1 (i := 63) rfl rfl
theorem kn64 : Cond.fieldLinkNest "Manypanes" 60 "Manypanes$Pane" "position" "I" "Manypanes" ∈ z_nest := gn_1 (i := 64) rfl rfl
theorem kn65 : Cond.fieldLinkNest "Manypanes$Line" 24 "Manypanes$Pane" "position" "I" "Manypanes" ∈ z_nest := gn_1 (i := 65) rfl rfl
theorem kw66 : Cond.fieldLink "Manypanes$Pane" 31 "Manypanes$Pane" "limit" "I" ∈ gw := gw_1 (i := 66) rfl rfl
theorem kn67 : Cond.fieldLinkNest "Manypanes" 63 "Manypanes$Pane" "limit" "I" "Manypanes" ∈ z_nest := gn_1 (i := 67) rfl rfl
theorem kn68 : Cond.fieldLinkNest "Manypanes$Line" 30 "Manypanes$Pane" "limit" "I" "Manypanes" ∈ z_nest := gn_1 (i := 68) rfl rfl
theorem kw69 : Cond.fieldLink "Manypanes$Pane" 34 "Manypanes$Pane" "marked" "I" ∈ gw := gw_1 (i := 69) rfl rfl
theorem kn70 : Cond.fieldLinkNest "Manypanes$Line" 52 "Manypanes$Pane" "marked" "I" "Manypanes" ∈ z_nest := gn_1 (i := 70) rfl rfl
theorem kn71 : Cond.fieldLinkNest "Manypanes" 106 "Manypanes$Pane" "marked" "I" "Manypanes" ∈ z_nest := gn_1 (i := 71) rfl rfl
theorem kw72 : Cond.fieldLink "Manypanes$Pane" 37 "Manypanes$Pane" "isReader" "Z" ∈ gw := gw_1 (i := 72) rfl rfl
theorem kn73 : Cond.fieldLinkNest "Manypanes" 89 "Manypanes$Pane" "isReader" "Z" "Manypanes" ∈ z_nest := gn_1 (i := 73) rfl rfl
theorem kw74 : Cond.lays "Manypanes$Pane" "Manypanes$Pane" "over" "LManypanes$Row;" ∈ gw := gw_1 (i := 74) rfl rfl
theorem kw76 : Cond.lays "Manypanes$Pane" "Manypanes$Pane" "start" "I" ∈ gw := gw_1 (i := 76) rfl rfl
theorem kw78 : Cond.lays "Manypanes$Pane" "Manypanes$Pane" "capacity" "I" ∈ gw := gw_1 (i := 78) rfl rfl
theorem kw80 : Cond.lays "Manypanes$Pane" "Manypanes$Pane" "position" "I" ∈ gw := gw_1 (i := 80) rfl rfl
theorem kw82 : Cond.lays "Manypanes$Pane" "Manypanes$Pane" "limit" "I" ∈ gw := gw_1 (i := 82) rfl rfl
theorem kw84 : Cond.lays "Manypanes$Pane" "Manypanes$Pane" "marked" "I" ∈ gw := gw_1 (i := 84) rfl rfl
theorem kw86 : Cond.lays "Manypanes$Pane" "Manypanes$Pane" "isReader" "Z" ∈ gw := gw_1 (i := 86) rfl rfl
theorem kw88 : Cond.superclass "Manypanes$Pane" "java/lang/Object" ∈ gw := gw_1 (i := 88) rfl rfl
theorem kw89 : Cond.classLink "Manypanes" 31 "Manypanes$Line" ∈ gw := gw_1 (i := 89) rfl rfl
theorem kw90 : Cond.instantiable "Manypanes$Line" 1 ∈ gw := gw_1 (i := 90) rfl rfl
theorem kn91 : Cond.methodLinkNest "Manypanes" 33 ⟨"Manypanes$Line", "<init>", "()V"⟩ "Manypanes" ∈ z_nest := gn_1 (i := 91) rfl rfl
theorem kw92 : Cond.instanceMethod ⟨"Manypanes$Line", "<init>", "()V"⟩ ∈ gw := gw_1 (i := 92) rfl rfl
theorem kw93 : Cond.code ⟨"Manypanes$Line", "<init>", "()V"⟩ prog_2_method_1_code 1 (Option.none : Option ClassFile.FieldType) ∈ gw := gw_1 (i := 93) rfl rfl
theorem kw94 : Cond.methodLink "Manypanes$Line" 1 ⟨"java/lang/Object", "<init>", "()V"⟩ ∈ gw := gw_1 (i := 94) rfl rfl
theorem kw95 : Cond.classLink "Manypanes$Line" 7 "java/lang/StringBuilder" ∈ gw := gw_1 (i := 95) rfl rfl
theorem kw96 : Cond.instantiable "java/lang/StringBuilder" 4 ∈ gw := gw_1 (i := 96) rfl rfl
theorem kw97 : Cond.methodLink "Manypanes$Line" 9 ⟨"java/lang/StringBuilder", "<init>", "()V"⟩ ∈ gw := gw_1 (i := 97) rfl rfl
theorem kw98 : Cond.instanceMethod ⟨"java/lang/StringBuilder", "<init>", "()V"⟩ ∈ gw := gw_1 (i := 98) rfl rfl
theorem kw99 : Cond.code ⟨"java/lang/StringBuilder", "<init>", "()V"⟩ prog_19_method_1_code 1 (Option.none : Option ClassFile.FieldType) ∈ gw := gw_1 (i := 99) rfl rfl
theorem kw100 : Cond.methodLink "java/lang/StringBuilder" 1 ⟨"java/lang/AbstractStringBuilder", "<init>", "(I)V"⟩ ∈ gw := gw_1 (i := 100) rfl rfl
theorem kw101 : Cond.instanceMethod ⟨"java/lang/AbstractStringBuilder", "<init>", "(I)V"⟩ ∈ gw := gw_1 (i := 101) rfl rfl
theorem kw102 : Cond.code ⟨"java/lang/AbstractStringBuilder", "<init>", "(I)V"⟩ prog_8_method_2_code 2 (Option.none : Option ClassFile.FieldType) ∈ gw := gw_1 (i := 102) rfl rfl
theorem kw103 : Cond.methodLink "java/lang/AbstractStringBuilder" 3 ⟨"java/lang/Object", "<init>", "()V"⟩ ∈ gw := gw_1 (i := 103) rfl rfl
theorem kw104 : Cond.fieldLink "java/lang/AbstractStringBuilder" 18 "java/lang/String" "COMPACT_STRINGS" "Z" ∈ gw := gw_1 (i := 104) rfl rfl
theorem kw106 : Cond.methodLink "java/lang/AbstractStringBuilder" 26 ⟨"java/lang/StringUTF16", "newBytesFor", "(I)[B"⟩ ∈ gw := gw_1 (i := 106) rfl rfl
theorem kw107 : Cond.static ⟨"java/lang/StringUTF16", "newBytesFor", "(I)[B"⟩ ∈ gw := gw_1 (i := 107) rfl rfl
theorem kw108 : Cond.code ⟨"java/lang/StringUTF16", "newBytesFor", "(I)[B"⟩ prog_22_method_2_code 1 (Option.some (.array .byte)) ∈ gw := gw_1 (i := 108) rfl rfl
theorem kw109 : Cond.methodLink "java/lang/StringUTF16" 11 ⟨"java/lang/StringUTF16", "newBytesLength", "(I)I"⟩ ∈ gw := gw_1 (i := 109) rfl rfl
theorem kw110 : Cond.static ⟨"java/lang/StringUTF16", "newBytesLength", "(I)I"⟩ ∈ gw := gw_1 (i := 110) rfl rfl
theorem kw111 : Cond.code ⟨"java/lang/StringUTF16", "newBytesLength", "(I)I"⟩ prog_22_method_3_code 1 (Option.some .int) ∈ gw := gw_1 (i := 111) rfl rfl
theorem kw112 : Cond.constant "java/lang/StringUTF16" 20 (1073741823 : Int32) ∈ gw := gw_1 (i := 112) rfl rfl
theorem kw113 : Cond.fieldLink "java/lang/AbstractStringBuilder" 15 "java/lang/AbstractStringBuilder" "value" "[B" ∈ gw := gw_1 (i := 113) rfl rfl
theorem kw114 : Cond.fieldLink "java/lang/AbstractStringBuilder" 22 "java/lang/AbstractStringBuilder" "coder" "B" ∈ gw := gw_1 (i := 114) rfl rfl
theorem kw115 : Cond.fieldLink "java/lang/AbstractStringBuilder" 73 "java/lang/AbstractStringBuilder" "maybeLatin1" "Z" ∈ gw := gw_1 (i := 115) rfl rfl
theorem kw116 : Cond.fieldLink "java/lang/String" 1048 "java/lang/AbstractStringBuilder" "maybeLatin1" "Z" ∈ gw := gw_1 (i := 116) rfl rfl
theorem kw117 : Cond.fieldLink "java/lang/AbstractStringBuilder" 79 "java/lang/AbstractStringBuilder" "count" "I" ∈ gw := gw_1 (i := 117) rfl rfl
theorem kw118 : Cond.lays "java/lang/StringBuilder" "java/lang/AbstractStringBuilder" "value" "[B" ∈ gw := gw_1 (i := 118) rfl rfl
theorem kw120 : Cond.lays "java/lang/StringBuilder" "java/lang/AbstractStringBuilder" "coder" "B" ∈ gw := gw_1 (i := 120) rfl rfl
theorem kw122 : Cond.lays "java/lang/StringBuilder" "java/lang/AbstractStringBuilder" "maybeLatin1" "Z" ∈ gw := gw_1 (i := 122) rfl rfl
theorem kw124 : Cond.lays "java/lang/StringBuilder" "java/lang/AbstractStringBuilder" "count" "I" ∈ gw := gw_1 (i := 124) rfl rfl
theorem kw126 : Cond.superclass "java/lang/StringBuilder" "java/lang/AbstractStringBuilder" ∈ gw := gw_1 (i := 126) rfl rfl
theorem kw127 : Cond.arrayClass .byte ∈ gw := gw_1 (i := 127) rfl rfl
theorem kw128 : Cond.fieldLink "Manypanes$Line" 10 "Manypanes$Line" "signs" "Ljava/lang/StringBuilder;" ∈ gw := gw_1 (i := 128) rfl rfl
theorem kn129 : Cond.fieldLinkNest "Manypanes" 247 "Manypanes$Line" "signs" "Ljava/lang/StringBuilder;" "Manypanes" ∈ z_nest := gn_1 (i := 129) rfl rfl
theorem kw130 : Cond.laysFinal "Manypanes$Line" "Manypanes$Line" "signs" "Ljava/lang/StringBuilder;" ∈ gw := gw_1 (i := 130) rfl rfl
theorem kw132 : Cond.superclass "Manypanes$Line" "java/lang/Object" ∈ gw := gw_1 (i := 132) rfl rfl
theorem kw133 : Cond.fieldLink "Manypanes" 14 "Manypanes" "longRow" "LManypanes$Row;" ∈ gw := gw_1 (i := 133) rfl rfl
theorem kw134 : Cond.fieldLink "Manypanes" 20 "Manypanes" "panes" "[LManypanes$Pane;" ∈ gw := gw_1 (i := 134) rfl rfl
theorem kw135 : Cond.fieldLink "Manypanes" 27 "Manypanes" "spare" "LManypanes$Pane;" ∈ gw := gw_1 (i := 135) rfl rfl
theorem kw136 : Cond.fieldLink "Manypanes" 34 "Manypanes" "line" "LManypanes$Line;" ∈ gw := gw_1 (i := 136) rfl rfl
theorem kw137 : Cond.fieldLink "Manypanes" 38 "Manypanes" "refusals" "[I" ∈ gw := gw_1 (i := 137) rfl rfl
theorem kw138 : Cond.fieldLink "Manypanes" 42 "Manypanes" "acts" "I" ∈ gw := gw_1 (i := 138) rfl rfl
theorem kw139 : Cond.fieldLink "Manypanes" 46 "Manypanes" "knocks" "I" ∈ gw := gw_1 (i := 139) rfl rfl
theorem kw140 : Cond.laysFinal "Manypanes" "Manypanes" "longRow" "LManypanes$Row;" ∈ gw := gw_1 (i := 140) rfl rfl
theorem kw142 : Cond.laysFinal "Manypanes" "Manypanes" "panes" "[LManypanes$Pane;" ∈ gw := gw_1 (i := 142) rfl rfl
theorem kw144 : Cond.laysFinal "Manypanes" "Manypanes" "spare" "LManypanes$Pane;" ∈ gw := gw_1 (i := 144) rfl rfl
theorem kw146 : Cond.laysFinal "Manypanes" "Manypanes" "line" "LManypanes$Line;" ∈ gw := gw_1 (i := 146) rfl rfl
theorem kw148 : Cond.laysFinal "Manypanes" "Manypanes" "refusals" "[I" ∈ gw := gw_1 (i := 148) rfl rfl
theorem kw150 : Cond.lays "Manypanes" "Manypanes" "acts" "I" ∈ gw := gw_1 (i := 150) rfl rfl
theorem kw152 : Cond.lays "Manypanes" "Manypanes" "knocks" "I" ∈ gw := gw_1 (i := 152) rfl rfl
theorem kw154 : Cond.superclass "Manypanes" "java/lang/Object" ∈ gw := gw_1 (i := 154) rfl rfl
theorem kw155 : Cond.methodLink "ManypanesLaw" 253 ⟨"Manypanes", "row", "()Ljava/lang/String;"⟩ ∈ gw := gw_1 (i := 155) rfl rfl
theorem kw156 : Cond.instanceMethod ⟨"Manypanes", "row", "()Ljava/lang/String;"⟩ ∈ gw := gw_1 (i := 156) rfl rfl
theorem kw157 : Cond.selects "Manypanes" ⟨"Manypanes", "row", "()Ljava/lang/String;"⟩ ⟨"Manypanes", "row", "()Ljava/lang/String;"⟩ ∈ gw := gw_1 (i := 157) rfl rfl
theorem kw158 : Cond.code ⟨"Manypanes", "row", "()Ljava/lang/String;"⟩ prog_1_method_35_code 1 (Option.some (.object "java/lang/String")) ∈ gw := gw_1 (i := 158) rfl rfl
theorem kw159 : Cond.methodLink "Manypanes" 174 ⟨"Manypanes", "beginLongRow", "()V"⟩ ∈ gw := gw_1 (i := 159) rfl rfl
theorem kw161 : Cond.instanceMethod ⟨"Manypanes", "beginLongRow", "()V"⟩ ∈ gw := gw_1 (i := 161) rfl rfl
theorem kw162 : Cond.code ⟨"Manypanes", "beginLongRow", "()V"⟩ prog_1_method_63_code 1 (Option.none : Option ClassFile.FieldType) ∈ gw := gw_1 (i := 162) rfl rfl
theorem kw163 : Cond.methodLink "Manypanes" 57 ⟨"Manypanes$Pane", "showAll", "(LManypanes$Row;)V"⟩ ∈ gw := gw_1 (i := 163) rfl rfl
theorem kw164 : Cond.instanceMethod ⟨"Manypanes$Pane", "showAll", "(LManypanes$Row;)V"⟩ ∈ gw := gw_1 (i := 164) rfl rfl
theorem kw165 : Cond.selects "Manypanes$Pane" ⟨"Manypanes$Pane", "showAll", "(LManypanes$Row;)V"⟩ ⟨"Manypanes$Pane", "showAll", "(LManypanes$Row;)V"⟩ ∈ gw := gw_1 (i := 165) rfl rfl
theorem kw166 : Cond.code ⟨"Manypanes$Pane", "showAll", "(LManypanes$Row;)V"⟩ prog_3_method_2_code 2 (Option.none : Option ClassFile.FieldType) ∈ gw := gw_1 (i := 166) rfl rfl
theorem kw167 : Cond.methodLink "Manypanes$Pane" 41 ⟨"Manypanes$Pane", "beginAgain", "(I)V"⟩ ∈ gw := gw_1 (i := 167) rfl rfl
theorem kw168 : Cond.instanceMethod ⟨"Manypanes$Pane", "beginAgain", "(I)V"⟩ ∈ gw := gw_1 (i := 168) rfl rfl
theorem kw169 : Cond.selects "Manypanes$Pane" ⟨"Manypanes$Pane", "beginAgain", "(I)V"⟩ ⟨"Manypanes$Pane", "beginAgain", "(I)V"⟩ ∈ gw := gw_1 (i := 169) rfl rfl
theorem kw170 : Cond.code ⟨"Manypanes$Pane", "beginAgain", "(I)V"⟩ prog_3_method_5_code 2 (Option.none : Option ClassFile.FieldType) ∈ gw := gw_1 (i := 170) rfl rfl
theorem kw171 : Cond.methodLink "Manypanes" 168 ⟨"Manypanes$Line", "beginValues", "(LManypanes$Pane;II)V"⟩ ∈ gw := gw_1 (i := 171) rfl rfl
theorem kw172 : Cond.instanceMethod ⟨"Manypanes$Line", "beginValues", "(LManypanes$Pane;II)V"⟩ ∈ gw := gw_1 (i := 172) rfl rfl
theorem kw173 : Cond.selects "Manypanes$Line" ⟨"Manypanes$Line", "beginValues", "(LManypanes$Pane;II)V"⟩ ⟨"Manypanes$Line", "beginValues", "(LManypanes$Pane;II)V"⟩ ∈ gw := gw_1 (i := 173) rfl rfl
theorem kw174 : Cond.code ⟨"Manypanes$Line", "beginValues", "(LManypanes$Pane;II)V"⟩ prog_2_method_4_code 5 (Option.none : Option ClassFile.FieldType) ∈ gw := gw_1 (i := 174) rfl rfl
theorem kw175 : Cond.methodLink "Manypanes$Line" 20 ⟨"java/lang/StringBuilder", "setLength", "(I)V"⟩ ∈ gw := gw_1 (i := 175) rfl rfl
theorem kw176 : Cond.instanceMethod ⟨"java/lang/StringBuilder", "setLength", "(I)V"⟩ ∈ gw := gw_1 (i := 176) rfl rfl
theorem kw177 : Cond.selects "java/lang/StringBuilder" ⟨"java/lang/StringBuilder", "setLength", "(I)V"⟩ ⟨"java/lang/StringBuilder", "setLength", "(I)V"⟩ ∈ gw := gw_1 (i := 177) rfl rfl
theorem kw178 : Cond.code ⟨"java/lang/StringBuilder", "setLength", "(I)V"⟩ prog_19_method_89_code 2 (Option.none : Option ClassFile.FieldType) ∈ gw := gw_1 (i := 178) rfl rfl
theorem kw179 : Cond.methodLink "java/lang/StringBuilder" 333 ⟨"java/lang/AbstractStringBuilder", "setLength", "(I)V"⟩ ∈ gw := gw_1 (i := 179) rfl rfl
theorem kw180 : Cond.instanceMethod ⟨"java/lang/AbstractStringBuilder", "setLength", "(I)V"⟩ ∈ gw := gw_1 (i := 180) rfl rfl
theorem kw181 : Cond.code ⟨"java/lang/AbstractStringBuilder", "setLength", "(I)V"⟩ prog_8_method_13_code 2 (Option.none : Option ClassFile.FieldType) ∈ gw := gw_1 (i := 181) rfl rfl
theorem kw182 : Cond.classLink "java/lang/AbstractStringBuilder" 129 "java/lang/StringIndexOutOfBoundsException" ∈ gw := gw_1 (i := 182) rfl rfl
theorem kw183 : Cond.instantiable "java/lang/StringIndexOutOfBoundsException" 6 ∈ gw := gw_1 (i := 183) rfl rfl
theorem kw184 : Cond.methodLink "java/lang/AbstractStringBuilder" 131 ⟨"java/lang/StringIndexOutOfBoundsException", "<init>", "(I)V"⟩ ∈ gw := gw_1 (i := 184) rfl rfl
theorem kw185 : Cond.instanceMethod ⟨"java/lang/StringIndexOutOfBoundsException", "<init>", "(I)V"⟩ ∈ gw := gw_1 (i := 185) rfl rfl
theorem kw186 : Cond.code ⟨"java/lang/StringIndexOutOfBoundsException", "<init>", "(I)V"⟩ prog_20_method_3_code 2 (Option.none : Option ClassFile.FieldType) ∈ gw := gw_1 (i := 186) rfl rfl
theorem kw187 : Cond.classLink "java/lang/StringIndexOutOfBoundsException" 10 "java/lang/StringBuilder" ∈ gw := gw_1 (i := 187) rfl rfl
theorem kw188 : Cond.methodLink "java/lang/StringIndexOutOfBoundsException" 12 ⟨"java/lang/StringBuilder", "<init>", "()V"⟩ ∈ gw := gw_1 (i := 188) rfl rfl
theorem kw190 : Cond.methodLink "java/lang/StringIndexOutOfBoundsException" 15 ⟨"java/lang/StringBuilder", "append", "(Ljava/lang/String;)Ljava/lang/StringBuilder;"⟩ ∈ gw := gw_1 (i := 190) rfl rfl
theorem kw191 : Cond.instanceMethod ⟨"java/lang/StringBuilder", "append", "(Ljava/lang/String;)Ljava/lang/StringBuilder;"⟩ ∈ gw := gw_1 (i := 191) rfl rfl
theorem kw192 : Cond.selects "java/lang/StringBuilder" ⟨"java/lang/StringBuilder", "append", "(Ljava/lang/String;)Ljava/lang/StringBuilder;"⟩ ⟨"java/lang/StringBuilder", "append", "(Ljava/lang/String;)Ljava/lang/StringBuilder;"⟩ ∈ gw := gw_1 (i := 192) rfl rfl
theorem kw193 : Cond.code ⟨"java/lang/StringBuilder", "append", "(Ljava/lang/String;)Ljava/lang/StringBuilder;"⟩ prog_19_method_7_code 2 (Option.some (.object "java/lang/StringBuilder")) ∈ gw := gw_1 (i := 193) rfl rfl
theorem kw194 : Cond.methodLink "java/lang/StringBuilder" 29 ⟨"java/lang/AbstractStringBuilder", "append", "(Ljava/lang/String;)Ljava/lang/AbstractStringBuilder;"⟩ ∈ gw := gw_1 (i := 194) rfl rfl
theorem kw195 : Cond.instanceMethod ⟨"java/lang/AbstractStringBuilder", "append", "(Ljava/lang/String;)Ljava/lang/AbstractStringBuilder;"⟩ ∈ gw := gw_1 (i := 195) rfl rfl
theorem kw196 : Cond.code ⟨"java/lang/AbstractStringBuilder", "append", "(Ljava/lang/String;)Ljava/lang/AbstractStringBuilder;"⟩ prog_8_method_22_code 3 (Option.some (.object "java/lang/AbstractStringBuilder")) ∈ gw := gw_1 (i := 196) rfl rfl
theorem kw197 : Cond.methodLink "java/lang/AbstractStringBuilder" 204 ⟨"java/lang/AbstractStringBuilder", "appendNull", "()Ljava/lang/AbstractStringBuilder;"⟩ ∈ gw := gw_1 (i := 197) rfl rfl
theorem kw199 : Cond.instanceMethod ⟨"java/lang/AbstractStringBuilder", "appendNull", "()Ljava/lang/AbstractStringBuilder;"⟩ ∈ gw := gw_1 (i := 199) rfl rfl
theorem kw200 : Cond.code ⟨"java/lang/AbstractStringBuilder", "appendNull", "()Ljava/lang/AbstractStringBuilder;"⟩ prog_8_method_26_code 3 (Option.some (.object "java/lang/AbstractStringBuilder")) ∈ gw := gw_1 (i := 200) rfl rfl
theorem kw201 : Cond.methodLink "java/lang/AbstractStringBuilder" 100 ⟨"java/lang/AbstractStringBuilder", "ensureCapacityInternal", "(I)V"⟩ ∈ gw := gw_1 (i := 201) rfl rfl
theorem kw203 : Cond.instanceMethod ⟨"java/lang/AbstractStringBuilder", "ensureCapacityInternal", "(I)V"⟩ ∈ gw := gw_1 (i := 203) rfl rfl
theorem kw204 : Cond.code ⟨"java/lang/AbstractStringBuilder", "ensureCapacityInternal", "(I)V"⟩ prog_8_method_9_code 3 (Option.none : Option ClassFile.FieldType) ∈ gw := gw_1 (i := 204) rfl rfl
theorem kw205 : Cond.methodLink "java/lang/AbstractStringBuilder" 104 ⟨"java/lang/AbstractStringBuilder", "newCapacity", "(I)I"⟩ ∈ gw := gw_1 (i := 205) rfl rfl
theorem kw207 : Cond.instanceMethod ⟨"java/lang/AbstractStringBuilder", "newCapacity", "(I)I"⟩ ∈ gw := gw_1 (i := 207) rfl rfl
theorem kw208 : Cond.code ⟨"java/lang/AbstractStringBuilder", "newCapacity", "(I)I"⟩ prog_8_method_10_code 6 (Option.some .int) ∈ gw := gw_1 (i := 208) rfl rfl
theorem kw209 : Cond.methodLink "java/lang/AbstractStringBuilder" 114 ⟨"jdk/internal/util/ArraysSupport", "newLength", "(III)I"⟩ ∈ gw := gw_1 (i := 209) rfl rfl
theorem kw210 : Cond.static ⟨"jdk/internal/util/ArraysSupport", "newLength", "(III)I"⟩ ∈ gw := gw_1 (i := 210) rfl rfl
theorem kw211 : Cond.code ⟨"jdk/internal/util/ArraysSupport", "newLength", "(III)I"⟩ prog_26_method_27_code 4 (Option.some .int) ∈ gw := gw_1 (i := 211) rfl rfl
theorem kw212 : Cond.methodLink "jdk/internal/util/ArraysSupport" 194 ⟨"java/lang/Math", "max", "(II)I"⟩ ∈ gw := gw_1 (i := 212) rfl rfl
theorem kw213 : Cond.static ⟨"java/lang/Math", "max", "(II)I"⟩ ∈ gw := gw_1 (i := 213) rfl rfl
theorem kw214 : Cond.code ⟨"java/lang/Math", "max", "(II)I"⟩ prog_16_method_65_code 2 (Option.some .int) ∈ gw := gw_1 (i := 214) rfl rfl
theorem kw215 : Cond.constant "jdk/internal/util/ArraysSupport" 200 (2147483639 : Int32) ∈ gw := gw_1 (i := 215) rfl rfl
theorem kw216 : Cond.methodLink "jdk/internal/util/ArraysSupport" 201 ⟨"jdk/internal/util/ArraysSupport", "hugeLength", "(II)I"⟩ ∈ gw := gw_1 (i := 216) rfl rfl
theorem kw217 : Cond.static ⟨"jdk/internal/util/ArraysSupport", "hugeLength", "(II)I"⟩ ∈ gw := gw_1 (i := 217) rfl rfl
theorem kw218 : Cond.code ⟨"jdk/internal/util/ArraysSupport", "hugeLength", "(II)I"⟩ prog_26_method_28_code 3 (Option.some .int) ∈ gw := gw_1 (i := 218) rfl rfl
theorem kw219 : Cond.constant "java/lang/AbstractStringBuilder" 39 (2147483647 : Int32) ∈ gw := gw_1 (i := 219) rfl rfl
theorem kw220 : Cond.methodLink "java/lang/AbstractStringBuilder" 108 ⟨"java/util/Arrays", "copyOf", "([BI)[B"⟩ ∈ gw := gw_1 (i := 220) rfl rfl
theorem kw221 : Cond.static ⟨"java/util/Arrays", "copyOf", "([BI)[B"⟩ ∈ gw := gw_1 (i := 221) rfl rfl
theorem kw222 : Cond.code ⟨"java/util/Arrays", "copyOf", "([BI)[B"⟩ prog_25_method_121_code 3 (Option.some (.array .byte)) ∈ gw := gw_1 (i := 222) rfl rfl
theorem kw223 : Cond.methodLink "java/util/Arrays" 310 ⟨"[B", "clone", "()Ljava/lang/Object;"⟩ ∈ gw := gw_1 (i := 223) rfl rfl
theorem kw224 : Cond.sameMethod "[B" "java/lang/Object" "clone" "()Ljava/lang/Object;" ∈ gw := gw_1 (i := 224) rfl rfl
theorem kw225 : Cond.native ⟨"java/lang/Object", "clone", "()Ljava/lang/Object;"⟩ ∈ gw := gw_1 (i := 225) rfl rfl
theorem kw226 : Cond.instanceMethod ⟨"java/lang/Object", "clone", "()Ljava/lang/Object;"⟩ ∈ gw := gw_1 (i := 226) rfl rfl
theorem kw227 : Cond.selects "[B" ⟨"[B", "clone", "()Ljava/lang/Object;"⟩ ⟨"java/lang/Object", "clone", "()Ljava/lang/Object;"⟩ ∈ gw := gw_1 (i := 227) rfl rfl
theorem kn228 : Cond.castable "[B" "java/lang/Cloneable" ∈ z_nest := gn_1 (i := 228) rfl rfl
theorem kw229 : Cond.classLink "java/util/Arrays" 311 "[B" ∈ gw := gw_1 (i := 229) rfl rfl
theorem kw230 : Cond.methodLink "java/util/Arrays" 304 ⟨"java/lang/Math", "min", "(II)I"⟩ ∈ gw := gw_1 (i := 230) rfl rfl
theorem kw231 : Cond.static ⟨"java/lang/Math", "min", "(II)I"⟩ ∈ gw := gw_1 (i := 231) rfl rfl
theorem kw232 : Cond.code ⟨"java/lang/Math", "min", "(II)I"⟩ prog_16_method_69_code 2 (Option.some .int) ∈ gw := gw_1 (i := 232) rfl rfl
theorem kw233 : Cond.methodLink "java/util/Arrays" 150 ⟨"java/lang/System", "arraycopy", "(Ljava/lang/Object;ILjava/lang/Object;II)V"⟩ ∈ gw := gw_1 (i := 233) rfl rfl
theorem kw234 : Cond.static ⟨"java/lang/System", "arraycopy", "(Ljava/lang/Object;ILjava/lang/Object;II)V"⟩ ∈ gw := gw_1 (i := 234) rfl rfl
theorem kw235 : Cond.native ⟨"java/lang/System", "arraycopy", "(Ljava/lang/Object;ILjava/lang/Object;II)V"⟩ ∈ gw := gw_1 (i := 235) rfl rfl
theorem kw236 : Cond.methodLink "java/lang/AbstractStringBuilder" 83 ⟨"java/lang/AbstractStringBuilder", "isLatin1", "()Z"⟩ ∈ gw := gw_1 (i := 236) rfl rfl
theorem kw237 : Cond.instanceMethod ⟨"java/lang/AbstractStringBuilder", "isLatin1", "()Z"⟩ ∈ gw := gw_1 (i := 237) rfl rfl
theorem kw238 : Cond.sameMethod "java/lang/AbstractStringBuilder" "java/lang/AbstractStringBuilder" "isLatin1" "()Z" ∈ gw := gw_1 (i := 238) rfl rfl
theorem kw239 : Cond.selects "java/lang/StringBuilder" ⟨"java/lang/AbstractStringBuilder", "isLatin1", "()Z"⟩ ⟨"java/lang/AbstractStringBuilder", "isLatin1", "()Z"⟩ ∈ gw := gw_1 (i := 239) rfl rfl
theorem kw240 : Cond.code ⟨"java/lang/AbstractStringBuilder", "isLatin1", "()Z"⟩ prog_8_method_68_code 1 (Option.some .boolean) ∈ gw := gw_2 (i := 0) rfl rfl
theorem kw241 : Cond.methodLink "java/lang/AbstractStringBuilder" 226 ⟨"java/lang/StringUTF16", "putCharsAt", "([BICCCC)I"⟩ ∈ gw := gw_2 (i := 1) rfl rfl
theorem kw242 : Cond.static ⟨"java/lang/StringUTF16", "putCharsAt", "([BICCCC)I"⟩ ∈ gw := gw_2 (i := 2) rfl rfl
theorem kw243 : Cond.code ⟨"java/lang/StringUTF16", "putCharsAt", "([BICCCC)I"⟩ prog_22_method_81_code 7 (Option.some .int) ∈ gw := gw_2 (i := 3) rfl rfl
theorem kw244 : Cond.methodLink "java/lang/StringUTF16" 96 ⟨"java/lang/StringUTF16", "checkBoundsBeginEnd", "(II[B)V"⟩ ∈ gw := gw_2 (i := 4) rfl rfl
theorem kw245 : Cond.static ⟨"java/lang/StringUTF16", "checkBoundsBeginEnd", "(II[B)V"⟩ ∈ gw := gw_2 (i := 5) rfl rfl
theorem kw246 : Cond.code ⟨"java/lang/StringUTF16", "checkBoundsBeginEnd", "(II[B)V"⟩ prog_22_method_93_code 3 (Option.none : Option ClassFile.FieldType) ∈ gw := gw_2 (i := 6) rfl rfl
theorem kw247 : Cond.methodLink "java/lang/StringUTF16" 48 ⟨"java/lang/StringUTF16", "length", "([B)I"⟩ ∈ gw := gw_2 (i := 7) rfl rfl
theorem kw248 : Cond.static ⟨"java/lang/StringUTF16", "length", "([B)I"⟩ ∈ gw := gw_2 (i := 8) rfl rfl
theorem kw249 : Cond.code ⟨"java/lang/StringUTF16", "length", "([B)I"⟩ prog_22_method_6_code 1 (Option.some .int) ∈ gw := gw_2 (i := 9) rfl rfl
theorem kw250 : Cond.methodLink "java/lang/StringUTF16" 241 ⟨"java/lang/String", "checkBoundsBeginEnd", "(III)V"⟩ ∈ gw := gw_2 (i := 10) rfl rfl
theorem kw251 : Cond.static ⟨"java/lang/String", "checkBoundsBeginEnd", "(III)V"⟩ ∈ gw := gw_2 (i := 11) rfl rfl
theorem kw252 : Cond.code ⟨"java/lang/String", "checkBoundsBeginEnd", "(III)V"⟩ prog_18_method_158_code 3 (Option.none : Option ClassFile.FieldType) ∈ gw := gw_2 (i := 12) rfl rfl
theorem kw253 : Cond.fieldLink "java/lang/String" 1053 "jdk/internal/util/Preconditions" "SIOOBE_FORMATTER" "Ljava/util/function/BiFunction;" ∈ gw := gw_2 (i := 13) rfl rfl
theorem kw255 : Cond.methodLink "java/lang/String" 1062 ⟨"jdk/internal/util/Preconditions", "checkFromToIndex", "(IIILjava/util/function/BiFunction;)I"⟩ ∈ gw := gw_2 (i := 15) rfl rfl
theorem kw256 : Cond.static ⟨"jdk/internal/util/Preconditions", "checkFromToIndex", "(IIILjava/util/function/BiFunction;)I"⟩ ∈ gw := gw_2 (i := 16) rfl rfl
theorem kw257 : Cond.code ⟨"jdk/internal/util/Preconditions", "checkFromToIndex", "(IIILjava/util/function/BiFunction;)I"⟩ prog_27_method_12_code 4 (Option.some .int) ∈ gw := gw_2 (i := 17) rfl rfl
theorem kw258 : Cond.methodLink "java/lang/StringUTF16" 111 ⟨"java/lang/StringUTF16", "putChar", "([BII)V"⟩ ∈ gw := gw_2 (i := 18) rfl rfl
theorem kw259 : Cond.static ⟨"java/lang/StringUTF16", "putChar", "([BII)V"⟩ ∈ gw := gw_2 (i := 19) rfl rfl
theorem kw260 : Cond.code ⟨"java/lang/StringUTF16", "putChar", "([BII)V"⟩ prog_22_method_4_code 3 (Option.none : Option ClassFile.FieldType) ∈ gw := gw_2 (i := 20) rfl rfl
theorem kw261 : Cond.fieldLink "java/lang/StringUTF16" 44 "java/lang/StringUTF16" "$assertionsDisabled" "Z" ∈ gw := gw_2 (i := 21) rfl rfl
theorem kw263 : Cond.fieldLink "java/lang/StringUTF16" 59 "java/lang/StringUTF16" "HI_BYTE_SHIFT" "I" ∈ gw := gw_2 (i := 23) rfl rfl
theorem kw265 : Cond.fieldLink "java/lang/StringUTF16" 63 "java/lang/StringUTF16" "LO_BYTE_SHIFT" "I" ∈ gw := gw_2 (i := 25) rfl rfl
theorem kw267 : Cond.methodLink "java/lang/AbstractStringBuilder" 32 ⟨"java/lang/String", "length", "()I"⟩ ∈ gw := gw_2 (i := 27) rfl rfl
theorem kw268 : Cond.instanceMethod ⟨"java/lang/String", "length", "()I"⟩ ∈ gw := gw_2 (i := 28) rfl rfl
theorem kw269 : Cond.selects "java/lang/String" ⟨"java/lang/String", "length", "()I"⟩ ⟨"java/lang/String", "length", "()I"⟩ ∈ gw := gw_2 (i := 29) rfl rfl
theorem kw270 : Cond.code ⟨"java/lang/String", "length", "()I"⟩ prog_18_method_54_code 1 (Option.some .int) ∈ gw := gw_2 (i := 30) rfl rfl
theorem kw271 : Cond.methodLink "java/lang/String" 335 ⟨"java/lang/String", "coder", "()B"⟩ ∈ gw := gw_2 (i := 31) rfl rfl
theorem kw272 : Cond.instanceMethod ⟨"java/lang/String", "coder", "()B"⟩ ∈ gw := gw_2 (i := 32) rfl rfl
theorem kw273 : Cond.selects "java/lang/String" ⟨"java/lang/String", "coder", "()B"⟩ ⟨"java/lang/String", "coder", "()B"⟩ ∈ gw := gw_2 (i := 33) rfl rfl
theorem kw274 : Cond.code ⟨"java/lang/String", "coder", "()B"⟩ prog_18_method_152_code 1 (Option.some .byte) ∈ gw := gw_2 (i := 34) rfl rfl
theorem kw275 : Cond.fieldLink "java/lang/String" 38 "java/lang/String" "COMPACT_STRINGS" "Z" ∈ gw := gw_2 (i := 35) rfl rfl
theorem kw276 : Cond.methodLink "java/lang/AbstractStringBuilder" 208 ⟨"java/lang/AbstractStringBuilder", "putStringAt", "(ILjava/lang/String;)V"⟩ ∈ gw := gw_2 (i := 36) rfl rfl
theorem kw278 : Cond.instanceMethod ⟨"java/lang/AbstractStringBuilder", "putStringAt", "(ILjava/lang/String;)V"⟩ ∈ gw := gw_2 (i := 38) rfl rfl
theorem kw279 : Cond.code ⟨"java/lang/AbstractStringBuilder", "putStringAt", "(ILjava/lang/String;)V"⟩ prog_8_method_73_code 3 (Option.none : Option ClassFile.FieldType) ∈ gw := gw_2 (i := 39) rfl rfl
theorem kw280 : Cond.methodLink "java/lang/AbstractStringBuilder" 397 ⟨"java/lang/AbstractStringBuilder", "inflateIfNeededFor", "(Ljava/lang/String;)V"⟩ ∈ gw := gw_2 (i := 40) rfl rfl
theorem kw282 : Cond.instanceMethod ⟨"java/lang/AbstractStringBuilder", "inflateIfNeededFor", "(Ljava/lang/String;)V"⟩ ∈ gw := gw_2 (i := 42) rfl rfl
theorem kw283 : Cond.code ⟨"java/lang/AbstractStringBuilder", "inflateIfNeededFor", "(Ljava/lang/String;)V"⟩ prog_8_method_71_code 2 (Option.none : Option ClassFile.FieldType) ∈ gw := gw_2 (i := 43) rfl rfl
theorem kw284 : Cond.methodLink "java/lang/AbstractStringBuilder" 40 ⟨"java/lang/String", "coder", "()B"⟩ ∈ gw := gw_2 (i := 44) rfl rfl
theorem kw285 : Cond.methodLink "java/lang/AbstractStringBuilder" 195 ⟨"java/lang/AbstractStringBuilder", "inflate", "()V"⟩ ∈ gw := gw_2 (i := 45) rfl rfl
theorem kw287 : Cond.instanceMethod ⟨"java/lang/AbstractStringBuilder", "inflate", "()V"⟩ ∈ gw := gw_2 (i := 47) rfl rfl
theorem kw288 : Cond.code ⟨"java/lang/AbstractStringBuilder", "inflate", "()V"⟩ prog_8_method_11_code 2 (Option.none : Option ClassFile.FieldType) ∈ gw := gw_2 (i := 48) rfl rfl
theorem kw289 : Cond.methodLink "java/lang/AbstractStringBuilder" 125 ⟨"java/lang/StringLatin1", "inflate", "([BI[BII)V"⟩ ∈ gw := gw_2 (i := 49) rfl rfl
theorem kw290 : Cond.static ⟨"java/lang/StringLatin1", "inflate", "([BI[BII)V"⟩ ∈ gw := gw_2 (i := 50) rfl rfl
theorem kw291 : Cond.code ⟨"java/lang/StringLatin1", "inflate", "([BI[BII)V"⟩ prog_21_method_50_code 5 (Option.none : Option ClassFile.FieldType) ∈ gw := gw_2 (i := 51) rfl rfl
theorem kw292 : Cond.methodLink "java/lang/StringLatin1" 240 ⟨"java/lang/StringUTF16", "inflate", "([BI[BII)V"⟩ ∈ gw := gw_2 (i := 52) rfl rfl
theorem kw293 : Cond.static ⟨"java/lang/StringUTF16", "inflate", "([BI[BII)V"⟩ ∈ gw := gw_2 (i := 53) rfl rfl
theorem kw294 : Cond.code ⟨"java/lang/StringUTF16", "inflate", "([BI[BII)V"⟩ prog_22_method_86_code 6 (Option.none : Option ClassFile.FieldType) ∈ gw := gw_2 (i := 54) rfl rfl
theorem kw295 : Cond.methodLink "java/lang/StringUTF16" 173 ⟨"java/lang/StringUTF16", "checkBoundsOffCount", "(II[B)V"⟩ ∈ gw := gw_2 (i := 55) rfl rfl
theorem kw296 : Cond.static ⟨"java/lang/StringUTF16", "checkBoundsOffCount", "(II[B)V"⟩ ∈ gw := gw_2 (i := 56) rfl rfl
theorem kw297 : Cond.code ⟨"java/lang/StringUTF16", "checkBoundsOffCount", "(II[B)V"⟩ prog_22_method_94_code 3 (Option.none : Option ClassFile.FieldType) ∈ gw := gw_2 (i := 57) rfl rfl
theorem kw298 : Cond.methodLink "java/lang/StringUTF16" 419 ⟨"java/lang/String", "checkBoundsOffCount", "(III)I"⟩ ∈ gw := gw_2 (i := 58) rfl rfl
theorem kw299 : Cond.static ⟨"java/lang/String", "checkBoundsOffCount", "(III)I"⟩ ∈ gw := gw_2 (i := 59) rfl rfl
theorem kw300 : Cond.code ⟨"java/lang/String", "checkBoundsOffCount", "(III)I"⟩ prog_18_method_157_code 3 (Option.some .int) ∈ gw := gw_2 (i := 60) rfl rfl
theorem kw301 : Cond.methodLink "java/lang/String" 1065 ⟨"jdk/internal/util/Preconditions", "checkFromIndexSize", "(IIILjava/util/function/BiFunction;)I"⟩ ∈ gw := gw_2 (i := 61) rfl rfl
theorem kw302 : Cond.static ⟨"jdk/internal/util/Preconditions", "checkFromIndexSize", "(IIILjava/util/function/BiFunction;)I"⟩ ∈ gw := gw_2 (i := 62) rfl rfl
theorem kw303 : Cond.code ⟨"jdk/internal/util/Preconditions", "checkFromIndexSize", "(IIILjava/util/function/BiFunction;)I"⟩ prog_27_method_13_code 4 (Option.some .int) ∈ gw := gw_2 (i := 63) rfl rfl
theorem kw304 : Cond.methodLink "java/lang/AbstractStringBuilder" 399 ⟨"java/lang/String", "getBytes", "([BIB)V"⟩ ∈ gw := gw_2 (i := 64) rfl rfl
theorem kw305 : Cond.instanceMethod ⟨"java/lang/String", "getBytes", "([BIB)V"⟩ ∈ gw := gw_2 (i := 65) rfl rfl
theorem kw306 : Cond.selects "java/lang/String" ⟨"java/lang/String", "getBytes", "([BIB)V"⟩ ⟨"java/lang/String", "getBytes", "([BIB)V"⟩ ∈ gw := gw_2 (i := 66) rfl rfl
theorem kw307 : Cond.code ⟨"java/lang/String", "getBytes", "([BIB)V"⟩ prog_18_method_147_code 4 (Option.none : Option ClassFile.FieldType) ∈ gw := gw_2 (i := 67) rfl rfl
theorem kw308 : Cond.methodLink "java/lang/String" 212 ⟨"java/lang/System", "arraycopy", "(Ljava/lang/Object;ILjava/lang/Object;II)V"⟩ ∈ gw := gw_2 (i := 68) rfl rfl
theorem kw309 : Cond.methodLink "java/lang/String" 106 ⟨"java/lang/StringLatin1", "inflate", "([BI[BII)V"⟩ ∈ gw := gw_2 (i := 69) rfl rfl
theorem kw310 : Cond.methodLink "java/lang/StringIndexOutOfBoundsException" 19 ⟨"java/lang/StringBuilder", "append", "(I)Ljava/lang/StringBuilder;"⟩ ∈ gw := gw_2 (i := 70) rfl rfl
theorem kw311 : Cond.instanceMethod ⟨"java/lang/StringBuilder", "append", "(I)Ljava/lang/StringBuilder;"⟩ ∈ gw := gw_2 (i := 71) rfl rfl
theorem kw312 : Cond.selects "java/lang/StringBuilder" ⟨"java/lang/StringBuilder", "append", "(I)Ljava/lang/StringBuilder;"⟩ ⟨"java/lang/StringBuilder", "append", "(I)Ljava/lang/StringBuilder;"⟩ ∈ gw := gw_2 (i := 72) rfl rfl
theorem kw313 : Cond.code ⟨"java/lang/StringBuilder", "append", "(I)Ljava/lang/StringBuilder;"⟩ prog_19_method_15_code 2 (Option.some (.object "java/lang/StringBuilder")) ∈ gw := gw_2 (i := 73) rfl rfl
theorem kw314 : Cond.methodLink "java/lang/StringBuilder" 53 ⟨"java/lang/AbstractStringBuilder", "append", "(I)Ljava/lang/AbstractStringBuilder;"⟩ ∈ gw := gw_2 (i := 74) rfl rfl
theorem kw315 : Cond.instanceMethod ⟨"java/lang/AbstractStringBuilder", "append", "(I)Ljava/lang/AbstractStringBuilder;"⟩ ∈ gw := gw_2 (i := 75) rfl rfl
theorem kw316 : Cond.code ⟨"java/lang/AbstractStringBuilder", "append", "(I)Ljava/lang/AbstractStringBuilder;"⟩ prog_8_method_32_code 4 (Option.some (.object "java/lang/AbstractStringBuilder")) ∈ gw := gw_2 (i := 76) rfl rfl
theorem kw317 : Cond.methodLink "java/lang/AbstractStringBuilder" 245 ⟨"java/lang/Integer", "stringSize", "(I)I"⟩ ∈ gw := gw_2 (i := 77) rfl rfl
theorem kw318 : Cond.static ⟨"java/lang/Integer", "stringSize", "(I)I"⟩ ∈ gw := gw_2 (i := 78) rfl rfl
theorem kw319 : Cond.code ⟨"java/lang/Integer", "stringSize", "(I)I"⟩ prog_14_method_13_code 4 (Option.some .int) ∈ gw := gw_2 (i := 79) rfl rfl
theorem kw320 : Cond.methodLink "java/lang/AbstractStringBuilder" 248 ⟨"java/lang/Integer", "getChars", "(II[B)I"⟩ ∈ gw := gw_2 (i := 80) rfl rfl
theorem kw321 : Cond.static ⟨"java/lang/Integer", "getChars", "(II[B)I"⟩ ∈ gw := gw_2 (i := 81) rfl rfl
theorem kw322 : Cond.code ⟨"java/lang/Integer", "getChars", "(II[B)I"⟩ prog_14_method_12_code 7 (Option.some .int) ∈ gw := gw_2 (i := 82) rfl rfl
theorem kw323 : Cond.fieldLink "java/lang/Integer" 83 "java/lang/Integer" "DigitOnes" "[B" ∈ gw := gw_2 (i := 83) rfl rfl
theorem kw325 : Cond.fieldLink "java/lang/Integer" 87 "java/lang/Integer" "DigitTens" "[B" ∈ gw := gw_2 (i := 85) rfl rfl
theorem kw327 : Cond.methodLink "java/lang/AbstractStringBuilder" 251 ⟨"java/lang/StringUTF16", "getChars", "(III[B)I"⟩ ∈ gw := gw_2 (i := 87) rfl rfl
theorem kw328 : Cond.static ⟨"java/lang/StringUTF16", "getChars", "(III[B)I"⟩ ∈ gw := gw_2 (i := 88) rfl rfl
theorem kw329 : Cond.code ⟨"java/lang/StringUTF16", "getChars", "(III[B)I"⟩ prog_22_method_77_code 5 (Option.some .int) ∈ gw := gw_2 (i := 89) rfl rfl
theorem kw330 : Cond.methodLink "java/lang/StringUTF16" 393 ⟨"java/lang/StringUTF16", "getChars", "(II[B)I"⟩ ∈ gw := gw_2 (i := 90) rfl rfl
theorem kw331 : Cond.static ⟨"java/lang/StringUTF16", "getChars", "(II[B)I"⟩ ∈ gw := gw_2 (i := 91) rfl rfl
theorem kw332 : Cond.code ⟨"java/lang/StringUTF16", "getChars", "(II[B)I"⟩ prog_22_method_89_code 7 (Option.some .int) ∈ gw := gw_2 (i := 92) rfl rfl
theorem kw333 : Cond.fieldLink "java/lang/StringUTF16" 403 "java/lang/Integer" "DigitOnes" "[B" ∈ gw := gw_2 (i := 93) rfl rfl
theorem kw334 : Cond.fieldLink "java/lang/StringUTF16" 407 "java/lang/Integer" "DigitTens" "[B" ∈ gw := gw_2 (i := 94) rfl rfl
theorem kw335 : Cond.methodLink "java/lang/StringIndexOutOfBoundsException" 22 ⟨"java/lang/StringBuilder", "toString", "()Ljava/lang/String;"⟩ ∈ gw := gw_2 (i := 95) rfl rfl
theorem kw336 : Cond.instanceMethod ⟨"java/lang/StringBuilder", "toString", "()Ljava/lang/String;"⟩ ∈ gw := gw_2 (i := 96) rfl rfl
theorem kw337 : Cond.selects "java/lang/StringBuilder" ⟨"java/lang/StringBuilder", "toString", "()Ljava/lang/String;"⟩ ⟨"java/lang/StringBuilder", "toString", "()Ljava/lang/String;"⟩ ∈ gw := gw_2 (i := 97) rfl rfl
theorem kw338 : Cond.code ⟨"java/lang/StringBuilder", "toString", "()Ljava/lang/String;"⟩ prog_19_method_42_code 1 (Option.some (.object "java/lang/String")) ∈ gw := gw_2 (i := 98) rfl rfl
theorem kw339 : Cond.classLink "java/lang/StringBuilder" 18 "java/lang/String" ∈ gw := gw_2 (i := 99) rfl rfl
theorem kw340 : Cond.instantiable "java/lang/String" 4 ∈ gw := gw_2 (i := 100) rfl rfl
theorem kw341 : Cond.methodLink "java/lang/StringBuilder" 137 ⟨"java/lang/String", "<init>", "(Ljava/lang/StringBuilder;)V"⟩ ∈ gw := gw_2 (i := 101) rfl rfl
theorem kw342 : Cond.instanceMethod ⟨"java/lang/String", "<init>", "(Ljava/lang/StringBuilder;)V"⟩ ∈ gw := gw_2 (i := 102) rfl rfl
theorem kw343 : Cond.code ⟨"java/lang/String", "<init>", "(Ljava/lang/StringBuilder;)V"⟩ prog_18_method_53_code 2 (Option.none : Option ClassFile.FieldType) ∈ gw := gw_2 (i := 103) rfl rfl
theorem kw344 : Cond.methodLink "java/lang/String" 489 ⟨"java/lang/String", "<init>", "(Ljava/lang/AbstractStringBuilder;Ljava/lang/Void;)V"⟩ ∈ gw := gw_2 (i := 104) rfl rfl
theorem kw345 : Cond.instanceMethod ⟨"java/lang/String", "<init>", "(Ljava/lang/AbstractStringBuilder;Ljava/lang/Void;)V"⟩ ∈ gw := gw_2 (i := 105) rfl rfl
theorem kw346 : Cond.code ⟨"java/lang/String", "<init>", "(Ljava/lang/AbstractStringBuilder;Ljava/lang/Void;)V"⟩ prog_18_method_150_code 5 (Option.none : Option ClassFile.FieldType) ∈ gw := gw_2 (i := 106) rfl rfl
theorem kw347 : Cond.methodLink "java/lang/String" 1 ⟨"java/lang/Object", "<init>", "()V"⟩ ∈ gw := gw_2 (i := 107) rfl rfl
theorem kw348 : Cond.methodLink "java/lang/String" 552 ⟨"java/lang/AbstractStringBuilder", "getValue", "()[B"⟩ ∈ gw := gw_2 (i := 108) rfl rfl
theorem kw349 : Cond.instanceMethod ⟨"java/lang/AbstractStringBuilder", "getValue", "()[B"⟩ ∈ gw := gw_2 (i := 109) rfl rfl
theorem kw350 : Cond.sameMethod "java/lang/AbstractStringBuilder" "java/lang/AbstractStringBuilder" "getValue" "()[B" ∈ gw := gw_2 (i := 110) rfl rfl
theorem kw351 : Cond.selects "java/lang/StringBuilder" ⟨"java/lang/AbstractStringBuilder", "getValue", "()[B"⟩ ⟨"java/lang/AbstractStringBuilder", "getValue", "()[B"⟩ ∈ gw := gw_2 (i := 111) rfl rfl
theorem kw352 : Cond.code ⟨"java/lang/AbstractStringBuilder", "getValue", "()[B"⟩ prog_8_method_64_code 1 (Option.some (.array .byte)) ∈ gw := gw_2 (i := 112) rfl rfl
theorem kw353 : Cond.methodLink "java/lang/String" 549 ⟨"java/lang/AbstractStringBuilder", "length", "()I"⟩ ∈ gw := gw_2 (i := 113) rfl rfl
theorem kw354 : Cond.instanceMethod ⟨"java/lang/AbstractStringBuilder", "length", "()I"⟩ ∈ gw := gw_2 (i := 114) rfl rfl
theorem kw355 : Cond.sameMethod "java/lang/AbstractStringBuilder" "java/lang/AbstractStringBuilder" "length" "()I" ∈ gw := gw_2 (i := 115) rfl rfl
theorem kw356 : Cond.selects "java/lang/StringBuilder" ⟨"java/lang/AbstractStringBuilder", "length", "()I"⟩ ⟨"java/lang/StringBuilder", "length", "()I"⟩ ∈ gw := gw_2 (i := 116) rfl rfl
theorem kw357 : Cond.instanceMethod ⟨"java/lang/StringBuilder", "length", "()I"⟩ ∈ gw := gw_2 (i := 117) rfl rfl
theorem kw358 : Cond.code ⟨"java/lang/StringBuilder", "length", "()I"⟩ prog_19_method_93_code 1 (Option.some .int) ∈ gw := gw_2 (i := 118) rfl rfl
theorem kw359 : Cond.methodLink "java/lang/StringBuilder" 343 ⟨"java/lang/AbstractStringBuilder", "length", "()I"⟩ ∈ gw := gw_2 (i := 119) rfl rfl
theorem kw360 : Cond.code ⟨"java/lang/AbstractStringBuilder", "length", "()I"⟩ prog_8_method_6_code 1 (Option.some .int) ∈ gw := gw_2 (i := 120) rfl rfl
theorem kw361 : Cond.methodLink "java/lang/String" 1047 ⟨"java/lang/AbstractStringBuilder", "isLatin1", "()Z"⟩ ∈ gw := gw_2 (i := 121) rfl rfl
theorem kw362 : Cond.methodLink "java/lang/String" 54 ⟨"java/util/Arrays", "copyOfRange", "([BII)[B"⟩ ∈ gw := gw_2 (i := 122) rfl rfl
theorem kw363 : Cond.static ⟨"java/util/Arrays", "copyOfRange", "([BII)[B"⟩ ∈ gw := gw_2 (i := 123) rfl rfl
theorem kw364 : Cond.code ⟨"java/util/Arrays", "copyOfRange", "([BII)[B"⟩ prog_25_method_132_code 3 (Option.some (.array .byte)) ∈ gw := gw_2 (i := 124) rfl rfl
theorem kw365 : Cond.methodLink "java/util/Arrays" 339 ⟨"java/util/Arrays", "copyOfRangeByte", "([BII)[B"⟩ ∈ gw := gw_2 (i := 125) rfl rfl
theorem kw366 : Cond.static ⟨"java/util/Arrays", "copyOfRangeByte", "([BII)[B"⟩ ∈ gw := gw_2 (i := 126) rfl rfl
theorem kw367 : Cond.code ⟨"java/util/Arrays", "copyOfRangeByte", "([BII)[B"⟩ prog_25_method_133_code 5 (Option.some (.array .byte)) ∈ gw := gw_2 (i := 127) rfl rfl
theorem kw368 : Cond.methodLink "java/util/Arrays" 343 ⟨"java/util/Arrays", "checkLength", "(II)V"⟩ ∈ gw := gw_2 (i := 128) rfl rfl
theorem kw369 : Cond.static ⟨"java/util/Arrays", "checkLength", "(II)V"⟩ ∈ gw := gw_2 (i := 129) rfl rfl
theorem kw370 : Cond.code ⟨"java/util/Arrays", "checkLength", "(II)V"⟩ prog_25_method_131_code 2 (Option.none : Option ClassFile.FieldType) ∈ gw := gw_2 (i := 130) rfl rfl
theorem kw371 : Cond.classLink "java/util/Arrays" 43 "java/lang/IllegalArgumentException" ∈ gw := gw_2 (i := 131) rfl rfl
theorem kw372 : Cond.instantiable "java/lang/IllegalArgumentException" 6 ∈ gw := gw_2 (i := 132) rfl rfl
theorem kn373 : Cond.castable "java/lang/IllegalArgumentException" "java/lang/IllegalArgumentException" ∈ z_nest := gn_2 (i := 133) rfl rfl
theorem kn374 : Cond.declares ⟨"java/lang/RuntimeException", "<init>", "()V"⟩ ∈ z_nest := gn_2 (i := 134) rfl rfl
theorem kn375 : Cond.declares ⟨"java/lang/RuntimeException", "<init>", "(Ljava/lang/String;)V"⟩ ∈ z_nest := gn_2 (i := 135) rfl rfl
theorem kn376 : Cond.declares ⟨"java/lang/Exception", "<init>", "()V"⟩ ∈ z_nest := gn_2 (i := 136) rfl rfl
theorem kn377 : Cond.declares ⟨"java/lang/Exception", "<init>", "(Ljava/lang/String;)V"⟩ ∈ z_nest := gn_2 (i := 137) rfl rfl
theorem kn378 : Cond.declares ⟨"java/lang/Throwable", "<init>", "()V"⟩ ∈ z_nest := gn_2 (i := 138) rfl rfl
theorem kn379 : Cond.declares ⟨"java/lang/Throwable", "<init>", "(Ljava/lang/String;)V"⟩ ∈ z_nest := gn_2 (i := 139) rfl rfl
theorem kw380 : Cond.selects "java/lang/IllegalArgumentException" ⟨"java/lang/Throwable", "fillInStackTrace", "(I)Ljava/lang/Throwable;"⟩ ⟨"java/lang/Throwable", "fillInStackTrace", "(I)Ljava/lang/Throwable;"⟩ ∈ gw := gw_2 (i := 140) rfl rfl
theorem kw381 : Cond.selects "java/lang/IllegalArgumentException" ⟨"java/lang/Throwable", "fillInStackTrace", "()Ljava/lang/Throwable;"⟩ ⟨"java/lang/Throwable", "fillInStackTrace", "()Ljava/lang/Throwable;"⟩ ∈ gw := gw_2 (i := 141) rfl rfl
theorem kw382 : Cond.lays "java/lang/IllegalArgumentException" "java/lang/Throwable" "cause" "Ljava/lang/Throwable;" ∈ gw := gw_2 (i := 142) rfl rfl
theorem kw383 : Cond.lays "java/lang/Throwable" "java/lang/Throwable" "cause" "Ljava/lang/Throwable;" ∈ gw := gw_2 (i := 143) rfl rfl
theorem kw384 : Cond.lays "java/lang/IllegalArgumentException" "java/lang/Throwable" "stackTrace" "[Ljava/lang/StackTraceElement;" ∈ gw := gw_2 (i := 144) rfl rfl
theorem kw385 : Cond.lays "java/lang/Throwable" "java/lang/Throwable" "stackTrace" "[Ljava/lang/StackTraceElement;" ∈ gw := gw_2 (i := 145) rfl rfl
theorem kw386 : Cond.lays "java/lang/IllegalArgumentException" "java/lang/Throwable" "suppressedExceptions" "Ljava/util/List;" ∈ gw := gw_2 (i := 146) rfl rfl
theorem kw387 : Cond.lays "java/lang/Throwable" "java/lang/Throwable" "suppressedExceptions" "Ljava/util/List;" ∈ gw := gw_2 (i := 147) rfl rfl
theorem kw388 : Cond.lays "java/lang/IllegalArgumentException" "java/lang/Throwable" "detailMessage" "Ljava/lang/String;" ∈ gw := gw_2 (i := 148) rfl rfl
theorem kw389 : Cond.lays "java/lang/Throwable" "java/lang/Throwable" "detailMessage" "Ljava/lang/String;" ∈ gw := gw_2 (i := 149) rfl rfl
theorem kw390 : Cond.lays "java/lang/IllegalArgumentException" "java/lang/Throwable" "backtrace" "Ljava/lang/Object;" ∈ gw := gw_2 (i := 150) rfl rfl
theorem kw391 : Cond.lays "java/lang/Throwable" "java/lang/Throwable" "backtrace" "Ljava/lang/Object;" ∈ gw := gw_2 (i := 151) rfl rfl
theorem kw392 : Cond.fieldLink "java/lang/Throwable" 198 "java/lang/Throwable" "backtrace" "Ljava/lang/Object;" ∈ gw := gw_2 (i := 152) rfl rfl
theorem kw393 : Cond.superclass "java/lang/Throwable" "java/lang/Object" ∈ gw := gw_2 (i := 153) rfl rfl
theorem kw394 : Cond.instanceMethod ⟨"java/lang/Throwable", "<init>", "()V"⟩ ∈ gw := gw_2 (i := 154) rfl rfl
theorem kw395 : Cond.code ⟨"java/lang/Throwable", "<init>", "()V"⟩ prog_24_method_1_code 1 (Option.none : Option ClassFile.FieldType) ∈ gw := gw_2 (i := 155) rfl rfl
theorem kw396 : Cond.methodLink "java/lang/Throwable" 1 ⟨"java/lang/Object", "<init>", "()V"⟩ ∈ gw := gw_2 (i := 156) rfl rfl
theorem kw397 : Cond.fieldLink "java/lang/Throwable" 13 "java/lang/Throwable" "UNASSIGNED_STACK" "[Ljava/lang/StackTraceElement;" ∈ gw := gw_2 (i := 157) rfl rfl
theorem kw399 : Cond.fieldLink "java/lang/Throwable" 20 "java/lang/Throwable" "SUPPRESSED_SENTINEL" "Ljava/util/List;" ∈ gw := gw_2 (i := 159) rfl rfl
theorem kw401 : Cond.methodLink "java/lang/Throwable" 27 ⟨"java/lang/Throwable", "fillInStackTrace", "()Ljava/lang/Throwable;"⟩ ∈ gw := gw_2 (i := 161) rfl rfl
theorem kw402 : Cond.instanceMethod ⟨"java/lang/Throwable", "fillInStackTrace", "()Ljava/lang/Throwable;"⟩ ∈ gw := gw_2 (i := 162) rfl rfl
theorem kw403 : Cond.sameMethod "java/lang/Throwable" "java/lang/Throwable" "fillInStackTrace" "()Ljava/lang/Throwable;" ∈ gw := gw_2 (i := 163) rfl rfl
theorem kw404 : Cond.selects "java/lang/ArrayIndexOutOfBoundsException" ⟨"java/lang/Throwable", "fillInStackTrace", "()Ljava/lang/Throwable;"⟩ ⟨"java/lang/Throwable", "fillInStackTrace", "()Ljava/lang/Throwable;"⟩ ∈ gw := gw_2 (i := 164) rfl rfl
theorem kw405 : Cond.selects "java/lang/IndexOutOfBoundsException" ⟨"java/lang/Throwable", "fillInStackTrace", "()Ljava/lang/Throwable;"⟩ ⟨"java/lang/Throwable", "fillInStackTrace", "()Ljava/lang/Throwable;"⟩ ∈ gw := gw_2 (i := 165) rfl rfl
theorem kw406 : Cond.selects "java/lang/StringIndexOutOfBoundsException" ⟨"java/lang/Throwable", "fillInStackTrace", "()Ljava/lang/Throwable;"⟩ ⟨"java/lang/Throwable", "fillInStackTrace", "()Ljava/lang/Throwable;"⟩ ∈ gw := gw_2 (i := 166) rfl rfl
theorem kw408 : Cond.methodLink "java/lang/Throwable" 202 ⟨"java/lang/Throwable", "fillInStackTrace", "(I)Ljava/lang/Throwable;"⟩ ∈ gw := gw_2 (i := 168) rfl rfl
theorem kw410 : Cond.instanceMethod ⟨"java/lang/Throwable", "fillInStackTrace", "(I)Ljava/lang/Throwable;"⟩ ∈ gw := gw_2 (i := 170) rfl rfl
theorem kw411 : Cond.instantiable "java/lang/Throwable" 6 ∈ gw := gw_2 (i := 171) rfl rfl
theorem kw412 : Cond.native ⟨"java/lang/Throwable", "fillInStackTrace", "(I)Ljava/lang/Throwable;"⟩ ∈ gw := gw_2 (i := 172) rfl rfl
theorem kw413 : Cond.classLink "java/util/Arrays" 45 "java/lang/StringBuilder" ∈ gw := gw_2 (i := 173) rfl rfl
theorem kw414 : Cond.methodLink "java/util/Arrays" 47 ⟨"java/lang/StringBuilder", "<init>", "()V"⟩ ∈ gw := gw_2 (i := 174) rfl rfl
theorem kw415 : Cond.methodLink "java/util/Arrays" 54 ⟨"java/lang/StringBuilder", "append", "(I)Ljava/lang/StringBuilder;"⟩ ∈ gw := gw_2 (i := 175) rfl rfl
theorem kw417 : Cond.methodLink "java/util/Arrays" 50 ⟨"java/lang/StringBuilder", "append", "(Ljava/lang/String;)Ljava/lang/StringBuilder;"⟩ ∈ gw := gw_2 (i := 177) rfl rfl
theorem kw418 : Cond.methodLink "java/util/Arrays" 61 ⟨"java/lang/StringBuilder", "toString", "()Ljava/lang/String;"⟩ ∈ gw := gw_2 (i := 178) rfl rfl
theorem kw419 : Cond.methodLink "java/util/Arrays" 65 ⟨"java/lang/IllegalArgumentException", "<init>", "(Ljava/lang/String;)V"⟩ ∈ gw := gw_2 (i := 179) rfl rfl
theorem kw420 : Cond.instanceMethod ⟨"java/lang/IllegalArgumentException", "<init>", "(Ljava/lang/String;)V"⟩ ∈ gw := gw_2 (i := 180) rfl rfl
theorem kw421 : Cond.code ⟨"java/lang/IllegalArgumentException", "<init>", "(Ljava/lang/String;)V"⟩ prog_12_method_2_code 2 (Option.none : Option ClassFile.FieldType) ∈ gw := gw_2 (i := 181) rfl rfl
theorem kw422 : Cond.methodLink "java/lang/IllegalArgumentException" 7 ⟨"java/lang/RuntimeException", "<init>", "(Ljava/lang/String;)V"⟩ ∈ gw := gw_2 (i := 182) rfl rfl
theorem kw423 : Cond.instanceMethod ⟨"java/lang/RuntimeException", "<init>", "(Ljava/lang/String;)V"⟩ ∈ gw := gw_2 (i := 183) rfl rfl
theorem kw424 : Cond.code ⟨"java/lang/RuntimeException", "<init>", "(Ljava/lang/String;)V"⟩ prog_17_method_2_code 2 (Option.none : Option ClassFile.FieldType) ∈ gw := gw_2 (i := 184) rfl rfl
theorem kw425 : Cond.methodLink "java/lang/RuntimeException" 7 ⟨"java/lang/Exception", "<init>", "(Ljava/lang/String;)V"⟩ ∈ gw := gw_2 (i := 185) rfl rfl
theorem kw426 : Cond.instanceMethod ⟨"java/lang/Exception", "<init>", "(Ljava/lang/String;)V"⟩ ∈ gw := gw_2 (i := 186) rfl rfl
theorem kw427 : Cond.code ⟨"java/lang/Exception", "<init>", "(Ljava/lang/String;)V"⟩ prog_11_method_2_code 2 (Option.none : Option ClassFile.FieldType) ∈ gw := gw_2 (i := 187) rfl rfl
theorem kw428 : Cond.methodLink "java/lang/Exception" 7 ⟨"java/lang/Throwable", "<init>", "(Ljava/lang/String;)V"⟩ ∈ gw := gw_2 (i := 188) rfl rfl
theorem kw429 : Cond.instanceMethod ⟨"java/lang/Throwable", "<init>", "(Ljava/lang/String;)V"⟩ ∈ gw := gw_2 (i := 189) rfl rfl
theorem kw430 : Cond.code ⟨"java/lang/Throwable", "<init>", "(Ljava/lang/String;)V"⟩ prog_24_method_2_code 2 (Option.none : Option ClassFile.FieldType) ∈ gw := gw_2 (i := 190) rfl rfl
theorem kw432 : Cond.fieldLink "java/lang/Throwable" 31 "java/lang/Throwable" "detailMessage" "Ljava/lang/String;" ∈ gw := gw_2 (i := 192) rfl rfl
theorem kw433 : Cond.fieldLink "java/lang/Throwable" 7 "java/lang/Throwable" "cause" "Ljava/lang/Throwable;" ∈ gw := gw_2 (i := 193) rfl rfl
theorem kw434 : Cond.fieldLink "java/lang/Throwable" 17 "java/lang/Throwable" "stackTrace" "[Ljava/lang/StackTraceElement;" ∈ gw := gw_2 (i := 194) rfl rfl
theorem kw435 : Cond.fieldLink "java/lang/Throwable" 24 "java/lang/Throwable" "suppressedExceptions" "Ljava/util/List;" ∈ gw := gw_2 (i := 195) rfl rfl
theorem kw440 : Cond.lays "java/lang/IllegalArgumentException" "java/lang/Throwable" "depth" "I" ∈ gw := gw_2 (i := 200) rfl rfl
theorem kw443 : Cond.superclass "java/lang/IllegalArgumentException" "java/lang/RuntimeException" ∈ gw := gw_2 (i := 203) rfl rfl
theorem kw444 : Cond.methodLink "java/lang/String" 1051 ⟨"java/lang/StringUTF16", "compress", "([BII)[B"⟩ ∈ gw := gw_2 (i := 204) rfl rfl
theorem kw445 : Cond.static ⟨"java/lang/StringUTF16", "compress", "([BII)[B"⟩ ∈ gw := gw_2 (i := 205) rfl rfl
theorem kw446 : Cond.code ⟨"java/lang/StringUTF16", "compress", "([BII)[B"⟩ prog_22_method_17_code 6 (Option.some (.array .byte)) ∈ gw := gw_2 (i := 206) rfl rfl
theorem kw447 : Cond.methodLink "java/lang/StringUTF16" 123 ⟨"java/lang/StringUTF16", "compress", "([BI[BII)I"⟩ ∈ gw := gw_2 (i := 207) rfl rfl
theorem kw448 : Cond.static ⟨"java/lang/StringUTF16", "compress", "([BI[BII)I"⟩ ∈ gw := gw_2 (i := 208) rfl rfl
theorem kw449 : Cond.code ⟨"java/lang/StringUTF16", "compress", "([BI[BII)I"⟩ prog_22_method_22_code 7 (Option.some .int) ∈ gw := gw_2 (i := 209) rfl rfl
theorem kw450 : Cond.methodLink "java/lang/StringUTF16" 71 ⟨"java/lang/StringUTF16", "getChar", "([BI)C"⟩ ∈ gw := gw_2 (i := 210) rfl rfl
theorem kw451 : Cond.static ⟨"java/lang/StringUTF16", "getChar", "([BI)C"⟩ ∈ gw := gw_2 (i := 211) rfl rfl
theorem kw452 : Cond.code ⟨"java/lang/StringUTF16", "getChar", "([BI)C"⟩ prog_22_method_5_code 2 (Option.some .char) ∈ gw := gw_2 (i := 212) rfl rfl
theorem kw453 : Cond.methodLink "java/lang/StringUTF16" 126 ⟨"java/util/Arrays", "copyOfRange", "([BII)[B"⟩ ∈ gw := gw_2 (i := 213) rfl rfl
theorem kw454 : Cond.methodLink "java/lang/String" 47 ⟨"java/lang/StringUTF16", "coderFromArrayLen", "([BI)B"⟩ ∈ gw := gw_2 (i := 214) rfl rfl
theorem kw455 : Cond.static ⟨"java/lang/StringUTF16", "coderFromArrayLen", "([BI)B"⟩ ∈ gw := gw_2 (i := 215) rfl rfl
theorem kw456 : Cond.code ⟨"java/lang/StringUTF16", "coderFromArrayLen", "([BI)B"⟩ prog_22_method_15_code 2 (Option.some .byte) ∈ gw := gw_2 (i := 216) rfl rfl
theorem kw457 : Cond.fieldLink "java/lang/String" 9 "java/lang/String" "value" "[B" ∈ gw := gw_2 (i := 217) rfl rfl
theorem kw458 : Cond.fieldLink "java/lang/String" 15 "java/lang/String" "coder" "B" ∈ gw := gw_2 (i := 218) rfl rfl
theorem kw459 : Cond.laysFinal "java/lang/String" "java/lang/String" "value" "[B" ∈ gw := gw_2 (i := 219) rfl rfl
theorem kw461 : Cond.laysFinal "java/lang/String" "java/lang/String" "coder" "B" ∈ gw := gw_2 (i := 221) rfl rfl
theorem kw463 : Cond.lays "java/lang/String" "java/lang/String" "hash" "I" ∈ gw := gw_2 (i := 223) rfl rfl
theorem kw465 : Cond.lays "java/lang/String" "java/lang/String" "hashIsZero" "Z" ∈ gw := gw_2 (i := 225) rfl rfl
theorem kw467 : Cond.superclass "java/lang/String" "java/lang/Object" ∈ gw := gw_2 (i := 227) rfl rfl
theorem kw468 : Cond.methodLink "java/lang/StringIndexOutOfBoundsException" 7 ⟨"java/lang/IndexOutOfBoundsException", "<init>", "(Ljava/lang/String;)V"⟩ ∈ gw := gw_2 (i := 228) rfl rfl
theorem kw469 : Cond.instanceMethod ⟨"java/lang/IndexOutOfBoundsException", "<init>", "(Ljava/lang/String;)V"⟩ ∈ gw := gw_2 (i := 229) rfl rfl
theorem kw470 : Cond.code ⟨"java/lang/IndexOutOfBoundsException", "<init>", "(Ljava/lang/String;)V"⟩ prog_13_method_2_code 2 (Option.none : Option ClassFile.FieldType) ∈ gw := gw_2 (i := 230) rfl rfl
theorem kw471 : Cond.methodLink "java/lang/IndexOutOfBoundsException" 7 ⟨"java/lang/RuntimeException", "<init>", "(Ljava/lang/String;)V"⟩ ∈ gw := gw_2 (i := 231) rfl rfl
theorem kw472 : Cond.lays "java/lang/StringIndexOutOfBoundsException" "java/lang/Throwable" "backtrace" "Ljava/lang/Object;" ∈ gw := gw_2 (i := 232) rfl rfl
theorem kw473 : Cond.lays "java/lang/StringIndexOutOfBoundsException" "java/lang/Throwable" "detailMessage" "Ljava/lang/String;" ∈ gw := gw_2 (i := 233) rfl rfl
theorem kw474 : Cond.lays "java/lang/StringIndexOutOfBoundsException" "java/lang/Throwable" "cause" "Ljava/lang/Throwable;" ∈ gw := gw_2 (i := 234) rfl rfl
theorem kw475 : Cond.lays "java/lang/StringIndexOutOfBoundsException" "java/lang/Throwable" "stackTrace" "[Ljava/lang/StackTraceElement;" ∈ gw := gw_2 (i := 235) rfl rfl
theorem kw476 : Cond.lays "java/lang/StringIndexOutOfBoundsException" "java/lang/Throwable" "depth" "I" ∈ gw := gw_2 (i := 236) rfl rfl
theorem kw477 : Cond.lays "java/lang/StringIndexOutOfBoundsException" "java/lang/Throwable" "suppressedExceptions" "Ljava/util/List;" ∈ gw := gw_2 (i := 237) rfl rfl
theorem kw478 : Cond.superclass "java/lang/StringIndexOutOfBoundsException" "java/lang/IndexOutOfBoundsException" ∈ gw := gw_2 (i := 238) rfl rfl
theorem kw479 : Cond.methodLink "java/lang/AbstractStringBuilder" 133 ⟨"java/lang/StringLatin1", "fillNull", "([BII)V"⟩ ∈ gw := gw_2 (i := 239) rfl rfl
theorem kw480 : Cond.static ⟨"java/lang/StringLatin1", "fillNull", "([BII)V"⟩ ∈ gw := gw_3 (i := 0) rfl rfl
theorem kw481 : Cond.code ⟨"java/lang/StringLatin1", "fillNull", "([BII)V"⟩ prog_21_method_48_code 3 (Option.none : Option ClassFile.FieldType) ∈ gw := gw_3 (i := 1) rfl rfl
theorem kw482 : Cond.methodLink "java/lang/StringLatin1" 236 ⟨"java/util/Arrays", "fill", "([BIIB)V"⟩ ∈ gw := gw_3 (i := 2) rfl rfl
theorem kw483 : Cond.static ⟨"java/util/Arrays", "fill", "([BIIB)V"⟩ ∈ gw := gw_3 (i := 3) rfl rfl
theorem kw484 : Cond.code ⟨"java/util/Arrays", "fill", "([BIIB)V"⟩ prog_25_method_110_code 5 (Option.none : Option ClassFile.FieldType) ∈ gw := gw_3 (i := 4) rfl rfl
theorem kw485 : Cond.methodLink "java/util/Arrays" 13 ⟨"java/util/Arrays", "rangeCheck", "(III)V"⟩ ∈ gw := gw_3 (i := 5) rfl rfl
theorem kw486 : Cond.static ⟨"java/util/Arrays", "rangeCheck", "(III)V"⟩ ∈ gw := gw_3 (i := 6) rfl rfl
theorem kw487 : Cond.code ⟨"java/util/Arrays", "rangeCheck", "(III)V"⟩ prog_25_method_30_code 3 (Option.none : Option ClassFile.FieldType) ∈ gw := gw_3 (i := 7) rfl rfl
theorem kw491 : Cond.classLink "java/util/Arrays" 68 "java/lang/ArrayIndexOutOfBoundsException" ∈ gw := gw_3 (i := 11) rfl rfl
theorem kw492 : Cond.instantiable "java/lang/ArrayIndexOutOfBoundsException" 6 ∈ gw := gw_3 (i := 12) rfl rfl
theorem kn493 : Cond.castable "java/lang/ArrayIndexOutOfBoundsException" "java/lang/ArrayIndexOutOfBoundsException" ∈ z_nest := gn_3 (i := 13) rfl rfl
theorem kn494 : Cond.declares ⟨"java/lang/IndexOutOfBoundsException", "<init>", "()V"⟩ ∈ z_nest := gn_3 (i := 14) rfl rfl
theorem kn495 : Cond.declares ⟨"java/lang/IndexOutOfBoundsException", "<init>", "(Ljava/lang/String;)V"⟩ ∈ z_nest := gn_3 (i := 15) rfl rfl
theorem kw496 : Cond.selects "java/lang/ArrayIndexOutOfBoundsException" ⟨"java/lang/Throwable", "fillInStackTrace", "(I)Ljava/lang/Throwable;"⟩ ⟨"java/lang/Throwable", "fillInStackTrace", "(I)Ljava/lang/Throwable;"⟩ ∈ gw := gw_3 (i := 16) rfl rfl
theorem kw497 : Cond.lays "java/lang/ArrayIndexOutOfBoundsException" "java/lang/Throwable" "cause" "Ljava/lang/Throwable;" ∈ gw := gw_3 (i := 17) rfl rfl
theorem kw498 : Cond.lays "java/lang/ArrayIndexOutOfBoundsException" "java/lang/Throwable" "stackTrace" "[Ljava/lang/StackTraceElement;" ∈ gw := gw_3 (i := 18) rfl rfl
theorem kw499 : Cond.lays "java/lang/ArrayIndexOutOfBoundsException" "java/lang/Throwable" "suppressedExceptions" "Ljava/util/List;" ∈ gw := gw_3 (i := 19) rfl rfl
theorem kw500 : Cond.lays "java/lang/ArrayIndexOutOfBoundsException" "java/lang/Throwable" "detailMessage" "Ljava/lang/String;" ∈ gw := gw_3 (i := 20) rfl rfl
theorem kw501 : Cond.lays "java/lang/ArrayIndexOutOfBoundsException" "java/lang/Throwable" "backtrace" "Ljava/lang/Object;" ∈ gw := gw_3 (i := 21) rfl rfl
theorem kw502 : Cond.methodLink "java/util/Arrays" 70 ⟨"java/lang/ArrayIndexOutOfBoundsException", "<init>", "(I)V"⟩ ∈ gw := gw_3 (i := 22) rfl rfl
theorem kw503 : Cond.instanceMethod ⟨"java/lang/ArrayIndexOutOfBoundsException", "<init>", "(I)V"⟩ ∈ gw := gw_3 (i := 23) rfl rfl
theorem kw504 : Cond.code ⟨"java/lang/ArrayIndexOutOfBoundsException", "<init>", "(I)V"⟩ prog_9_method_3_code 2 (Option.none : Option ClassFile.FieldType) ∈ gw := gw_3 (i := 24) rfl rfl
theorem kw505 : Cond.classLink "java/lang/ArrayIndexOutOfBoundsException" 10 "java/lang/StringBuilder" ∈ gw := gw_3 (i := 25) rfl rfl
theorem kw506 : Cond.methodLink "java/lang/ArrayIndexOutOfBoundsException" 12 ⟨"java/lang/StringBuilder", "<init>", "()V"⟩ ∈ gw := gw_3 (i := 26) rfl rfl
theorem kw508 : Cond.methodLink "java/lang/ArrayIndexOutOfBoundsException" 15 ⟨"java/lang/StringBuilder", "append", "(Ljava/lang/String;)Ljava/lang/StringBuilder;"⟩ ∈ gw := gw_3 (i := 28) rfl rfl
theorem kw509 : Cond.methodLink "java/lang/ArrayIndexOutOfBoundsException" 19 ⟨"java/lang/StringBuilder", "append", "(I)Ljava/lang/StringBuilder;"⟩ ∈ gw := gw_3 (i := 29) rfl rfl
theorem kw510 : Cond.methodLink "java/lang/ArrayIndexOutOfBoundsException" 22 ⟨"java/lang/StringBuilder", "toString", "()Ljava/lang/String;"⟩ ∈ gw := gw_3 (i := 30) rfl rfl
theorem kw511 : Cond.methodLink "java/lang/ArrayIndexOutOfBoundsException" 7 ⟨"java/lang/IndexOutOfBoundsException", "<init>", "(Ljava/lang/String;)V"⟩ ∈ gw := gw_3 (i := 31) rfl rfl
theorem kw512 : Cond.lays "java/lang/ArrayIndexOutOfBoundsException" "java/lang/Throwable" "depth" "I" ∈ gw := gw_3 (i := 32) rfl rfl
theorem kw513 : Cond.superclass "java/lang/ArrayIndexOutOfBoundsException" "java/lang/IndexOutOfBoundsException" ∈ gw := gw_3 (i := 33) rfl rfl
theorem kw514 : Cond.methodLink "java/lang/AbstractStringBuilder" 137 ⟨"java/lang/StringUTF16", "fillNull", "([BII)V"⟩ ∈ gw := gw_3 (i := 34) rfl rfl
theorem kw515 : Cond.static ⟨"java/lang/StringUTF16", "fillNull", "([BII)V"⟩ ∈ gw := gw_3 (i := 35) rfl rfl
theorem kw516 : Cond.code ⟨"java/lang/StringUTF16", "fillNull", "([BII)V"⟩ prog_22_method_70_code 3 (Option.none : Option ClassFile.FieldType) ∈ gw := gw_3 (i := 36) rfl rfl
theorem kw517 : Cond.methodLink "java/lang/StringUTF16" 380 ⟨"java/util/Arrays", "fill", "([BIIB)V"⟩ ∈ gw := gw_3 (i := 37) rfl rfl
theorem kw518 : Cond.methodLink "Manypanes$Line" 41 ⟨"java/lang/StringBuilder", "append", "(C)Ljava/lang/StringBuilder;"⟩ ∈ gw := gw_3 (i := 38) rfl rfl
theorem kw519 : Cond.instanceMethod ⟨"java/lang/StringBuilder", "append", "(C)Ljava/lang/StringBuilder;"⟩ ∈ gw := gw_3 (i := 39) rfl rfl
theorem kw520 : Cond.selects "java/lang/StringBuilder" ⟨"java/lang/StringBuilder", "append", "(C)Ljava/lang/StringBuilder;"⟩ ⟨"java/lang/StringBuilder", "append", "(C)Ljava/lang/StringBuilder;"⟩ ∈ gw := gw_3 (i := 40) rfl rfl
theorem kw521 : Cond.code ⟨"java/lang/StringBuilder", "append", "(C)Ljava/lang/StringBuilder;"⟩ prog_19_method_14_code 2 (Option.some (.object "java/lang/StringBuilder")) ∈ gw := gw_3 (i := 41) rfl rfl
theorem kw522 : Cond.methodLink "java/lang/StringBuilder" 50 ⟨"java/lang/AbstractStringBuilder", "append", "(C)Ljava/lang/AbstractStringBuilder;"⟩ ∈ gw := gw_3 (i := 42) rfl rfl
theorem kw523 : Cond.instanceMethod ⟨"java/lang/AbstractStringBuilder", "append", "(C)Ljava/lang/AbstractStringBuilder;"⟩ ∈ gw := gw_3 (i := 43) rfl rfl
theorem kw524 : Cond.code ⟨"java/lang/AbstractStringBuilder", "append", "(C)Ljava/lang/AbstractStringBuilder;"⟩ prog_8_method_31_code 2 (Option.some (.object "java/lang/AbstractStringBuilder")) ∈ gw := gw_3 (i := 44) rfl rfl
theorem kw525 : Cond.methodLink "java/lang/AbstractStringBuilder" 191 ⟨"java/lang/StringLatin1", "canEncode", "(C)Z"⟩ ∈ gw := gw_3 (i := 45) rfl rfl
theorem kw526 : Cond.static ⟨"java/lang/StringLatin1", "canEncode", "(C)Z"⟩ ∈ gw := gw_3 (i := 46) rfl rfl
theorem kw527 : Cond.code ⟨"java/lang/StringLatin1", "canEncode", "(C)Z"⟩ prog_21_method_3_code 1 (Option.some .boolean) ∈ gw := gw_3 (i := 47) rfl rfl
theorem kw528 : Cond.methodLink "java/lang/AbstractStringBuilder" 197 ⟨"java/lang/StringUTF16", "putCharSB", "([BII)V"⟩ ∈ gw := gw_3 (i := 48) rfl rfl
theorem kw529 : Cond.static ⟨"java/lang/StringUTF16", "putCharSB", "([BII)V"⟩ ∈ gw := gw_3 (i := 49) rfl rfl
theorem kw530 : Cond.code ⟨"java/lang/StringUTF16", "putCharSB", "([BII)V"⟩ prog_22_method_71_code 3 (Option.none : Option ClassFile.FieldType) ∈ gw := gw_3 (i := 50) rfl rfl
theorem kw531 : Cond.methodLink "java/lang/StringUTF16" 67 ⟨"java/lang/StringUTF16", "checkIndex", "(I[B)V"⟩ ∈ gw := gw_3 (i := 51) rfl rfl
theorem kw532 : Cond.static ⟨"java/lang/StringUTF16", "checkIndex", "(I[B)V"⟩ ∈ gw := gw_3 (i := 52) rfl rfl
theorem kw533 : Cond.code ⟨"java/lang/StringUTF16", "checkIndex", "(I[B)V"⟩ prog_22_method_91_code 2 (Option.none : Option ClassFile.FieldType) ∈ gw := gw_3 (i := 53) rfl rfl
theorem kw534 : Cond.methodLink "java/lang/StringUTF16" 414 ⟨"java/lang/String", "checkIndex", "(II)V"⟩ ∈ gw := gw_3 (i := 54) rfl rfl
theorem kw535 : Cond.static ⟨"java/lang/String", "checkIndex", "(II)V"⟩ ∈ gw := gw_3 (i := 55) rfl rfl
theorem kw536 : Cond.code ⟨"java/lang/String", "checkIndex", "(II)V"⟩ prog_18_method_155_code 2 (Option.none : Option ClassFile.FieldType) ∈ gw := gw_3 (i := 56) rfl rfl
theorem kw537 : Cond.methodLink "java/lang/String" 1059 ⟨"jdk/internal/util/Preconditions", "checkIndex", "(IILjava/util/function/BiFunction;)I"⟩ ∈ gw := gw_3 (i := 57) rfl rfl
theorem kw538 : Cond.static ⟨"jdk/internal/util/Preconditions", "checkIndex", "(IILjava/util/function/BiFunction;)I"⟩ ∈ gw := gw_3 (i := 58) rfl rfl
theorem kw539 : Cond.code ⟨"jdk/internal/util/Preconditions", "checkIndex", "(IILjava/util/function/BiFunction;)I"⟩ prog_27_method_11_code 3 (Option.some .int) ∈ gw := gw_3 (i := 59) rfl rfl
theorem kw540 : Cond.methodLink "Manypanes$Line" 33 ⟨"Manypanes$Pane", "valueAt", "(I)I"⟩ ∈ gw := gw_3 (i := 60) rfl rfl
theorem kw541 : Cond.instanceMethod ⟨"Manypanes$Pane", "valueAt", "(I)I"⟩ ∈ gw := gw_3 (i := 61) rfl rfl
theorem kw542 : Cond.selects "Manypanes$Pane" ⟨"Manypanes$Pane", "valueAt", "(I)I"⟩ ⟨"Manypanes$Pane", "valueAt", "(I)I"⟩ ∈ gw := gw_3 (i := 62) rfl rfl
theorem kw543 : Cond.code ⟨"Manypanes$Pane", "valueAt", "(I)I"⟩ prog_3_method_12_code 2 (Option.some .int) ∈ gw := gw_3 (i := 63) rfl rfl
theorem kw544 : Cond.methodLink "Manypanes$Pane" 45 ⟨"Manypanes$Row", "valueAt", "(I)I"⟩ ∈ gw := gw_3 (i := 64) rfl rfl
theorem kw545 : Cond.instanceMethod ⟨"Manypanes$Row", "valueAt", "(I)I"⟩ ∈ gw := gw_3 (i := 65) rfl rfl
theorem kw546 : Cond.selects "Manypanes$Row" ⟨"Manypanes$Row", "valueAt", "(I)I"⟩ ⟨"Manypanes$Row", "valueAt", "(I)I"⟩ ∈ gw := gw_3 (i := 66) rfl rfl
theorem kw547 : Cond.code ⟨"Manypanes$Row", "valueAt", "(I)I"⟩ prog_4_method_4_code 2 (Option.some .int) ∈ gw := gw_3 (i := 67) rfl rfl
theorem kw548 : Cond.methodLink "Manypanes$Row" 13 ⟨"Manypanes$Row", "hasPlace", "(I)Z"⟩ ∈ gw := gw_3 (i := 68) rfl rfl
theorem kw549 : Cond.instanceMethod ⟨"Manypanes$Row", "hasPlace", "(I)Z"⟩ ∈ gw := gw_3 (i := 69) rfl rfl
theorem kw550 : Cond.selects "Manypanes$Row" ⟨"Manypanes$Row", "hasPlace", "(I)Z"⟩ ⟨"Manypanes$Row", "hasPlace", "(I)Z"⟩ ∈ gw := gw_3 (i := 70) rfl rfl
theorem kw551 : Cond.code ⟨"Manypanes$Row", "hasPlace", "(I)Z"⟩ prog_4_method_3_code 2 (Option.some .boolean) ∈ gw := gw_3 (i := 71) rfl rfl
theorem kw552 : Cond.methodLink "Manypanes$Line" 37 ⟨"Manypanes$Line", "addNumber", "(J)V"⟩ ∈ gw := gw_3 (i := 72) rfl rfl
theorem kw554 : Cond.instanceMethod ⟨"Manypanes$Line", "addNumber", "(J)V"⟩ ∈ gw := gw_3 (i := 74) rfl rfl
theorem kw555 : Cond.code ⟨"Manypanes$Line", "addNumber", "(J)V"⟩ prog_2_method_7_code 5 (Option.none : Option ClassFile.FieldType) ∈ gw := gw_3 (i := 75) rfl rfl
theorem kw556 : Cond.constantLong "Manypanes$Line" 55 (10000000000 : Int64) ∈ gw := gw_3 (i := 76) rfl rfl
theorem kw557 : Cond.constantLong "Manypanes$Line" 57 (10 : Int64) ∈ gw := gw_3 (i := 77) rfl rfl
theorem kw558 : Cond.methodLink "Manypanes" 164 ⟨"Manypanes$Line", "written", "()Ljava/lang/String;"⟩ ∈ gw := gw_3 (i := 78) rfl rfl
theorem kw559 : Cond.instanceMethod ⟨"Manypanes$Line", "written", "()Ljava/lang/String;"⟩ ∈ gw := gw_3 (i := 79) rfl rfl
theorem kw560 : Cond.selects "Manypanes$Line" ⟨"Manypanes$Line", "written", "()Ljava/lang/String;"⟩ ⟨"Manypanes$Line", "written", "()Ljava/lang/String;"⟩ ∈ gw := gw_3 (i := 80) rfl rfl
theorem kw561 : Cond.code ⟨"Manypanes$Line", "written", "()Ljava/lang/String;"⟩ prog_2_method_2_code 1 (Option.some (.object "java/lang/String")) ∈ gw := gw_3 (i := 81) rfl rfl
theorem kw562 : Cond.methodLink "Manypanes$Line" 16 ⟨"java/lang/StringBuilder", "toString", "()Ljava/lang/String;"⟩ ∈ gw := gw_3 (i := 82) rfl rfl
theorem kw563 : Cond.methodLink "ManypanesLaw" 270 ⟨"Manypanes", "knock", "()I"⟩ ∈ gw := gw_3 (i := 83) rfl rfl
theorem kw564 : Cond.instanceMethod ⟨"Manypanes", "knock", "()I"⟩ ∈ gw := gw_3 (i := 84) rfl rfl
theorem kw565 : Cond.selects "Manypanes" ⟨"Manypanes", "knock", "()I"⟩ ⟨"Manypanes", "knock", "()I"⟩ ∈ gw := gw_3 (i := 85) rfl rfl
theorem kw566 : Cond.code ⟨"Manypanes", "knock", "()I"⟩ prog_1_method_40_code 1 (Option.some .int) ∈ gw := gw_3 (i := 86) rfl rfl
theorem kw567 : Cond.methodLink "ManypanesLaw" 274 ⟨"Manypanes", "isSound", "()Z"⟩ ∈ gw := gw_3 (i := 87) rfl rfl
theorem kw568 : Cond.instanceMethod ⟨"Manypanes", "isSound", "()Z"⟩ ∈ gw := gw_3 (i := 88) rfl rfl
theorem kw569 : Cond.selects "Manypanes" ⟨"Manypanes", "isSound", "()Z"⟩ ⟨"Manypanes", "isSound", "()Z"⟩ ∈ gw := gw_3 (i := 89) rfl rfl
theorem kw570 : Cond.code ⟨"Manypanes", "isSound", "()Z"⟩ prog_1_method_41_code 3 (Option.some .boolean) ∈ gw := gw_3 (i := 90) rfl rfl
theorem kw571 : Cond.methodLink "Manypanes" 188 ⟨"Manypanes$Pane", "isInOrder", "()Z"⟩ ∈ gw := gw_3 (i := 91) rfl rfl
theorem kw572 : Cond.instanceMethod ⟨"Manypanes$Pane", "isInOrder", "()Z"⟩ ∈ gw := gw_3 (i := 92) rfl rfl
theorem kw573 : Cond.selects "Manypanes$Pane" ⟨"Manypanes$Pane", "isInOrder", "()Z"⟩ ⟨"Manypanes$Pane", "isInOrder", "()Z"⟩ ∈ gw := gw_3 (i := 93) rfl rfl
theorem kw574 : Cond.code ⟨"Manypanes$Pane", "isInOrder", "()Z"⟩ prog_3_method_17_code 1 (Option.some .boolean) ∈ gw := gw_3 (i := 94) rfl rfl
theorem kw575 : Cond.methodLink "Manypanes$Pane" 60 ⟨"Manypanes$Pane", "hasMark", "()Z"⟩ ∈ gw := gw_3 (i := 95) rfl rfl
theorem kw576 : Cond.instanceMethod ⟨"Manypanes$Pane", "hasMark", "()Z"⟩ ∈ gw := gw_3 (i := 96) rfl rfl
theorem kw577 : Cond.selects "Manypanes$Pane" ⟨"Manypanes$Pane", "hasMark", "()Z"⟩ ⟨"Manypanes$Pane", "hasMark", "()Z"⟩ ∈ gw := gw_3 (i := 97) rfl rfl
theorem kw578 : Cond.code ⟨"Manypanes$Pane", "hasMark", "()Z"⟩ prog_3_method_9_code 1 (Option.some .boolean) ∈ gw := gw_3 (i := 98) rfl rfl
theorem kw579 : Cond.methodLink "Manypanes$Pane" 57 ⟨"Manypanes$Pane", "left", "()I"⟩ ∈ gw := gw_3 (i := 99) rfl rfl
theorem kw580 : Cond.instanceMethod ⟨"Manypanes$Pane", "left", "()I"⟩ ∈ gw := gw_3 (i := 100) rfl rfl
theorem kw581 : Cond.selects "Manypanes$Pane" ⟨"Manypanes$Pane", "left", "()I"⟩ ⟨"Manypanes$Pane", "left", "()I"⟩ ∈ gw := gw_3 (i := 101) rfl rfl
theorem kw582 : Cond.code ⟨"Manypanes$Pane", "left", "()I"⟩ prog_3_method_8_code 1 (Option.some .int) ∈ gw := gw_3 (i := 102) rfl rfl
theorem kw583 : Cond.methodLink "Manypanes" 191 ⟨"Manypanes", "hasTrueTwins", "(LManypanes$Pane;)Z"⟩ ∈ gw := gw_3 (i := 103) rfl rfl
theorem kw585 : Cond.instanceMethod ⟨"Manypanes", "hasTrueTwins", "(LManypanes$Pane;)Z"⟩ ∈ gw := gw_3 (i := 105) rfl rfl
theorem kw586 : Cond.code ⟨"Manypanes", "hasTrueTwins", "(LManypanes$Pane;)Z"⟩ prog_1_method_57_code 3 (Option.some .boolean) ∈ gw := gw_3 (i := 106) rfl rfl
theorem kw587 : Cond.methodLink "Manypanes" 70 ⟨"Manypanes$Pane", "becomeTwin", "(LManypanes$Pane;)V"⟩ ∈ gw := gw_3 (i := 107) rfl rfl
theorem kw588 : Cond.instanceMethod ⟨"Manypanes$Pane", "becomeTwin", "(LManypanes$Pane;)V"⟩ ∈ gw := gw_3 (i := 108) rfl rfl
theorem kw589 : Cond.selects "Manypanes$Pane" ⟨"Manypanes$Pane", "becomeTwin", "(LManypanes$Pane;)V"⟩ ⟨"Manypanes$Pane", "becomeTwin", "(LManypanes$Pane;)V"⟩ ∈ gw := gw_3 (i := 109) rfl rfl
theorem kw590 : Cond.code ⟨"Manypanes$Pane", "becomeTwin", "(LManypanes$Pane;)V"⟩ prog_3_method_3_code 2 (Option.none : Option ClassFile.FieldType) ∈ gw := gw_3 (i := 110) rfl rfl
theorem kw591 : Cond.methodLink "Manypanes" 242 ⟨"Manypanes$Pane", "tellsAs", "(LManypanes$Pane;)Z"⟩ ∈ gw := gw_3 (i := 111) rfl rfl
theorem kw592 : Cond.instanceMethod ⟨"Manypanes$Pane", "tellsAs", "(LManypanes$Pane;)Z"⟩ ∈ gw := gw_3 (i := 112) rfl rfl
theorem kw593 : Cond.selects "Manypanes$Pane" ⟨"Manypanes$Pane", "tellsAs", "(LManypanes$Pane;)Z"⟩ ⟨"Manypanes$Pane", "tellsAs", "(LManypanes$Pane;)Z"⟩ ∈ gw := gw_3 (i := 113) rfl rfl
theorem kw594 : Cond.code ⟨"Manypanes$Pane", "tellsAs", "(LManypanes$Pane;)Z"⟩ prog_3_method_18_code 3 (Option.some .boolean) ∈ gw := gw_3 (i := 114) rfl rfl
theorem kw595 : Cond.methodLink "Manypanes$Pane" 53 ⟨"Manypanes$Pane", "valueAt", "(I)I"⟩ ∈ gw := gw_3 (i := 115) rfl rfl
theorem kw596 : Cond.methodLink "Manypanes" 195 ⟨"Manypanes", "hasTrueRemainder", "(LManypanes$Pane;)Z"⟩ ∈ gw := gw_3 (i := 116) rfl rfl
theorem kw598 : Cond.instanceMethod ⟨"Manypanes", "hasTrueRemainder", "(LManypanes$Pane;)Z"⟩ ∈ gw := gw_3 (i := 118) rfl rfl
theorem kw599 : Cond.code ⟨"Manypanes", "hasTrueRemainder", "(LManypanes$Pane;)Z"⟩ prog_1_method_58_code 3 (Option.some .boolean) ∈ gw := gw_3 (i := 119) rfl rfl
theorem kw600 : Cond.methodLink "Manypanes" 74 ⟨"Manypanes$Pane", "left", "()I"⟩ ∈ gw := gw_3 (i := 120) rfl rfl
theorem kw601 : Cond.methodLink "Manypanes" 78 ⟨"Manypanes$Pane", "becomePart", "(LManypanes$Pane;II)V"⟩ ∈ gw := gw_3 (i := 121) rfl rfl
theorem kw602 : Cond.instanceMethod ⟨"Manypanes$Pane", "becomePart", "(LManypanes$Pane;II)V"⟩ ∈ gw := gw_3 (i := 122) rfl rfl
theorem kw603 : Cond.selects "Manypanes$Pane" ⟨"Manypanes$Pane", "becomePart", "(LManypanes$Pane;II)V"⟩ ⟨"Manypanes$Pane", "becomePart", "(LManypanes$Pane;II)V"⟩ ∈ gw := gw_3 (i := 123) rfl rfl
theorem kw604 : Cond.code ⟨"Manypanes$Pane", "becomePart", "(LManypanes$Pane;II)V"⟩ prog_3_method_4_code 4 (Option.none : Option ClassFile.FieldType) ∈ gw := gw_3 (i := 124) rfl rfl
theorem kw605 : Cond.methodLink "Manypanes" 131 ⟨"Manypanes$Pane", "valueAt", "(I)I"⟩ ∈ gw := gw_3 (i := 125) rfl rfl
theorem kw606 : Cond.methodLink "Manypanes" 198 ⟨"Manypanes", "agree", "(LManypanes$Pane;LManypanes$Pane;)Z"⟩ ∈ gw := gw_3 (i := 126) rfl rfl
theorem kw607 : Cond.static ⟨"Manypanes", "agree", "(LManypanes$Pane;LManypanes$Pane;)Z"⟩ ∈ gw := gw_3 (i := 127) rfl rfl
theorem kw608 : Cond.code ⟨"Manypanes", "agree", "(LManypanes$Pane;LManypanes$Pane;)Z"⟩ prog_1_method_59_code 4 (Option.some .boolean) ∈ gw := gw_3 (i := 128) rfl rfl
theorem kw609 : Cond.methodLink "Manypanes" 177 ⟨"Manypanes", "kinship", "(LManypanes$Pane;LManypanes$Pane;)I"⟩ ∈ gw := gw_3 (i := 129) rfl rfl
theorem kw610 : Cond.static ⟨"Manypanes", "kinship", "(LManypanes$Pane;LManypanes$Pane;)I"⟩ ∈ gw := gw_3 (i := 130) rfl rfl
theorem kw611 : Cond.code ⟨"Manypanes", "kinship", "(LManypanes$Pane;LManypanes$Pane;)I"⟩ prog_1_method_52_code 2 (Option.some .int) ∈ gw := gw_3 (i := 131) rfl rfl
theorem kw612 : Cond.methodLink "Manypanes" 181 ⟨"Manypanes", "indexSeen", "(LManypanes$Pane;ILManypanes$Pane;)I"⟩ ∈ gw := gw_3 (i := 132) rfl rfl
theorem kw613 : Cond.static ⟨"Manypanes", "indexSeen", "(LManypanes$Pane;ILManypanes$Pane;)I"⟩ ∈ gw := gw_3 (i := 133) rfl rfl
theorem kw614 : Cond.code ⟨"Manypanes", "indexSeen", "(LManypanes$Pane;ILManypanes$Pane;)I"⟩ prog_1_method_53_code 4 (Option.some .int) ∈ gw := gw_3 (i := 134) rfl rfl
theorem kw615 : Cond.methodLink "Manypanes" 152 ⟨"Manypanes$Pane", "shows", "(I)Z"⟩ ∈ gw := gw_3 (i := 135) rfl rfl
theorem kw616 : Cond.instanceMethod ⟨"Manypanes$Pane", "shows", "(I)Z"⟩ ∈ gw := gw_3 (i := 136) rfl rfl
theorem kw617 : Cond.selects "Manypanes$Pane" ⟨"Manypanes$Pane", "shows", "(I)Z"⟩ ⟨"Manypanes$Pane", "shows", "(I)Z"⟩ ∈ gw := gw_3 (i := 137) rfl rfl
theorem kw618 : Cond.code ⟨"Manypanes$Pane", "shows", "(I)Z"⟩ prog_3_method_11_code 2 (Option.some .boolean) ∈ gw := gw_3 (i := 138) rfl rfl
theorem kw619 : Cond.methodLink "ManypanesLaw" 279 ⟨"Manypanes", "digest", "()J"⟩ ∈ gw := gw_3 (i := 139) rfl rfl
theorem kw620 : Cond.instanceMethod ⟨"Manypanes", "digest", "()J"⟩ ∈ gw := gw_3 (i := 140) rfl rfl
theorem kw621 : Cond.selects "Manypanes" ⟨"Manypanes", "digest", "()J"⟩ ⟨"Manypanes", "digest", "()J"⟩ ∈ gw := gw_3 (i := 141) rfl rfl
theorem kw622 : Cond.code ⟨"Manypanes", "digest", "()J"⟩ prog_1_method_42_code 5 (Option.some .long) ∈ gw := gw_3 (i := 142) rfl rfl
theorem kw623 : Cond.constantLong "Manypanes" 201 (8017 : Int64) ∈ gw := gw_3 (i := 143) rfl rfl
theorem kw624 : Cond.methodLink "Manypanes" 185 ⟨"Manypanes", "houseNumber", "(I)I"⟩ ∈ gw := gw_3 (i := 144) rfl rfl
theorem kw626 : Cond.instanceMethod ⟨"Manypanes", "houseNumber", "(I)I"⟩ ∈ gw := gw_3 (i := 146) rfl rfl
theorem kw627 : Cond.code ⟨"Manypanes", "houseNumber", "(I)I"⟩ prog_1_method_54_code 2 (Option.some .int) ∈ gw := gw_3 (i := 147) rfl rfl
theorem kw628 : Cond.methodLink "Manypanes" 236 ⟨"Manypanes", "howManyReaders", "()I"⟩ ∈ gw := gw_3 (i := 148) rfl rfl
theorem kw630 : Cond.instanceMethod ⟨"Manypanes", "howManyReaders", "()I"⟩ ∈ gw := gw_3 (i := 150) rfl rfl
theorem kw631 : Cond.code ⟨"Manypanes", "howManyReaders", "()I"⟩ prog_1_method_55_code 3 (Option.some .int) ∈ gw := gw_3 (i := 151) rfl rfl
theorem kw632 : Cond.methodLink "Manypanes" 239 ⟨"Manypanes", "howManyMarks", "()I"⟩ ∈ gw := gw_3 (i := 152) rfl rfl
theorem kw634 : Cond.instanceMethod ⟨"Manypanes", "howManyMarks", "()I"⟩ ∈ gw := gw_3 (i := 154) rfl rfl
theorem kw635 : Cond.code ⟨"Manypanes", "howManyMarks", "()I"⟩ prog_1_method_56_code 3 (Option.some .int) ∈ gw := gw_3 (i := 155) rfl rfl
theorem kw636 : Cond.methodLink "Manypanes" 109 ⟨"Manypanes$Pane", "hasMark", "()Z"⟩ ∈ gw := gw_3 (i := 156) rfl rfl
theorem kw637 : Cond.methodLink "Manypanes" 203 ⟨"Manypanes", "mix", "(JI)J"⟩ ∈ gw := gw_3 (i := 157) rfl rfl
theorem kw638 : Cond.static ⟨"Manypanes", "mix", "(JI)J"⟩ ∈ gw := gw_3 (i := 158) rfl rfl
theorem kw639 : Cond.code ⟨"Manypanes", "mix", "(JI)J"⟩ prog_1_method_60_code 3 (Option.some .long) ∈ gw := gw_3 (i := 159) rfl rfl
theorem kw640 : Cond.constantLong "Manypanes" 245 (31 : Int64) ∈ gw := gw_3 (i := 160) rfl rfl
theorem kw641 : Cond.methodLink "Manypanes" 207 ⟨"Manypanes", "mixPane", "(JLManypanes$Pane;)J"⟩ ∈ gw := gw_3 (i := 161) rfl rfl
theorem kw643 : Cond.instanceMethod ⟨"Manypanes", "mixPane", "(JLManypanes$Pane;)J"⟩ ∈ gw := gw_3 (i := 163) rfl rfl
theorem kw644 : Cond.code ⟨"Manypanes", "mixPane", "(JLManypanes$Pane;)J"⟩ prog_1_method_61_code 7 (Option.some .long) ∈ gw := gw_3 (i := 164) rfl rfl
theorem kw645 : Cond.methodLink "Manypanes" 158 ⟨"Manypanes$Pane", "numberOf", "(I)I"⟩ ∈ gw := gw_3 (i := 165) rfl rfl
theorem kw646 : Cond.instanceMethod ⟨"Manypanes$Pane", "numberOf", "(I)I"⟩ ∈ gw := gw_3 (i := 166) rfl rfl
theorem kw647 : Cond.selects "Manypanes$Pane" ⟨"Manypanes$Pane", "numberOf", "(I)I"⟩ ⟨"Manypanes$Pane", "numberOf", "(I)I"⟩ ∈ gw := gw_3 (i := 167) rfl rfl
theorem kw648 : Cond.code ⟨"Manypanes$Pane", "numberOf", "(I)I"⟩ prog_3_method_16_code 2 (Option.some .int) ∈ gw := gw_3 (i := 168) rfl rfl
theorem kw649 : Cond.methodLink "Manypanes" 171 ⟨"Manypanes$Line", "beginWhole", "(LManypanes$Pane;)V"⟩ ∈ gw := gw_3 (i := 169) rfl rfl
theorem kw650 : Cond.instanceMethod ⟨"Manypanes$Line", "beginWhole", "(LManypanes$Pane;)V"⟩ ∈ gw := gw_3 (i := 170) rfl rfl
theorem kw651 : Cond.selects "Manypanes$Line" ⟨"Manypanes$Line", "beginWhole", "(LManypanes$Pane;)V"⟩ ⟨"Manypanes$Line", "beginWhole", "(LManypanes$Pane;)V"⟩ ∈ gw := gw_3 (i := 171) rfl rfl
theorem kw652 : Cond.code ⟨"Manypanes$Line", "beginWhole", "(LManypanes$Pane;)V"⟩ prog_2_method_5_code 3 (Option.none : Option ClassFile.FieldType) ∈ gw := gw_3 (i := 172) rfl rfl
theorem kw653 : Cond.methodLink "Manypanes$Line" 48 ⟨"Manypanes$Line", "addSigns", "(LManypanes$Pane;I)V"⟩ ∈ gw := gw_3 (i := 173) rfl rfl
theorem kw655 : Cond.instanceMethod ⟨"Manypanes$Line", "addSigns", "(LManypanes$Pane;I)V"⟩ ∈ gw := gw_3 (i := 175) rfl rfl
theorem kw656 : Cond.code ⟨"Manypanes$Line", "addSigns", "(LManypanes$Pane;I)V"⟩ prog_2_method_6_code 3 (Option.none : Option ClassFile.FieldType) ∈ gw := gw_3 (i := 176) rfl rfl
theorem kw657 : Cond.methodLink "Manypanes" 211 ⟨"Manypanes", "mixLine", "(J)J"⟩ ∈ gw := gw_3 (i := 177) rfl rfl
theorem kw659 : Cond.instanceMethod ⟨"Manypanes", "mixLine", "(J)J"⟩ ∈ gw := gw_3 (i := 179) rfl rfl
theorem kw660 : Cond.code ⟨"Manypanes", "mixLine", "(J)J"⟩ prog_1_method_62_code 6 (Option.some .long) ∈ gw := gw_3 (i := 180) rfl rfl
theorem kw661 : Cond.methodLink "Manypanes" 251 ⟨"java/lang/StringBuilder", "length", "()I"⟩ ∈ gw := gw_3 (i := 181) rfl rfl
theorem kw662 : Cond.methodLink "Manypanes" 256 ⟨"java/lang/StringBuilder", "charAt", "(I)C"⟩ ∈ gw := gw_3 (i := 182) rfl rfl
theorem kw663 : Cond.instanceMethod ⟨"java/lang/StringBuilder", "charAt", "(I)C"⟩ ∈ gw := gw_3 (i := 183) rfl rfl
theorem kw664 : Cond.selects "java/lang/StringBuilder" ⟨"java/lang/StringBuilder", "charAt", "(I)C"⟩ ⟨"java/lang/StringBuilder", "charAt", "(I)C"⟩ ∈ gw := gw_3 (i := 184) rfl rfl
theorem kw665 : Cond.code ⟨"java/lang/StringBuilder", "charAt", "(I)C"⟩ prog_19_method_88_code 2 (Option.some .char) ∈ gw := gw_3 (i := 185) rfl rfl
theorem kw666 : Cond.methodLink "java/lang/StringBuilder" 329 ⟨"java/lang/AbstractStringBuilder", "charAt", "(I)C"⟩ ∈ gw := gw_3 (i := 186) rfl rfl
theorem kw667 : Cond.instanceMethod ⟨"java/lang/AbstractStringBuilder", "charAt", "(I)C"⟩ ∈ gw := gw_3 (i := 187) rfl rfl
theorem kw668 : Cond.code ⟨"java/lang/AbstractStringBuilder", "charAt", "(I)C"⟩ prog_8_method_14_code 5 (Option.some .char) ∈ gw := gw_3 (i := 188) rfl rfl
theorem kw669 : Cond.methodLink "java/lang/AbstractStringBuilder" 138 ⟨"java/lang/Math", "min", "(II)I"⟩ ∈ gw := gw_3 (i := 189) rfl rfl
theorem kw670 : Cond.methodLink "java/lang/AbstractStringBuilder" 144 ⟨"java/lang/String", "checkIndex", "(II)V"⟩ ∈ gw := gw_3 (i := 190) rfl rfl
theorem kw671 : Cond.methodLink "java/lang/AbstractStringBuilder" 148 ⟨"java/lang/StringUTF16", "getChar", "([BI)C"⟩ ∈ gw := gw_3 (i := 191) rfl rfl
theorem kw672 : Cond.methodLink "Manypanes" 161 ⟨"Manypanes$Line", "beginTotal", "(LManypanes$Pane;)V"⟩ ∈ gw := gw_3 (i := 192) rfl rfl
theorem kw673 : Cond.instanceMethod ⟨"Manypanes$Line", "beginTotal", "(LManypanes$Pane;)V"⟩ ∈ gw := gw_3 (i := 193) rfl rfl
theorem kw674 : Cond.selects "Manypanes$Line" ⟨"Manypanes$Line", "beginTotal", "(LManypanes$Pane;)V"⟩ ⟨"Manypanes$Line", "beginTotal", "(LManypanes$Pane;)V"⟩ ∈ gw := gw_3 (i := 194) rfl rfl
theorem kw675 : Cond.code ⟨"Manypanes$Line", "beginTotal", "(LManypanes$Pane;)V"⟩ prog_2_method_3_code 5 (Option.none : Option ClassFile.FieldType) ∈ gw := gw_3 (i := 195) rfl rfl
theorem kw676 : Cond.methodLink "Manypanes" 215 ⟨"Manypanes", "isSound", "()Z"⟩ ∈ gw := gw_3 (i := 196) rfl rfl
theorem kw677 : Cond.classLink "ManypanesLaw" 14 "ManypanesLaw$Out" ∈ gw := gw_3 (i := 197) rfl rfl
theorem kw678 : Cond.instantiable "ManypanesLaw$Out" 2 ∈ gw := gw_3 (i := 198) rfl rfl
theorem kn679 : Cond.methodLinkNest "ManypanesLaw" 143 ⟨"ManypanesLaw$Out", "<init>", "()V"⟩ "ManypanesLaw" ∈ z_nest := gn_3 (i := 199) rfl rfl
theorem kw680 : Cond.instanceMethod ⟨"ManypanesLaw$Out", "<init>", "()V"⟩ ∈ gw := gw_3 (i := 200) rfl rfl
theorem kw681 : Cond.code ⟨"ManypanesLaw$Out", "<init>", "()V"⟩ prog_6_method_1_code 1 (Option.none : Option ClassFile.FieldType) ∈ gw := gw_3 (i := 201) rfl rfl
theorem kw682 : Cond.methodLink "ManypanesLaw$Out" 1 ⟨"java/lang/Object", "<init>", "()V"⟩ ∈ gw := gw_3 (i := 202) rfl rfl
theorem kn683 : Cond.fieldLinkNest "ManypanesLaw" 13 "ManypanesLaw$Out" "n" "J" "ManypanesLaw" ∈ z_nest := gn_3 (i := 203) rfl rfl
theorem kn684 : Cond.fieldLinkNest "ManypanesLaw" 117 "ManypanesLaw$Out" "s" "Ljava/lang/String;" "ManypanesLaw" ∈ z_nest := gn_3 (i := 204) rfl rfl
theorem kw685 : Cond.lays "ManypanesLaw$Out" "ManypanesLaw$Out" "n" "J" ∈ gw := gw_3 (i := 205) rfl rfl
theorem kw687 : Cond.lays "ManypanesLaw$Out" "ManypanesLaw$Out" "s" "Ljava/lang/String;" ∈ gw := gw_3 (i := 207) rfl rfl
theorem kw689 : Cond.superclass "ManypanesLaw$Out" "java/lang/Object" ∈ gw := gw_3 (i := 209) rfl rfl
theorem kw690 : Cond.methodLink "ManypanesLaw" 144 ⟨"ManypanesLaw", "wrap", "(LManypanes;IIILManypanesLaw$Out;)I"⟩ ∈ gw := gw_3 (i := 210) rfl rfl
theorem kw691 : Cond.static ⟨"ManypanesLaw", "wrap", "(LManypanes;IIILManypanesLaw$Out;)I"⟩ ∈ gw := gw_3 (i := 211) rfl rfl
theorem kw693 : Cond.classLink "ManypanesLaw" 19 "java/lang/IndexOutOfBoundsException" ∈ gw := gw_3 (i := 213) rfl rfl
theorem kw694 : Cond.classLink "ManypanesLaw" 21 "java/lang/IllegalArgumentException" ∈ gw := gw_3 (i := 214) rfl rfl
theorem kw695 : Cond.methodLink "ManypanesLaw" 7 ⟨"Manypanes", "wrap", "(III)I"⟩ ∈ gw := gw_3 (i := 215) rfl rfl
theorem kw696 : Cond.instanceMethod ⟨"Manypanes", "wrap", "(III)I"⟩ ∈ gw := gw_3 (i := 216) rfl rfl
theorem kw697 : Cond.selects "Manypanes" ⟨"Manypanes", "wrap", "(III)I"⟩ ⟨"Manypanes", "wrap", "(III)I"⟩ ∈ gw := gw_3 (i := 217) rfl rfl
theorem kw698 : Cond.code ⟨"Manypanes", "wrap", "(III)I"⟩ prog_1_method_2_code 5 (Option.some .int) ∈ gw := gw_3 (i := 218) rfl rfl
theorem kw699 : Cond.methodLink "Manypanes" 49 ⟨"Manypanes", "paneOf", "(I)LManypanes$Pane;"⟩ ∈ gw := gw_3 (i := 219) rfl rfl
theorem kw701 : Cond.instanceMethod ⟨"Manypanes", "paneOf", "(I)LManypanes$Pane;"⟩ ∈ gw := gw_3 (i := 221) rfl rfl
theorem kw702 : Cond.code ⟨"Manypanes", "paneOf", "(I)LManypanes$Pane;"⟩ prog_1_method_43_code 2 (Option.some (.object "Manypanes$Pane")) ∈ gw := gw_3 (i := 222) rfl rfl
theorem kw703 : Cond.classLink "Manypanes" 142 "java/lang/IndexOutOfBoundsException" ∈ gw := gw_3 (i := 223) rfl rfl
theorem kw704 : Cond.instantiable "java/lang/IndexOutOfBoundsException" 6 ∈ gw := gw_3 (i := 224) rfl rfl
theorem kn705 : Cond.castable "java/lang/IndexOutOfBoundsException" "java/lang/IndexOutOfBoundsException" ∈ z_nest := gn_3 (i := 225) rfl rfl
theorem kw706 : Cond.selects "java/lang/IndexOutOfBoundsException" ⟨"java/lang/Throwable", "fillInStackTrace", "(I)Ljava/lang/Throwable;"⟩ ⟨"java/lang/Throwable", "fillInStackTrace", "(I)Ljava/lang/Throwable;"⟩ ∈ gw := gw_3 (i := 226) rfl rfl
theorem kw707 : Cond.lays "java/lang/IndexOutOfBoundsException" "java/lang/Throwable" "cause" "Ljava/lang/Throwable;" ∈ gw := gw_3 (i := 227) rfl rfl
theorem kw708 : Cond.lays "java/lang/IndexOutOfBoundsException" "java/lang/Throwable" "stackTrace" "[Ljava/lang/StackTraceElement;" ∈ gw := gw_3 (i := 228) rfl rfl
theorem kw709 : Cond.lays "java/lang/IndexOutOfBoundsException" "java/lang/Throwable" "suppressedExceptions" "Ljava/util/List;" ∈ gw := gw_3 (i := 229) rfl rfl
theorem kw710 : Cond.lays "java/lang/IndexOutOfBoundsException" "java/lang/Throwable" "detailMessage" "Ljava/lang/String;" ∈ gw := gw_3 (i := 230) rfl rfl
theorem kw711 : Cond.lays "java/lang/IndexOutOfBoundsException" "java/lang/Throwable" "backtrace" "Ljava/lang/Object;" ∈ gw := gw_3 (i := 231) rfl rfl
theorem kw713 : Cond.methodLink "Manypanes" 146 ⟨"java/lang/IndexOutOfBoundsException", "<init>", "(Ljava/lang/String;)V"⟩ ∈ gw := gw_3 (i := 233) rfl rfl
theorem kw714 : Cond.lays "java/lang/IndexOutOfBoundsException" "java/lang/Throwable" "depth" "I" ∈ gw := gw_3 (i := 234) rfl rfl
theorem kw715 : Cond.superclass "java/lang/IndexOutOfBoundsException" "java/lang/RuntimeException" ∈ gw := gw_3 (i := 235) rfl rfl
theorem kw716 : Cond.methodLink "Manypanes" 53 ⟨"Manypanes", "needWithin", "(III)V"⟩ ∈ gw := gw_3 (i := 236) rfl rfl
theorem kw717 : Cond.static ⟨"Manypanes", "needWithin", "(III)V"⟩ ∈ gw := gw_3 (i := 237) rfl rfl
theorem kw718 : Cond.code ⟨"Manypanes", "needWithin", "(III)V"⟩ prog_1_method_46_code 3 (Option.none : Option ClassFile.FieldType) ∈ gw := gw_3 (i := 238) rfl rfl
theorem kw719 : Cond.methodLink "Manypanes" 82 ⟨"Manypanes", "isWithin", "(III)Z"⟩ ∈ gw := gw_3 (i := 239) rfl rfl
theorem kw720 : Cond.static ⟨"Manypanes", "isWithin", "(III)Z"⟩ ∈ gw := gw_4 (i := 0) rfl rfl
theorem kw721 : Cond.code ⟨"Manypanes", "isWithin", "(III)Z"⟩ prog_1_method_45_code 3 (Option.some .boolean) ∈ gw := gw_4 (i := 1) rfl rfl
theorem kw722 : Cond.classLink "Manypanes" 220 "java/lang/IllegalArgumentException" ∈ gw := gw_4 (i := 2) rfl rfl
theorem kw724 : Cond.methodLink "Manypanes" 224 ⟨"java/lang/IllegalArgumentException", "<init>", "(Ljava/lang/String;)V"⟩ ∈ gw := gw_4 (i := 4) rfl rfl
theorem kw725 : Cond.methodLink "Manypanes" 66 ⟨"Manypanes", "done", "(I)I"⟩ ∈ gw := gw_4 (i := 5) rfl rfl
theorem kw727 : Cond.instanceMethod ⟨"Manypanes", "done", "(I)I"⟩ ∈ gw := gw_4 (i := 7) rfl rfl
theorem kw728 : Cond.code ⟨"Manypanes", "done", "(I)I"⟩ prog_1_method_48_code 2 (Option.some .int) ∈ gw := gw_4 (i := 8) rfl rfl
theorem kw729 : Cond.methodLink "ManypanesLaw" 150 ⟨"ManypanesLaw", "fresh", "(LManypanes;IILManypanesLaw$Out;)I"⟩ ∈ gw := gw_4 (i := 9) rfl rfl
theorem kw730 : Cond.static ⟨"ManypanesLaw", "fresh", "(LManypanes;IILManypanesLaw$Out;)I"⟩ ∈ gw := gw_4 (i := 10) rfl rfl
theorem kw732 : Cond.methodLink "ManypanesLaw" 23 ⟨"Manypanes", "fresh", "(II)I"⟩ ∈ gw := gw_4 (i := 12) rfl rfl
theorem kw733 : Cond.instanceMethod ⟨"Manypanes", "fresh", "(II)I"⟩ ∈ gw := gw_4 (i := 13) rfl rfl
theorem kw734 : Cond.selects "Manypanes" ⟨"Manypanes", "fresh", "(II)I"⟩ ⟨"Manypanes", "fresh", "(II)I"⟩ ∈ gw := gw_4 (i := 14) rfl rfl
theorem kw735 : Cond.code ⟨"Manypanes", "fresh", "(II)I"⟩ prog_1_method_3_code 4 (Option.some .int) ∈ gw := gw_4 (i := 15) rfl rfl
theorem kw736 : Cond.methodLink "ManypanesLaw" 154 ⟨"ManypanesLaw", "twin", "(LManypanes;IILManypanesLaw$Out;)I"⟩ ∈ gw := gw_4 (i := 16) rfl rfl
theorem kw737 : Cond.static ⟨"ManypanesLaw", "twin", "(LManypanes;IILManypanesLaw$Out;)I"⟩ ∈ gw := gw_4 (i := 17) rfl rfl
theorem kw739 : Cond.methodLink "ManypanesLaw" 27 ⟨"Manypanes", "twin", "(II)I"⟩ ∈ gw := gw_4 (i := 19) rfl rfl
theorem kw740 : Cond.instanceMethod ⟨"Manypanes", "twin", "(II)I"⟩ ∈ gw := gw_4 (i := 20) rfl rfl
theorem kw741 : Cond.selects "Manypanes" ⟨"Manypanes", "twin", "(II)I"⟩ ⟨"Manypanes", "twin", "(II)I"⟩ ∈ gw := gw_4 (i := 21) rfl rfl
theorem kw742 : Cond.code ⟨"Manypanes", "twin", "(II)I"⟩ prog_1_method_4_code 5 (Option.some .int) ∈ gw := gw_4 (i := 22) rfl rfl
theorem kw743 : Cond.methodLink "ManypanesLaw" 157 ⟨"ManypanesLaw", "rest", "(LManypanes;IILManypanesLaw$Out;)I"⟩ ∈ gw := gw_4 (i := 23) rfl rfl
theorem kw744 : Cond.static ⟨"ManypanesLaw", "rest", "(LManypanes;IILManypanesLaw$Out;)I"⟩ ∈ gw := gw_4 (i := 24) rfl rfl
theorem kw746 : Cond.methodLink "ManypanesLaw" 30 ⟨"Manypanes", "rest", "(II)I"⟩ ∈ gw := gw_4 (i := 26) rfl rfl
theorem kw747 : Cond.instanceMethod ⟨"Manypanes", "rest", "(II)I"⟩ ∈ gw := gw_4 (i := 27) rfl rfl
theorem kw748 : Cond.selects "Manypanes" ⟨"Manypanes", "rest", "(II)I"⟩ ⟨"Manypanes", "rest", "(II)I"⟩ ∈ gw := gw_4 (i := 28) rfl rfl
theorem kw749 : Cond.code ⟨"Manypanes", "rest", "(II)I"⟩ prog_1_method_5_code 5 (Option.some .int) ∈ gw := gw_4 (i := 29) rfl rfl
theorem kw750 : Cond.methodLink "ManypanesLaw" 160 ⟨"ManypanesLaw", "part", "(LManypanes;IIIILManypanesLaw$Out;)I"⟩ ∈ gw := gw_4 (i := 30) rfl rfl
theorem kw751 : Cond.static ⟨"ManypanesLaw", "part", "(LManypanes;IIIILManypanesLaw$Out;)I"⟩ ∈ gw := gw_4 (i := 31) rfl rfl
theorem kw753 : Cond.methodLink "ManypanesLaw" 33 ⟨"Manypanes", "part", "(IIII)I"⟩ ∈ gw := gw_4 (i := 33) rfl rfl
theorem kw754 : Cond.instanceMethod ⟨"Manypanes", "part", "(IIII)I"⟩ ∈ gw := gw_4 (i := 34) rfl rfl
theorem kw755 : Cond.selects "Manypanes" ⟨"Manypanes", "part", "(IIII)I"⟩ ⟨"Manypanes", "part", "(IIII)I"⟩ ∈ gw := gw_4 (i := 35) rfl rfl
theorem kw756 : Cond.code ⟨"Manypanes", "part", "(IIII)I"⟩ prog_1_method_6_code 7 (Option.some .int) ∈ gw := gw_4 (i := 36) rfl rfl
theorem kw757 : Cond.methodLink "Manypanes" 86 ⟨"Manypanes", "refuse", "(I)I"⟩ ∈ gw := gw_4 (i := 37) rfl rfl
theorem kw759 : Cond.instanceMethod ⟨"Manypanes", "refuse", "(I)I"⟩ ∈ gw := gw_4 (i := 39) rfl rfl
theorem kw760 : Cond.code ⟨"Manypanes", "refuse", "(I)I"⟩ prog_1_method_49_code 2 (Option.some .int) ∈ gw := gw_4 (i := 40) rfl rfl
theorem kw761 : Cond.methodLink "ManypanesLaw" 164 ⟨"ManypanesLaw", "reader", "(LManypanes;IILManypanesLaw$Out;)I"⟩ ∈ gw := gw_4 (i := 41) rfl rfl
theorem kw762 : Cond.static ⟨"ManypanesLaw", "reader", "(LManypanes;IILManypanesLaw$Out;)I"⟩ ∈ gw := gw_4 (i := 42) rfl rfl
theorem kw764 : Cond.methodLink "ManypanesLaw" 37 ⟨"Manypanes", "reader", "(II)I"⟩ ∈ gw := gw_4 (i := 44) rfl rfl
theorem kw765 : Cond.instanceMethod ⟨"Manypanes", "reader", "(II)I"⟩ ∈ gw := gw_4 (i := 45) rfl rfl
theorem kw766 : Cond.selects "Manypanes" ⟨"Manypanes", "reader", "(II)I"⟩ ⟨"Manypanes", "reader", "(II)I"⟩ ∈ gw := gw_4 (i := 46) rfl rfl
theorem kw767 : Cond.code ⟨"Manypanes", "reader", "(II)I"⟩ prog_1_method_7_code 5 (Option.some .int) ∈ gw := gw_4 (i := 47) rfl rfl
theorem kw768 : Cond.methodLink "ManypanesLaw" 167 ⟨"ManypanesLaw", "exchange", "(LManypanes;IILManypanesLaw$Out;)I"⟩ ∈ gw := gw_4 (i := 48) rfl rfl
theorem kw769 : Cond.static ⟨"ManypanesLaw", "exchange", "(LManypanes;IILManypanesLaw$Out;)I"⟩ ∈ gw := gw_4 (i := 49) rfl rfl
theorem kw771 : Cond.methodLink "ManypanesLaw" 40 ⟨"Manypanes", "exchange", "(II)I"⟩ ∈ gw := gw_4 (i := 51) rfl rfl
theorem kw772 : Cond.instanceMethod ⟨"Manypanes", "exchange", "(II)I"⟩ ∈ gw := gw_4 (i := 52) rfl rfl
theorem kw773 : Cond.selects "Manypanes" ⟨"Manypanes", "exchange", "(II)I"⟩ ⟨"Manypanes", "exchange", "(II)I"⟩ ∈ gw := gw_4 (i := 53) rfl rfl
theorem kw774 : Cond.code ⟨"Manypanes", "exchange", "(II)I"⟩ prog_1_method_8_code 5 (Option.some .int) ∈ gw := gw_4 (i := 54) rfl rfl
theorem kw775 : Cond.methodLink "Manypanes" 93 ⟨"Manypanes", "setPane", "(ILManypanes$Pane;)V"⟩ ∈ gw := gw_4 (i := 55) rfl rfl
theorem kw777 : Cond.instanceMethod ⟨"Manypanes", "setPane", "(ILManypanes$Pane;)V"⟩ ∈ gw := gw_4 (i := 57) rfl rfl
theorem kw778 : Cond.code ⟨"Manypanes", "setPane", "(ILManypanes$Pane;)V"⟩ prog_1_method_44_code 3 (Option.none : Option ClassFile.FieldType) ∈ gw := gw_4 (i := 58) rfl rfl
theorem kw779 : Cond.methodLink "ManypanesLaw" 170 ⟨"ManypanesLaw", "go", "(LManypanes;IILManypanesLaw$Out;)I"⟩ ∈ gw := gw_4 (i := 59) rfl rfl
theorem kw780 : Cond.static ⟨"ManypanesLaw", "go", "(LManypanes;IILManypanesLaw$Out;)I"⟩ ∈ gw := gw_4 (i := 60) rfl rfl
theorem kw782 : Cond.methodLink "ManypanesLaw" 43 ⟨"Manypanes", "go", "(II)I"⟩ ∈ gw := gw_4 (i := 62) rfl rfl
theorem kw783 : Cond.instanceMethod ⟨"Manypanes", "go", "(II)I"⟩ ∈ gw := gw_4 (i := 63) rfl rfl
theorem kw784 : Cond.selects "Manypanes" ⟨"Manypanes", "go", "(II)I"⟩ ⟨"Manypanes", "go", "(II)I"⟩ ∈ gw := gw_4 (i := 64) rfl rfl
theorem kw785 : Cond.code ⟨"Manypanes", "go", "(II)I"⟩ prog_1_method_9_code 5 (Option.some .int) ∈ gw := gw_4 (i := 65) rfl rfl
theorem kw786 : Cond.methodLink "Manypanes" 97 ⟨"Manypanes$Pane", "moveTo", "(I)V"⟩ ∈ gw := gw_4 (i := 66) rfl rfl
theorem kw787 : Cond.instanceMethod ⟨"Manypanes$Pane", "moveTo", "(I)V"⟩ ∈ gw := gw_4 (i := 67) rfl rfl
theorem kw788 : Cond.selects "Manypanes$Pane" ⟨"Manypanes$Pane", "moveTo", "(I)V"⟩ ⟨"Manypanes$Pane", "moveTo", "(I)V"⟩ ∈ gw := gw_4 (i := 68) rfl rfl
theorem kw789 : Cond.code ⟨"Manypanes$Pane", "moveTo", "(I)V"⟩ prog_3_method_6_code 2 (Option.none : Option ClassFile.FieldType) ∈ gw := gw_4 (i := 69) rfl rfl
theorem kw790 : Cond.methodLink "ManypanesLaw" 173 ⟨"ManypanesLaw", "move", "(LManypanes;IILManypanesLaw$Out;)I"⟩ ∈ gw := gw_4 (i := 70) rfl rfl
theorem kw791 : Cond.static ⟨"ManypanesLaw", "move", "(LManypanes;IILManypanesLaw$Out;)I"⟩ ∈ gw := gw_4 (i := 71) rfl rfl
theorem kw793 : Cond.methodLink "ManypanesLaw" 46 ⟨"Manypanes", "move", "(II)I"⟩ ∈ gw := gw_4 (i := 73) rfl rfl
theorem kw794 : Cond.instanceMethod ⟨"Manypanes", "move", "(II)I"⟩ ∈ gw := gw_4 (i := 74) rfl rfl
theorem kw795 : Cond.selects "Manypanes" ⟨"Manypanes", "move", "(II)I"⟩ ⟨"Manypanes", "move", "(II)I"⟩ ∈ gw := gw_4 (i := 75) rfl rfl
theorem kw796 : Cond.code ⟨"Manypanes", "move", "(II)I"⟩ prog_1_method_10_code 5 (Option.some .int) ∈ gw := gw_4 (i := 76) rfl rfl
theorem kw797 : Cond.methodLink "ManypanesLaw" 176 ⟨"ManypanesLaw", "end", "(LManypanes;IILManypanesLaw$Out;)I"⟩ ∈ gw := gw_4 (i := 77) rfl rfl
theorem kw798 : Cond.static ⟨"ManypanesLaw", "end", "(LManypanes;IILManypanesLaw$Out;)I"⟩ ∈ gw := gw_4 (i := 78) rfl rfl
theorem kw800 : Cond.methodLink "ManypanesLaw" 49 ⟨"Manypanes", "end", "(II)I"⟩ ∈ gw := gw_4 (i := 80) rfl rfl
theorem kw801 : Cond.instanceMethod ⟨"Manypanes", "end", "(II)I"⟩ ∈ gw := gw_4 (i := 81) rfl rfl
theorem kw802 : Cond.selects "Manypanes" ⟨"Manypanes", "end", "(II)I"⟩ ⟨"Manypanes", "end", "(II)I"⟩ ∈ gw := gw_4 (i := 82) rfl rfl
theorem kw803 : Cond.code ⟨"Manypanes", "end", "(II)I"⟩ prog_1_method_11_code 5 (Option.some .int) ∈ gw := gw_4 (i := 83) rfl rfl
theorem kw804 : Cond.methodLink "Manypanes" 103 ⟨"Manypanes$Pane", "endAt", "(I)V"⟩ ∈ gw := gw_4 (i := 84) rfl rfl
theorem kw805 : Cond.instanceMethod ⟨"Manypanes$Pane", "endAt", "(I)V"⟩ ∈ gw := gw_4 (i := 85) rfl rfl
theorem kw806 : Cond.selects "Manypanes$Pane" ⟨"Manypanes$Pane", "endAt", "(I)V"⟩ ⟨"Manypanes$Pane", "endAt", "(I)V"⟩ ∈ gw := gw_4 (i := 86) rfl rfl
theorem kw807 : Cond.code ⟨"Manypanes$Pane", "endAt", "(I)V"⟩ prog_3_method_7_code 2 (Option.none : Option ClassFile.FieldType) ∈ gw := gw_4 (i := 87) rfl rfl
theorem kw808 : Cond.methodLink "ManypanesLaw" 179 ⟨"ManypanesLaw", "stretch", "(LManypanes;IILManypanesLaw$Out;)I"⟩ ∈ gw := gw_4 (i := 88) rfl rfl
theorem kw809 : Cond.static ⟨"ManypanesLaw", "stretch", "(LManypanes;IILManypanesLaw$Out;)I"⟩ ∈ gw := gw_4 (i := 89) rfl rfl
theorem kw811 : Cond.methodLink "ManypanesLaw" 52 ⟨"Manypanes", "stretch", "(II)I"⟩ ∈ gw := gw_4 (i := 91) rfl rfl
theorem kw812 : Cond.instanceMethod ⟨"Manypanes", "stretch", "(II)I"⟩ ∈ gw := gw_4 (i := 92) rfl rfl
theorem kw813 : Cond.selects "Manypanes" ⟨"Manypanes", "stretch", "(II)I"⟩ ⟨"Manypanes", "stretch", "(II)I"⟩ ∈ gw := gw_4 (i := 93) rfl rfl
theorem kw814 : Cond.code ⟨"Manypanes", "stretch", "(II)I"⟩ prog_1_method_12_code 5 (Option.some .int) ∈ gw := gw_4 (i := 94) rfl rfl
theorem kw815 : Cond.methodLink "ManypanesLaw" 182 ⟨"ManypanesLaw", "mark", "(LManypanes;ILManypanesLaw$Out;)I"⟩ ∈ gw := gw_4 (i := 95) rfl rfl
theorem kw816 : Cond.static ⟨"ManypanesLaw", "mark", "(LManypanes;ILManypanesLaw$Out;)I"⟩ ∈ gw := gw_4 (i := 96) rfl rfl
theorem kw818 : Cond.methodLink "ManypanesLaw" 55 ⟨"Manypanes", "mark", "(I)I"⟩ ∈ gw := gw_4 (i := 98) rfl rfl
theorem kw819 : Cond.instanceMethod ⟨"Manypanes", "mark", "(I)I"⟩ ∈ gw := gw_4 (i := 99) rfl rfl
theorem kw820 : Cond.selects "Manypanes" ⟨"Manypanes", "mark", "(I)I"⟩ ⟨"Manypanes", "mark", "(I)I"⟩ ∈ gw := gw_4 (i := 100) rfl rfl
theorem kw821 : Cond.code ⟨"Manypanes", "mark", "(I)I"⟩ prog_1_method_13_code 3 (Option.some .int) ∈ gw := gw_4 (i := 101) rfl rfl
theorem kw822 : Cond.methodLink "ManypanesLaw" 186 ⟨"ManypanesLaw", "back", "(LManypanes;ILManypanesLaw$Out;)I"⟩ ∈ gw := gw_4 (i := 102) rfl rfl
theorem kw823 : Cond.static ⟨"ManypanesLaw", "back", "(LManypanes;ILManypanesLaw$Out;)I"⟩ ∈ gw := gw_4 (i := 103) rfl rfl
theorem kw825 : Cond.methodLink "ManypanesLaw" 59 ⟨"Manypanes", "back", "(I)I"⟩ ∈ gw := gw_4 (i := 105) rfl rfl
theorem kw826 : Cond.instanceMethod ⟨"Manypanes", "back", "(I)I"⟩ ∈ gw := gw_4 (i := 106) rfl rfl
theorem kw827 : Cond.selects "Manypanes" ⟨"Manypanes", "back", "(I)I"⟩ ⟨"Manypanes", "back", "(I)I"⟩ ∈ gw := gw_4 (i := 107) rfl rfl
theorem kw828 : Cond.code ⟨"Manypanes", "back", "(I)I"⟩ prog_1_method_14_code 4 (Option.some .int) ∈ gw := gw_4 (i := 108) rfl rfl
theorem kw829 : Cond.methodLink "ManypanesLaw" 189 ⟨"ManypanesLaw", "clear", "(LManypanes;ILManypanesLaw$Out;)I"⟩ ∈ gw := gw_4 (i := 109) rfl rfl
theorem kw830 : Cond.static ⟨"ManypanesLaw", "clear", "(LManypanes;ILManypanesLaw$Out;)I"⟩ ∈ gw := gw_4 (i := 110) rfl rfl
theorem kw832 : Cond.methodLink "ManypanesLaw" 62 ⟨"Manypanes", "clear", "(I)I"⟩ ∈ gw := gw_4 (i := 112) rfl rfl
theorem kw833 : Cond.instanceMethod ⟨"Manypanes", "clear", "(I)I"⟩ ∈ gw := gw_4 (i := 113) rfl rfl
theorem kw834 : Cond.selects "Manypanes" ⟨"Manypanes", "clear", "(I)I"⟩ ⟨"Manypanes", "clear", "(I)I"⟩ ∈ gw := gw_4 (i := 114) rfl rfl
theorem kw835 : Cond.code ⟨"Manypanes", "clear", "(I)I"⟩ prog_1_method_15_code 3 (Option.some .int) ∈ gw := gw_4 (i := 115) rfl rfl
theorem kw836 : Cond.methodLink "Manypanes" 113 ⟨"Manypanes$Pane", "beginAgain", "(I)V"⟩ ∈ gw := gw_4 (i := 116) rfl rfl
theorem kw837 : Cond.methodLink "ManypanesLaw" 192 ⟨"ManypanesLaw", "flip", "(LManypanes;ILManypanesLaw$Out;)I"⟩ ∈ gw := gw_4 (i := 117) rfl rfl
theorem kw838 : Cond.static ⟨"ManypanesLaw", "flip", "(LManypanes;ILManypanesLaw$Out;)I"⟩ ∈ gw := gw_4 (i := 118) rfl rfl
theorem kw840 : Cond.methodLink "ManypanesLaw" 65 ⟨"Manypanes", "flip", "(I)I"⟩ ∈ gw := gw_4 (i := 120) rfl rfl
theorem kw841 : Cond.instanceMethod ⟨"Manypanes", "flip", "(I)I"⟩ ∈ gw := gw_4 (i := 121) rfl rfl
theorem kw842 : Cond.selects "Manypanes" ⟨"Manypanes", "flip", "(I)I"⟩ ⟨"Manypanes", "flip", "(I)I"⟩ ∈ gw := gw_4 (i := 122) rfl rfl
theorem kw843 : Cond.code ⟨"Manypanes", "flip", "(I)I"⟩ prog_1_method_16_code 3 (Option.some .int) ∈ gw := gw_4 (i := 123) rfl rfl
theorem kw844 : Cond.methodLink "ManypanesLaw" 195 ⟨"ManypanesLaw", "rewind", "(LManypanes;ILManypanesLaw$Out;)I"⟩ ∈ gw := gw_4 (i := 124) rfl rfl
theorem kw845 : Cond.static ⟨"ManypanesLaw", "rewind", "(LManypanes;ILManypanesLaw$Out;)I"⟩ ∈ gw := gw_4 (i := 125) rfl rfl
theorem kw847 : Cond.methodLink "ManypanesLaw" 68 ⟨"Manypanes", "rewind", "(I)I"⟩ ∈ gw := gw_4 (i := 127) rfl rfl
theorem kw848 : Cond.instanceMethod ⟨"Manypanes", "rewind", "(I)I"⟩ ∈ gw := gw_4 (i := 128) rfl rfl
theorem kw849 : Cond.selects "Manypanes" ⟨"Manypanes", "rewind", "(I)I"⟩ ⟨"Manypanes", "rewind", "(I)I"⟩ ∈ gw := gw_4 (i := 129) rfl rfl
theorem kw850 : Cond.code ⟨"Manypanes", "rewind", "(I)I"⟩ prog_1_method_17_code 3 (Option.some .int) ∈ gw := gw_4 (i := 130) rfl rfl
theorem kw851 : Cond.methodLink "ManypanesLaw" 198 ⟨"ManypanesLaw", "put", "(LManypanes;IILManypanesLaw$Out;)I"⟩ ∈ gw := gw_4 (i := 131) rfl rfl
theorem kw852 : Cond.static ⟨"ManypanesLaw", "put", "(LManypanes;IILManypanesLaw$Out;)I"⟩ ∈ gw := gw_4 (i := 132) rfl rfl
theorem kw854 : Cond.methodLink "ManypanesLaw" 71 ⟨"Manypanes", "put", "(II)I"⟩ ∈ gw := gw_4 (i := 134) rfl rfl
theorem kw855 : Cond.instanceMethod ⟨"Manypanes", "put", "(II)I"⟩ ∈ gw := gw_4 (i := 135) rfl rfl
theorem kw856 : Cond.selects "Manypanes" ⟨"Manypanes", "put", "(II)I"⟩ ⟨"Manypanes", "put", "(II)I"⟩ ∈ gw := gw_4 (i := 136) rfl rfl
theorem kw857 : Cond.code ⟨"Manypanes", "put", "(II)I"⟩ prog_1_method_18_code 4 (Option.some .int) ∈ gw := gw_4 (i := 137) rfl rfl
theorem kw858 : Cond.methodLink "Manypanes" 116 ⟨"Manypanes", "needValue", "(I)V"⟩ ∈ gw := gw_4 (i := 138) rfl rfl
theorem kw859 : Cond.static ⟨"Manypanes", "needValue", "(I)V"⟩ ∈ gw := gw_4 (i := 139) rfl rfl
theorem kw860 : Cond.code ⟨"Manypanes", "needValue", "(I)V"⟩ prog_1_method_47_code 1 (Option.none : Option ClassFile.FieldType) ∈ gw := gw_4 (i := 140) rfl rfl
theorem kw862 : Cond.methodLink "Manypanes" 119 ⟨"Manypanes", "tryPut", "(LManypanes$Pane;I)Z"⟩ ∈ gw := gw_4 (i := 142) rfl rfl
theorem kw864 : Cond.instanceMethod ⟨"Manypanes", "tryPut", "(LManypanes$Pane;I)Z"⟩ ∈ gw := gw_4 (i := 144) rfl rfl
theorem kw865 : Cond.code ⟨"Manypanes", "tryPut", "(LManypanes$Pane;I)Z"⟩ prog_1_method_50_code 3 (Option.some .boolean) ∈ gw := gw_4 (i := 145) rfl rfl
theorem kw866 : Cond.methodLink "Manypanes" 227 ⟨"Manypanes$Pane", "putNext", "(I)V"⟩ ∈ gw := gw_4 (i := 146) rfl rfl
theorem kw867 : Cond.instanceMethod ⟨"Manypanes$Pane", "putNext", "(I)V"⟩ ∈ gw := gw_4 (i := 147) rfl rfl
theorem kw868 : Cond.selects "Manypanes$Pane" ⟨"Manypanes$Pane", "putNext", "(I)V"⟩ ⟨"Manypanes$Pane", "putNext", "(I)V"⟩ ∈ gw := gw_4 (i := 148) rfl rfl
theorem kw869 : Cond.code ⟨"Manypanes$Pane", "putNext", "(I)V"⟩ prog_3_method_15_code 2 (Option.none : Option ClassFile.FieldType) ∈ gw := gw_4 (i := 149) rfl rfl
theorem kw870 : Cond.methodLink "Manypanes$Pane" 54 ⟨"Manypanes$Pane", "replace", "(II)I"⟩ ∈ gw := gw_4 (i := 150) rfl rfl
theorem kw871 : Cond.instanceMethod ⟨"Manypanes$Pane", "replace", "(II)I"⟩ ∈ gw := gw_4 (i := 151) rfl rfl
theorem kw872 : Cond.selects "Manypanes$Pane" ⟨"Manypanes$Pane", "replace", "(II)I"⟩ ⟨"Manypanes$Pane", "replace", "(II)I"⟩ ∈ gw := gw_4 (i := 152) rfl rfl
theorem kw873 : Cond.code ⟨"Manypanes$Pane", "replace", "(II)I"⟩ prog_3_method_13_code 3 (Option.some .int) ∈ gw := gw_4 (i := 153) rfl rfl
theorem kw874 : Cond.methodLink "Manypanes$Pane" 49 ⟨"Manypanes$Row", "exchangeAt", "(II)I"⟩ ∈ gw := gw_4 (i := 154) rfl rfl
theorem kw875 : Cond.instanceMethod ⟨"Manypanes$Row", "exchangeAt", "(II)I"⟩ ∈ gw := gw_4 (i := 155) rfl rfl
theorem kw876 : Cond.selects "Manypanes$Row" ⟨"Manypanes$Row", "exchangeAt", "(II)I"⟩ ⟨"Manypanes$Row", "exchangeAt", "(II)I"⟩ ∈ gw := gw_4 (i := 156) rfl rfl
theorem kw877 : Cond.code ⟨"Manypanes$Row", "exchangeAt", "(II)I"⟩ prog_4_method_5_code 4 (Option.some .int) ∈ gw := gw_4 (i := 157) rfl rfl
theorem kw878 : Cond.methodLink "ManypanesLaw" 201 ⟨"ManypanesLaw", "putAt", "(LManypanes;IIILManypanesLaw$Out;)I"⟩ ∈ gw := gw_4 (i := 158) rfl rfl
theorem kw879 : Cond.static ⟨"ManypanesLaw", "putAt", "(LManypanes;IIILManypanesLaw$Out;)I"⟩ ∈ gw := gw_4 (i := 159) rfl rfl
theorem kw881 : Cond.methodLink "ManypanesLaw" 74 ⟨"Manypanes", "putAt", "(III)I"⟩ ∈ gw := gw_4 (i := 161) rfl rfl
theorem kw882 : Cond.instanceMethod ⟨"Manypanes", "putAt", "(III)I"⟩ ∈ gw := gw_4 (i := 162) rfl rfl
theorem kw883 : Cond.selects "Manypanes" ⟨"Manypanes", "putAt", "(III)I"⟩ ⟨"Manypanes", "putAt", "(III)I"⟩ ∈ gw := gw_4 (i := 163) rfl rfl
theorem kw884 : Cond.code ⟨"Manypanes", "putAt", "(III)I"⟩ prog_1_method_19_code 5 (Option.some .int) ∈ gw := gw_4 (i := 164) rfl rfl
theorem kw885 : Cond.methodLink "Manypanes" 123 ⟨"Manypanes$Pane", "hasIndex", "(I)Z"⟩ ∈ gw := gw_4 (i := 165) rfl rfl
theorem kw886 : Cond.instanceMethod ⟨"Manypanes$Pane", "hasIndex", "(I)Z"⟩ ∈ gw := gw_4 (i := 166) rfl rfl
theorem kw887 : Cond.selects "Manypanes$Pane" ⟨"Manypanes$Pane", "hasIndex", "(I)Z"⟩ ⟨"Manypanes$Pane", "hasIndex", "(I)Z"⟩ ∈ gw := gw_4 (i := 167) rfl rfl
theorem kw888 : Cond.code ⟨"Manypanes$Pane", "hasIndex", "(I)Z"⟩ prog_3_method_10_code 2 (Option.some .boolean) ∈ gw := gw_4 (i := 168) rfl rfl
theorem kw889 : Cond.methodLink "Manypanes" 127 ⟨"Manypanes$Pane", "replace", "(II)I"⟩ ∈ gw := gw_4 (i := 169) rfl rfl
theorem kw890 : Cond.methodLink "ManypanesLaw" 204 ⟨"ManypanesLaw", "bring", "(LManypanes;IIIILManypanesLaw$Out;)I"⟩ ∈ gw := gw_4 (i := 170) rfl rfl
theorem kw891 : Cond.static ⟨"ManypanesLaw", "bring", "(LManypanes;IIIILManypanesLaw$Out;)I"⟩ ∈ gw := gw_4 (i := 171) rfl rfl
theorem kw893 : Cond.methodLink "ManypanesLaw" 77 ⟨"Manypanes", "bring", "(IIII)I"⟩ ∈ gw := gw_4 (i := 173) rfl rfl
theorem kw894 : Cond.instanceMethod ⟨"Manypanes", "bring", "(IIII)I"⟩ ∈ gw := gw_4 (i := 174) rfl rfl
theorem kw895 : Cond.selects "Manypanes" ⟨"Manypanes", "bring", "(IIII)I"⟩ ⟨"Manypanes", "bring", "(IIII)I"⟩ ∈ gw := gw_4 (i := 175) rfl rfl
theorem kw896 : Cond.code ⟨"Manypanes", "bring", "(IIII)I"⟩ prog_1_method_20_code 7 (Option.some .int) ∈ gw := gw_4 (i := 176) rfl rfl
theorem kw897 : Cond.methodLink "ManypanesLaw" 207 ⟨"ManypanesLaw", "fill", "(LManypanes;IIIILManypanesLaw$Out;)I"⟩ ∈ gw := gw_4 (i := 177) rfl rfl
theorem kw898 : Cond.static ⟨"ManypanesLaw", "fill", "(LManypanes;IIIILManypanesLaw$Out;)I"⟩ ∈ gw := gw_4 (i := 178) rfl rfl
theorem kw900 : Cond.methodLink "ManypanesLaw" 80 ⟨"Manypanes", "fill", "(IIII)I"⟩ ∈ gw := gw_4 (i := 180) rfl rfl
theorem kw901 : Cond.instanceMethod ⟨"Manypanes", "fill", "(IIII)I"⟩ ∈ gw := gw_4 (i := 181) rfl rfl
theorem kw902 : Cond.selects "Manypanes" ⟨"Manypanes", "fill", "(IIII)I"⟩ ⟨"Manypanes", "fill", "(IIII)I"⟩ ∈ gw := gw_4 (i := 182) rfl rfl
theorem kw903 : Cond.code ⟨"Manypanes", "fill", "(IIII)I"⟩ prog_1_method_21_code 7 (Option.some .int) ∈ gw := gw_4 (i := 183) rfl rfl
theorem kw904 : Cond.constant "Manypanes" 134 (1000000 : Int32) ∈ gw := gw_4 (i := 184) rfl rfl
theorem kw905 : Cond.methodLink "ManypanesLaw" 210 ⟨"ManypanesLaw", "pack", "(LManypanes;ILManypanesLaw$Out;)I"⟩ ∈ gw := gw_4 (i := 185) rfl rfl
theorem kw906 : Cond.static ⟨"ManypanesLaw", "pack", "(LManypanes;ILManypanesLaw$Out;)I"⟩ ∈ gw := gw_4 (i := 186) rfl rfl
theorem kw908 : Cond.methodLink "ManypanesLaw" 83 ⟨"Manypanes", "pack", "(I)I"⟩ ∈ gw := gw_4 (i := 188) rfl rfl
theorem kw909 : Cond.instanceMethod ⟨"Manypanes", "pack", "(I)I"⟩ ∈ gw := gw_4 (i := 189) rfl rfl
theorem kw910 : Cond.selects "Manypanes" ⟨"Manypanes", "pack", "(I)I"⟩ ⟨"Manypanes", "pack", "(I)I"⟩ ∈ gw := gw_4 (i := 190) rfl rfl
theorem kw911 : Cond.code ⟨"Manypanes", "pack", "(I)I"⟩ prog_1_method_22_code 5 (Option.some .int) ∈ gw := gw_4 (i := 191) rfl rfl
theorem kw912 : Cond.methodLink "ManypanesLaw" 213 ⟨"ManypanesLaw", "pour", "(LManypanes;IIILManypanesLaw$Out;)I"⟩ ∈ gw := gw_4 (i := 192) rfl rfl
theorem kw913 : Cond.static ⟨"ManypanesLaw", "pour", "(LManypanes;IIILManypanesLaw$Out;)I"⟩ ∈ gw := gw_4 (i := 193) rfl rfl
theorem kw915 : Cond.methodLink "ManypanesLaw" 86 ⟨"Manypanes", "pour", "(III)I"⟩ ∈ gw := gw_4 (i := 195) rfl rfl
theorem kw916 : Cond.instanceMethod ⟨"Manypanes", "pour", "(III)I"⟩ ∈ gw := gw_4 (i := 196) rfl rfl
theorem kw917 : Cond.selects "Manypanes" ⟨"Manypanes", "pour", "(III)I"⟩ ⟨"Manypanes", "pour", "(III)I"⟩ ∈ gw := gw_4 (i := 197) rfl rfl
theorem kw918 : Cond.code ⟨"Manypanes", "pour", "(III)I"⟩ prog_1_method_23_code 7 (Option.some .int) ∈ gw := gw_4 (i := 198) rfl rfl
theorem kw919 : Cond.methodLink "Manypanes" 135 ⟨"Manypanes", "pourOne", "(LManypanes$Pane;LManypanes$Pane;)Z"⟩ ∈ gw := gw_4 (i := 199) rfl rfl
theorem kw921 : Cond.instanceMethod ⟨"Manypanes", "pourOne", "(LManypanes$Pane;LManypanes$Pane;)Z"⟩ ∈ gw := gw_4 (i := 201) rfl rfl
theorem kw922 : Cond.code ⟨"Manypanes", "pourOne", "(LManypanes$Pane;LManypanes$Pane;)Z"⟩ prog_1_method_51_code 4 (Option.some .boolean) ∈ gw := gw_4 (i := 202) rfl rfl
theorem kw923 : Cond.methodLink "Manypanes" 155 ⟨"Manypanes$Pane", "takeNext", "()I"⟩ ∈ gw := gw_4 (i := 203) rfl rfl
theorem kw924 : Cond.instanceMethod ⟨"Manypanes$Pane", "takeNext", "()I"⟩ ∈ gw := gw_4 (i := 204) rfl rfl
theorem kw925 : Cond.selects "Manypanes$Pane" ⟨"Manypanes$Pane", "takeNext", "()I"⟩ ⟨"Manypanes$Pane", "takeNext", "()I"⟩ ∈ gw := gw_4 (i := 205) rfl rfl
theorem kw926 : Cond.code ⟨"Manypanes$Pane", "takeNext", "()I"⟩ prog_3_method_14_code 2 (Option.some .int) ∈ gw := gw_4 (i := 206) rfl rfl
theorem kw927 : Cond.methodLink "ManypanesLaw" 216 ⟨"ManypanesLaw", "lay", "(LManypanes;IILManypanesLaw$Out;)I"⟩ ∈ gw := gw_4 (i := 207) rfl rfl
theorem kw928 : Cond.static ⟨"ManypanesLaw", "lay", "(LManypanes;IILManypanesLaw$Out;)I"⟩ ∈ gw := gw_4 (i := 208) rfl rfl
theorem kw930 : Cond.methodLink "ManypanesLaw" 89 ⟨"Manypanes", "lay", "(II)I"⟩ ∈ gw := gw_4 (i := 210) rfl rfl
theorem kw931 : Cond.instanceMethod ⟨"Manypanes", "lay", "(II)I"⟩ ∈ gw := gw_4 (i := 211) rfl rfl
theorem kw932 : Cond.selects "Manypanes" ⟨"Manypanes", "lay", "(II)I"⟩ ⟨"Manypanes", "lay", "(II)I"⟩ ∈ gw := gw_4 (i := 212) rfl rfl
theorem kw933 : Cond.code ⟨"Manypanes", "lay", "(II)I"⟩ prog_1_method_24_code 3 (Option.some .int) ∈ gw := gw_4 (i := 213) rfl rfl
theorem kw934 : Cond.methodLink "Manypanes" 139 ⟨"Manypanes$Row", "hasPlace", "(I)Z"⟩ ∈ gw := gw_4 (i := 214) rfl rfl
theorem kw936 : Cond.methodLink "Manypanes" 149 ⟨"Manypanes$Row", "exchangeAt", "(II)I"⟩ ∈ gw := gw_4 (i := 216) rfl rfl
theorem kw937 : Cond.methodLink "ManypanesLaw" 219 ⟨"ManypanesLaw", "reach", "(LManypanes;IIILManypanesLaw$Out;)I"⟩ ∈ gw := gw_4 (i := 217) rfl rfl
theorem kw938 : Cond.static ⟨"ManypanesLaw", "reach", "(LManypanes;IIILManypanesLaw$Out;)I"⟩ ∈ gw := gw_4 (i := 218) rfl rfl
theorem kw940 : Cond.methodLink "ManypanesLaw" 92 ⟨"Manypanes", "reach", "(III)I"⟩ ∈ gw := gw_4 (i := 220) rfl rfl
theorem kw941 : Cond.instanceMethod ⟨"Manypanes", "reach", "(III)I"⟩ ∈ gw := gw_4 (i := 221) rfl rfl
theorem kw942 : Cond.selects "Manypanes" ⟨"Manypanes", "reach", "(III)I"⟩ ⟨"Manypanes", "reach", "(III)I"⟩ ∈ gw := gw_4 (i := 222) rfl rfl
theorem kw943 : Cond.code ⟨"Manypanes", "reach", "(III)I"⟩ prog_1_method_25_code 5 (Option.some .int) ∈ gw := gw_4 (i := 223) rfl rfl
theorem kw944 : Cond.methodLink "ManypanesLaw" 222 ⟨"ManypanesLaw", "get", "(LManypanes;ILManypanesLaw$Out;)I"⟩ ∈ gw := gw_4 (i := 224) rfl rfl
theorem kw945 : Cond.static ⟨"ManypanesLaw", "get", "(LManypanes;ILManypanesLaw$Out;)I"⟩ ∈ gw := gw_4 (i := 225) rfl rfl
theorem kw947 : Cond.methodLink "ManypanesLaw" 95 ⟨"Manypanes", "get", "(I)I"⟩ ∈ gw := gw_4 (i := 227) rfl rfl
theorem kw948 : Cond.instanceMethod ⟨"Manypanes", "get", "(I)I"⟩ ∈ gw := gw_4 (i := 228) rfl rfl
theorem kw949 : Cond.selects "Manypanes" ⟨"Manypanes", "get", "(I)I"⟩ ⟨"Manypanes", "get", "(I)I"⟩ ∈ gw := gw_4 (i := 229) rfl rfl
theorem kw950 : Cond.code ⟨"Manypanes", "get", "(I)I"⟩ prog_1_method_26_code 3 (Option.some .int) ∈ gw := gw_4 (i := 230) rfl rfl
theorem kw951 : Cond.methodLink "ManypanesLaw" 225 ⟨"ManypanesLaw", "drain", "(LManypanes;IILManypanesLaw$Out;)I"⟩ ∈ gw := gw_4 (i := 231) rfl rfl
theorem kw952 : Cond.static ⟨"ManypanesLaw", "drain", "(LManypanes;IILManypanesLaw$Out;)I"⟩ ∈ gw := gw_4 (i := 232) rfl rfl
theorem kw954 : Cond.methodLink "ManypanesLaw" 98 ⟨"Manypanes", "drain", "(II)I"⟩ ∈ gw := gw_4 (i := 234) rfl rfl
theorem kw955 : Cond.instanceMethod ⟨"Manypanes", "drain", "(II)I"⟩ ∈ gw := gw_4 (i := 235) rfl rfl
theorem kw956 : Cond.selects "Manypanes" ⟨"Manypanes", "drain", "(II)I"⟩ ⟨"Manypanes", "drain", "(II)I"⟩ ∈ gw := gw_4 (i := 236) rfl rfl
theorem kw957 : Cond.code ⟨"Manypanes", "drain", "(II)I"⟩ prog_1_method_27_code 5 (Option.some .int) ∈ gw := gw_4 (i := 237) rfl rfl
theorem kw958 : Cond.methodLink "ManypanesLaw" 232 ⟨"ManypanesLaw", "pop", "(LManypanes;ILManypanesLaw$Out;)I"⟩ ∈ gw := gw_4 (i := 238) rfl rfl
theorem kw959 : Cond.static ⟨"ManypanesLaw", "pop", "(LManypanes;ILManypanesLaw$Out;)I"⟩ ∈ gw := gw_4 (i := 239) rfl rfl
theorem kw961 : Cond.methodLink "ManypanesLaw" 101 ⟨"Manypanes", "pop", "(I)I"⟩ ∈ gw := gw_5 (i := 1) rfl rfl
theorem kw962 : Cond.instanceMethod ⟨"Manypanes", "pop", "(I)I"⟩ ∈ gw := gw_5 (i := 2) rfl rfl
theorem kw963 : Cond.selects "Manypanes" ⟨"Manypanes", "pop", "(I)I"⟩ ⟨"Manypanes", "pop", "(I)I"⟩ ∈ gw := gw_5 (i := 3) rfl rfl
theorem kw964 : Cond.code ⟨"Manypanes", "pop", "(I)I"⟩ prog_1_method_28_code 3 (Option.some .int) ∈ gw := gw_5 (i := 4) rfl rfl
theorem kw965 : Cond.methodLink "ManypanesLaw" 235 ⟨"ManypanesLaw", "ofPane", "(LManypanes;IILManypanesLaw$Out;)I"⟩ ∈ gw := gw_5 (i := 5) rfl rfl
theorem kw966 : Cond.static ⟨"ManypanesLaw", "ofPane", "(LManypanes;IILManypanesLaw$Out;)I"⟩ ∈ gw := gw_5 (i := 6) rfl rfl
theorem kw968 : Cond.methodLink "ManypanesLaw" 104 ⟨"Manypanes", "ofPane", "(II)I"⟩ ∈ gw := gw_5 (i := 8) rfl rfl
theorem kw969 : Cond.instanceMethod ⟨"Manypanes", "ofPane", "(II)I"⟩ ∈ gw := gw_5 (i := 9) rfl rfl
theorem kw970 : Cond.selects "Manypanes" ⟨"Manypanes", "ofPane", "(II)I"⟩ ⟨"Manypanes", "ofPane", "(II)I"⟩ ∈ gw := gw_5 (i := 10) rfl rfl
theorem kw971 : Cond.code ⟨"Manypanes", "ofPane", "(II)I"⟩ prog_1_method_29_code 4 (Option.some .int) ∈ gw := gw_5 (i := 11) rfl rfl
theorem kw972 : Cond.methodLink "ManypanesLaw" 238 ⟨"ManypanesLaw", "at", "(LManypanes;IILManypanesLaw$Out;)I"⟩ ∈ gw := gw_5 (i := 12) rfl rfl
theorem kw973 : Cond.static ⟨"ManypanesLaw", "at", "(LManypanes;IILManypanesLaw$Out;)I"⟩ ∈ gw := gw_5 (i := 13) rfl rfl
theorem kw975 : Cond.methodLink "ManypanesLaw" 107 ⟨"Manypanes", "at", "(II)I"⟩ ∈ gw := gw_5 (i := 15) rfl rfl
theorem kw976 : Cond.instanceMethod ⟨"Manypanes", "at", "(II)I"⟩ ∈ gw := gw_5 (i := 16) rfl rfl
theorem kw977 : Cond.selects "Manypanes" ⟨"Manypanes", "at", "(II)I"⟩ ⟨"Manypanes", "at", "(II)I"⟩ ∈ gw := gw_5 (i := 17) rfl rfl
theorem kw978 : Cond.code ⟨"Manypanes", "at", "(II)I"⟩ prog_1_method_30_code 4 (Option.some .int) ∈ gw := gw_5 (i := 18) rfl rfl
theorem kw979 : Cond.methodLink "ManypanesLaw" 241 ⟨"ManypanesLaw", "peek", "(LManypanes;ILManypanesLaw$Out;)I"⟩ ∈ gw := gw_5 (i := 19) rfl rfl
theorem kw980 : Cond.static ⟨"ManypanesLaw", "peek", "(LManypanes;ILManypanesLaw$Out;)I"⟩ ∈ gw := gw_5 (i := 20) rfl rfl
theorem kw982 : Cond.methodLink "ManypanesLaw" 110 ⟨"Manypanes", "peek", "(I)I"⟩ ∈ gw := gw_5 (i := 22) rfl rfl
theorem kw983 : Cond.instanceMethod ⟨"Manypanes", "peek", "(I)I"⟩ ∈ gw := gw_5 (i := 23) rfl rfl
theorem kw984 : Cond.selects "Manypanes" ⟨"Manypanes", "peek", "(I)I"⟩ ⟨"Manypanes", "peek", "(I)I"⟩ ∈ gw := gw_5 (i := 24) rfl rfl
theorem kw985 : Cond.code ⟨"Manypanes", "peek", "(I)I"⟩ prog_1_method_31_code 3 (Option.some .int) ∈ gw := gw_5 (i := 25) rfl rfl
theorem kw986 : Cond.methodLink "ManypanesLaw" 244 ⟨"ManypanesLaw", "total", "(LManypanes;ILManypanesLaw$Out;)I"⟩ ∈ gw := gw_5 (i := 26) rfl rfl
theorem kw987 : Cond.static ⟨"ManypanesLaw", "total", "(LManypanes;ILManypanesLaw$Out;)I"⟩ ∈ gw := gw_5 (i := 27) rfl rfl
theorem kw989 : Cond.methodLink "ManypanesLaw" 113 ⟨"Manypanes", "total", "(I)Ljava/lang/String;"⟩ ∈ gw := gw_5 (i := 29) rfl rfl
theorem kw990 : Cond.instanceMethod ⟨"Manypanes", "total", "(I)Ljava/lang/String;"⟩ ∈ gw := gw_5 (i := 30) rfl rfl
theorem kw991 : Cond.selects "Manypanes" ⟨"Manypanes", "total", "(I)Ljava/lang/String;"⟩ ⟨"Manypanes", "total", "(I)Ljava/lang/String;"⟩ ∈ gw := gw_5 (i := 31) rfl rfl
theorem kw992 : Cond.code ⟨"Manypanes", "total", "(I)Ljava/lang/String;"⟩ prog_1_method_32_code 3 (Option.some (.object "java/lang/String")) ∈ gw := gw_5 (i := 32) rfl rfl
theorem kw993 : Cond.methodLink "ManypanesLaw" 247 ⟨"ManypanesLaw", "text", "(LManypanes;ILManypanesLaw$Out;)I"⟩ ∈ gw := gw_5 (i := 33) rfl rfl
theorem kw994 : Cond.static ⟨"ManypanesLaw", "text", "(LManypanes;ILManypanesLaw$Out;)I"⟩ ∈ gw := gw_5 (i := 34) rfl rfl
theorem kw996 : Cond.methodLink "ManypanesLaw" 121 ⟨"Manypanes", "text", "(I)Ljava/lang/String;"⟩ ∈ gw := gw_5 (i := 36) rfl rfl
theorem kw997 : Cond.instanceMethod ⟨"Manypanes", "text", "(I)Ljava/lang/String;"⟩ ∈ gw := gw_5 (i := 37) rfl rfl
theorem kw998 : Cond.selects "Manypanes" ⟨"Manypanes", "text", "(I)Ljava/lang/String;"⟩ ⟨"Manypanes", "text", "(I)Ljava/lang/String;"⟩ ∈ gw := gw_5 (i := 38) rfl rfl
theorem kw999 : Cond.code ⟨"Manypanes", "text", "(I)Ljava/lang/String;"⟩ prog_1_method_33_code 3 (Option.some (.object "java/lang/String")) ∈ gw := gw_5 (i := 39) rfl rfl
theorem kw1000 : Cond.methodLink "ManypanesLaw" 250 ⟨"ManypanesLaw", "whole", "(LManypanes;ILManypanesLaw$Out;)I"⟩ ∈ gw := gw_5 (i := 40) rfl rfl
theorem kw1001 : Cond.static ⟨"ManypanesLaw", "whole", "(LManypanes;ILManypanesLaw$Out;)I"⟩ ∈ gw := gw_5 (i := 41) rfl rfl
theorem kw1003 : Cond.methodLink "ManypanesLaw" 124 ⟨"Manypanes", "whole", "(I)Ljava/lang/String;"⟩ ∈ gw := gw_5 (i := 43) rfl rfl
theorem kw1004 : Cond.instanceMethod ⟨"Manypanes", "whole", "(I)Ljava/lang/String;"⟩ ∈ gw := gw_5 (i := 44) rfl rfl
theorem kw1005 : Cond.selects "Manypanes" ⟨"Manypanes", "whole", "(I)Ljava/lang/String;"⟩ ⟨"Manypanes", "whole", "(I)Ljava/lang/String;"⟩ ∈ gw := gw_5 (i := 45) rfl rfl
theorem kw1006 : Cond.code ⟨"Manypanes", "whole", "(I)Ljava/lang/String;"⟩ prog_1_method_34_code 3 (Option.some (.object "java/lang/String")) ∈ gw := gw_5 (i := 46) rfl rfl
theorem kw1007 : Cond.methodLink "ManypanesLaw" 258 ⟨"ManypanesLaw", "isKin", "(LManypanes;IILManypanesLaw$Out;)I"⟩ ∈ gw := gw_5 (i := 47) rfl rfl
theorem kw1008 : Cond.static ⟨"ManypanesLaw", "isKin", "(LManypanes;IILManypanesLaw$Out;)I"⟩ ∈ gw := gw_5 (i := 48) rfl rfl
theorem kw1010 : Cond.methodLink "ManypanesLaw" 127 ⟨"Manypanes", "isKin", "(II)I"⟩ ∈ gw := gw_5 (i := 50) rfl rfl
theorem kw1011 : Cond.instanceMethod ⟨"Manypanes", "isKin", "(II)I"⟩ ∈ gw := gw_5 (i := 51) rfl rfl
theorem kw1012 : Cond.selects "Manypanes" ⟨"Manypanes", "isKin", "(II)I"⟩ ⟨"Manypanes", "isKin", "(II)I"⟩ ∈ gw := gw_5 (i := 52) rfl rfl
theorem kw1013 : Cond.code ⟨"Manypanes", "isKin", "(II)I"⟩ prog_1_method_36_code 3 (Option.some .int) ∈ gw := gw_5 (i := 53) rfl rfl
theorem kw1014 : Cond.methodLink "ManypanesLaw" 261 ⟨"ManypanesLaw", "sees", "(LManypanes;IIILManypanesLaw$Out;)I"⟩ ∈ gw := gw_5 (i := 54) rfl rfl
theorem kw1015 : Cond.static ⟨"ManypanesLaw", "sees", "(LManypanes;IIILManypanesLaw$Out;)I"⟩ ∈ gw := gw_5 (i := 55) rfl rfl
theorem kw1017 : Cond.methodLink "ManypanesLaw" 130 ⟨"Manypanes", "sees", "(III)I"⟩ ∈ gw := gw_5 (i := 57) rfl rfl
theorem kw1018 : Cond.instanceMethod ⟨"Manypanes", "sees", "(III)I"⟩ ∈ gw := gw_5 (i := 58) rfl rfl
theorem kw1019 : Cond.selects "Manypanes" ⟨"Manypanes", "sees", "(III)I"⟩ ⟨"Manypanes", "sees", "(III)I"⟩ ∈ gw := gw_5 (i := 59) rfl rfl
theorem kw1020 : Cond.code ⟨"Manypanes", "sees", "(III)I"⟩ prog_1_method_37_code 4 (Option.some .int) ∈ gw := gw_5 (i := 60) rfl rfl
theorem kw1021 : Cond.methodLink "ManypanesLaw" 264 ⟨"ManypanesLaw", "would", "(LManypanes;IILManypanesLaw$Out;)I"⟩ ∈ gw := gw_5 (i := 61) rfl rfl
theorem kw1022 : Cond.static ⟨"ManypanesLaw", "would", "(LManypanes;IILManypanesLaw$Out;)I"⟩ ∈ gw := gw_5 (i := 62) rfl rfl
theorem kw1024 : Cond.methodLink "ManypanesLaw" 133 ⟨"Manypanes", "would", "(II)I"⟩ ∈ gw := gw_5 (i := 64) rfl rfl
theorem kw1025 : Cond.instanceMethod ⟨"Manypanes", "would", "(II)I"⟩ ∈ gw := gw_5 (i := 65) rfl rfl
theorem kw1026 : Cond.selects "Manypanes" ⟨"Manypanes", "would", "(II)I"⟩ ⟨"Manypanes", "would", "(II)I"⟩ ∈ gw := gw_5 (i := 66) rfl rfl
theorem kw1027 : Cond.code ⟨"Manypanes", "would", "(II)I"⟩ prog_1_method_38_code 4 (Option.some .int) ∈ gw := gw_5 (i := 67) rfl rfl
theorem kw1028 : Cond.methodLink "ManypanesLaw" 267 ⟨"ManypanesLaw", "house", "(LManypanes;ILManypanesLaw$Out;)I"⟩ ∈ gw := gw_5 (i := 68) rfl rfl
theorem kw1029 : Cond.static ⟨"ManypanesLaw", "house", "(LManypanes;ILManypanesLaw$Out;)I"⟩ ∈ gw := gw_5 (i := 69) rfl rfl
theorem kw1031 : Cond.methodLink "ManypanesLaw" 136 ⟨"Manypanes", "house", "(I)I"⟩ ∈ gw := gw_5 (i := 71) rfl rfl
theorem kw1032 : Cond.instanceMethod ⟨"Manypanes", "house", "(I)I"⟩ ∈ gw := gw_5 (i := 72) rfl rfl
theorem kw1033 : Cond.selects "Manypanes" ⟨"Manypanes", "house", "(I)I"⟩ ⟨"Manypanes", "house", "(I)I"⟩ ∈ gw := gw_5 (i := 73) rfl rfl
theorem kw1034 : Cond.code ⟨"Manypanes", "house", "(I)I"⟩ prog_1_method_39_code 2 (Option.some .int) ∈ gw := gw_5 (i := 74) rfl rfl
theorem kw1035 : Cond.classLink "ManypanesLaw" 140 "ManypanesModel" ∈ gw := gw_5 (i := 75) rfl rfl
theorem kw1036 : Cond.instantiable "ManypanesModel" 7 ∈ gw := gw_5 (i := 76) rfl rfl
theorem kw1037 : Cond.methodLink "ManypanesLaw" 142 ⟨"ManypanesModel", "<init>", "()V"⟩ ∈ gw := gw_5 (i := 77) rfl rfl
theorem kw1038 : Cond.instanceMethod ⟨"ManypanesModel", "<init>", "()V"⟩ ∈ gw := gw_5 (i := 78) rfl rfl
theorem kw1039 : Cond.code ⟨"ManypanesModel", "<init>", "()V"⟩ prog_7_method_1_code 2 (Option.none : Option ClassFile.FieldType) ∈ gw := gw_5 (i := 79) rfl rfl
theorem kw1040 : Cond.methodLink "ManypanesModel" 1 ⟨"java/lang/Object", "<init>", "()V"⟩ ∈ gw := gw_5 (i := 80) rfl rfl
theorem kw1041 : Cond.classLink "ManypanesModel" 17 "[I" ∈ gw := gw_5 (i := 81) rfl rfl
theorem kn1042 : Cond.arrayOver (.array .int) ∈ z_nest := gn_5 (i := 82) rfl rfl
theorem kw1043 : Cond.methodLink "ManypanesModel" 25 ⟨"ManypanesModel", "over", "(IIII)[I"⟩ ∈ gw := gw_5 (i := 83) rfl rfl
theorem kw1044 : Cond.static ⟨"ManypanesModel", "over", "(IIII)[I"⟩ ∈ gw := gw_5 (i := 84) rfl rfl
theorem kw1045 : Cond.code ⟨"ManypanesModel", "over", "(IIII)[I"⟩ prog_7_method_3_code 4 (Option.some (.array .int)) ∈ gw := gw_5 (i := 85) rfl rfl
theorem kw1046 : Cond.methodLink "ManypanesModel" 29 ⟨"ManypanesModel", "made", "(I)[I"⟩ ∈ gw := gw_5 (i := 86) rfl rfl
theorem kw1048 : Cond.instanceMethod ⟨"ManypanesModel", "made", "(I)[I"⟩ ∈ gw := gw_5 (i := 88) rfl rfl
theorem kw1049 : Cond.code ⟨"ManypanesModel", "made", "(I)[I"⟩ prog_7_method_4_code 4 (Option.some (.array .int)) ∈ gw := gw_5 (i := 89) rfl rfl
theorem kw1050 : Cond.fieldLink "ManypanesModel" 9 "ManypanesModel" "tape" "[I" ∈ gw := gw_5 (i := 90) rfl rfl
theorem kw1051 : Cond.fieldLink "ManypanesModel" 13 "ManypanesModel" "rows" "I" ∈ gw := gw_5 (i := 91) rfl rfl
theorem kw1052 : Cond.fieldLink "ManypanesModel" 18 "ManypanesModel" "panes" "[[I" ∈ gw := gw_5 (i := 92) rfl rfl
theorem kw1053 : Cond.fieldLink "ManypanesModel" 22 "ManypanesModel" "told" "[I" ∈ gw := gw_5 (i := 93) rfl rfl
theorem kw1054 : Cond.fieldLink "ManypanesModel" 40 "ManypanesModel" "acts" "I" ∈ gw := gw_5 (i := 94) rfl rfl
theorem kw1055 : Cond.fieldLink "ManypanesModel" 139 "ManypanesModel" "knocks" "I" ∈ gw := gw_5 (i := 95) rfl rfl
theorem kw1056 : Cond.fieldLink "ManypanesModel" 33 "ManypanesModel" "thrown" "I" ∈ gw := gw_5 (i := 96) rfl rfl
theorem kw1057 : Cond.lays "ManypanesModel" "ManypanesModel" "tape" "[I" ∈ gw := gw_5 (i := 97) rfl rfl
theorem kw1059 : Cond.lays "ManypanesModel" "ManypanesModel" "rows" "I" ∈ gw := gw_5 (i := 99) rfl rfl
theorem kw1061 : Cond.laysFinal "ManypanesModel" "ManypanesModel" "panes" "[[I" ∈ gw := gw_5 (i := 101) rfl rfl
theorem kw1063 : Cond.laysFinal "ManypanesModel" "ManypanesModel" "told" "[I" ∈ gw := gw_5 (i := 103) rfl rfl
theorem kw1065 : Cond.lays "ManypanesModel" "ManypanesModel" "acts" "I" ∈ gw := gw_5 (i := 105) rfl rfl
theorem kw1067 : Cond.lays "ManypanesModel" "ManypanesModel" "knocks" "I" ∈ gw := gw_5 (i := 107) rfl rfl
theorem kw1069 : Cond.lays "ManypanesModel" "ManypanesModel" "thrown" "I" ∈ gw := gw_5 (i := 109) rfl rfl
theorem kw1071 : Cond.superclass "ManypanesModel" "java/lang/Object" ∈ gw := gw_5 (i := 111) rfl rfl
theorem kw1072 : Cond.methodLink "ManypanesLaw" 228 ⟨"ManypanesModel", "thrown", "()I"⟩ ∈ gw := gw_5 (i := 112) rfl rfl
theorem kw1073 : Cond.instanceMethod ⟨"ManypanesModel", "thrown", "()I"⟩ ∈ gw := gw_5 (i := 113) rfl rfl
theorem kw1074 : Cond.selects "ManypanesModel" ⟨"ManypanesModel", "thrown", "()I"⟩ ⟨"ManypanesModel", "thrown", "()I"⟩ ∈ gw := gw_5 (i := 114) rfl rfl
theorem kw1075 : Cond.code ⟨"ManypanesModel", "thrown", "()I"⟩ prog_7_method_2_code 1 (Option.some .int) ∈ gw := gw_5 (i := 115) rfl rfl
theorem kw1076 : Cond.methodLink "ManypanesLaw" 149 ⟨"ManypanesModel", "wrap", "(III)I"⟩ ∈ gw := gw_5 (i := 116) rfl rfl
theorem kw1077 : Cond.instanceMethod ⟨"ManypanesModel", "wrap", "(III)I"⟩ ∈ gw := gw_5 (i := 117) rfl rfl
theorem kw1078 : Cond.selects "ManypanesModel" ⟨"ManypanesModel", "wrap", "(III)I"⟩ ⟨"ManypanesModel", "wrap", "(III)I"⟩ ∈ gw := gw_5 (i := 118) rfl rfl
theorem kw1079 : Cond.code ⟨"ManypanesModel", "wrap", "(III)I"⟩ prog_7_method_17_code 4 (Option.some .int) ∈ gw := gw_5 (i := 119) rfl rfl
theorem kw1080 : Cond.methodLink "ManypanesModel" 55 ⟨"ManypanesModel", "isPane", "(I)Z"⟩ ∈ gw := gw_5 (i := 120) rfl rfl
theorem kw1081 : Cond.static ⟨"ManypanesModel", "isPane", "(I)Z"⟩ ∈ gw := gw_5 (i := 121) rfl rfl
theorem kw1082 : Cond.code ⟨"ManypanesModel", "isPane", "(I)Z"⟩ prog_7_method_8_code 1 (Option.some .boolean) ∈ gw := gw_5 (i := 122) rfl rfl
theorem kw1083 : Cond.methodLink "ManypanesModel" 36 ⟨"ManypanesModel", "isIn", "(III)Z"⟩ ∈ gw := gw_5 (i := 123) rfl rfl
theorem kw1084 : Cond.static ⟨"ManypanesModel", "isIn", "(III)Z"⟩ ∈ gw := gw_5 (i := 124) rfl rfl
theorem kw1085 : Cond.code ⟨"ManypanesModel", "isIn", "(III)Z"⟩ prog_7_method_5_code 3 (Option.some .boolean) ∈ gw := gw_5 (i := 125) rfl rfl
theorem kw1086 : Cond.methodLink "ManypanesModel" 59 ⟨"ManypanesModel", "isLet", "(ZZ)Z"⟩ ∈ gw := gw_5 (i := 126) rfl rfl
theorem kw1088 : Cond.instanceMethod ⟨"ManypanesModel", "isLet", "(ZZ)Z"⟩ ∈ gw := gw_5 (i := 128) rfl rfl
theorem kw1089 : Cond.code ⟨"ManypanesModel", "isLet", "(ZZ)Z"⟩ prog_7_method_7_code 3 (Option.some .boolean) ∈ gw := gw_5 (i := 129) rfl rfl
theorem kw1090 : Cond.methodLink "ManypanesModel" 63 ⟨"ManypanesModel", "did", "(I)I"⟩ ∈ gw := gw_5 (i := 130) rfl rfl
theorem kw1092 : Cond.instanceMethod ⟨"ManypanesModel", "did", "(I)I"⟩ ∈ gw := gw_5 (i := 132) rfl rfl
theorem kw1093 : Cond.code ⟨"ManypanesModel", "did", "(I)I"⟩ prog_7_method_10_code 2 (Option.some .int) ∈ gw := gw_5 (i := 133) rfl rfl
theorem kw1094 : Cond.methodLink "ManypanesLaw" 153 ⟨"ManypanesModel", "fresh", "(II)I"⟩ ∈ gw := gw_5 (i := 134) rfl rfl
theorem kw1095 : Cond.instanceMethod ⟨"ManypanesModel", "fresh", "(II)I"⟩ ∈ gw := gw_5 (i := 135) rfl rfl
theorem kw1096 : Cond.selects "ManypanesModel" ⟨"ManypanesModel", "fresh", "(II)I"⟩ ⟨"ManypanesModel", "fresh", "(II)I"⟩ ∈ gw := gw_5 (i := 136) rfl rfl
theorem kw1097 : Cond.code ⟨"ManypanesModel", "fresh", "(II)I"⟩ prog_7_method_18_code 3 (Option.some .int) ∈ gw := gw_5 (i := 137) rfl rfl
theorem kw1098 : Cond.methodLink "ManypanesLaw" 156 ⟨"ManypanesModel", "twin", "(II)I"⟩ ∈ gw := gw_5 (i := 138) rfl rfl
theorem kw1099 : Cond.instanceMethod ⟨"ManypanesModel", "twin", "(II)I"⟩ ∈ gw := gw_5 (i := 139) rfl rfl
theorem kw1100 : Cond.selects "ManypanesModel" ⟨"ManypanesModel", "twin", "(II)I"⟩ ⟨"ManypanesModel", "twin", "(II)I"⟩ ∈ gw := gw_5 (i := 140) rfl rfl
theorem kw1101 : Cond.code ⟨"ManypanesModel", "twin", "(II)I"⟩ prog_7_method_19_code 3 (Option.some .int) ∈ gw := gw_5 (i := 141) rfl rfl
theorem kw1102 : Cond.methodLink "ManypanesModel" 66 ⟨"ManypanesModel", "like", "([I)[I"⟩ ∈ gw := gw_5 (i := 142) rfl rfl
theorem kw1103 : Cond.static ⟨"ManypanesModel", "like", "([I)[I"⟩ ∈ gw := gw_5 (i := 143) rfl rfl
theorem kw1104 : Cond.code ⟨"ManypanesModel", "like", "([I)[I"⟩ prog_7_method_6_code 3 (Option.some (.array .int)) ∈ gw := gw_5 (i := 144) rfl rfl
theorem kw1105 : Cond.methodLink "ManypanesModel" 43 ⟨"ManypanesModel", "left", "([I)I"⟩ ∈ gw := gw_5 (i := 145) rfl rfl
theorem kw1106 : Cond.static ⟨"ManypanesModel", "left", "([I)I"⟩ ∈ gw := gw_5 (i := 146) rfl rfl
theorem kw1107 : Cond.code ⟨"ManypanesModel", "left", "([I)I"⟩ prog_7_method_11_code 1 (Option.some .int) ∈ gw := gw_5 (i := 147) rfl rfl
theorem kw1108 : Cond.methodLink "ManypanesLaw" 159 ⟨"ManypanesModel", "rest", "(II)I"⟩ ∈ gw := gw_5 (i := 148) rfl rfl
theorem kw1109 : Cond.instanceMethod ⟨"ManypanesModel", "rest", "(II)I"⟩ ∈ gw := gw_5 (i := 149) rfl rfl
theorem kw1110 : Cond.selects "ManypanesModel" ⟨"ManypanesModel", "rest", "(II)I"⟩ ⟨"ManypanesModel", "rest", "(II)I"⟩ ∈ gw := gw_5 (i := 150) rfl rfl
theorem kw1111 : Cond.code ⟨"ManypanesModel", "rest", "(II)I"⟩ prog_7_method_21_code 3 (Option.some .int) ∈ gw := gw_5 (i := 151) rfl rfl
theorem kw1112 : Cond.methodLink "ManypanesModel" 70 ⟨"ManypanesModel", "cut", "(I[III)I"⟩ ∈ gw := gw_5 (i := 152) rfl rfl
theorem kw1114 : Cond.instanceMethod ⟨"ManypanesModel", "cut", "(I[III)I"⟩ ∈ gw := gw_5 (i := 154) rfl rfl
theorem kw1115 : Cond.code ⟨"ManypanesModel", "cut", "(I[III)I"⟩ prog_7_method_20_code 6 (Option.some .int) ∈ gw := gw_5 (i := 155) rfl rfl
theorem kw1116 : Cond.methodLink "ManypanesLaw" 163 ⟨"ManypanesModel", "part", "(IIII)I"⟩ ∈ gw := gw_5 (i := 156) rfl rfl
theorem kw1117 : Cond.instanceMethod ⟨"ManypanesModel", "part", "(IIII)I"⟩ ∈ gw := gw_5 (i := 157) rfl rfl
theorem kw1118 : Cond.selects "ManypanesModel" ⟨"ManypanesModel", "part", "(IIII)I"⟩ ⟨"ManypanesModel", "part", "(IIII)I"⟩ ∈ gw := gw_5 (i := 158) rfl rfl
theorem kw1119 : Cond.code ⟨"ManypanesModel", "part", "(IIII)I"⟩ prog_7_method_22_code 6 (Option.some .int) ∈ gw := gw_5 (i := 159) rfl rfl
theorem kw1120 : Cond.methodLink "ManypanesModel" 47 ⟨"ManypanesModel", "refuse", "(I)I"⟩ ∈ gw := gw_5 (i := 160) rfl rfl
theorem kw1122 : Cond.instanceMethod ⟨"ManypanesModel", "refuse", "(I)I"⟩ ∈ gw := gw_5 (i := 162) rfl rfl
theorem kw1123 : Cond.code ⟨"ManypanesModel", "refuse", "(I)I"⟩ prog_7_method_9_code 2 (Option.some .int) ∈ gw := gw_5 (i := 163) rfl rfl
theorem kw1124 : Cond.methodLink "ManypanesLaw" 166 ⟨"ManypanesModel", "reader", "(II)I"⟩ ∈ gw := gw_5 (i := 164) rfl rfl
theorem kw1125 : Cond.instanceMethod ⟨"ManypanesModel", "reader", "(II)I"⟩ ∈ gw := gw_5 (i := 165) rfl rfl
theorem kw1126 : Cond.selects "ManypanesModel" ⟨"ManypanesModel", "reader", "(II)I"⟩ ⟨"ManypanesModel", "reader", "(II)I"⟩ ∈ gw := gw_5 (i := 166) rfl rfl
theorem kw1127 : Cond.code ⟨"ManypanesModel", "reader", "(II)I"⟩ prog_7_method_23_code 3 (Option.some .int) ∈ gw := gw_5 (i := 167) rfl rfl
theorem kw1128 : Cond.methodLink "ManypanesLaw" 169 ⟨"ManypanesModel", "exchange", "(II)I"⟩ ∈ gw := gw_5 (i := 168) rfl rfl
theorem kw1129 : Cond.instanceMethod ⟨"ManypanesModel", "exchange", "(II)I"⟩ ∈ gw := gw_5 (i := 169) rfl rfl
theorem kw1130 : Cond.selects "ManypanesModel" ⟨"ManypanesModel", "exchange", "(II)I"⟩ ⟨"ManypanesModel", "exchange", "(II)I"⟩ ∈ gw := gw_5 (i := 170) rfl rfl
theorem kw1131 : Cond.code ⟨"ManypanesModel", "exchange", "(II)I"⟩ prog_7_method_24_code 4 (Option.some .int) ∈ gw := gw_5 (i := 171) rfl rfl
theorem kw1132 : Cond.methodLink "ManypanesLaw" 172 ⟨"ManypanesModel", "go", "(II)I"⟩ ∈ gw := gw_5 (i := 172) rfl rfl
theorem kw1133 : Cond.instanceMethod ⟨"ManypanesModel", "go", "(II)I"⟩ ∈ gw := gw_5 (i := 173) rfl rfl
theorem kw1134 : Cond.selects "ManypanesModel" ⟨"ManypanesModel", "go", "(II)I"⟩ ⟨"ManypanesModel", "go", "(II)I"⟩ ∈ gw := gw_5 (i := 174) rfl rfl
theorem kw1135 : Cond.code ⟨"ManypanesModel", "go", "(II)I"⟩ prog_7_method_25_code 5 (Option.some .int) ∈ gw := gw_5 (i := 175) rfl rfl
theorem kw1136 : Cond.methodLink "ManypanesModel" 74 ⟨"ManypanesModel", "moved", "([II)V"⟩ ∈ gw := gw_5 (i := 176) rfl rfl
theorem kw1138 : Cond.instanceMethod ⟨"ManypanesModel", "moved", "([II)V"⟩ ∈ gw := gw_5 (i := 178) rfl rfl
theorem kw1139 : Cond.code ⟨"ManypanesModel", "moved", "([II)V"⟩ prog_7_method_13_code 3 (Option.none : Option ClassFile.FieldType) ∈ gw := gw_5 (i := 179) rfl rfl
theorem kw1140 : Cond.methodLink "ManypanesLaw" 175 ⟨"ManypanesModel", "move", "(II)I"⟩ ∈ gw := gw_5 (i := 180) rfl rfl
theorem kw1141 : Cond.instanceMethod ⟨"ManypanesModel", "move", "(II)I"⟩ ∈ gw := gw_5 (i := 181) rfl rfl
theorem kw1142 : Cond.selects "ManypanesModel" ⟨"ManypanesModel", "move", "(II)I"⟩ ⟨"ManypanesModel", "move", "(II)I"⟩ ∈ gw := gw_5 (i := 182) rfl rfl
theorem kw1143 : Cond.code ⟨"ManypanesModel", "move", "(II)I"⟩ prog_7_method_26_code 4 (Option.some .int) ∈ gw := gw_5 (i := 183) rfl rfl
theorem kw1144 : Cond.methodLink "ManypanesModel" 78 ⟨"ManypanesModel", "go", "(II)I"⟩ ∈ gw := gw_5 (i := 184) rfl rfl
theorem kw1145 : Cond.methodLink "ManypanesLaw" 178 ⟨"ManypanesModel", "end", "(II)I"⟩ ∈ gw := gw_5 (i := 185) rfl rfl
theorem kw1146 : Cond.instanceMethod ⟨"ManypanesModel", "end", "(II)I"⟩ ∈ gw := gw_5 (i := 186) rfl rfl
theorem kw1147 : Cond.selects "ManypanesModel" ⟨"ManypanesModel", "end", "(II)I"⟩ ⟨"ManypanesModel", "end", "(II)I"⟩ ∈ gw := gw_5 (i := 187) rfl rfl
theorem kw1148 : Cond.code ⟨"ManypanesModel", "end", "(II)I"⟩ prog_7_method_27_code 5 (Option.some .int) ∈ gw := gw_5 (i := 188) rfl rfl
theorem kw1149 : Cond.methodLink "ManypanesModel" 82 ⟨"ManypanesModel", "ended", "([II)V"⟩ ∈ gw := gw_5 (i := 189) rfl rfl
theorem kw1151 : Cond.instanceMethod ⟨"ManypanesModel", "ended", "([II)V"⟩ ∈ gw := gw_5 (i := 191) rfl rfl
theorem kw1152 : Cond.code ⟨"ManypanesModel", "ended", "([II)V"⟩ prog_7_method_14_code 3 (Option.none : Option ClassFile.FieldType) ∈ gw := gw_5 (i := 192) rfl rfl
theorem kw1153 : Cond.methodLink "ManypanesLaw" 181 ⟨"ManypanesModel", "stretch", "(II)I"⟩ ∈ gw := gw_5 (i := 193) rfl rfl
theorem kw1154 : Cond.instanceMethod ⟨"ManypanesModel", "stretch", "(II)I"⟩ ∈ gw := gw_5 (i := 194) rfl rfl
theorem kw1155 : Cond.selects "ManypanesModel" ⟨"ManypanesModel", "stretch", "(II)I"⟩ ⟨"ManypanesModel", "stretch", "(II)I"⟩ ∈ gw := gw_5 (i := 195) rfl rfl
theorem kw1156 : Cond.code ⟨"ManypanesModel", "stretch", "(II)I"⟩ prog_7_method_28_code 4 (Option.some .int) ∈ gw := gw_5 (i := 196) rfl rfl
theorem kw1157 : Cond.methodLink "ManypanesModel" 85 ⟨"ManypanesModel", "end", "(II)I"⟩ ∈ gw := gw_5 (i := 197) rfl rfl
theorem kw1158 : Cond.methodLink "ManypanesLaw" 185 ⟨"ManypanesModel", "mark", "(I)I"⟩ ∈ gw := gw_5 (i := 198) rfl rfl
theorem kw1159 : Cond.instanceMethod ⟨"ManypanesModel", "mark", "(I)I"⟩ ∈ gw := gw_5 (i := 199) rfl rfl
theorem kw1160 : Cond.selects "ManypanesModel" ⟨"ManypanesModel", "mark", "(I)I"⟩ ⟨"ManypanesModel", "mark", "(I)I"⟩ ∈ gw := gw_5 (i := 200) rfl rfl
theorem kw1161 : Cond.code ⟨"ManypanesModel", "mark", "(I)I"⟩ prog_7_method_29_code 2 (Option.some .int) ∈ gw := gw_5 (i := 201) rfl rfl
theorem kw1162 : Cond.methodLink "ManypanesLaw" 188 ⟨"ManypanesModel", "back", "(I)I"⟩ ∈ gw := gw_5 (i := 202) rfl rfl
theorem kw1163 : Cond.instanceMethod ⟨"ManypanesModel", "back", "(I)I"⟩ ∈ gw := gw_5 (i := 203) rfl rfl
theorem kw1164 : Cond.selects "ManypanesModel" ⟨"ManypanesModel", "back", "(I)I"⟩ ⟨"ManypanesModel", "back", "(I)I"⟩ ∈ gw := gw_5 (i := 204) rfl rfl
theorem kw1165 : Cond.code ⟨"ManypanesModel", "back", "(I)I"⟩ prog_7_method_30_code 4 (Option.some .int) ∈ gw := gw_5 (i := 205) rfl rfl
theorem kw1166 : Cond.methodLink "ManypanesLaw" 191 ⟨"ManypanesModel", "clear", "(I)I"⟩ ∈ gw := gw_5 (i := 206) rfl rfl
theorem kw1167 : Cond.instanceMethod ⟨"ManypanesModel", "clear", "(I)I"⟩ ∈ gw := gw_5 (i := 207) rfl rfl
theorem kw1168 : Cond.selects "ManypanesModel" ⟨"ManypanesModel", "clear", "(I)I"⟩ ⟨"ManypanesModel", "clear", "(I)I"⟩ ∈ gw := gw_5 (i := 208) rfl rfl
theorem kw1169 : Cond.code ⟨"ManypanesModel", "clear", "(I)I"⟩ prog_7_method_32_code 2 (Option.some .int) ∈ gw := gw_5 (i := 209) rfl rfl
theorem kw1170 : Cond.methodLink "ManypanesModel" 88 ⟨"ManypanesModel", "begun", "([III)I"⟩ ∈ gw := gw_5 (i := 210) rfl rfl
theorem kw1172 : Cond.instanceMethod ⟨"ManypanesModel", "begun", "([III)I"⟩ ∈ gw := gw_5 (i := 212) rfl rfl
theorem kw1173 : Cond.code ⟨"ManypanesModel", "begun", "([III)I"⟩ prog_7_method_31_code 4 (Option.some .int) ∈ gw := gw_5 (i := 213) rfl rfl
theorem kw1174 : Cond.methodLink "ManypanesLaw" 194 ⟨"ManypanesModel", "flip", "(I)I"⟩ ∈ gw := gw_5 (i := 214) rfl rfl
theorem kw1175 : Cond.instanceMethod ⟨"ManypanesModel", "flip", "(I)I"⟩ ∈ gw := gw_5 (i := 215) rfl rfl
theorem kw1176 : Cond.selects "ManypanesModel" ⟨"ManypanesModel", "flip", "(I)I"⟩ ⟨"ManypanesModel", "flip", "(I)I"⟩ ∈ gw := gw_5 (i := 216) rfl rfl
theorem kw1177 : Cond.code ⟨"ManypanesModel", "flip", "(I)I"⟩ prog_7_method_33_code 2 (Option.some .int) ∈ gw := gw_5 (i := 217) rfl rfl
theorem kw1178 : Cond.methodLink "ManypanesLaw" 197 ⟨"ManypanesModel", "rewind", "(I)I"⟩ ∈ gw := gw_5 (i := 218) rfl rfl
theorem kw1179 : Cond.instanceMethod ⟨"ManypanesModel", "rewind", "(I)I"⟩ ∈ gw := gw_5 (i := 219) rfl rfl
theorem kw1180 : Cond.selects "ManypanesModel" ⟨"ManypanesModel", "rewind", "(I)I"⟩ ⟨"ManypanesModel", "rewind", "(I)I"⟩ ∈ gw := gw_5 (i := 220) rfl rfl
theorem kw1181 : Cond.code ⟨"ManypanesModel", "rewind", "(I)I"⟩ prog_7_method_34_code 2 (Option.some .int) ∈ gw := gw_5 (i := 221) rfl rfl
theorem kw1182 : Cond.methodLink "ManypanesLaw" 200 ⟨"ManypanesModel", "put", "(II)I"⟩ ∈ gw := gw_5 (i := 222) rfl rfl
theorem kw1183 : Cond.instanceMethod ⟨"ManypanesModel", "put", "(II)I"⟩ ∈ gw := gw_5 (i := 223) rfl rfl
theorem kw1184 : Cond.selects "ManypanesModel" ⟨"ManypanesModel", "put", "(II)I"⟩ ⟨"ManypanesModel", "put", "(II)I"⟩ ∈ gw := gw_5 (i := 224) rfl rfl
theorem kw1185 : Cond.code ⟨"ManypanesModel", "put", "(II)I"⟩ prog_7_method_35_code 3 (Option.some .int) ∈ gw := gw_5 (i := 225) rfl rfl
theorem kw1186 : Cond.methodLink "ManypanesModel" 92 ⟨"ManypanesModel", "puts", "([II)I"⟩ ∈ gw := gw_5 (i := 226) rfl rfl
theorem kw1188 : Cond.instanceMethod ⟨"ManypanesModel", "puts", "([II)I"⟩ ∈ gw := gw_5 (i := 228) rfl rfl
theorem kw1189 : Cond.code ⟨"ManypanesModel", "puts", "([II)I"⟩ prog_7_method_15_code 4 (Option.some .int) ∈ gw := gw_5 (i := 229) rfl rfl
theorem kw1190 : Cond.methodLink "ManypanesModel" 51 ⟨"ManypanesModel", "where", "([II)I"⟩ ∈ gw := gw_5 (i := 230) rfl rfl
theorem kw1192 : Cond.instanceMethod ⟨"ManypanesModel", "where", "([II)I"⟩ ∈ gw := gw_5 (i := 232) rfl rfl
theorem kw1193 : Cond.code ⟨"ManypanesModel", "where", "([II)I"⟩ prog_7_method_12_code 3 (Option.some .int) ∈ gw := gw_5 (i := 233) rfl rfl
theorem kw1194 : Cond.methodLink "ManypanesLaw" 203 ⟨"ManypanesModel", "putAt", "(III)I"⟩ ∈ gw := gw_5 (i := 234) rfl rfl
theorem kw1195 : Cond.instanceMethod ⟨"ManypanesModel", "putAt", "(III)I"⟩ ∈ gw := gw_5 (i := 235) rfl rfl
theorem kw1196 : Cond.selects "ManypanesModel" ⟨"ManypanesModel", "putAt", "(III)I"⟩ ⟨"ManypanesModel", "putAt", "(III)I"⟩ ∈ gw := gw_5 (i := 236) rfl rfl
theorem kw1197 : Cond.code ⟨"ManypanesModel", "putAt", "(III)I"⟩ prog_7_method_36_code 5 (Option.some .int) ∈ gw := gw_5 (i := 237) rfl rfl
theorem kw1198 : Cond.methodLink "ManypanesModel" 95 ⟨"ManypanesModel", "written", "(II)I"⟩ ∈ gw := gw_5 (i := 238) rfl rfl
theorem kw1200 : Cond.instanceMethod ⟨"ManypanesModel", "written", "(II)I"⟩ ∈ gw := gw_6 (i := 0) rfl rfl
theorem kw1201 : Cond.code ⟨"ManypanesModel", "written", "(II)I"⟩ prog_7_method_16_code 4 (Option.some .int) ∈ gw := gw_6 (i := 1) rfl rfl
theorem kw1202 : Cond.methodLink "ManypanesLaw" 206 ⟨"ManypanesModel", "bring", "(IIII)I"⟩ ∈ gw := gw_6 (i := 2) rfl rfl
theorem kw1203 : Cond.instanceMethod ⟨"ManypanesModel", "bring", "(IIII)I"⟩ ∈ gw := gw_6 (i := 3) rfl rfl
theorem kw1204 : Cond.selects "ManypanesModel" ⟨"ManypanesModel", "bring", "(IIII)I"⟩ ⟨"ManypanesModel", "bring", "(IIII)I"⟩ ∈ gw := gw_6 (i := 4) rfl rfl
theorem kw1205 : Cond.code ⟨"ManypanesModel", "bring", "(IIII)I"⟩ prog_7_method_37_code 7 (Option.some .int) ∈ gw := gw_6 (i := 5) rfl rfl
theorem kw1206 : Cond.methodLink "ManypanesLaw" 209 ⟨"ManypanesModel", "fill", "(IIII)I"⟩ ∈ gw := gw_6 (i := 6) rfl rfl
theorem kw1207 : Cond.instanceMethod ⟨"ManypanesModel", "fill", "(IIII)I"⟩ ∈ gw := gw_6 (i := 7) rfl rfl
theorem kw1208 : Cond.selects "ManypanesModel" ⟨"ManypanesModel", "fill", "(IIII)I"⟩ ⟨"ManypanesModel", "fill", "(IIII)I"⟩ ∈ gw := gw_6 (i := 8) rfl rfl
theorem kw1209 : Cond.code ⟨"ManypanesModel", "fill", "(IIII)I"⟩ prog_7_method_38_code 6 (Option.some .int) ∈ gw := gw_6 (i := 9) rfl rfl
theorem kw1210 : Cond.constant "ManypanesModel" 98 (1000000 : Int32) ∈ gw := gw_6 (i := 10) rfl rfl
theorem kw1211 : Cond.methodLink "ManypanesLaw" 212 ⟨"ManypanesModel", "pack", "(I)I"⟩ ∈ gw := gw_6 (i := 11) rfl rfl
theorem kw1212 : Cond.instanceMethod ⟨"ManypanesModel", "pack", "(I)I"⟩ ∈ gw := gw_6 (i := 12) rfl rfl
theorem kw1213 : Cond.selects "ManypanesModel" ⟨"ManypanesModel", "pack", "(I)I"⟩ ⟨"ManypanesModel", "pack", "(I)I"⟩ ∈ gw := gw_6 (i := 13) rfl rfl
theorem kw1214 : Cond.code ⟨"ManypanesModel", "pack", "(I)I"⟩ prog_7_method_39_code 5 (Option.some .int) ∈ gw := gw_6 (i := 14) rfl rfl
theorem kw1215 : Cond.methodLink "ManypanesLaw" 215 ⟨"ManypanesModel", "pour", "(III)I"⟩ ∈ gw := gw_6 (i := 15) rfl rfl
theorem kw1216 : Cond.instanceMethod ⟨"ManypanesModel", "pour", "(III)I"⟩ ∈ gw := gw_6 (i := 16) rfl rfl
theorem kw1217 : Cond.selects "ManypanesModel" ⟨"ManypanesModel", "pour", "(III)I"⟩ ⟨"ManypanesModel", "pour", "(III)I"⟩ ∈ gw := gw_6 (i := 17) rfl rfl
theorem kw1218 : Cond.code ⟨"ManypanesModel", "pour", "(III)I"⟩ prog_7_method_40_code 6 (Option.some .int) ∈ gw := gw_6 (i := 18) rfl rfl
theorem kw1219 : Cond.methodLink "ManypanesLaw" 218 ⟨"ManypanesModel", "lay", "(II)I"⟩ ∈ gw := gw_6 (i := 19) rfl rfl
theorem kw1220 : Cond.instanceMethod ⟨"ManypanesModel", "lay", "(II)I"⟩ ∈ gw := gw_6 (i := 20) rfl rfl
theorem kw1221 : Cond.selects "ManypanesModel" ⟨"ManypanesModel", "lay", "(II)I"⟩ ⟨"ManypanesModel", "lay", "(II)I"⟩ ∈ gw := gw_6 (i := 21) rfl rfl
theorem kw1222 : Cond.code ⟨"ManypanesModel", "lay", "(II)I"⟩ prog_7_method_41_code 3 (Option.some .int) ∈ gw := gw_6 (i := 22) rfl rfl
theorem kw1223 : Cond.methodLink "ManypanesLaw" 221 ⟨"ManypanesModel", "reach", "(III)I"⟩ ∈ gw := gw_6 (i := 23) rfl rfl
theorem kw1224 : Cond.instanceMethod ⟨"ManypanesModel", "reach", "(III)I"⟩ ∈ gw := gw_6 (i := 24) rfl rfl
theorem kw1225 : Cond.selects "ManypanesModel" ⟨"ManypanesModel", "reach", "(III)I"⟩ ⟨"ManypanesModel", "reach", "(III)I"⟩ ∈ gw := gw_6 (i := 25) rfl rfl
theorem kw1226 : Cond.code ⟨"ManypanesModel", "reach", "(III)I"⟩ prog_7_method_42_code 5 (Option.some .int) ∈ gw := gw_6 (i := 26) rfl rfl
theorem kw1227 : Cond.methodLink "ManypanesLaw" 224 ⟨"ManypanesModel", "get", "(I)I"⟩ ∈ gw := gw_6 (i := 27) rfl rfl
theorem kw1228 : Cond.instanceMethod ⟨"ManypanesModel", "get", "(I)I"⟩ ∈ gw := gw_6 (i := 28) rfl rfl
theorem kw1229 : Cond.selects "ManypanesModel" ⟨"ManypanesModel", "get", "(I)I"⟩ ⟨"ManypanesModel", "get", "(I)I"⟩ ∈ gw := gw_6 (i := 29) rfl rfl
theorem kw1230 : Cond.code ⟨"ManypanesModel", "get", "(I)I"⟩ prog_7_method_43_code 3 (Option.some .int) ∈ gw := gw_6 (i := 30) rfl rfl
theorem kw1231 : Cond.methodLink "ManypanesLaw" 227 ⟨"ManypanesModel", "drain", "(II)I"⟩ ∈ gw := gw_6 (i := 31) rfl rfl
theorem kw1232 : Cond.instanceMethod ⟨"ManypanesModel", "drain", "(II)I"⟩ ∈ gw := gw_6 (i := 32) rfl rfl
theorem kw1233 : Cond.selects "ManypanesModel" ⟨"ManypanesModel", "drain", "(II)I"⟩ ⟨"ManypanesModel", "drain", "(II)I"⟩ ∈ gw := gw_6 (i := 33) rfl rfl
theorem kw1234 : Cond.code ⟨"ManypanesModel", "drain", "(II)I"⟩ prog_7_method_44_code 5 (Option.some .int) ∈ gw := gw_6 (i := 34) rfl rfl
theorem kw1235 : Cond.methodLink "ManypanesModel" 99 ⟨"java/lang/Math", "min", "(II)I"⟩ ∈ gw := gw_6 (i := 35) rfl rfl
theorem kw1236 : Cond.methodLink "ManypanesLaw" 234 ⟨"ManypanesModel", "pop", "(I)I"⟩ ∈ gw := gw_6 (i := 36) rfl rfl
theorem kw1237 : Cond.instanceMethod ⟨"ManypanesModel", "pop", "(I)I"⟩ ∈ gw := gw_6 (i := 37) rfl rfl
theorem kw1238 : Cond.selects "ManypanesModel" ⟨"ManypanesModel", "pop", "(I)I"⟩ ⟨"ManypanesModel", "pop", "(I)I"⟩ ∈ gw := gw_6 (i := 38) rfl rfl
theorem kw1239 : Cond.code ⟨"ManypanesModel", "pop", "(I)I"⟩ prog_7_method_45_code 3 (Option.some .int) ∈ gw := gw_6 (i := 39) rfl rfl
theorem kw1240 : Cond.methodLink "ManypanesLaw" 237 ⟨"ManypanesModel", "ofPane", "(II)I"⟩ ∈ gw := gw_6 (i := 40) rfl rfl
theorem kw1241 : Cond.instanceMethod ⟨"ManypanesModel", "ofPane", "(II)I"⟩ ∈ gw := gw_6 (i := 41) rfl rfl
theorem kw1242 : Cond.selects "ManypanesModel" ⟨"ManypanesModel", "ofPane", "(II)I"⟩ ⟨"ManypanesModel", "ofPane", "(II)I"⟩ ∈ gw := gw_6 (i := 42) rfl rfl
theorem kw1243 : Cond.code ⟨"ManypanesModel", "ofPane", "(II)I"⟩ prog_7_method_46_code 5 (Option.some .int) ∈ gw := gw_6 (i := 43) rfl rfl
theorem kw1244 : Cond.methodLink "ManypanesLaw" 240 ⟨"ManypanesModel", "at", "(II)I"⟩ ∈ gw := gw_6 (i := 44) rfl rfl
theorem kw1245 : Cond.instanceMethod ⟨"ManypanesModel", "at", "(II)I"⟩ ∈ gw := gw_6 (i := 45) rfl rfl
theorem kw1246 : Cond.selects "ManypanesModel" ⟨"ManypanesModel", "at", "(II)I"⟩ ⟨"ManypanesModel", "at", "(II)I"⟩ ∈ gw := gw_6 (i := 46) rfl rfl
theorem kw1247 : Cond.code ⟨"ManypanesModel", "at", "(II)I"⟩ prog_7_method_47_code 3 (Option.some .int) ∈ gw := gw_6 (i := 47) rfl rfl
theorem kw1248 : Cond.methodLink "ManypanesLaw" 243 ⟨"ManypanesModel", "peek", "(I)I"⟩ ∈ gw := gw_6 (i := 48) rfl rfl
theorem kw1249 : Cond.instanceMethod ⟨"ManypanesModel", "peek", "(I)I"⟩ ∈ gw := gw_6 (i := 49) rfl rfl
theorem kw1250 : Cond.selects "ManypanesModel" ⟨"ManypanesModel", "peek", "(I)I"⟩ ⟨"ManypanesModel", "peek", "(I)I"⟩ ∈ gw := gw_6 (i := 50) rfl rfl
theorem kw1251 : Cond.code ⟨"ManypanesModel", "peek", "(I)I"⟩ prog_7_method_48_code 2 (Option.some .int) ∈ gw := gw_6 (i := 51) rfl rfl
theorem kw1252 : Cond.methodLink "ManypanesLaw" 246 ⟨"ManypanesModel", "total", "(I)Ljava/lang/String;"⟩ ∈ gw := gw_6 (i := 52) rfl rfl
theorem kw1253 : Cond.instanceMethod ⟨"ManypanesModel", "total", "(I)Ljava/lang/String;"⟩ ∈ gw := gw_6 (i := 53) rfl rfl
theorem kw1254 : Cond.selects "ManypanesModel" ⟨"ManypanesModel", "total", "(I)Ljava/lang/String;"⟩ ⟨"ManypanesModel", "total", "(I)Ljava/lang/String;"⟩ ∈ gw := gw_6 (i := 54) rfl rfl
theorem kw1255 : Cond.code ⟨"ManypanesModel", "total", "(I)Ljava/lang/String;"⟩ prog_7_method_49_code 5 (Option.some (.object "java/lang/String")) ∈ gw := gw_6 (i := 55) rfl rfl
theorem kw1257 : Cond.classLink "ManypanesModel" 106 "java/lang/StringBuilder" ∈ gw := gw_6 (i := 57) rfl rfl
theorem kw1258 : Cond.methodLink "ManypanesModel" 108 ⟨"java/lang/StringBuilder", "<init>", "()V"⟩ ∈ gw := gw_6 (i := 58) rfl rfl
theorem kw1259 : Cond.methodLink "ManypanesModel" 109 ⟨"java/lang/StringBuilder", "append", "(Ljava/lang/String;)Ljava/lang/StringBuilder;"⟩ ∈ gw := gw_6 (i := 59) rfl rfl
theorem kw1260 : Cond.methodLink "ManypanesModel" 113 ⟨"java/lang/StringBuilder", "append", "(J)Ljava/lang/StringBuilder;"⟩ ∈ gw := gw_6 (i := 60) rfl rfl
theorem kw1261 : Cond.instanceMethod ⟨"java/lang/StringBuilder", "append", "(J)Ljava/lang/StringBuilder;"⟩ ∈ gw := gw_6 (i := 61) rfl rfl
theorem kw1262 : Cond.selects "java/lang/StringBuilder" ⟨"java/lang/StringBuilder", "append", "(J)Ljava/lang/StringBuilder;"⟩ ⟨"java/lang/StringBuilder", "append", "(J)Ljava/lang/StringBuilder;"⟩ ∈ gw := gw_6 (i := 62) rfl rfl
theorem kw1263 : Cond.code ⟨"java/lang/StringBuilder", "append", "(J)Ljava/lang/StringBuilder;"⟩ prog_19_method_16_code 3 (Option.some (.object "java/lang/StringBuilder")) ∈ gw := gw_6 (i := 63) rfl rfl
theorem kw1264 : Cond.methodLink "java/lang/StringBuilder" 56 ⟨"java/lang/AbstractStringBuilder", "append", "(J)Ljava/lang/AbstractStringBuilder;"⟩ ∈ gw := gw_6 (i := 64) rfl rfl
theorem kw1265 : Cond.instanceMethod ⟨"java/lang/AbstractStringBuilder", "append", "(J)Ljava/lang/AbstractStringBuilder;"⟩ ∈ gw := gw_6 (i := 65) rfl rfl
theorem kw1266 : Cond.code ⟨"java/lang/AbstractStringBuilder", "append", "(J)Ljava/lang/AbstractStringBuilder;"⟩ prog_8_method_33_code 5 (Option.some (.object "java/lang/AbstractStringBuilder")) ∈ gw := gw_6 (i := 66) rfl rfl
theorem kw1267 : Cond.methodLink "java/lang/AbstractStringBuilder" 254 ⟨"java/lang/Long", "stringSize", "(J)I"⟩ ∈ gw := gw_6 (i := 67) rfl rfl
theorem kw1268 : Cond.static ⟨"java/lang/Long", "stringSize", "(J)I"⟩ ∈ gw := gw_6 (i := 68) rfl rfl
theorem kw1269 : Cond.code ⟨"java/lang/Long", "stringSize", "(J)I"⟩ prog_15_method_15_code 6 (Option.some .int) ∈ gw := gw_6 (i := 69) rfl rfl
theorem kw1270 : Cond.constantLong "java/lang/Long" 140 (-10 : Int64) ∈ gw := gw_6 (i := 70) rfl rfl
theorem kw1271 : Cond.constantLong "java/lang/Long" 53 (10 : Int64) ∈ gw := gw_6 (i := 71) rfl rfl
theorem kw1272 : Cond.methodLink "java/lang/AbstractStringBuilder" 259 ⟨"java/lang/Long", "getChars", "(JI[B)I"⟩ ∈ gw := gw_6 (i := 72) rfl rfl
theorem kw1273 : Cond.static ⟨"java/lang/Long", "getChars", "(JI[B)I"⟩ ∈ gw := gw_6 (i := 73) rfl rfl
theorem kw1274 : Cond.code ⟨"java/lang/Long", "getChars", "(JI[B)I"⟩ prog_15_method_14_code 11 (Option.some .int) ∈ gw := gw_6 (i := 74) rfl rfl
theorem kw1275 : Cond.constantLong "java/lang/Long" 129 (-2147483648 : Int64) ∈ gw := gw_6 (i := 75) rfl rfl
theorem kw1276 : Cond.constantLong "java/lang/Long" 131 (100 : Int64) ∈ gw := gw_6 (i := 76) rfl rfl
theorem kw1277 : Cond.fieldLink "java/lang/Long" 133 "java/lang/Integer" "DigitOnes" "[B" ∈ gw := gw_6 (i := 77) rfl rfl
theorem kw1278 : Cond.fieldLink "java/lang/Long" 137 "java/lang/Integer" "DigitTens" "[B" ∈ gw := gw_6 (i := 78) rfl rfl
theorem kw1279 : Cond.methodLink "java/lang/AbstractStringBuilder" 262 ⟨"java/lang/StringUTF16", "getChars", "(JII[B)I"⟩ ∈ gw := gw_6 (i := 79) rfl rfl
theorem kw1280 : Cond.static ⟨"java/lang/StringUTF16", "getChars", "(JII[B)I"⟩ ∈ gw := gw_6 (i := 80) rfl rfl
theorem kw1281 : Cond.code ⟨"java/lang/StringUTF16", "getChars", "(JII[B)I"⟩ prog_22_method_78_code 6 (Option.some .int) ∈ gw := gw_6 (i := 81) rfl rfl
theorem kw1282 : Cond.methodLink "java/lang/StringUTF16" 396 ⟨"java/lang/StringUTF16", "getChars", "(JI[B)I"⟩ ∈ gw := gw_6 (i := 82) rfl rfl
theorem kw1283 : Cond.static ⟨"java/lang/StringUTF16", "getChars", "(JI[B)I"⟩ ∈ gw := gw_6 (i := 83) rfl rfl
theorem kw1284 : Cond.code ⟨"java/lang/StringUTF16", "getChars", "(JI[B)I"⟩ prog_22_method_90_code 11 (Option.some .int) ∈ gw := gw_6 (i := 84) rfl rfl
theorem kw1285 : Cond.constantLong "java/lang/StringUTF16" 410 (-2147483648 : Int64) ∈ gw := gw_6 (i := 85) rfl rfl
theorem kw1286 : Cond.constantLong "java/lang/StringUTF16" 412 (100 : Int64) ∈ gw := gw_6 (i := 86) rfl rfl
theorem kw1287 : Cond.methodLink "ManypanesModel" 116 ⟨"java/lang/StringBuilder", "toString", "()Ljava/lang/String;"⟩ ∈ gw := gw_6 (i := 87) rfl rfl
theorem kw1288 : Cond.methodLink "ManypanesLaw" 249 ⟨"ManypanesModel", "text", "(I)Ljava/lang/String;"⟩ ∈ gw := gw_6 (i := 88) rfl rfl
theorem kw1289 : Cond.instanceMethod ⟨"ManypanesModel", "text", "(I)Ljava/lang/String;"⟩ ∈ gw := gw_6 (i := 89) rfl rfl
theorem kw1290 : Cond.selects "ManypanesModel" ⟨"ManypanesModel", "text", "(I)Ljava/lang/String;"⟩ ⟨"ManypanesModel", "text", "(I)Ljava/lang/String;"⟩ ∈ gw := gw_6 (i := 90) rfl rfl
theorem kw1291 : Cond.code ⟨"ManypanesModel", "text", "(I)Ljava/lang/String;"⟩ prog_7_method_51_code 2 (Option.some (.object "java/lang/String")) ∈ gw := gw_6 (i := 91) rfl rfl
theorem kw1292 : Cond.methodLink "ManypanesModel" 125 ⟨"ManypanesModel", "joined", "(II)Ljava/lang/String;"⟩ ∈ gw := gw_6 (i := 92) rfl rfl
theorem kw1294 : Cond.instanceMethod ⟨"ManypanesModel", "joined", "(II)Ljava/lang/String;"⟩ ∈ gw := gw_6 (i := 94) rfl rfl
theorem kw1295 : Cond.code ⟨"ManypanesModel", "joined", "(II)Ljava/lang/String;"⟩ prog_7_method_50_code 5 (Option.some (.object "java/lang/String")) ∈ gw := gw_6 (i := 95) rfl rfl
theorem kw1297 : Cond.methodLink "ManypanesModel" 122 ⟨"java/lang/StringBuilder", "append", "(I)Ljava/lang/StringBuilder;"⟩ ∈ gw := gw_6 (i := 97) rfl rfl
theorem kw1298 : Cond.methodLink "ManypanesLaw" 252 ⟨"ManypanesModel", "whole", "(I)Ljava/lang/String;"⟩ ∈ gw := gw_6 (i := 98) rfl rfl
theorem kw1299 : Cond.instanceMethod ⟨"ManypanesModel", "whole", "(I)Ljava/lang/String;"⟩ ∈ gw := gw_6 (i := 99) rfl rfl
theorem kw1300 : Cond.selects "ManypanesModel" ⟨"ManypanesModel", "whole", "(I)Ljava/lang/String;"⟩ ⟨"ManypanesModel", "whole", "(I)Ljava/lang/String;"⟩ ∈ gw := gw_6 (i := 100) rfl rfl
theorem kw1301 : Cond.code ⟨"ManypanesModel", "whole", "(I)Ljava/lang/String;"⟩ prog_7_method_52_code 5 (Option.some (.object "java/lang/String")) ∈ gw := gw_6 (i := 101) rfl rfl
theorem kw1305 : Cond.methodLink "ManypanesLaw" 257 ⟨"ManypanesModel", "row", "()Ljava/lang/String;"⟩ ∈ gw := gw_6 (i := 105) rfl rfl
theorem kw1306 : Cond.instanceMethod ⟨"ManypanesModel", "row", "()Ljava/lang/String;"⟩ ∈ gw := gw_6 (i := 106) rfl rfl
theorem kw1307 : Cond.selects "ManypanesModel" ⟨"ManypanesModel", "row", "()Ljava/lang/String;"⟩ ⟨"ManypanesModel", "row", "()Ljava/lang/String;"⟩ ∈ gw := gw_6 (i := 107) rfl rfl
theorem kw1308 : Cond.code ⟨"ManypanesModel", "row", "()Ljava/lang/String;"⟩ prog_7_method_53_code 1 (Option.some (.object "java/lang/String")) ∈ gw := gw_6 (i := 108) rfl rfl
theorem kw1309 : Cond.methodLink "ManypanesLaw" 260 ⟨"ManypanesModel", "isKin", "(II)I"⟩ ∈ gw := gw_6 (i := 109) rfl rfl
theorem kw1310 : Cond.instanceMethod ⟨"ManypanesModel", "isKin", "(II)I"⟩ ∈ gw := gw_6 (i := 110) rfl rfl
theorem kw1311 : Cond.selects "ManypanesModel" ⟨"ManypanesModel", "isKin", "(II)I"⟩ ⟨"ManypanesModel", "isKin", "(II)I"⟩ ∈ gw := gw_6 (i := 111) rfl rfl
theorem kw1312 : Cond.code ⟨"ManypanesModel", "isKin", "(II)I"⟩ prog_7_method_55_code 3 (Option.some .int) ∈ gw := gw_6 (i := 112) rfl rfl
theorem kw1313 : Cond.methodLink "ManypanesModel" 135 ⟨"ManypanesModel", "areReaders", "(II)Z"⟩ ∈ gw := gw_6 (i := 113) rfl rfl
theorem kw1315 : Cond.instanceMethod ⟨"ManypanesModel", "areReaders", "(II)Z"⟩ ∈ gw := gw_6 (i := 115) rfl rfl
theorem kw1316 : Cond.code ⟨"ManypanesModel", "areReaders", "(II)Z"⟩ prog_7_method_54_code 3 (Option.some .boolean) ∈ gw := gw_6 (i := 116) rfl rfl
theorem kw1317 : Cond.methodLink "ManypanesLaw" 263 ⟨"ManypanesModel", "sees", "(III)I"⟩ ∈ gw := gw_6 (i := 117) rfl rfl
theorem kw1318 : Cond.instanceMethod ⟨"ManypanesModel", "sees", "(III)I"⟩ ∈ gw := gw_6 (i := 118) rfl rfl
theorem kw1319 : Cond.selects "ManypanesModel" ⟨"ManypanesModel", "sees", "(III)I"⟩ ⟨"ManypanesModel", "sees", "(III)I"⟩ ∈ gw := gw_6 (i := 119) rfl rfl
theorem kw1320 : Cond.code ⟨"ManypanesModel", "sees", "(III)I"⟩ prog_7_method_56_code 7 (Option.some .int) ∈ gw := gw_6 (i := 120) rfl rfl
theorem kw1321 : Cond.methodLink "ManypanesLaw" 266 ⟨"ManypanesModel", "would", "(II)I"⟩ ∈ gw := gw_6 (i := 121) rfl rfl
theorem kw1322 : Cond.instanceMethod ⟨"ManypanesModel", "would", "(II)I"⟩ ∈ gw := gw_6 (i := 122) rfl rfl
theorem kw1323 : Cond.selects "ManypanesModel" ⟨"ManypanesModel", "would", "(II)I"⟩ ⟨"ManypanesModel", "would", "(II)I"⟩ ∈ gw := gw_6 (i := 123) rfl rfl
theorem kw1324 : Cond.code ⟨"ManypanesModel", "would", "(II)I"⟩ prog_7_method_57_code 4 (Option.some .int) ∈ gw := gw_6 (i := 124) rfl rfl
theorem kw1325 : Cond.methodLink "ManypanesLaw" 269 ⟨"ManypanesModel", "house", "(I)I"⟩ ∈ gw := gw_6 (i := 125) rfl rfl
theorem kw1326 : Cond.instanceMethod ⟨"ManypanesModel", "house", "(I)I"⟩ ∈ gw := gw_6 (i := 126) rfl rfl
theorem kw1327 : Cond.selects "ManypanesModel" ⟨"ManypanesModel", "house", "(I)I"⟩ ⟨"ManypanesModel", "house", "(I)I"⟩ ∈ gw := gw_6 (i := 127) rfl rfl
theorem kw1328 : Cond.code ⟨"ManypanesModel", "house", "(I)I"⟩ prog_7_method_58_code 7 (Option.some .int) ∈ gw := gw_6 (i := 128) rfl rfl
theorem kw1329 : Cond.methodLink "ManypanesLaw" 273 ⟨"ManypanesModel", "knock", "()I"⟩ ∈ gw := gw_6 (i := 129) rfl rfl
theorem kw1330 : Cond.instanceMethod ⟨"ManypanesModel", "knock", "()I"⟩ ∈ gw := gw_6 (i := 130) rfl rfl
theorem kw1331 : Cond.selects "ManypanesModel" ⟨"ManypanesModel", "knock", "()I"⟩ ⟨"ManypanesModel", "knock", "()I"⟩ ∈ gw := gw_6 (i := 131) rfl rfl
theorem kw1332 : Cond.code ⟨"ManypanesModel", "knock", "()I"⟩ prog_7_method_59_code 1 (Option.some .int) ∈ gw := gw_6 (i := 132) rfl rfl
theorem kw1333 : Cond.methodLink "ManypanesLaw" 278 ⟨"ManypanesModel", "isSound", "()Z"⟩ ∈ gw := gw_6 (i := 133) rfl rfl
theorem kw1334 : Cond.instanceMethod ⟨"ManypanesModel", "isSound", "()Z"⟩ ∈ gw := gw_6 (i := 134) rfl rfl
theorem kw1335 : Cond.selects "ManypanesModel" ⟨"ManypanesModel", "isSound", "()Z"⟩ ⟨"ManypanesModel", "isSound", "()Z"⟩ ∈ gw := gw_6 (i := 135) rfl rfl
theorem kw1336 : Cond.code ⟨"ManypanesModel", "isSound", "()Z"⟩ prog_7_method_60_code 1 (Option.some .boolean) ∈ gw := gw_6 (i := 136) rfl rfl
theorem kw1337 : Cond.methodLink "ManypanesLaw" 283 ⟨"ManypanesModel", "digest", "()J"⟩ ∈ gw := gw_6 (i := 137) rfl rfl
theorem kw1338 : Cond.instanceMethod ⟨"ManypanesModel", "digest", "()J"⟩ ∈ gw := gw_6 (i := 138) rfl rfl
theorem kw1339 : Cond.selects "ManypanesModel" ⟨"ManypanesModel", "digest", "()J"⟩ ⟨"ManypanesModel", "digest", "()J"⟩ ∈ gw := gw_6 (i := 139) rfl rfl
theorem kw1340 : Cond.code ⟨"ManypanesModel", "digest", "()J"⟩ prog_7_method_63_code 5 (Option.some .long) ∈ gw := gw_6 (i := 140) rfl rfl
theorem kw1341 : Cond.constantLong "ManypanesModel" 158 (8017 : Int64) ∈ gw := gw_6 (i := 141) rfl rfl
theorem kw1342 : Cond.methodLink "ManypanesModel" 160 ⟨"ManypanesModel", "house", "(I)I"⟩ ∈ gw := gw_6 (i := 142) rfl rfl
theorem kw1343 : Cond.methodLink "ManypanesModel" 154 ⟨"ManypanesModel", "add", "(JJ)J"⟩ ∈ gw := gw_6 (i := 143) rfl rfl
theorem kw1344 : Cond.static ⟨"ManypanesModel", "add", "(JJ)J"⟩ ∈ gw := gw_6 (i := 144) rfl rfl
theorem kw1345 : Cond.code ⟨"ManypanesModel", "add", "(JJ)J"⟩ prog_7_method_61_code 4 (Option.some .long) ∈ gw := gw_6 (i := 145) rfl rfl
theorem kw1346 : Cond.constantLong "ManypanesModel" 142 (31 : Int64) ∈ gw := gw_6 (i := 146) rfl rfl
theorem kw1347 : Cond.methodLink "ManypanesModel" 163 ⟨"ManypanesModel", "ofPane", "(II)I"⟩ ∈ gw := gw_6 (i := 147) rfl rfl
theorem kw1348 : Cond.methodLink "ManypanesModel" 166 ⟨"ManypanesModel", "whole", "(I)Ljava/lang/String;"⟩ ∈ gw := gw_6 (i := 148) rfl rfl
theorem kw1349 : Cond.methodLink "ManypanesModel" 170 ⟨"ManypanesModel", "addSigns", "(JLjava/lang/String;)J"⟩ ∈ gw := gw_6 (i := 149) rfl rfl
theorem kw1350 : Cond.static ⟨"ManypanesModel", "addSigns", "(JLjava/lang/String;)J"⟩ ∈ gw := gw_6 (i := 150) rfl rfl
theorem kw1351 : Cond.code ⟨"ManypanesModel", "addSigns", "(JLjava/lang/String;)J"⟩ prog_7_method_62_code 6 (Option.some .long) ∈ gw := gw_6 (i := 151) rfl rfl
theorem kw1352 : Cond.methodLink "ManypanesModel" 144 ⟨"java/lang/String", "length", "()I"⟩ ∈ gw := gw_6 (i := 152) rfl rfl
theorem kw1353 : Cond.methodLink "ManypanesModel" 150 ⟨"java/lang/String", "charAt", "(I)C"⟩ ∈ gw := gw_6 (i := 153) rfl rfl
theorem kw1354 : Cond.instanceMethod ⟨"java/lang/String", "charAt", "(I)C"⟩ ∈ gw := gw_6 (i := 154) rfl rfl
theorem kw1355 : Cond.selects "java/lang/String" ⟨"java/lang/String", "charAt", "(I)C"⟩ ⟨"java/lang/String", "charAt", "(I)C"⟩ ∈ gw := gw_6 (i := 155) rfl rfl
theorem kw1356 : Cond.code ⟨"java/lang/String", "charAt", "(I)C"⟩ prog_18_method_56_code 2 (Option.some .char) ∈ gw := gw_6 (i := 156) rfl rfl
theorem kw1357 : Cond.methodLink "java/lang/String" 492 ⟨"java/lang/String", "isLatin1", "()Z"⟩ ∈ gw := gw_6 (i := 157) rfl rfl
theorem kw1358 : Cond.instanceMethod ⟨"java/lang/String", "isLatin1", "()Z"⟩ ∈ gw := gw_6 (i := 158) rfl rfl
theorem kw1359 : Cond.selects "java/lang/String" ⟨"java/lang/String", "isLatin1", "()Z"⟩ ⟨"java/lang/String", "isLatin1", "()Z"⟩ ∈ gw := gw_6 (i := 159) rfl rfl
theorem kw1360 : Cond.code ⟨"java/lang/String", "isLatin1", "()Z"⟩ prog_18_method_154_code 1 (Option.some .boolean) ∈ gw := gw_6 (i := 160) rfl rfl
theorem kw1361 : Cond.methodLink "java/lang/String" 495 ⟨"java/lang/StringLatin1", "charAt", "([BI)C"⟩ ∈ gw := gw_6 (i := 161) rfl rfl
theorem kw1362 : Cond.static ⟨"java/lang/StringLatin1", "charAt", "([BI)C"⟩ ∈ gw := gw_6 (i := 162) rfl rfl
theorem kw1363 : Cond.code ⟨"java/lang/StringLatin1", "charAt", "([BI)C"⟩ prog_21_method_2_code 2 (Option.some .char) ∈ gw := gw_6 (i := 163) rfl rfl
theorem kw1364 : Cond.methodLink "java/lang/StringLatin1" 9 ⟨"java/lang/String", "checkIndex", "(II)V"⟩ ∈ gw := gw_6 (i := 164) rfl rfl
theorem kw1365 : Cond.methodLink "java/lang/String" 498 ⟨"java/lang/StringUTF16", "charAt", "([BI)C"⟩ ∈ gw := gw_6 (i := 165) rfl rfl
theorem kw1366 : Cond.static ⟨"java/lang/StringUTF16", "charAt", "([BI)C"⟩ ∈ gw := gw_6 (i := 166) rfl rfl
theorem kw1367 : Cond.code ⟨"java/lang/StringUTF16", "charAt", "([BI)C"⟩ prog_22_method_83_code 2 (Option.some .char) ∈ gw := gw_6 (i := 167) rfl rfl
theorem kw1368 : Cond.methodLink "ManypanesModel" 174 ⟨"ManypanesModel", "total", "(I)Ljava/lang/String;"⟩ ∈ gw := gw_6 (i := 168) rfl rfl
theorem kw1369 : Cond.methodLink "ManypanesModel" 177 ⟨"ManypanesModel", "isKin", "(II)I"⟩ ∈ gw := gw_6 (i := 169) rfl rfl
theorem kw1370 : Cond.methodLink "ManypanesModel" 180 ⟨"ManypanesModel", "sees", "(III)I"⟩ ∈ gw := gw_6 (i := 170) rfl rfl
theorem kw1371 : Cond.methodLink "ManypanesModel" 184 ⟨"ManypanesModel", "row", "()Ljava/lang/String;"⟩ ∈ gw := gw_6 (i := 171) rfl rfl
theorem kw1372 : Cond.sameMethod "java/lang/AbstractStringBuilder" "java/lang/AbstractStringBuilder" "setLength" "(I)V" ∈ gw := gw_6 (i := 172) rfl rfl
theorem kw1373 : Cond.sameMethod "java/lang/AbstractStringBuilder" "java/lang/AbstractStringBuilder" "append" "(Ljava/lang/String;)Ljava/lang/AbstractStringBuilder;" ∈ gw := gw_6 (i := 173) rfl rfl
theorem kw1374 : Cond.sameMethod "java/lang/AbstractStringBuilder" "java/lang/AbstractStringBuilder" "appendNull" "()Ljava/lang/AbstractStringBuilder;" ∈ gw := gw_6 (i := 174) rfl rfl
theorem kw1375 : Cond.sameMethod "java/lang/AbstractStringBuilder" "java/lang/AbstractStringBuilder" "ensureCapacityInternal" "(I)V" ∈ gw := gw_6 (i := 175) rfl rfl
theorem kw1376 : Cond.sameMethod "java/lang/AbstractStringBuilder" "java/lang/AbstractStringBuilder" "newCapacity" "(I)I" ∈ gw := gw_6 (i := 176) rfl rfl
theorem kw1377 : Cond.sameMethod "java/lang/AbstractStringBuilder" "java/lang/AbstractStringBuilder" "putStringAt" "(ILjava/lang/String;)V" ∈ gw := gw_6 (i := 177) rfl rfl
theorem kw1378 : Cond.sameMethod "java/lang/AbstractStringBuilder" "java/lang/AbstractStringBuilder" "inflateIfNeededFor" "(Ljava/lang/String;)V" ∈ gw := gw_6 (i := 178) rfl rfl
theorem kw1379 : Cond.sameMethod "java/lang/AbstractStringBuilder" "java/lang/AbstractStringBuilder" "inflate" "()V" ∈ gw := gw_6 (i := 179) rfl rfl
theorem kw1380 : Cond.sameMethod "java/lang/AbstractStringBuilder" "java/lang/AbstractStringBuilder" "append" "(I)Ljava/lang/AbstractStringBuilder;" ∈ gw := gw_6 (i := 180) rfl rfl
theorem kw1381 : Cond.sameMethod "java/lang/Throwable" "java/lang/Throwable" "fillInStackTrace" "(I)Ljava/lang/Throwable;" ∈ gw := gw_6 (i := 181) rfl rfl
theorem kw1382 : Cond.sameMethod "java/lang/AbstractStringBuilder" "java/lang/AbstractStringBuilder" "append" "(C)Ljava/lang/AbstractStringBuilder;" ∈ gw := gw_6 (i := 182) rfl rfl
theorem kw1383 : Cond.selects "java/lang/StringBuilder" ⟨"java/lang/StringBuilder", "length", "()I"⟩ ⟨"java/lang/StringBuilder", "length", "()I"⟩ ∈ gw := gw_6 (i := 183) rfl rfl
theorem kw1384 : Cond.sameMethod "java/lang/AbstractStringBuilder" "java/lang/AbstractStringBuilder" "charAt" "(I)C" ∈ gw := gw_6 (i := 184) rfl rfl
theorem kw1385 : Cond.sameMethod "java/lang/AbstractStringBuilder" "java/lang/AbstractStringBuilder" "append" "(J)Ljava/lang/AbstractStringBuilder;" ∈ gw := gw_6 (i := 185) rfl rfl
theorem kn1386 : Cond.castable "java/lang/ArrayIndexOutOfBoundsException" "java/lang/IndexOutOfBoundsException" ∈ z_nest := gn_6 (i := 186) rfl rfl
theorem kn1387 : Cond.castable "java/lang/StringIndexOutOfBoundsException" "java/lang/IndexOutOfBoundsException" ∈ z_nest := gn_6 (i := 187) rfl rfl
end
section
/-! PART 04, printed: layouts, methods, cells, field rows, call rows -/
theorem inX0 : ∀ w ∈ u_ws RX0 TX0 1, w ∈ gw := fun w h => gw_mem ((by decide +kernel : ∀ w ∈ u_ws RX0 TX0 1, w ∈ lw_tbl) w h) (List.all_eq_true.mp (by decide +kernel : (u_ws RX0 TX0 1).all goodWord = true) w h)
abbrev cLn (sb : Nat) : va_E := .inr (4, [.ref sb])
theorem inX1 : ∀ w ∈ u_ws RX1 TX1 7, w ∈ gw := fun w h => gw_mem ((by decide +kernel : ∀ w ∈ u_ws RX1 TX1 7, w ∈ lw_tbl) w h) (List.all_eq_true.mp (by decide +kernel : (u_ws RX1 TX1 7).all goodWord = true) w h)
abbrev cPn (ov : Nat) (sa : Int32) (cp : Int32) (po : Int32) (li : Int32) (mk : Int32) (rd : Int32) : va_E := .inr (5, [.ref ov, .int sa, .int cp, .int po, .int li, .int mk, .int rd])
theorem inX2 : ∀ w ∈ u_ws RX2 TX2 1, w ∈ gw := fun w h => gw_mem ((by decide +kernel : ∀ w ∈ u_ws RX2 TX2 1, w ∈ lw_tbl) w h) (List.all_eq_true.mp (by decide +kernel : (u_ws RX2 TX2 1).all goodWord = true) w h)
abbrev cRw (vs : Nat) : va_E := .inr (6, [.ref vs])
theorem inX3 : ∀ w ∈ u_ws RX3 TX3 7, w ∈ gw := fun w h => gw_mem ((by decide +kernel : ∀ w ∈ u_ws RX3 TX3 7, w ∈ lw_tbl) w h) (List.all_eq_true.mp (by decide +kernel : (u_ws RX3 TX3 7).all goodWord = true) w h)
abbrev cMp (lr : Nat) (pa : Nat) (sp : Nat) (ln : Nat) (rf : Nat) (ac : Int32) (kn : Int32) : va_E := .inr (7, [.ref lr, .ref pa, .ref sp, .ref ln, .ref rf, .int ac, .int kn])
theorem inX4 : ∀ w ∈ u_ws RX4 TX4 2, w ∈ gw := fun w h => gw_mem ((by decide +kernel : ∀ w ∈ u_ws RX4 TX4 2, w ∈ lw_tbl) w h) (List.all_eq_true.mp (by decide +kernel : (u_ws RX4 TX4 2).all goodWord = true) w h)
abbrev cOu (on : Int64) (os : Option Nat) : va_E := .inr (8, [.long on, va_rf os])
theorem inX5 : ∀ w ∈ u_ws RX5 TX5 7, w ∈ gw := fun w h => gw_mem ((by decide +kernel : ∀ w ∈ u_ws RX5 TX5 7, w ∈ lw_tbl) w h) (List.all_eq_true.mp (by decide +kernel : (u_ws RX5 TX5 7).all goodWord = true) w h)
abbrev cMd (tp : Nat) (ro : Int32) (pn : Nat) (td : Nat) (ac : Int32) (kn : Int32) (th : Int32) : va_E := .inr (9, [.ref tp, .int ro, .ref pn, .ref td, .int ac, .int kn, .int th])
theorem inJ4 : ∀ w ∈ u_ws RJ4 TJ4 4, w ∈ gw := fun w h => gw_mem ((by decide +kernel : ∀ w ∈ u_ws RJ4 TJ4 4, w ∈ lw_tbl) w h) (List.all_eq_true.mp (by decide +kernel : (u_ws RJ4 TJ4 4).all goodWord = true) w h)
abbrev cSb (vb : Nat) (co : Int32) (ml : Int32) (ct : Int32) : va_E := .inr (1, [.ref vb, .int co, .int ml, .int ct])
theorem inJ0 : ∀ w ∈ u_ws RJ0 TJ0 4, w ∈ gw := fun w h => gw_mem ((by decide +kernel : ∀ w ∈ u_ws RJ0 TJ0 4, w ∈ lw_tbl) w h) (List.all_eq_true.mp (by decide +kernel : (u_ws RJ0 TJ0 4).all goodWord = true) w h)
abbrev cSt (vb : Nat) (co : Int32) (ha : Int32) (hz : Int32) : va_E := .inr (0, [.ref vb, .int co, .int ha, .int hz])
abbrev aB (G : zG) (n : Nat) (f : Nat → Int32) : va_E := .inl (G.2.1, n, .inl f)
abbrev aI (G : zG) (n : Nat) (f : Nat → Int32) : va_E := .inl (G.2.2.1, n, .inl f)
abbrev aP (G : zG) (n : Nat) (f : Nat → Option Nat) : va_E := .inl (G.2.2.2.1, n, .inr (.inr (.inr (.inr f))))
abbrev aII (G : zG) (n : Nat) (f : Nat → Option Nat) : va_E := .inl (G.2.2.2.2.1, n, .inr (.inr (.inr (.inr f))))
abbrev qX3_init : zY := (yX3_init, cX3_init, 2, none)
theorem kc_X3_init : Cond.code (qX3_init).1 (qX3_init).2.1 (qX3_init).2.2.1 (qX3_init).2.2.2 ∈ gw := kw30
abbrev qX2_init : zY := (yX2_init, cX2_init, 2, none)
theorem kc_X2_init : Cond.code (qX2_init).1 (qX2_init).2.1 (qX2_init).2.2.1 (qX2_init).2.2.2 ∈ gw := kw38
abbrev qX1_init : zY := (yX1_init, cX1_init, 2, none)
theorem kc_X1_init : Cond.code (qX1_init).1 (qX1_init).2.1 (qX1_init).2.2.1 (qX1_init).2.2.2 ∈ gw := kw50
abbrev qX2_length : zY := (yX2_length, cX2_length, 1, some .int)
theorem kc_X2_length : Cond.code (qX2_length).1 (qX2_length).2.1 (qX2_length).2.2.1 (qX2_length).2.2.2 ∈ gw := kw55
abbrev qX0_init : zY := (yX0_init, cX0_init, 1, none)
theorem kc_X0_init : Cond.code (qX0_init).1 (qX0_init).2.1 (qX0_init).2.2.1 (qX0_init).2.2.2 ∈ gw := kw93
abbrev qJ4_init_da8c8 : zY := (yJ4_init_da8c8, cJ4_init_da8c8, 1, none)
theorem kc_J4_init_da8c8 : Cond.code (qJ4_init_da8c8).1 (qJ4_init_da8c8).2.1 (qJ4_init_da8c8).2.2.1 (qJ4_init_da8c8).2.2.2 ∈ gw := kw99
abbrev qJ5_init_d00df : zY := (yJ5_init_d00df, cJ5_init_d00df, 2, none)
theorem kc_J5_init_d00df : Cond.code (qJ5_init_d00df).1 (qJ5_init_d00df).2.1 (qJ5_init_d00df).2.2.1 (qJ5_init_d00df).2.2.2 ∈ gw := kw102
abbrev qJ2_newBytesFor_77867 : zY := (yJ2_newBytesFor_77867, cJ2_newBytesFor_77867, 1, some (.array .byte))
theorem kc_J2_newBytesFor_77867 : Cond.code (qJ2_newBytesFor_77867).1 (qJ2_newBytesFor_77867).2.1 (qJ2_newBytesFor_77867).2.2.1 (qJ2_newBytesFor_77867).2.2.2 ∈ gw := kw108
abbrev qJ2_newBytesLength_0f7a4 : zY := (yJ2_newBytesLength_0f7a4, cJ2_newBytesLength_0f7a4, 1, some .int)
theorem kc_J2_newBytesLength_0f7a4 : Cond.code (qJ2_newBytesLength_0f7a4).1 (qJ2_newBytesLength_0f7a4).2.1 (qJ2_newBytesLength_0f7a4).2.2.1 (qJ2_newBytesLength_0f7a4).2.2.2 ∈ gw := kw111
abbrev qX3_row : zY := (yX3_row, cX3_row, 1, some (.object "java/lang/String"))
theorem kc_X3_row : Cond.code (qX3_row).1 (qX3_row).2.1 (qX3_row).2.2.1 (qX3_row).2.2.2 ∈ gw := kw158
abbrev qX3_beginLongRow : zY := (yX3_beginLongRow, cX3_beginLongRow, 1, none)
theorem kc_X3_beginLongRow : Cond.code (qX3_beginLongRow).1 (qX3_beginLongRow).2.1 (qX3_beginLongRow).2.2.1 (qX3_beginLongRow).2.2.2 ∈ gw := kw162
abbrev qX1_showAll : zY := (yX1_showAll, cX1_showAll, 2, none)
theorem kc_X1_showAll : Cond.code (qX1_showAll).1 (qX1_showAll).2.1 (qX1_showAll).2.2.1 (qX1_showAll).2.2.2 ∈ gw := kw166
abbrev qX1_beginAgain : zY := (yX1_beginAgain, cX1_beginAgain, 2, none)
theorem kc_X1_beginAgain : Cond.code (qX1_beginAgain).1 (qX1_beginAgain).2.1 (qX1_beginAgain).2.2.1 (qX1_beginAgain).2.2.2 ∈ gw := kw170
abbrev qX0_beginValues : zY := (yX0_beginValues, cX0_beginValues, 5, none)
theorem kc_X0_beginValues : Cond.code (qX0_beginValues).1 (qX0_beginValues).2.1 (qX0_beginValues).2.2.1 (qX0_beginValues).2.2.2 ∈ gw := kw174
abbrev qJ4_setLength_d00df : zY := (yJ4_setLength_d00df, cJ4_setLength_d00df, 2, none)
theorem kc_J4_setLength_d00df : Cond.code (qJ4_setLength_d00df).1 (qJ4_setLength_d00df).2.1 (qJ4_setLength_d00df).2.2.1 (qJ4_setLength_d00df).2.2.2 ∈ gw := kw178
abbrev qJ5_setLength_d00df : zY := (yJ5_setLength_d00df, cJ5_setLength_d00df, 2, none)
theorem kc_J5_setLength_d00df : Cond.code (qJ5_setLength_d00df).1 (qJ5_setLength_d00df).2.1 (qJ5_setLength_d00df).2.2.1 (qJ5_setLength_d00df).2.2.2 ∈ gw := kw181
abbrev qJx7c733_init_d00df : zY := (yJx7c733_init_d00df, cJx7c733_init_d00df, 2, none)
theorem kc_Jx7c733_init_d00df : Cond.code (qJx7c733_init_d00df).1 (qJx7c733_init_d00df).2.1 (qJx7c733_init_d00df).2.2.1 (qJx7c733_init_d00df).2.2.2 ∈ gw := kw186
abbrev qJ4_append_15ec4 : zY := (yJ4_append_15ec4, cJ4_append_15ec4, 2, some (.object "java/lang/StringBuilder"))
theorem kc_J4_append_15ec4 : Cond.code (qJ4_append_15ec4).1 (qJ4_append_15ec4).2.1 (qJ4_append_15ec4).2.2.1 (qJ4_append_15ec4).2.2.2 ∈ gw := kw193
abbrev qJ5_append_cf1ce : zY := (yJ5_append_cf1ce, cJ5_append_cf1ce, 3, some (.object "java/lang/AbstractStringBuilder"))
theorem kc_J5_append_cf1ce : Cond.code (qJ5_append_cf1ce).1 (qJ5_append_cf1ce).2.1 (qJ5_append_cf1ce).2.2.1 (qJ5_append_cf1ce).2.2.2 ∈ gw := kw196
abbrev qJ5_appendNull_278bc : zY := (yJ5_appendNull_278bc, cJ5_appendNull_278bc, 3, some (.object "java/lang/AbstractStringBuilder"))
theorem kc_J5_appendNull_278bc : Cond.code (qJ5_appendNull_278bc).1 (qJ5_appendNull_278bc).2.1 (qJ5_appendNull_278bc).2.2.1 (qJ5_appendNull_278bc).2.2.2 ∈ gw := kw200
abbrev qJ5_ensureCapacityInternal_d00df : zY := (yJ5_ensureCapacityInternal_d00df, cJ5_ensureCapacityInternal_d00df, 3, none)
theorem kc_J5_ensureCapacityInternal_d00df : Cond.code (qJ5_ensureCapacityInternal_d00df).1 (qJ5_ensureCapacityInternal_d00df).2.1 (qJ5_ensureCapacityInternal_d00df).2.2.1 (qJ5_ensureCapacityInternal_d00df).2.2.2 ∈ gw := kw204
abbrev qJ5_newCapacity_0f7a4 : zY := (yJ5_newCapacity_0f7a4, cJ5_newCapacity_0f7a4, 6, some .int)
theorem kc_J5_newCapacity_0f7a4 : Cond.code (qJ5_newCapacity_0f7a4).1 (qJ5_newCapacity_0f7a4).2.1 (qJ5_newCapacity_0f7a4).2.2.1 (qJ5_newCapacity_0f7a4).2.2.2 ∈ gw := kw208
abbrev qJ8_newLength_cabcc : zY := (yJ8_newLength_cabcc, cJ8_newLength_cabcc, 4, some .int)
theorem kc_J8_newLength_cabcc : Cond.code (qJ8_newLength_cabcc).1 (qJ8_newLength_cabcc).2.1 (qJ8_newLength_cabcc).2.2.1 (qJ8_newLength_cabcc).2.2.2 ∈ gw := kw211
abbrev qJ9_max_7cf53 : zY := (yJ9_max_7cf53, cJ9_max_7cf53, 2, some .int)
theorem kc_J9_max_7cf53 : Cond.code (qJ9_max_7cf53).1 (qJ9_max_7cf53).2.1 (qJ9_max_7cf53).2.2.1 (qJ9_max_7cf53).2.2.2 ∈ gw := kw214
abbrev qJ8_hugeLength_7cf53 : zY := (yJ8_hugeLength_7cf53, cJ8_hugeLength_7cf53, 3, some .int)
theorem kc_J8_hugeLength_7cf53 : Cond.code (qJ8_hugeLength_7cf53).1 (qJ8_hugeLength_7cf53).2.1 (qJ8_hugeLength_7cf53).2.2.1 (qJ8_hugeLength_7cf53).2.2.2 ∈ gw := kw218
abbrev qJ7_copyOf_9075b : zY := (yJ7_copyOf_9075b, cJ7_copyOf_9075b, 3, some (.array .byte))
theorem kc_J7_copyOf_9075b : Cond.code (qJ7_copyOf_9075b).1 (qJ7_copyOf_9075b).2.1 (qJ7_copyOf_9075b).2.2.1 (qJ7_copyOf_9075b).2.2.2 ∈ gw := kw222
abbrev qJ9_min_7cf53 : zY := (yJ9_min_7cf53, cJ9_min_7cf53, 2, some .int)
theorem kc_J9_min_7cf53 : Cond.code (qJ9_min_7cf53).1 (qJ9_min_7cf53).2.1 (qJ9_min_7cf53).2.2.1 (qJ9_min_7cf53).2.2.2 ∈ gw := kw232
abbrev qJ5_isLatin1_aae02 : zY := (yJ5_isLatin1_aae02, cJ5_isLatin1_aae02, 1, some .boolean)
theorem kc_J5_isLatin1_aae02 : Cond.code (qJ5_isLatin1_aae02).1 (qJ5_isLatin1_aae02).2.1 (qJ5_isLatin1_aae02).2.2.1 (qJ5_isLatin1_aae02).2.2.2 ∈ gw := kw240
abbrev qJ2_putCharsAt_cd4e5 : zY := (yJ2_putCharsAt_cd4e5, cJ2_putCharsAt_cd4e5, 7, some .int)
theorem kc_J2_putCharsAt_cd4e5 : Cond.code (qJ2_putCharsAt_cd4e5).1 (qJ2_putCharsAt_cd4e5).2.1 (qJ2_putCharsAt_cd4e5).2.2.1 (qJ2_putCharsAt_cd4e5).2.2.2 ∈ gw := kw243
abbrev qJ2_checkBoundsBeginEnd_d044e : zY := (yJ2_checkBoundsBeginEnd_d044e, cJ2_checkBoundsBeginEnd_d044e, 3, none)
theorem kc_J2_checkBoundsBeginEnd_d044e : Cond.code (qJ2_checkBoundsBeginEnd_d044e).1 (qJ2_checkBoundsBeginEnd_d044e).2.1 (qJ2_checkBoundsBeginEnd_d044e).2.2.1 (qJ2_checkBoundsBeginEnd_d044e).2.2.2 ∈ gw := kw246
abbrev qJ2_length_9d52b : zY := (yJ2_length_9d52b, cJ2_length_9d52b, 1, some .int)
theorem kc_J2_length_9d52b : Cond.code (qJ2_length_9d52b).1 (qJ2_length_9d52b).2.1 (qJ2_length_9d52b).2.2.1 (qJ2_length_9d52b).2.2.2 ∈ gw := kw249
abbrev qJ0_checkBoundsBeginEnd_23922 : zY := (yJ0_checkBoundsBeginEnd_23922, cJ0_checkBoundsBeginEnd_23922, 3, none)
theorem kc_J0_checkBoundsBeginEnd_23922 : Cond.code (qJ0_checkBoundsBeginEnd_23922).1 (qJ0_checkBoundsBeginEnd_23922).2.1 (qJ0_checkBoundsBeginEnd_23922).2.2.1 (qJ0_checkBoundsBeginEnd_23922).2.2.2 ∈ gw := kw252
abbrev qJ3_checkFromToIndex_8c36e : zY := (yJ3_checkFromToIndex_8c36e, cJ3_checkFromToIndex_8c36e, 4, some .int)
theorem kc_J3_checkFromToIndex_8c36e : Cond.code (qJ3_checkFromToIndex_8c36e).1 (qJ3_checkFromToIndex_8c36e).2.1 (qJ3_checkFromToIndex_8c36e).2.2.1 (qJ3_checkFromToIndex_8c36e).2.2.2 ∈ gw := kw257
abbrev qJ2_putChar_b72d1 : zY := (yJ2_putChar_b72d1, cJ2_putChar_b72d1, 3, none)
theorem kc_J2_putChar_b72d1 : Cond.code (qJ2_putChar_b72d1).1 (qJ2_putChar_b72d1).2.1 (qJ2_putChar_b72d1).2.2.1 (qJ2_putChar_b72d1).2.2.2 ∈ gw := kw260
abbrev qJ0_length_8abf5 : zY := (yJ0_length_8abf5, cJ0_length_8abf5, 1, some .int)
theorem kc_J0_length_8abf5 : Cond.code (qJ0_length_8abf5).1 (qJ0_length_8abf5).2.1 (qJ0_length_8abf5).2.2.1 (qJ0_length_8abf5).2.2.2 ∈ gw := kw270
abbrev qJ0_coder_7d493 : zY := (yJ0_coder_7d493, cJ0_coder_7d493, 1, some .byte)
theorem kc_J0_coder_7d493 : Cond.code (qJ0_coder_7d493).1 (qJ0_coder_7d493).2.1 (qJ0_coder_7d493).2.2.1 (qJ0_coder_7d493).2.2.2 ∈ gw := kw274
abbrev qJ5_putStringAt_47b60 : zY := (yJ5_putStringAt_47b60, cJ5_putStringAt_47b60, 3, none)
theorem kc_J5_putStringAt_47b60 : Cond.code (qJ5_putStringAt_47b60).1 (qJ5_putStringAt_47b60).2.1 (qJ5_putStringAt_47b60).2.2.1 (qJ5_putStringAt_47b60).2.2.2 ∈ gw := kw279
abbrev qJ5_inflateIfNeededFor_a7421 : zY := (yJ5_inflateIfNeededFor_a7421, cJ5_inflateIfNeededFor_a7421, 2, none)
theorem kc_J5_inflateIfNeededFor_a7421 : Cond.code (qJ5_inflateIfNeededFor_a7421).1 (qJ5_inflateIfNeededFor_a7421).2.1 (qJ5_inflateIfNeededFor_a7421).2.2.1 (qJ5_inflateIfNeededFor_a7421).2.2.2 ∈ gw := kw283
abbrev qJ5_inflate_da8c8 : zY := (yJ5_inflate_da8c8, cJ5_inflate_da8c8, 2, none)
theorem kc_J5_inflate_da8c8 : Cond.code (qJ5_inflate_da8c8).1 (qJ5_inflate_da8c8).2.1 (qJ5_inflate_da8c8).2.2.1 (qJ5_inflate_da8c8).2.2.2 ∈ gw := kw288
abbrev qJ1_inflate_0e8fd : zY := (yJ1_inflate_0e8fd, cJ1_inflate_0e8fd, 5, none)
theorem kc_J1_inflate_0e8fd : Cond.code (qJ1_inflate_0e8fd).1 (qJ1_inflate_0e8fd).2.1 (qJ1_inflate_0e8fd).2.2.1 (qJ1_inflate_0e8fd).2.2.2 ∈ gw := kw291
abbrev qJ2_inflate_0e8fd : zY := (yJ2_inflate_0e8fd, cJ2_inflate_0e8fd, 6, none)
theorem kc_J2_inflate_0e8fd : Cond.code (qJ2_inflate_0e8fd).1 (qJ2_inflate_0e8fd).2.1 (qJ2_inflate_0e8fd).2.2.1 (qJ2_inflate_0e8fd).2.2.2 ∈ gw := kw294
abbrev qJ2_checkBoundsOffCount_d044e : zY := (yJ2_checkBoundsOffCount_d044e, cJ2_checkBoundsOffCount_d044e, 3, none)
theorem kc_J2_checkBoundsOffCount_d044e : Cond.code (qJ2_checkBoundsOffCount_d044e).1 (qJ2_checkBoundsOffCount_d044e).2.1 (qJ2_checkBoundsOffCount_d044e).2.2.1 (qJ2_checkBoundsOffCount_d044e).2.2.2 ∈ gw := kw297
abbrev qJ0_checkBoundsOffCount_cabcc : zY := (yJ0_checkBoundsOffCount_cabcc, cJ0_checkBoundsOffCount_cabcc, 3, some .int)
theorem kc_J0_checkBoundsOffCount_cabcc : Cond.code (qJ0_checkBoundsOffCount_cabcc).1 (qJ0_checkBoundsOffCount_cabcc).2.1 (qJ0_checkBoundsOffCount_cabcc).2.2.1 (qJ0_checkBoundsOffCount_cabcc).2.2.2 ∈ gw := kw300
abbrev qJ3_checkFromIndexSize_8c36e : zY := (yJ3_checkFromIndexSize_8c36e, cJ3_checkFromIndexSize_8c36e, 4, some .int)
theorem kc_J3_checkFromIndexSize_8c36e : Cond.code (qJ3_checkFromIndexSize_8c36e).1 (qJ3_checkFromIndexSize_8c36e).2.1 (qJ3_checkFromIndexSize_8c36e).2.2.1 (qJ3_checkFromIndexSize_8c36e).2.2.2 ∈ gw := kw303
abbrev qJ0_getBytes_840e7 : zY := (yJ0_getBytes_840e7, cJ0_getBytes_840e7, 4, none)
theorem kc_J0_getBytes_840e7 : Cond.code (qJ0_getBytes_840e7).1 (qJ0_getBytes_840e7).2.1 (qJ0_getBytes_840e7).2.2.1 (qJ0_getBytes_840e7).2.2.2 ∈ gw := kw307
abbrev qJ4_append_bf812 : zY := (yJ4_append_bf812, cJ4_append_bf812, 2, some (.object "java/lang/StringBuilder"))
theorem kc_J4_append_bf812 : Cond.code (qJ4_append_bf812).1 (qJ4_append_bf812).2.1 (qJ4_append_bf812).2.2.1 (qJ4_append_bf812).2.2.2 ∈ gw := kw313
abbrev qJ5_append_c97b9 : zY := (yJ5_append_c97b9, cJ5_append_c97b9, 4, some (.object "java/lang/AbstractStringBuilder"))
theorem kc_J5_append_c97b9 : Cond.code (qJ5_append_c97b9).1 (qJ5_append_c97b9).2.1 (qJ5_append_c97b9).2.2.1 (qJ5_append_c97b9).2.2.2 ∈ gw := kw316
abbrev qJ6_stringSize_0f7a4 : zY := (yJ6_stringSize_0f7a4, cJ6_stringSize_0f7a4, 4, some .int)
theorem kc_J6_stringSize_0f7a4 : Cond.code (qJ6_stringSize_0f7a4).1 (qJ6_stringSize_0f7a4).2.1 (qJ6_stringSize_0f7a4).2.2.1 (qJ6_stringSize_0f7a4).2.2.2 ∈ gw := kw319
abbrev qJ6_getChars_ba4f3 : zY := (yJ6_getChars_ba4f3, cJ6_getChars_ba4f3, 7, some .int)
theorem kc_J6_getChars_ba4f3 : Cond.code (qJ6_getChars_ba4f3).1 (qJ6_getChars_ba4f3).2.1 (qJ6_getChars_ba4f3).2.2.1 (qJ6_getChars_ba4f3).2.2.2 ∈ gw := kw322
abbrev qJ2_getChars_46870 : zY := (yJ2_getChars_46870, cJ2_getChars_46870, 5, some .int)
theorem kc_J2_getChars_46870 : Cond.code (qJ2_getChars_46870).1 (qJ2_getChars_46870).2.1 (qJ2_getChars_46870).2.2.1 (qJ2_getChars_46870).2.2.2 ∈ gw := kw329
abbrev qJ2_getChars_ba4f3 : zY := (yJ2_getChars_ba4f3, cJ2_getChars_ba4f3, 7, some .int)
theorem kc_J2_getChars_ba4f3 : Cond.code (qJ2_getChars_ba4f3).1 (qJ2_getChars_ba4f3).2.1 (qJ2_getChars_ba4f3).2.2.1 (qJ2_getChars_ba4f3).2.2.2 ∈ gw := kw332
abbrev qJ4_toString_0e30d : zY := (yJ4_toString_0e30d, cJ4_toString_0e30d, 1, some (.object "java/lang/String"))
theorem kc_J4_toString_0e30d : Cond.code (qJ4_toString_0e30d).1 (qJ4_toString_0e30d).2.1 (qJ4_toString_0e30d).2.2.1 (qJ4_toString_0e30d).2.2.2 ∈ gw := kw338
abbrev qJ0_init_81219 : zY := (yJ0_init_81219, cJ0_init_81219, 2, none)
theorem kc_J0_init_81219 : Cond.code (qJ0_init_81219).1 (qJ0_init_81219).2.1 (qJ0_init_81219).2.2.1 (qJ0_init_81219).2.2.2 ∈ gw := kw343
abbrev qJ0_init_db425 : zY := (yJ0_init_db425, cJ0_init_db425, 5, none)
theorem kc_J0_init_db425 : Cond.code (qJ0_init_db425).1 (qJ0_init_db425).2.1 (qJ0_init_db425).2.2.1 (qJ0_init_db425).2.2.2 ∈ gw := kw346
abbrev qJ5_getValue_6d5f1 : zY := (yJ5_getValue_6d5f1, cJ5_getValue_6d5f1, 1, some (.array .byte))
theorem kc_J5_getValue_6d5f1 : Cond.code (qJ5_getValue_6d5f1).1 (qJ5_getValue_6d5f1).2.1 (qJ5_getValue_6d5f1).2.2.1 (qJ5_getValue_6d5f1).2.2.2 ∈ gw := kw352
abbrev qJ4_length_8abf5 : zY := (yJ4_length_8abf5, cJ4_length_8abf5, 1, some .int)
theorem kc_J4_length_8abf5 : Cond.code (qJ4_length_8abf5).1 (qJ4_length_8abf5).2.1 (qJ4_length_8abf5).2.2.1 (qJ4_length_8abf5).2.2.2 ∈ gw := kw358
abbrev qJ5_length_8abf5 : zY := (yJ5_length_8abf5, cJ5_length_8abf5, 1, some .int)
theorem kc_J5_length_8abf5 : Cond.code (qJ5_length_8abf5).1 (qJ5_length_8abf5).2.1 (qJ5_length_8abf5).2.2.1 (qJ5_length_8abf5).2.2.2 ∈ gw := kw360
abbrev qJ7_copyOfRange_39247 : zY := (yJ7_copyOfRange_39247, cJ7_copyOfRange_39247, 3, some (.array .byte))
theorem kc_J7_copyOfRange_39247 : Cond.code (qJ7_copyOfRange_39247).1 (qJ7_copyOfRange_39247).2.1 (qJ7_copyOfRange_39247).2.2.1 (qJ7_copyOfRange_39247).2.2.2 ∈ gw := kw364
abbrev qJ7_copyOfRangeByte_39247 : zY := (yJ7_copyOfRangeByte_39247, cJ7_copyOfRangeByte_39247, 5, some (.array .byte))
theorem kc_J7_copyOfRangeByte_39247 : Cond.code (qJ7_copyOfRangeByte_39247).1 (qJ7_copyOfRangeByte_39247).2.1 (qJ7_copyOfRangeByte_39247).2.2.1 (qJ7_copyOfRangeByte_39247).2.2.2 ∈ gw := kw367
abbrev qJ7_checkLength_df160 : zY := (yJ7_checkLength_df160, cJ7_checkLength_df160, 2, none)
theorem kc_J7_checkLength_df160 : Cond.code (qJ7_checkLength_df160).1 (qJ7_checkLength_df160).2.1 (qJ7_checkLength_df160).2.2.1 (qJ7_checkLength_df160).2.2.2 ∈ gw := kw370
abbrev qJ2_compress_39247 : zY := (yJ2_compress_39247, cJ2_compress_39247, 6, some (.array .byte))
theorem kc_J2_compress_39247 : Cond.code (qJ2_compress_39247).1 (qJ2_compress_39247).2.1 (qJ2_compress_39247).2.2.1 (qJ2_compress_39247).2.2.2 ∈ gw := kw446
abbrev qJ2_compress_5af95 : zY := (yJ2_compress_5af95, cJ2_compress_5af95, 7, some .int)
theorem kc_J2_compress_5af95 : Cond.code (qJ2_compress_5af95).1 (qJ2_compress_5af95).2.1 (qJ2_compress_5af95).2.2.1 (qJ2_compress_5af95).2.2.2 ∈ gw := kw449
abbrev qJ2_getChar_3b067 : zY := (yJ2_getChar_3b067, cJ2_getChar_3b067, 2, some .char)
theorem kc_J2_getChar_3b067 : Cond.code (qJ2_getChar_3b067).1 (qJ2_getChar_3b067).2.1 (qJ2_getChar_3b067).2.2.1 (qJ2_getChar_3b067).2.2.2 ∈ gw := kw452
abbrev qJ2_coderFromArrayLen_85cad : zY := (yJ2_coderFromArrayLen_85cad, cJ2_coderFromArrayLen_85cad, 2, some .byte)
theorem kc_J2_coderFromArrayLen_85cad : Cond.code (qJ2_coderFromArrayLen_85cad).1 (qJ2_coderFromArrayLen_85cad).2.1 (qJ2_coderFromArrayLen_85cad).2.2.1 (qJ2_coderFromArrayLen_85cad).2.2.2 ∈ gw := kw456
abbrev qJ1_fillNull_b72d1 : zY := (yJ1_fillNull_b72d1, cJ1_fillNull_b72d1, 3, none)
theorem kc_J1_fillNull_b72d1 : Cond.code (qJ1_fillNull_b72d1).1 (qJ1_fillNull_b72d1).2.1 (qJ1_fillNull_b72d1).2.2.1 (qJ1_fillNull_b72d1).2.2.2 ∈ gw := kw481
abbrev qJ7_fill_eb02e : zY := (yJ7_fill_eb02e, cJ7_fill_eb02e, 5, none)
theorem kc_J7_fill_eb02e : Cond.code (qJ7_fill_eb02e).1 (qJ7_fill_eb02e).2.1 (qJ7_fill_eb02e).2.2.1 (qJ7_fill_eb02e).2.2.2 ∈ gw := kw484
abbrev qJ7_rangeCheck_23922 : zY := (yJ7_rangeCheck_23922, cJ7_rangeCheck_23922, 3, none)
theorem kc_J7_rangeCheck_23922 : Cond.code (qJ7_rangeCheck_23922).1 (qJ7_rangeCheck_23922).2.1 (qJ7_rangeCheck_23922).2.2.1 (qJ7_rangeCheck_23922).2.2.2 ∈ gw := kw487
abbrev qJx00060_init_d00df : zY := (yJx00060_init_d00df, cJx00060_init_d00df, 2, none)
theorem kc_Jx00060_init_d00df : Cond.code (qJx00060_init_d00df).1 (qJx00060_init_d00df).2.1 (qJx00060_init_d00df).2.2.1 (qJx00060_init_d00df).2.2.2 ∈ gw := kw504
abbrev qJ2_fillNull_b72d1 : zY := (yJ2_fillNull_b72d1, cJ2_fillNull_b72d1, 3, none)
theorem kc_J2_fillNull_b72d1 : Cond.code (qJ2_fillNull_b72d1).1 (qJ2_fillNull_b72d1).2.1 (qJ2_fillNull_b72d1).2.2.1 (qJ2_fillNull_b72d1).2.2.2 ∈ gw := kw516
abbrev qJ4_append_cf468 : zY := (yJ4_append_cf468, cJ4_append_cf468, 2, some (.object "java/lang/StringBuilder"))
theorem kc_J4_append_cf468 : Cond.code (qJ4_append_cf468).1 (qJ4_append_cf468).2.1 (qJ4_append_cf468).2.2.1 (qJ4_append_cf468).2.2.2 ∈ gw := kw521
abbrev qJ5_append_3fe6f : zY := (yJ5_append_3fe6f, cJ5_append_3fe6f, 2, some (.object "java/lang/AbstractStringBuilder"))
theorem kc_J5_append_3fe6f : Cond.code (qJ5_append_3fe6f).1 (qJ5_append_3fe6f).2.1 (qJ5_append_3fe6f).2.2.1 (qJ5_append_3fe6f).2.2.2 ∈ gw := kw524
abbrev qJ1_canEncode_fc78d : zY := (yJ1_canEncode_fc78d, cJ1_canEncode_fc78d, 1, some .boolean)
theorem kc_J1_canEncode_fc78d : Cond.code (qJ1_canEncode_fc78d).1 (qJ1_canEncode_fc78d).2.1 (qJ1_canEncode_fc78d).2.2.1 (qJ1_canEncode_fc78d).2.2.2 ∈ gw := kw527
abbrev qJ2_putCharSB_b72d1 : zY := (yJ2_putCharSB_b72d1, cJ2_putCharSB_b72d1, 3, none)
theorem kc_J2_putCharSB_b72d1 : Cond.code (qJ2_putCharSB_b72d1).1 (qJ2_putCharSB_b72d1).2.1 (qJ2_putCharSB_b72d1).2.2.1 (qJ2_putCharSB_b72d1).2.2.2 ∈ gw := kw530
abbrev qJ2_checkIndex_2214a : zY := (yJ2_checkIndex_2214a, cJ2_checkIndex_2214a, 2, none)
theorem kc_J2_checkIndex_2214a : Cond.code (qJ2_checkIndex_2214a).1 (qJ2_checkIndex_2214a).2.1 (qJ2_checkIndex_2214a).2.2.1 (qJ2_checkIndex_2214a).2.2.2 ∈ gw := kw533
abbrev qJ0_checkIndex_df160 : zY := (yJ0_checkIndex_df160, cJ0_checkIndex_df160, 2, none)
theorem kc_J0_checkIndex_df160 : Cond.code (qJ0_checkIndex_df160).1 (qJ0_checkIndex_df160).2.1 (qJ0_checkIndex_df160).2.2.1 (qJ0_checkIndex_df160).2.2.2 ∈ gw := kw536
abbrev qJ3_checkIndex_8e157 : zY := (yJ3_checkIndex_8e157, cJ3_checkIndex_8e157, 3, some .int)
theorem kc_J3_checkIndex_8e157 : Cond.code (qJ3_checkIndex_8e157).1 (qJ3_checkIndex_8e157).2.1 (qJ3_checkIndex_8e157).2.2.1 (qJ3_checkIndex_8e157).2.2.2 ∈ gw := kw539
abbrev qX1_valueAt : zY := (yX1_valueAt, cX1_valueAt, 2, some .int)
theorem kc_X1_valueAt : Cond.code (qX1_valueAt).1 (qX1_valueAt).2.1 (qX1_valueAt).2.2.1 (qX1_valueAt).2.2.2 ∈ gw := kw543
abbrev qX2_valueAt : zY := (yX2_valueAt, cX2_valueAt, 2, some .int)
theorem kc_X2_valueAt : Cond.code (qX2_valueAt).1 (qX2_valueAt).2.1 (qX2_valueAt).2.2.1 (qX2_valueAt).2.2.2 ∈ gw := kw547
abbrev qX2_hasPlace : zY := (yX2_hasPlace, cX2_hasPlace, 2, some .boolean)
theorem kc_X2_hasPlace : Cond.code (qX2_hasPlace).1 (qX2_hasPlace).2.1 (qX2_hasPlace).2.2.1 (qX2_hasPlace).2.2.2 ∈ gw := kw551
abbrev qX0_addNumber : zY := (yX0_addNumber, cX0_addNumber, 5, none)
theorem kc_X0_addNumber : Cond.code (qX0_addNumber).1 (qX0_addNumber).2.1 (qX0_addNumber).2.2.1 (qX0_addNumber).2.2.2 ∈ gw := kw555
abbrev qX0_written : zY := (yX0_written, cX0_written, 1, some (.object "java/lang/String"))
theorem kc_X0_written : Cond.code (qX0_written).1 (qX0_written).2.1 (qX0_written).2.2.1 (qX0_written).2.2.2 ∈ gw := kw561
abbrev qX3_knock : zY := (yX3_knock, cX3_knock, 1, some .int)
theorem kc_X3_knock : Cond.code (qX3_knock).1 (qX3_knock).2.1 (qX3_knock).2.2.1 (qX3_knock).2.2.2 ∈ gw := kw566
abbrev qX3_isSound : zY := (yX3_isSound, cX3_isSound, 3, some .boolean)
theorem kc_X3_isSound : Cond.code (qX3_isSound).1 (qX3_isSound).2.1 (qX3_isSound).2.2.1 (qX3_isSound).2.2.2 ∈ gw := kw570
abbrev qX1_isInOrder : zY := (yX1_isInOrder, cX1_isInOrder, 1, some .boolean)
theorem kc_X1_isInOrder : Cond.code (qX1_isInOrder).1 (qX1_isInOrder).2.1 (qX1_isInOrder).2.2.1 (qX1_isInOrder).2.2.2 ∈ gw := kw574
abbrev qX1_hasMark : zY := (yX1_hasMark, cX1_hasMark, 1, some .boolean)
theorem kc_X1_hasMark : Cond.code (qX1_hasMark).1 (qX1_hasMark).2.1 (qX1_hasMark).2.2.1 (qX1_hasMark).2.2.2 ∈ gw := kw578
abbrev qX1_left : zY := (yX1_left, cX1_left, 1, some .int)
theorem kc_X1_left : Cond.code (qX1_left).1 (qX1_left).2.1 (qX1_left).2.2.1 (qX1_left).2.2.2 ∈ gw := kw582
abbrev qX3_hasTrueTwins : zY := (yX3_hasTrueTwins, cX3_hasTrueTwins, 3, some .boolean)
theorem kc_X3_hasTrueTwins : Cond.code (qX3_hasTrueTwins).1 (qX3_hasTrueTwins).2.1 (qX3_hasTrueTwins).2.2.1 (qX3_hasTrueTwins).2.2.2 ∈ gw := kw586
abbrev qX1_becomeTwin : zY := (yX1_becomeTwin, cX1_becomeTwin, 2, none)
theorem kc_X1_becomeTwin : Cond.code (qX1_becomeTwin).1 (qX1_becomeTwin).2.1 (qX1_becomeTwin).2.2.1 (qX1_becomeTwin).2.2.2 ∈ gw := kw590
abbrev qX1_tellsAs : zY := (yX1_tellsAs, cX1_tellsAs, 3, some .boolean)
theorem kc_X1_tellsAs : Cond.code (qX1_tellsAs).1 (qX1_tellsAs).2.1 (qX1_tellsAs).2.2.1 (qX1_tellsAs).2.2.2 ∈ gw := kw594
abbrev qX3_hasTrueRemainder : zY := (yX3_hasTrueRemainder, cX3_hasTrueRemainder, 3, some .boolean)
theorem kc_X3_hasTrueRemainder : Cond.code (qX3_hasTrueRemainder).1 (qX3_hasTrueRemainder).2.1 (qX3_hasTrueRemainder).2.2.1 (qX3_hasTrueRemainder).2.2.2 ∈ gw := kw599
abbrev qX1_becomePart : zY := (yX1_becomePart, cX1_becomePart, 4, none)
theorem kc_X1_becomePart : Cond.code (qX1_becomePart).1 (qX1_becomePart).2.1 (qX1_becomePart).2.2.1 (qX1_becomePart).2.2.2 ∈ gw := kw604
abbrev qX3_agree : zY := (yX3_agree, cX3_agree, 4, some .boolean)
theorem kc_X3_agree : Cond.code (qX3_agree).1 (qX3_agree).2.1 (qX3_agree).2.2.1 (qX3_agree).2.2.2 ∈ gw := kw608
abbrev qX3_kinship : zY := (yX3_kinship, cX3_kinship, 2, some .int)
theorem kc_X3_kinship : Cond.code (qX3_kinship).1 (qX3_kinship).2.1 (qX3_kinship).2.2.1 (qX3_kinship).2.2.2 ∈ gw := kw611
abbrev qX3_indexSeen : zY := (yX3_indexSeen, cX3_indexSeen, 4, some .int)
theorem kc_X3_indexSeen : Cond.code (qX3_indexSeen).1 (qX3_indexSeen).2.1 (qX3_indexSeen).2.2.1 (qX3_indexSeen).2.2.2 ∈ gw := kw614
abbrev qX1_shows : zY := (yX1_shows, cX1_shows, 2, some .boolean)
theorem kc_X1_shows : Cond.code (qX1_shows).1 (qX1_shows).2.1 (qX1_shows).2.2.1 (qX1_shows).2.2.2 ∈ gw := kw618
abbrev qX3_digest : zY := (yX3_digest, cX3_digest, 5, some .long)
theorem kc_X3_digest : Cond.code (qX3_digest).1 (qX3_digest).2.1 (qX3_digest).2.2.1 (qX3_digest).2.2.2 ∈ gw := kw622
abbrev qX3_houseNumber : zY := (yX3_houseNumber, cX3_houseNumber, 2, some .int)
theorem kc_X3_houseNumber : Cond.code (qX3_houseNumber).1 (qX3_houseNumber).2.1 (qX3_houseNumber).2.2.1 (qX3_houseNumber).2.2.2 ∈ gw := kw627
abbrev qX3_howManyReaders : zY := (yX3_howManyReaders, cX3_howManyReaders, 3, some .int)
theorem kc_X3_howManyReaders : Cond.code (qX3_howManyReaders).1 (qX3_howManyReaders).2.1 (qX3_howManyReaders).2.2.1 (qX3_howManyReaders).2.2.2 ∈ gw := kw631
abbrev qX3_howManyMarks : zY := (yX3_howManyMarks, cX3_howManyMarks, 3, some .int)
theorem kc_X3_howManyMarks : Cond.code (qX3_howManyMarks).1 (qX3_howManyMarks).2.1 (qX3_howManyMarks).2.2.1 (qX3_howManyMarks).2.2.2 ∈ gw := kw635
abbrev qX3_mix : zY := (yX3_mix, cX3_mix, 3, some .long)
theorem kc_X3_mix : Cond.code (qX3_mix).1 (qX3_mix).2.1 (qX3_mix).2.2.1 (qX3_mix).2.2.2 ∈ gw := kw639
abbrev qX3_mixPane : zY := (yX3_mixPane, cX3_mixPane, 7, some .long)
theorem kc_X3_mixPane : Cond.code (qX3_mixPane).1 (qX3_mixPane).2.1 (qX3_mixPane).2.2.1 (qX3_mixPane).2.2.2 ∈ gw := kw644
abbrev qX1_numberOf : zY := (yX1_numberOf, cX1_numberOf, 2, some .int)
theorem kc_X1_numberOf : Cond.code (qX1_numberOf).1 (qX1_numberOf).2.1 (qX1_numberOf).2.2.1 (qX1_numberOf).2.2.2 ∈ gw := kw648
abbrev qX0_beginWhole : zY := (yX0_beginWhole, cX0_beginWhole, 3, none)
theorem kc_X0_beginWhole : Cond.code (qX0_beginWhole).1 (qX0_beginWhole).2.1 (qX0_beginWhole).2.2.1 (qX0_beginWhole).2.2.2 ∈ gw := kw652
abbrev qX0_addSigns : zY := (yX0_addSigns, cX0_addSigns, 3, none)
theorem kc_X0_addSigns : Cond.code (qX0_addSigns).1 (qX0_addSigns).2.1 (qX0_addSigns).2.2.1 (qX0_addSigns).2.2.2 ∈ gw := kw656
abbrev qX3_mixLine : zY := (yX3_mixLine, cX3_mixLine, 6, some .long)
theorem kc_X3_mixLine : Cond.code (qX3_mixLine).1 (qX3_mixLine).2.1 (qX3_mixLine).2.2.1 (qX3_mixLine).2.2.2 ∈ gw := kw660
abbrev qJ4_charAt_5068e : zY := (yJ4_charAt_5068e, cJ4_charAt_5068e, 2, some .char)
theorem kc_J4_charAt_5068e : Cond.code (qJ4_charAt_5068e).1 (qJ4_charAt_5068e).2.1 (qJ4_charAt_5068e).2.2.1 (qJ4_charAt_5068e).2.2.2 ∈ gw := kw665
abbrev qJ5_charAt_5068e : zY := (yJ5_charAt_5068e, cJ5_charAt_5068e, 5, some .char)
theorem kc_J5_charAt_5068e : Cond.code (qJ5_charAt_5068e).1 (qJ5_charAt_5068e).2.1 (qJ5_charAt_5068e).2.2.1 (qJ5_charAt_5068e).2.2.2 ∈ gw := kw668
abbrev qX0_beginTotal : zY := (yX0_beginTotal, cX0_beginTotal, 5, none)
theorem kc_X0_beginTotal : Cond.code (qX0_beginTotal).1 (qX0_beginTotal).2.1 (qX0_beginTotal).2.2.1 (qX0_beginTotal).2.2.2 ∈ gw := kw675
abbrev qX4_init : zY := (yX4_init, cX4_init, 1, none)
theorem kc_X4_init : Cond.code (qX4_init).1 (qX4_init).2.1 (qX4_init).2.2.1 (qX4_init).2.2.2 ∈ gw := kw681
abbrev qX3_wrap : zY := (yX3_wrap, cX3_wrap, 5, some .int)
theorem kc_X3_wrap : Cond.code (qX3_wrap).1 (qX3_wrap).2.1 (qX3_wrap).2.2.1 (qX3_wrap).2.2.2 ∈ gw := kw698
abbrev qX3_paneOf : zY := (yX3_paneOf, cX3_paneOf, 2, some (.object "Manypanes$Pane"))
theorem kc_X3_paneOf : Cond.code (qX3_paneOf).1 (qX3_paneOf).2.1 (qX3_paneOf).2.2.1 (qX3_paneOf).2.2.2 ∈ gw := kw702
abbrev qX3_needWithin : zY := (yX3_needWithin, cX3_needWithin, 3, none)
theorem kc_X3_needWithin : Cond.code (qX3_needWithin).1 (qX3_needWithin).2.1 (qX3_needWithin).2.2.1 (qX3_needWithin).2.2.2 ∈ gw := kw718
abbrev qX3_isWithin : zY := (yX3_isWithin, cX3_isWithin, 3, some .boolean)
theorem kc_X3_isWithin : Cond.code (qX3_isWithin).1 (qX3_isWithin).2.1 (qX3_isWithin).2.2.1 (qX3_isWithin).2.2.2 ∈ gw := kw721
abbrev qX3_done : zY := (yX3_done, cX3_done, 2, some .int)
theorem kc_X3_done : Cond.code (qX3_done).1 (qX3_done).2.1 (qX3_done).2.2.1 (qX3_done).2.2.2 ∈ gw := kw728
abbrev qX3_fresh : zY := (yX3_fresh, cX3_fresh, 4, some .int)
theorem kc_X3_fresh : Cond.code (qX3_fresh).1 (qX3_fresh).2.1 (qX3_fresh).2.2.1 (qX3_fresh).2.2.2 ∈ gw := kw735
abbrev qX3_twin : zY := (yX3_twin, cX3_twin, 5, some .int)
theorem kc_X3_twin : Cond.code (qX3_twin).1 (qX3_twin).2.1 (qX3_twin).2.2.1 (qX3_twin).2.2.2 ∈ gw := kw742
abbrev qX3_rest : zY := (yX3_rest, cX3_rest, 5, some .int)
theorem kc_X3_rest : Cond.code (qX3_rest).1 (qX3_rest).2.1 (qX3_rest).2.2.1 (qX3_rest).2.2.2 ∈ gw := kw749
abbrev qX3_part : zY := (yX3_part, cX3_part, 7, some .int)
theorem kc_X3_part : Cond.code (qX3_part).1 (qX3_part).2.1 (qX3_part).2.2.1 (qX3_part).2.2.2 ∈ gw := kw756
abbrev qX3_refuse : zY := (yX3_refuse, cX3_refuse, 2, some .int)
theorem kc_X3_refuse : Cond.code (qX3_refuse).1 (qX3_refuse).2.1 (qX3_refuse).2.2.1 (qX3_refuse).2.2.2 ∈ gw := kw760
abbrev qX3_reader : zY := (yX3_reader, cX3_reader, 5, some .int)
theorem kc_X3_reader : Cond.code (qX3_reader).1 (qX3_reader).2.1 (qX3_reader).2.2.1 (qX3_reader).2.2.2 ∈ gw := kw767
abbrev qX3_exchange : zY := (yX3_exchange, cX3_exchange, 5, some .int)
theorem kc_X3_exchange : Cond.code (qX3_exchange).1 (qX3_exchange).2.1 (qX3_exchange).2.2.1 (qX3_exchange).2.2.2 ∈ gw := kw774
abbrev qX3_setPane : zY := (yX3_setPane, cX3_setPane, 3, none)
theorem kc_X3_setPane : Cond.code (qX3_setPane).1 (qX3_setPane).2.1 (qX3_setPane).2.2.1 (qX3_setPane).2.2.2 ∈ gw := kw778
abbrev qX3_go : zY := (yX3_go, cX3_go, 5, some .int)
theorem kc_X3_go : Cond.code (qX3_go).1 (qX3_go).2.1 (qX3_go).2.2.1 (qX3_go).2.2.2 ∈ gw := kw785
abbrev qX1_moveTo : zY := (yX1_moveTo, cX1_moveTo, 2, none)
theorem kc_X1_moveTo : Cond.code (qX1_moveTo).1 (qX1_moveTo).2.1 (qX1_moveTo).2.2.1 (qX1_moveTo).2.2.2 ∈ gw := kw789
abbrev qX3_move : zY := (yX3_move, cX3_move, 5, some .int)
theorem kc_X3_move : Cond.code (qX3_move).1 (qX3_move).2.1 (qX3_move).2.2.1 (qX3_move).2.2.2 ∈ gw := kw796
abbrev qX3_end : zY := (yX3_end, cX3_end, 5, some .int)
theorem kc_X3_end : Cond.code (qX3_end).1 (qX3_end).2.1 (qX3_end).2.2.1 (qX3_end).2.2.2 ∈ gw := kw803
abbrev qX1_endAt : zY := (yX1_endAt, cX1_endAt, 2, none)
theorem kc_X1_endAt : Cond.code (qX1_endAt).1 (qX1_endAt).2.1 (qX1_endAt).2.2.1 (qX1_endAt).2.2.2 ∈ gw := kw807
abbrev qX3_stretch : zY := (yX3_stretch, cX3_stretch, 5, some .int)
theorem kc_X3_stretch : Cond.code (qX3_stretch).1 (qX3_stretch).2.1 (qX3_stretch).2.2.1 (qX3_stretch).2.2.2 ∈ gw := kw814
abbrev qX3_mark : zY := (yX3_mark, cX3_mark, 3, some .int)
theorem kc_X3_mark : Cond.code (qX3_mark).1 (qX3_mark).2.1 (qX3_mark).2.2.1 (qX3_mark).2.2.2 ∈ gw := kw821
abbrev qX3_back : zY := (yX3_back, cX3_back, 4, some .int)
theorem kc_X3_back : Cond.code (qX3_back).1 (qX3_back).2.1 (qX3_back).2.2.1 (qX3_back).2.2.2 ∈ gw := kw828
abbrev qX3_clear : zY := (yX3_clear, cX3_clear, 3, some .int)
theorem kc_X3_clear : Cond.code (qX3_clear).1 (qX3_clear).2.1 (qX3_clear).2.2.1 (qX3_clear).2.2.2 ∈ gw := kw835
abbrev qX3_flip : zY := (yX3_flip, cX3_flip, 3, some .int)
theorem kc_X3_flip : Cond.code (qX3_flip).1 (qX3_flip).2.1 (qX3_flip).2.2.1 (qX3_flip).2.2.2 ∈ gw := kw843
abbrev qX3_rewind : zY := (yX3_rewind, cX3_rewind, 3, some .int)
theorem kc_X3_rewind : Cond.code (qX3_rewind).1 (qX3_rewind).2.1 (qX3_rewind).2.2.1 (qX3_rewind).2.2.2 ∈ gw := kw850
abbrev qX3_put : zY := (yX3_put, cX3_put, 4, some .int)
theorem kc_X3_put : Cond.code (qX3_put).1 (qX3_put).2.1 (qX3_put).2.2.1 (qX3_put).2.2.2 ∈ gw := kw857
abbrev qX3_needValue : zY := (yX3_needValue, cX3_needValue, 1, none)
theorem kc_X3_needValue : Cond.code (qX3_needValue).1 (qX3_needValue).2.1 (qX3_needValue).2.2.1 (qX3_needValue).2.2.2 ∈ gw := kw860
abbrev qX3_tryPut : zY := (yX3_tryPut, cX3_tryPut, 3, some .boolean)
theorem kc_X3_tryPut : Cond.code (qX3_tryPut).1 (qX3_tryPut).2.1 (qX3_tryPut).2.2.1 (qX3_tryPut).2.2.2 ∈ gw := kw865
abbrev qX1_putNext : zY := (yX1_putNext, cX1_putNext, 2, none)
theorem kc_X1_putNext : Cond.code (qX1_putNext).1 (qX1_putNext).2.1 (qX1_putNext).2.2.1 (qX1_putNext).2.2.2 ∈ gw := kw869
abbrev qX1_replace : zY := (yX1_replace, cX1_replace, 3, some .int)
theorem kc_X1_replace : Cond.code (qX1_replace).1 (qX1_replace).2.1 (qX1_replace).2.2.1 (qX1_replace).2.2.2 ∈ gw := kw873
abbrev qX2_exchangeAt : zY := (yX2_exchangeAt, cX2_exchangeAt, 4, some .int)
theorem kc_X2_exchangeAt : Cond.code (qX2_exchangeAt).1 (qX2_exchangeAt).2.1 (qX2_exchangeAt).2.2.1 (qX2_exchangeAt).2.2.2 ∈ gw := kw877
abbrev qX3_putAt : zY := (yX3_putAt, cX3_putAt, 5, some .int)
theorem kc_X3_putAt : Cond.code (qX3_putAt).1 (qX3_putAt).2.1 (qX3_putAt).2.2.1 (qX3_putAt).2.2.2 ∈ gw := kw884
abbrev qX1_hasIndex : zY := (yX1_hasIndex, cX1_hasIndex, 2, some .boolean)
theorem kc_X1_hasIndex : Cond.code (qX1_hasIndex).1 (qX1_hasIndex).2.1 (qX1_hasIndex).2.2.1 (qX1_hasIndex).2.2.2 ∈ gw := kw888
abbrev qX3_bring : zY := (yX3_bring, cX3_bring, 7, some .int)
theorem kc_X3_bring : Cond.code (qX3_bring).1 (qX3_bring).2.1 (qX3_bring).2.2.1 (qX3_bring).2.2.2 ∈ gw := kw896
abbrev qX3_fill : zY := (yX3_fill, cX3_fill, 7, some .int)
theorem kc_X3_fill : Cond.code (qX3_fill).1 (qX3_fill).2.1 (qX3_fill).2.2.1 (qX3_fill).2.2.2 ∈ gw := kw903
abbrev qX3_pack : zY := (yX3_pack, cX3_pack, 5, some .int)
theorem kc_X3_pack : Cond.code (qX3_pack).1 (qX3_pack).2.1 (qX3_pack).2.2.1 (qX3_pack).2.2.2 ∈ gw := kw911
abbrev qX3_pour : zY := (yX3_pour, cX3_pour, 7, some .int)
theorem kc_X3_pour : Cond.code (qX3_pour).1 (qX3_pour).2.1 (qX3_pour).2.2.1 (qX3_pour).2.2.2 ∈ gw := kw918
abbrev qX3_pourOne : zY := (yX3_pourOne, cX3_pourOne, 4, some .boolean)
theorem kc_X3_pourOne : Cond.code (qX3_pourOne).1 (qX3_pourOne).2.1 (qX3_pourOne).2.2.1 (qX3_pourOne).2.2.2 ∈ gw := kw922
abbrev qX1_takeNext : zY := (yX1_takeNext, cX1_takeNext, 2, some .int)
theorem kc_X1_takeNext : Cond.code (qX1_takeNext).1 (qX1_takeNext).2.1 (qX1_takeNext).2.2.1 (qX1_takeNext).2.2.2 ∈ gw := kw926
abbrev qX3_lay : zY := (yX3_lay, cX3_lay, 3, some .int)
theorem kc_X3_lay : Cond.code (qX3_lay).1 (qX3_lay).2.1 (qX3_lay).2.2.1 (qX3_lay).2.2.2 ∈ gw := kw933
abbrev qX3_reach : zY := (yX3_reach, cX3_reach, 5, some .int)
theorem kc_X3_reach : Cond.code (qX3_reach).1 (qX3_reach).2.1 (qX3_reach).2.2.1 (qX3_reach).2.2.2 ∈ gw := kw943
abbrev qX3_get : zY := (yX3_get, cX3_get, 3, some .int)
theorem kc_X3_get : Cond.code (qX3_get).1 (qX3_get).2.1 (qX3_get).2.2.1 (qX3_get).2.2.2 ∈ gw := kw950
abbrev qX3_drain : zY := (yX3_drain, cX3_drain, 5, some .int)
theorem kc_X3_drain : Cond.code (qX3_drain).1 (qX3_drain).2.1 (qX3_drain).2.2.1 (qX3_drain).2.2.2 ∈ gw := kw957
abbrev qX3_pop : zY := (yX3_pop, cX3_pop, 3, some .int)
theorem kc_X3_pop : Cond.code (qX3_pop).1 (qX3_pop).2.1 (qX3_pop).2.2.1 (qX3_pop).2.2.2 ∈ gw := kw964
abbrev qX3_ofPane : zY := (yX3_ofPane, cX3_ofPane, 4, some .int)
theorem kc_X3_ofPane : Cond.code (qX3_ofPane).1 (qX3_ofPane).2.1 (qX3_ofPane).2.2.1 (qX3_ofPane).2.2.2 ∈ gw := kw971
abbrev qX3_at : zY := (yX3_at, cX3_at, 4, some .int)
theorem kc_X3_at : Cond.code (qX3_at).1 (qX3_at).2.1 (qX3_at).2.2.1 (qX3_at).2.2.2 ∈ gw := kw978
abbrev qX3_peek : zY := (yX3_peek, cX3_peek, 3, some .int)
theorem kc_X3_peek : Cond.code (qX3_peek).1 (qX3_peek).2.1 (qX3_peek).2.2.1 (qX3_peek).2.2.2 ∈ gw := kw985
abbrev qX3_total : zY := (yX3_total, cX3_total, 3, some (.object "java/lang/String"))
theorem kc_X3_total : Cond.code (qX3_total).1 (qX3_total).2.1 (qX3_total).2.2.1 (qX3_total).2.2.2 ∈ gw := kw992
abbrev qX3_text : zY := (yX3_text, cX3_text, 3, some (.object "java/lang/String"))
theorem kc_X3_text : Cond.code (qX3_text).1 (qX3_text).2.1 (qX3_text).2.2.1 (qX3_text).2.2.2 ∈ gw := kw999
abbrev qX3_whole : zY := (yX3_whole, cX3_whole, 3, some (.object "java/lang/String"))
theorem kc_X3_whole : Cond.code (qX3_whole).1 (qX3_whole).2.1 (qX3_whole).2.2.1 (qX3_whole).2.2.2 ∈ gw := kw1006
abbrev qX3_isKin : zY := (yX3_isKin, cX3_isKin, 3, some .int)
theorem kc_X3_isKin : Cond.code (qX3_isKin).1 (qX3_isKin).2.1 (qX3_isKin).2.2.1 (qX3_isKin).2.2.2 ∈ gw := kw1013
abbrev qX3_sees : zY := (yX3_sees, cX3_sees, 4, some .int)
theorem kc_X3_sees : Cond.code (qX3_sees).1 (qX3_sees).2.1 (qX3_sees).2.2.1 (qX3_sees).2.2.2 ∈ gw := kw1020
abbrev qX3_would : zY := (yX3_would, cX3_would, 4, some .int)
theorem kc_X3_would : Cond.code (qX3_would).1 (qX3_would).2.1 (qX3_would).2.2.1 (qX3_would).2.2.2 ∈ gw := kw1027
abbrev qX3_house : zY := (yX3_house, cX3_house, 2, some .int)
theorem kc_X3_house : Cond.code (qX3_house).1 (qX3_house).2.1 (qX3_house).2.2.1 (qX3_house).2.2.2 ∈ gw := kw1034
abbrev qX5_init : zY := (yX5_init, cX5_init, 2, none)
theorem kc_X5_init : Cond.code (qX5_init).1 (qX5_init).2.1 (qX5_init).2.2.1 (qX5_init).2.2.2 ∈ gw := kw1039
abbrev qX5_over : zY := (yX5_over, cX5_over, 4, some (.array .int))
theorem kc_X5_over : Cond.code (qX5_over).1 (qX5_over).2.1 (qX5_over).2.2.1 (qX5_over).2.2.2 ∈ gw := kw1045
abbrev qX5_made : zY := (yX5_made, cX5_made, 4, some (.array .int))
theorem kc_X5_made : Cond.code (qX5_made).1 (qX5_made).2.1 (qX5_made).2.2.1 (qX5_made).2.2.2 ∈ gw := kw1049
abbrev qX5_thrown : zY := (yX5_thrown, cX5_thrown, 1, some .int)
theorem kc_X5_thrown : Cond.code (qX5_thrown).1 (qX5_thrown).2.1 (qX5_thrown).2.2.1 (qX5_thrown).2.2.2 ∈ gw := kw1075
abbrev qX5_wrap : zY := (yX5_wrap, cX5_wrap, 4, some .int)
theorem kc_X5_wrap : Cond.code (qX5_wrap).1 (qX5_wrap).2.1 (qX5_wrap).2.2.1 (qX5_wrap).2.2.2 ∈ gw := kw1079
abbrev qX5_isPane : zY := (yX5_isPane, cX5_isPane, 1, some .boolean)
theorem kc_X5_isPane : Cond.code (qX5_isPane).1 (qX5_isPane).2.1 (qX5_isPane).2.2.1 (qX5_isPane).2.2.2 ∈ gw := kw1082
abbrev qX5_isIn : zY := (yX5_isIn, cX5_isIn, 3, some .boolean)
theorem kc_X5_isIn : Cond.code (qX5_isIn).1 (qX5_isIn).2.1 (qX5_isIn).2.2.1 (qX5_isIn).2.2.2 ∈ gw := kw1085
abbrev qX5_isLet : zY := (yX5_isLet, cX5_isLet, 3, some .boolean)
theorem kc_X5_isLet : Cond.code (qX5_isLet).1 (qX5_isLet).2.1 (qX5_isLet).2.2.1 (qX5_isLet).2.2.2 ∈ gw := kw1089
abbrev qX5_did : zY := (yX5_did, cX5_did, 2, some .int)
theorem kc_X5_did : Cond.code (qX5_did).1 (qX5_did).2.1 (qX5_did).2.2.1 (qX5_did).2.2.2 ∈ gw := kw1093
abbrev qX5_fresh : zY := (yX5_fresh, cX5_fresh, 3, some .int)
theorem kc_X5_fresh : Cond.code (qX5_fresh).1 (qX5_fresh).2.1 (qX5_fresh).2.2.1 (qX5_fresh).2.2.2 ∈ gw := kw1097
abbrev qX5_twin : zY := (yX5_twin, cX5_twin, 3, some .int)
theorem kc_X5_twin : Cond.code (qX5_twin).1 (qX5_twin).2.1 (qX5_twin).2.2.1 (qX5_twin).2.2.2 ∈ gw := kw1101
abbrev qX5_like : zY := (yX5_like, cX5_like, 3, some (.array .int))
theorem kc_X5_like : Cond.code (qX5_like).1 (qX5_like).2.1 (qX5_like).2.2.1 (qX5_like).2.2.2 ∈ gw := kw1104
abbrev qX5_left : zY := (yX5_left, cX5_left, 1, some .int)
theorem kc_X5_left : Cond.code (qX5_left).1 (qX5_left).2.1 (qX5_left).2.2.1 (qX5_left).2.2.2 ∈ gw := kw1107
abbrev qX5_rest : zY := (yX5_rest, cX5_rest, 3, some .int)
theorem kc_X5_rest : Cond.code (qX5_rest).1 (qX5_rest).2.1 (qX5_rest).2.2.1 (qX5_rest).2.2.2 ∈ gw := kw1111
abbrev qX5_cut : zY := (yX5_cut, cX5_cut, 6, some .int)
theorem kc_X5_cut : Cond.code (qX5_cut).1 (qX5_cut).2.1 (qX5_cut).2.2.1 (qX5_cut).2.2.2 ∈ gw := kw1115
abbrev qX5_part : zY := (yX5_part, cX5_part, 6, some .int)
theorem kc_X5_part : Cond.code (qX5_part).1 (qX5_part).2.1 (qX5_part).2.2.1 (qX5_part).2.2.2 ∈ gw := kw1119
abbrev qX5_refuse : zY := (yX5_refuse, cX5_refuse, 2, some .int)
theorem kc_X5_refuse : Cond.code (qX5_refuse).1 (qX5_refuse).2.1 (qX5_refuse).2.2.1 (qX5_refuse).2.2.2 ∈ gw := kw1123
abbrev qX5_reader : zY := (yX5_reader, cX5_reader, 3, some .int)
theorem kc_X5_reader : Cond.code (qX5_reader).1 (qX5_reader).2.1 (qX5_reader).2.2.1 (qX5_reader).2.2.2 ∈ gw := kw1127
abbrev qX5_exchange : zY := (yX5_exchange, cX5_exchange, 4, some .int)
theorem kc_X5_exchange : Cond.code (qX5_exchange).1 (qX5_exchange).2.1 (qX5_exchange).2.2.1 (qX5_exchange).2.2.2 ∈ gw := kw1131
abbrev qX5_go : zY := (yX5_go, cX5_go, 5, some .int)
theorem kc_X5_go : Cond.code (qX5_go).1 (qX5_go).2.1 (qX5_go).2.2.1 (qX5_go).2.2.2 ∈ gw := kw1135
abbrev qX5_moved : zY := (yX5_moved, cX5_moved, 3, none)
theorem kc_X5_moved : Cond.code (qX5_moved).1 (qX5_moved).2.1 (qX5_moved).2.2.1 (qX5_moved).2.2.2 ∈ gw := kw1139
abbrev qX5_move : zY := (yX5_move, cX5_move, 4, some .int)
theorem kc_X5_move : Cond.code (qX5_move).1 (qX5_move).2.1 (qX5_move).2.2.1 (qX5_move).2.2.2 ∈ gw := kw1143
abbrev qX5_end : zY := (yX5_end, cX5_end, 5, some .int)
theorem kc_X5_end : Cond.code (qX5_end).1 (qX5_end).2.1 (qX5_end).2.2.1 (qX5_end).2.2.2 ∈ gw := kw1148
abbrev qX5_ended : zY := (yX5_ended, cX5_ended, 3, none)
theorem kc_X5_ended : Cond.code (qX5_ended).1 (qX5_ended).2.1 (qX5_ended).2.2.1 (qX5_ended).2.2.2 ∈ gw := kw1152
abbrev qX5_stretch : zY := (yX5_stretch, cX5_stretch, 4, some .int)
theorem kc_X5_stretch : Cond.code (qX5_stretch).1 (qX5_stretch).2.1 (qX5_stretch).2.2.1 (qX5_stretch).2.2.2 ∈ gw := kw1156
abbrev qX5_mark : zY := (yX5_mark, cX5_mark, 2, some .int)
theorem kc_X5_mark : Cond.code (qX5_mark).1 (qX5_mark).2.1 (qX5_mark).2.2.1 (qX5_mark).2.2.2 ∈ gw := kw1161
abbrev qX5_back : zY := (yX5_back, cX5_back, 4, some .int)
theorem kc_X5_back : Cond.code (qX5_back).1 (qX5_back).2.1 (qX5_back).2.2.1 (qX5_back).2.2.2 ∈ gw := kw1165
abbrev qX5_clear : zY := (yX5_clear, cX5_clear, 2, some .int)
theorem kc_X5_clear : Cond.code (qX5_clear).1 (qX5_clear).2.1 (qX5_clear).2.2.1 (qX5_clear).2.2.2 ∈ gw := kw1169
abbrev qX5_begun : zY := (yX5_begun, cX5_begun, 4, some .int)
theorem kc_X5_begun : Cond.code (qX5_begun).1 (qX5_begun).2.1 (qX5_begun).2.2.1 (qX5_begun).2.2.2 ∈ gw := kw1173
abbrev qX5_flip : zY := (yX5_flip, cX5_flip, 2, some .int)
theorem kc_X5_flip : Cond.code (qX5_flip).1 (qX5_flip).2.1 (qX5_flip).2.2.1 (qX5_flip).2.2.2 ∈ gw := kw1177
abbrev qX5_rewind : zY := (yX5_rewind, cX5_rewind, 2, some .int)
theorem kc_X5_rewind : Cond.code (qX5_rewind).1 (qX5_rewind).2.1 (qX5_rewind).2.2.1 (qX5_rewind).2.2.2 ∈ gw := kw1181
abbrev qX5_put : zY := (yX5_put, cX5_put, 3, some .int)
theorem kc_X5_put : Cond.code (qX5_put).1 (qX5_put).2.1 (qX5_put).2.2.1 (qX5_put).2.2.2 ∈ gw := kw1185
abbrev qX5_puts : zY := (yX5_puts, cX5_puts, 4, some .int)
theorem kc_X5_puts : Cond.code (qX5_puts).1 (qX5_puts).2.1 (qX5_puts).2.2.1 (qX5_puts).2.2.2 ∈ gw := kw1189
abbrev qX5_where : zY := (yX5_where, cX5_where, 3, some .int)
theorem kc_X5_where : Cond.code (qX5_where).1 (qX5_where).2.1 (qX5_where).2.2.1 (qX5_where).2.2.2 ∈ gw := kw1193
abbrev qX5_putAt : zY := (yX5_putAt, cX5_putAt, 5, some .int)
theorem kc_X5_putAt : Cond.code (qX5_putAt).1 (qX5_putAt).2.1 (qX5_putAt).2.2.1 (qX5_putAt).2.2.2 ∈ gw := kw1197
abbrev qX5_written : zY := (yX5_written, cX5_written, 4, some .int)
theorem kc_X5_written : Cond.code (qX5_written).1 (qX5_written).2.1 (qX5_written).2.2.1 (qX5_written).2.2.2 ∈ gw := kw1201
abbrev qX5_bring : zY := (yX5_bring, cX5_bring, 7, some .int)
theorem kc_X5_bring : Cond.code (qX5_bring).1 (qX5_bring).2.1 (qX5_bring).2.2.1 (qX5_bring).2.2.2 ∈ gw := kw1205
abbrev qX5_fill : zY := (yX5_fill, cX5_fill, 6, some .int)
theorem kc_X5_fill : Cond.code (qX5_fill).1 (qX5_fill).2.1 (qX5_fill).2.2.1 (qX5_fill).2.2.2 ∈ gw := kw1209
abbrev qX5_pack : zY := (yX5_pack, cX5_pack, 5, some .int)
theorem kc_X5_pack : Cond.code (qX5_pack).1 (qX5_pack).2.1 (qX5_pack).2.2.1 (qX5_pack).2.2.2 ∈ gw := kw1214
abbrev qX5_pour : zY := (yX5_pour, cX5_pour, 6, some .int)
theorem kc_X5_pour : Cond.code (qX5_pour).1 (qX5_pour).2.1 (qX5_pour).2.2.1 (qX5_pour).2.2.2 ∈ gw := kw1218
abbrev qX5_lay : zY := (yX5_lay, cX5_lay, 3, some .int)
theorem kc_X5_lay : Cond.code (qX5_lay).1 (qX5_lay).2.1 (qX5_lay).2.2.1 (qX5_lay).2.2.2 ∈ gw := kw1222
abbrev qX5_reach : zY := (yX5_reach, cX5_reach, 5, some .int)
theorem kc_X5_reach : Cond.code (qX5_reach).1 (qX5_reach).2.1 (qX5_reach).2.2.1 (qX5_reach).2.2.2 ∈ gw := kw1226
abbrev qX5_get : zY := (yX5_get, cX5_get, 3, some .int)
theorem kc_X5_get : Cond.code (qX5_get).1 (qX5_get).2.1 (qX5_get).2.2.1 (qX5_get).2.2.2 ∈ gw := kw1230
abbrev qX5_drain : zY := (yX5_drain, cX5_drain, 5, some .int)
theorem kc_X5_drain : Cond.code (qX5_drain).1 (qX5_drain).2.1 (qX5_drain).2.2.1 (qX5_drain).2.2.2 ∈ gw := kw1234
abbrev qX5_pop : zY := (yX5_pop, cX5_pop, 3, some .int)
theorem kc_X5_pop : Cond.code (qX5_pop).1 (qX5_pop).2.1 (qX5_pop).2.2.1 (qX5_pop).2.2.2 ∈ gw := kw1239
abbrev qX5_ofPane : zY := (yX5_ofPane, cX5_ofPane, 5, some .int)
theorem kc_X5_ofPane : Cond.code (qX5_ofPane).1 (qX5_ofPane).2.1 (qX5_ofPane).2.2.1 (qX5_ofPane).2.2.2 ∈ gw := kw1243
abbrev qX5_at : zY := (yX5_at, cX5_at, 3, some .int)
theorem kc_X5_at : Cond.code (qX5_at).1 (qX5_at).2.1 (qX5_at).2.2.1 (qX5_at).2.2.2 ∈ gw := kw1247
abbrev qX5_peek : zY := (yX5_peek, cX5_peek, 2, some .int)
theorem kc_X5_peek : Cond.code (qX5_peek).1 (qX5_peek).2.1 (qX5_peek).2.2.1 (qX5_peek).2.2.2 ∈ gw := kw1251
abbrev qX5_total : zY := (yX5_total, cX5_total, 5, some (.object "java/lang/String"))
theorem kc_X5_total : Cond.code (qX5_total).1 (qX5_total).2.1 (qX5_total).2.2.1 (qX5_total).2.2.2 ∈ gw := kw1255
abbrev qJ4_append_f7089 : zY := (yJ4_append_f7089, cJ4_append_f7089, 3, some (.object "java/lang/StringBuilder"))
theorem kc_J4_append_f7089 : Cond.code (qJ4_append_f7089).1 (qJ4_append_f7089).2.1 (qJ4_append_f7089).2.2.1 (qJ4_append_f7089).2.2.2 ∈ gw := kw1263
abbrev qJ5_append_66267 : zY := (yJ5_append_66267, cJ5_append_66267, 5, some (.object "java/lang/AbstractStringBuilder"))
theorem kc_J5_append_66267 : Cond.code (qJ5_append_66267).1 (qJ5_append_66267).2.1 (qJ5_append_66267).2.2.1 (qJ5_append_66267).2.2.2 ∈ gw := kw1266
abbrev qJ13_stringSize_95d88 : zY := (yJ13_stringSize_95d88, cJ13_stringSize_95d88, 6, some .int)
theorem kc_J13_stringSize_95d88 : Cond.code (qJ13_stringSize_95d88).1 (qJ13_stringSize_95d88).2.1 (qJ13_stringSize_95d88).2.2.1 (qJ13_stringSize_95d88).2.2.2 ∈ gw := kw1269
abbrev qJ13_getChars_11360 : zY := (yJ13_getChars_11360, cJ13_getChars_11360, 11, some .int)
theorem kc_J13_getChars_11360 : Cond.code (qJ13_getChars_11360).1 (qJ13_getChars_11360).2.1 (qJ13_getChars_11360).2.2.1 (qJ13_getChars_11360).2.2.2 ∈ gw := kw1274
abbrev qJ2_getChars_1ba55 : zY := (yJ2_getChars_1ba55, cJ2_getChars_1ba55, 6, some .int)
theorem kc_J2_getChars_1ba55 : Cond.code (qJ2_getChars_1ba55).1 (qJ2_getChars_1ba55).2.1 (qJ2_getChars_1ba55).2.2.1 (qJ2_getChars_1ba55).2.2.2 ∈ gw := kw1281
abbrev qJ2_getChars_11360 : zY := (yJ2_getChars_11360, cJ2_getChars_11360, 11, some .int)
theorem kc_J2_getChars_11360 : Cond.code (qJ2_getChars_11360).1 (qJ2_getChars_11360).2.1 (qJ2_getChars_11360).2.2.1 (qJ2_getChars_11360).2.2.2 ∈ gw := kw1284
abbrev qX5_text : zY := (yX5_text, cX5_text, 2, some (.object "java/lang/String"))
theorem kc_X5_text : Cond.code (qX5_text).1 (qX5_text).2.1 (qX5_text).2.2.1 (qX5_text).2.2.2 ∈ gw := kw1291
abbrev qX5_joined : zY := (yX5_joined, cX5_joined, 5, some (.object "java/lang/String"))
theorem kc_X5_joined : Cond.code (qX5_joined).1 (qX5_joined).2.1 (qX5_joined).2.2.1 (qX5_joined).2.2.2 ∈ gw := kw1295
abbrev qX5_whole : zY := (yX5_whole, cX5_whole, 5, some (.object "java/lang/String"))
theorem kc_X5_whole : Cond.code (qX5_whole).1 (qX5_whole).2.1 (qX5_whole).2.2.1 (qX5_whole).2.2.2 ∈ gw := kw1301
abbrev qX5_row : zY := (yX5_row, cX5_row, 1, some (.object "java/lang/String"))
theorem kc_X5_row : Cond.code (qX5_row).1 (qX5_row).2.1 (qX5_row).2.2.1 (qX5_row).2.2.2 ∈ gw := kw1308
abbrev qX5_isKin : zY := (yX5_isKin, cX5_isKin, 3, some .int)
theorem kc_X5_isKin : Cond.code (qX5_isKin).1 (qX5_isKin).2.1 (qX5_isKin).2.2.1 (qX5_isKin).2.2.2 ∈ gw := kw1312
abbrev qX5_areReaders : zY := (yX5_areReaders, cX5_areReaders, 3, some .boolean)
theorem kc_X5_areReaders : Cond.code (qX5_areReaders).1 (qX5_areReaders).2.1 (qX5_areReaders).2.2.1 (qX5_areReaders).2.2.2 ∈ gw := kw1316
abbrev qX5_sees : zY := (yX5_sees, cX5_sees, 7, some .int)
theorem kc_X5_sees : Cond.code (qX5_sees).1 (qX5_sees).2.1 (qX5_sees).2.2.1 (qX5_sees).2.2.2 ∈ gw := kw1320
abbrev qX5_would : zY := (yX5_would, cX5_would, 4, some .int)
theorem kc_X5_would : Cond.code (qX5_would).1 (qX5_would).2.1 (qX5_would).2.2.1 (qX5_would).2.2.2 ∈ gw := kw1324
abbrev qX5_house : zY := (yX5_house, cX5_house, 7, some .int)
theorem kc_X5_house : Cond.code (qX5_house).1 (qX5_house).2.1 (qX5_house).2.2.1 (qX5_house).2.2.2 ∈ gw := kw1328
abbrev qX5_knock : zY := (yX5_knock, cX5_knock, 1, some .int)
theorem kc_X5_knock : Cond.code (qX5_knock).1 (qX5_knock).2.1 (qX5_knock).2.2.1 (qX5_knock).2.2.2 ∈ gw := kw1332
abbrev qX5_isSound : zY := (yX5_isSound, cX5_isSound, 1, some .boolean)
theorem kc_X5_isSound : Cond.code (qX5_isSound).1 (qX5_isSound).2.1 (qX5_isSound).2.2.1 (qX5_isSound).2.2.2 ∈ gw := kw1336
abbrev qX5_digest : zY := (yX5_digest, cX5_digest, 5, some .long)
theorem kc_X5_digest : Cond.code (qX5_digest).1 (qX5_digest).2.1 (qX5_digest).2.2.1 (qX5_digest).2.2.2 ∈ gw := kw1340
abbrev qX5_add : zY := (yX5_add, cX5_add, 4, some .long)
theorem kc_X5_add : Cond.code (qX5_add).1 (qX5_add).2.1 (qX5_add).2.2.1 (qX5_add).2.2.2 ∈ gw := kw1345
abbrev qX5_addSigns : zY := (yX5_addSigns, cX5_addSigns, 6, some .long)
theorem kc_X5_addSigns : Cond.code (qX5_addSigns).1 (qX5_addSigns).2.1 (qX5_addSigns).2.2.1 (qX5_addSigns).2.2.2 ∈ gw := kw1351
abbrev qJ0_charAt_5068e : zY := (yJ0_charAt_5068e, cJ0_charAt_5068e, 2, some .char)
theorem kc_J0_charAt_5068e : Cond.code (qJ0_charAt_5068e).1 (qJ0_charAt_5068e).2.1 (qJ0_charAt_5068e).2.2.1 (qJ0_charAt_5068e).2.2.2 ∈ gw := kw1356
abbrev qJ0_isLatin1_aae02 : zY := (yJ0_isLatin1_aae02, cJ0_isLatin1_aae02, 1, some .boolean)
theorem kc_J0_isLatin1_aae02 : Cond.code (qJ0_isLatin1_aae02).1 (qJ0_isLatin1_aae02).2.1 (qJ0_isLatin1_aae02).2.2.1 (qJ0_isLatin1_aae02).2.2.2 ∈ gw := kw1360
abbrev qJ1_charAt_3b067 : zY := (yJ1_charAt_3b067, cJ1_charAt_3b067, 2, some .char)
theorem kc_J1_charAt_3b067 : Cond.code (qJ1_charAt_3b067).1 (qJ1_charAt_3b067).2.1 (qJ1_charAt_3b067).2.2.1 (qJ1_charAt_3b067).2.2.2 ∈ gw := kw1363
abbrev qJ2_charAt_3b067 : zY := (yJ2_charAt_3b067, cJ2_charAt_3b067, 2, some .char)
theorem kc_J2_charAt_3b067 : Cond.code (qJ2_charAt_3b067).1 (qJ2_charAt_3b067).2.1 (qJ2_charAt_3b067).2.2.1 (qJ2_charAt_3b067).2.2.2 ∈ gw := kw1367
section FR
variable {X : zX} {cc : ByteArray} {nL : Nat} {rm : Room} {M : zM} {k n pc a : Nat} {lv : List (Nat × Value)} {st : List Value}
theorem gf_X3_14 {lr : Nat} {pa : Nat} {sp : Nat} {ln : Nat} {rf : Nat} {ac : Int32} {kn : Int32} (C : z_C X cc RX3 nL rm) (hM : M a = some (cMp lr pa sp ln rf ac kn)) (d : decode cc pc = .ok (.getfield 14, 3)) (kk : z_W X M k n (pc + 3) lv (.ref lr :: st)) : z_W X M k n pc lv (.ref a :: st) := z_get C (T := TX3) (N := 7) (ci := 7) rfl inX3 0 (by decide) kw133 hM rfl d kk
theorem pf_X3_14 {xx : Nat} (C : z_C X cc RX3 nL rm) (hini : (z_me X).name = "<init>") (fs : List Value) (hfs : 0 < fs.length) (hM : M a = some (.inr (7, fs))) (d : decode cc pc = .ok (.putfield 14, 3)) (kk : z_W X (z_up M a (.inr (7, fs.set 0 (.ref xx)))) k n (pc + 3) lv st) : z_W X M k n pc lv (.ref xx :: .ref a :: st) := z_putF C (T := TX3) (N := 7) (ci := 7) (ty := .object "Manypanes$Row") hini rfl inX3 tyX3 tyX3_ok nmX3 0 (by decide) kw133 rfl rfl (by decide +kernel) hM hfs rfl rfl d kk
theorem gf_X3_20 {lr : Nat} {pa : Nat} {sp : Nat} {ln : Nat} {rf : Nat} {ac : Int32} {kn : Int32} (C : z_C X cc RX3 nL rm) (hM : M a = some (cMp lr pa sp ln rf ac kn)) (d : decode cc pc = .ok (.getfield 20, 3)) (kk : z_W X M k n (pc + 3) lv (.ref pa :: st)) : z_W X M k n pc lv (.ref a :: st) := z_get C (T := TX3) (N := 7) (ci := 7) rfl inX3 1 (by decide) kw134 hM rfl d kk
theorem pf_X3_20 {xx : Nat} (C : z_C X cc RX3 nL rm) (hini : (z_me X).name = "<init>") (fs : List Value) (hfs : 1 < fs.length) (hM : M a = some (.inr (7, fs))) (d : decode cc pc = .ok (.putfield 20, 3)) (kk : z_W X (z_up M a (.inr (7, fs.set 1 (.ref xx)))) k n (pc + 3) lv st) : z_W X M k n pc lv (.ref xx :: .ref a :: st) := z_putF C (T := TX3) (N := 7) (ci := 7) (ty := .array (.object "Manypanes$Pane")) hini rfl inX3 tyX3 tyX3_ok nmX3 1 (by decide) kw134 rfl rfl (by decide +kernel) hM hfs rfl rfl d kk
theorem gf_X3_27 {lr : Nat} {pa : Nat} {sp : Nat} {ln : Nat} {rf : Nat} {ac : Int32} {kn : Int32} (C : z_C X cc RX3 nL rm) (hM : M a = some (cMp lr pa sp ln rf ac kn)) (d : decode cc pc = .ok (.getfield 27, 3)) (kk : z_W X M k n (pc + 3) lv (.ref sp :: st)) : z_W X M k n pc lv (.ref a :: st) := z_get C (T := TX3) (N := 7) (ci := 7) rfl inX3 2 (by decide) kw135 hM rfl d kk
theorem pf_X3_27 {xx : Nat} (C : z_C X cc RX3 nL rm) (hini : (z_me X).name = "<init>") (fs : List Value) (hfs : 2 < fs.length) (hM : M a = some (.inr (7, fs))) (d : decode cc pc = .ok (.putfield 27, 3)) (kk : z_W X (z_up M a (.inr (7, fs.set 2 (.ref xx)))) k n (pc + 3) lv st) : z_W X M k n pc lv (.ref xx :: .ref a :: st) := z_putF C (T := TX3) (N := 7) (ci := 7) (ty := .object "Manypanes$Pane") hini rfl inX3 tyX3 tyX3_ok nmX3 2 (by decide) kw135 rfl rfl (by decide +kernel) hM hfs rfl rfl d kk
theorem gf_X3_34 {lr : Nat} {pa : Nat} {sp : Nat} {ln : Nat} {rf : Nat} {ac : Int32} {kn : Int32} (C : z_C X cc RX3 nL rm) (hM : M a = some (cMp lr pa sp ln rf ac kn)) (d : decode cc pc = .ok (.getfield 34, 3)) (kk : z_W X M k n (pc + 3) lv (.ref ln :: st)) : z_W X M k n pc lv (.ref a :: st) := z_get C (T := TX3) (N := 7) (ci := 7) rfl inX3 3 (by decide) kw136 hM rfl d kk
theorem pf_X3_34 {xx : Nat} (C : z_C X cc RX3 nL rm) (hini : (z_me X).name = "<init>") (fs : List Value) (hfs : 3 < fs.length) (hM : M a = some (.inr (7, fs))) (d : decode cc pc = .ok (.putfield 34, 3)) (kk : z_W X (z_up M a (.inr (7, fs.set 3 (.ref xx)))) k n (pc + 3) lv st) : z_W X M k n pc lv (.ref xx :: .ref a :: st) := z_putF C (T := TX3) (N := 7) (ci := 7) (ty := .object "Manypanes$Line") hini rfl inX3 tyX3 tyX3_ok nmX3 3 (by decide) kw136 rfl rfl (by decide +kernel) hM hfs rfl rfl d kk
theorem gf_X3_38 {lr : Nat} {pa : Nat} {sp : Nat} {ln : Nat} {rf : Nat} {ac : Int32} {kn : Int32} (C : z_C X cc RX3 nL rm) (hM : M a = some (cMp lr pa sp ln rf ac kn)) (d : decode cc pc = .ok (.getfield 38, 3)) (kk : z_W X M k n (pc + 3) lv (.ref rf :: st)) : z_W X M k n pc lv (.ref a :: st) := z_get C (T := TX3) (N := 7) (ci := 7) rfl inX3 4 (by decide) kw137 hM rfl d kk
theorem pf_X3_38 {xx : Nat} (C : z_C X cc RX3 nL rm) (hini : (z_me X).name = "<init>") (fs : List Value) (hfs : 4 < fs.length) (hM : M a = some (.inr (7, fs))) (d : decode cc pc = .ok (.putfield 38, 3)) (kk : z_W X (z_up M a (.inr (7, fs.set 4 (.ref xx)))) k n (pc + 3) lv st) : z_W X M k n pc lv (.ref xx :: .ref a :: st) := z_putF C (T := TX3) (N := 7) (ci := 7) (ty := .array .int) hini rfl inX3 tyX3 tyX3_ok nmX3 4 (by decide) kw137 rfl rfl (by decide +kernel) hM hfs rfl rfl d kk
theorem gf_X3_42 {lr : Nat} {pa : Nat} {sp : Nat} {ln : Nat} {rf : Nat} {ac : Int32} {kn : Int32} (C : z_C X cc RX3 nL rm) (hM : M a = some (cMp lr pa sp ln rf ac kn)) (d : decode cc pc = .ok (.getfield 42, 3)) (kk : z_W X M k n (pc + 3) lv (.int ac :: st)) : z_W X M k n pc lv (.ref a :: st) := z_get C (T := TX3) (N := 7) (ci := 7) rfl inX3 5 (by decide) kw138 hM rfl d kk
theorem pf_X3_42 {lr : Nat} {pa : Nat} {sp : Nat} {ln : Nat} {rf : Nat} {ac : Int32} {kn : Int32} {xx : Int32} (C : z_C X cc RX3 nL rm) (hM : M a = some (cMp lr pa sp ln rf ac kn)) (d : decode cc pc = .ok (.putfield 42, 3)) (kk : z_W X (z_up M a (cMp lr pa sp ln rf xx kn)) k n (pc + 3) lv st) : z_W X M k n pc lv (.int xx :: .ref a :: st) := z_put C (T := TX3) (N := 7) (ci := 7) (ty := .int) rfl inX3 tyX3 tyX3_ok nmX3 5 (by decide) kw138 rfl (by decide +kernel) hM (show 5 < 7 by decide) rfl rfl d kk
theorem pg_X3_42 {lr : Nat} {pa : Nat} {sp : Nat} {ln : Nat} {rf : Nat} {ac : Int32} {kn : Int32} {xx : Int32} {M0 : zM} (C : z_C X cc RX3 nL rm) (d : decode cc pc = .ok (.putfield 42, 3)) (kk : z_W X (z_up M0 a (cMp lr pa sp ln rf xx kn)) k n (pc + 3) lv st) : z_W X (z_up M0 a (cMp lr pa sp ln rf ac kn)) k n pc lv (.int xx :: .ref a :: st) := pf_X3_42 C (z_up_s _ _ _) d (by rw [z_up_up]; exact kk)
theorem gf_X3_46 {lr : Nat} {pa : Nat} {sp : Nat} {ln : Nat} {rf : Nat} {ac : Int32} {kn : Int32} (C : z_C X cc RX3 nL rm) (hM : M a = some (cMp lr pa sp ln rf ac kn)) (d : decode cc pc = .ok (.getfield 46, 3)) (kk : z_W X M k n (pc + 3) lv (.int kn :: st)) : z_W X M k n pc lv (.ref a :: st) := z_get C (T := TX3) (N := 7) (ci := 7) rfl inX3 6 (by decide) kw139 hM rfl d kk
theorem pf_X3_46 {lr : Nat} {pa : Nat} {sp : Nat} {ln : Nat} {rf : Nat} {ac : Int32} {kn : Int32} {xx : Int32} (C : z_C X cc RX3 nL rm) (hM : M a = some (cMp lr pa sp ln rf ac kn)) (d : decode cc pc = .ok (.putfield 46, 3)) (kk : z_W X (z_up M a (cMp lr pa sp ln rf ac xx)) k n (pc + 3) lv st) : z_W X M k n pc lv (.int xx :: .ref a :: st) := z_put C (T := TX3) (N := 7) (ci := 7) (ty := .int) rfl inX3 tyX3 tyX3_ok nmX3 6 (by decide) kw139 rfl (by decide +kernel) hM (show 6 < 7 by decide) rfl rfl d kk
theorem pg_X3_46 {lr : Nat} {pa : Nat} {sp : Nat} {ln : Nat} {rf : Nat} {ac : Int32} {kn : Int32} {xx : Int32} {M0 : zM} (C : z_C X cc RX3 nL rm) (d : decode cc pc = .ok (.putfield 46, 3)) (kk : z_W X (z_up M0 a (cMp lr pa sp ln rf ac xx)) k n (pc + 3) lv st) : z_W X (z_up M0 a (cMp lr pa sp ln rf ac kn)) k n pc lv (.int xx :: .ref a :: st) := pf_X3_46 C (z_up_s _ _ _) d (by rw [z_up_up]; exact kk)
theorem gf_X3_60 {ov : Nat} {sa : Int32} {cp : Int32} {po : Int32} {li : Int32} {mk : Int32} {rd : Int32} (C : z_C X cc RX3 nL rm) (hM : M a = some (cPn ov sa cp po li mk rd)) (d : decode cc pc = .ok (.getfield 60, 3)) (kk : z_W X M k n (pc + 3) lv (.int po :: st)) : z_W X M k n pc lv (.ref a :: st) := z_getN (host := "Manypanes") C (T := TX1) (N := 7) (ci := 5) rfl inX1 3 (by decide) kn64 hM rfl d kk
theorem pf_X3_60 {ov : Nat} {sa : Int32} {cp : Int32} {po : Int32} {li : Int32} {mk : Int32} {rd : Int32} {xx : Int32} (C : z_C X cc RX3 nL rm) (hM : M a = some (cPn ov sa cp po li mk rd)) (d : decode cc pc = .ok (.putfield 60, 3)) (kk : z_W X (z_up M a (cPn ov sa cp xx li mk rd)) k n (pc + 3) lv st) : z_W X M k n pc lv (.int xx :: .ref a :: st) := z_putN (host := "Manypanes") C (T := TX1) (N := 7) (ci := 5) (ty := .int) rfl inX1 tyX1 tyX1_ok nmX1 3 (by decide) kn64 rfl (by decide +kernel) hM (show 3 < 7 by decide) rfl rfl d kk
theorem pg_X3_60 {ov : Nat} {sa : Int32} {cp : Int32} {po : Int32} {li : Int32} {mk : Int32} {rd : Int32} {xx : Int32} {M0 : zM} (C : z_C X cc RX3 nL rm) (d : decode cc pc = .ok (.putfield 60, 3)) (kk : z_W X (z_up M0 a (cPn ov sa cp xx li mk rd)) k n (pc + 3) lv st) : z_W X (z_up M0 a (cPn ov sa cp po li mk rd)) k n pc lv (.int xx :: .ref a :: st) := pf_X3_60 C (z_up_s _ _ _) d (by rw [z_up_up]; exact kk)
theorem gf_X3_63 {ov : Nat} {sa : Int32} {cp : Int32} {po : Int32} {li : Int32} {mk : Int32} {rd : Int32} (C : z_C X cc RX3 nL rm) (hM : M a = some (cPn ov sa cp po li mk rd)) (d : decode cc pc = .ok (.getfield 63, 3)) (kk : z_W X M k n (pc + 3) lv (.int li :: st)) : z_W X M k n pc lv (.ref a :: st) := z_getN (host := "Manypanes") C (T := TX1) (N := 7) (ci := 5) rfl inX1 4 (by decide) kn67 hM rfl d kk
theorem pf_X3_63 {ov : Nat} {sa : Int32} {cp : Int32} {po : Int32} {li : Int32} {mk : Int32} {rd : Int32} {xx : Int32} (C : z_C X cc RX3 nL rm) (hM : M a = some (cPn ov sa cp po li mk rd)) (d : decode cc pc = .ok (.putfield 63, 3)) (kk : z_W X (z_up M a (cPn ov sa cp po xx mk rd)) k n (pc + 3) lv st) : z_W X M k n pc lv (.int xx :: .ref a :: st) := z_putN (host := "Manypanes") C (T := TX1) (N := 7) (ci := 5) (ty := .int) rfl inX1 tyX1 tyX1_ok nmX1 4 (by decide) kn67 rfl (by decide +kernel) hM (show 4 < 7 by decide) rfl rfl d kk
theorem pg_X3_63 {ov : Nat} {sa : Int32} {cp : Int32} {po : Int32} {li : Int32} {mk : Int32} {rd : Int32} {xx : Int32} {M0 : zM} (C : z_C X cc RX3 nL rm) (d : decode cc pc = .ok (.putfield 63, 3)) (kk : z_W X (z_up M0 a (cPn ov sa cp po xx mk rd)) k n (pc + 3) lv st) : z_W X (z_up M0 a (cPn ov sa cp po li mk rd)) k n pc lv (.int xx :: .ref a :: st) := pf_X3_63 C (z_up_s _ _ _) d (by rw [z_up_up]; exact kk)
theorem gf_X3_89 {ov : Nat} {sa : Int32} {cp : Int32} {po : Int32} {li : Int32} {mk : Int32} {rd : Int32} (C : z_C X cc RX3 nL rm) (hM : M a = some (cPn ov sa cp po li mk rd)) (d : decode cc pc = .ok (.getfield 89, 3)) (kk : z_W X M k n (pc + 3) lv (.int rd :: st)) : z_W X M k n pc lv (.ref a :: st) := z_getN (host := "Manypanes") C (T := TX1) (N := 7) (ci := 5) rfl inX1 6 (by decide) kn73 hM rfl d kk
theorem pf_X3_89 {ov : Nat} {sa : Int32} {cp : Int32} {po : Int32} {li : Int32} {mk : Int32} {rd : Int32} {xx : Int32} (C : z_C X cc RX3 nL rm) (hx : narrow .boolean (.int xx) = .int xx) (hf : fits .boolean (.int xx) = true) (hM : M a = some (cPn ov sa cp po li mk rd)) (d : decode cc pc = .ok (.putfield 89, 3)) (kk : z_W X (z_up M a (cPn ov sa cp po li mk xx)) k n (pc + 3) lv st) : z_W X M k n pc lv (.int xx :: .ref a :: st) := z_putN (host := "Manypanes") C (T := TX1) (N := 7) (ci := 5) (ty := .boolean) rfl inX1 tyX1 tyX1_ok nmX1 6 (by decide) kn73 rfl (by decide +kernel) hM (show 6 < 7 by decide) hx hf d kk
theorem pg_X3_89 {ov : Nat} {sa : Int32} {cp : Int32} {po : Int32} {li : Int32} {mk : Int32} {rd : Int32} {xx : Int32} {M0 : zM} (C : z_C X cc RX3 nL rm) (hx : narrow .boolean (.int xx) = .int xx) (hf : fits .boolean (.int xx) = true) (d : decode cc pc = .ok (.putfield 89, 3)) (kk : z_W X (z_up M0 a (cPn ov sa cp po li mk xx)) k n (pc + 3) lv st) : z_W X (z_up M0 a (cPn ov sa cp po li mk rd)) k n pc lv (.int xx :: .ref a :: st) := pf_X3_89 C hx hf (z_up_s _ _ _) d (by rw [z_up_up]; exact kk)
theorem gf_X3_100 {ov : Nat} {sa : Int32} {cp : Int32} {po : Int32} {li : Int32} {mk : Int32} {rd : Int32} (C : z_C X cc RX3 nL rm) (hM : M a = some (cPn ov sa cp po li mk rd)) (d : decode cc pc = .ok (.getfield 100, 3)) (kk : z_W X M k n (pc + 3) lv (.int cp :: st)) : z_W X M k n pc lv (.ref a :: st) := z_getN (host := "Manypanes") C (T := TX1) (N := 7) (ci := 5) rfl inX1 2 (by decide) kn62 hM rfl d kk
theorem pf_X3_100 {ov : Nat} {sa : Int32} {cp : Int32} {po : Int32} {li : Int32} {mk : Int32} {rd : Int32} {xx : Int32} (C : z_C X cc RX3 nL rm) (hM : M a = some (cPn ov sa cp po li mk rd)) (d : decode cc pc = .ok (.putfield 100, 3)) (kk : z_W X (z_up M a (cPn ov sa xx po li mk rd)) k n (pc + 3) lv st) : z_W X M k n pc lv (.int xx :: .ref a :: st) := z_putN (host := "Manypanes") C (T := TX1) (N := 7) (ci := 5) (ty := .int) rfl inX1 tyX1 tyX1_ok nmX1 2 (by decide) kn62 rfl (by decide +kernel) hM (show 2 < 7 by decide) rfl rfl d kk
theorem pg_X3_100 {ov : Nat} {sa : Int32} {cp : Int32} {po : Int32} {li : Int32} {mk : Int32} {rd : Int32} {xx : Int32} {M0 : zM} (C : z_C X cc RX3 nL rm) (d : decode cc pc = .ok (.putfield 100, 3)) (kk : z_W X (z_up M0 a (cPn ov sa xx po li mk rd)) k n (pc + 3) lv st) : z_W X (z_up M0 a (cPn ov sa cp po li mk rd)) k n pc lv (.int xx :: .ref a :: st) := pf_X3_100 C (z_up_s _ _ _) d (by rw [z_up_up]; exact kk)
theorem gf_X3_106 {ov : Nat} {sa : Int32} {cp : Int32} {po : Int32} {li : Int32} {mk : Int32} {rd : Int32} (C : z_C X cc RX3 nL rm) (hM : M a = some (cPn ov sa cp po li mk rd)) (d : decode cc pc = .ok (.getfield 106, 3)) (kk : z_W X M k n (pc + 3) lv (.int mk :: st)) : z_W X M k n pc lv (.ref a :: st) := z_getN (host := "Manypanes") C (T := TX1) (N := 7) (ci := 5) rfl inX1 5 (by decide) kn71 hM rfl d kk
theorem pf_X3_106 {ov : Nat} {sa : Int32} {cp : Int32} {po : Int32} {li : Int32} {mk : Int32} {rd : Int32} {xx : Int32} (C : z_C X cc RX3 nL rm) (hM : M a = some (cPn ov sa cp po li mk rd)) (d : decode cc pc = .ok (.putfield 106, 3)) (kk : z_W X (z_up M a (cPn ov sa cp po li xx rd)) k n (pc + 3) lv st) : z_W X M k n pc lv (.int xx :: .ref a :: st) := z_putN (host := "Manypanes") C (T := TX1) (N := 7) (ci := 5) (ty := .int) rfl inX1 tyX1 tyX1_ok nmX1 5 (by decide) kn71 rfl (by decide +kernel) hM (show 5 < 7 by decide) rfl rfl d kk
theorem pg_X3_106 {ov : Nat} {sa : Int32} {cp : Int32} {po : Int32} {li : Int32} {mk : Int32} {rd : Int32} {xx : Int32} {M0 : zM} (C : z_C X cc RX3 nL rm) (d : decode cc pc = .ok (.putfield 106, 3)) (kk : z_W X (z_up M0 a (cPn ov sa cp po li xx rd)) k n (pc + 3) lv st) : z_W X (z_up M0 a (cPn ov sa cp po li mk rd)) k n pc lv (.int xx :: .ref a :: st) := pf_X3_106 C (z_up_s _ _ _) d (by rw [z_up_up]; exact kk)
theorem gf_X3_230 {ov : Nat} {sa : Int32} {cp : Int32} {po : Int32} {li : Int32} {mk : Int32} {rd : Int32} (C : z_C X cc RX3 nL rm) (hM : M a = some (cPn ov sa cp po li mk rd)) (d : decode cc pc = .ok (.getfield 230, 3)) (kk : z_W X M k n (pc + 3) lv (.ref ov :: st)) : z_W X M k n pc lv (.ref a :: st) := z_getN (host := "Manypanes") C (T := TX1) (N := 7) (ci := 5) rfl inX1 0 (by decide) kn57 hM rfl d kk
theorem pf_X3_230 {ov : Nat} {sa : Int32} {cp : Int32} {po : Int32} {li : Int32} {mk : Int32} {rd : Int32} {xx : Nat} (C : z_C X cc RX3 nL rm) (hM : M a = some (cPn ov sa cp po li mk rd)) (d : decode cc pc = .ok (.putfield 230, 3)) (kk : z_W X (z_up M a (cPn xx sa cp po li mk rd)) k n (pc + 3) lv st) : z_W X M k n pc lv (.ref xx :: .ref a :: st) := z_putN (host := "Manypanes") C (T := TX1) (N := 7) (ci := 5) (ty := .object "Manypanes$Row") rfl inX1 tyX1 tyX1_ok nmX1 0 (by decide) kn57 rfl (by decide +kernel) hM (show 0 < 7 by decide) rfl rfl d kk
theorem pg_X3_230 {ov : Nat} {sa : Int32} {cp : Int32} {po : Int32} {li : Int32} {mk : Int32} {rd : Int32} {xx : Nat} {M0 : zM} (C : z_C X cc RX3 nL rm) (d : decode cc pc = .ok (.putfield 230, 3)) (kk : z_W X (z_up M0 a (cPn xx sa cp po li mk rd)) k n (pc + 3) lv st) : z_W X (z_up M0 a (cPn ov sa cp po li mk rd)) k n pc lv (.ref xx :: .ref a :: st) := pf_X3_230 C (z_up_s _ _ _) d (by rw [z_up_up]; exact kk)
theorem gf_X3_233 {ov : Nat} {sa : Int32} {cp : Int32} {po : Int32} {li : Int32} {mk : Int32} {rd : Int32} (C : z_C X cc RX3 nL rm) (hM : M a = some (cPn ov sa cp po li mk rd)) (d : decode cc pc = .ok (.getfield 233, 3)) (kk : z_W X M k n (pc + 3) lv (.int sa :: st)) : z_W X M k n pc lv (.ref a :: st) := z_getN (host := "Manypanes") C (T := TX1) (N := 7) (ci := 5) rfl inX1 1 (by decide) kn59 hM rfl d kk
theorem pf_X3_233 {ov : Nat} {sa : Int32} {cp : Int32} {po : Int32} {li : Int32} {mk : Int32} {rd : Int32} {xx : Int32} (C : z_C X cc RX3 nL rm) (hM : M a = some (cPn ov sa cp po li mk rd)) (d : decode cc pc = .ok (.putfield 233, 3)) (kk : z_W X (z_up M a (cPn ov xx cp po li mk rd)) k n (pc + 3) lv st) : z_W X M k n pc lv (.int xx :: .ref a :: st) := z_putN (host := "Manypanes") C (T := TX1) (N := 7) (ci := 5) (ty := .int) rfl inX1 tyX1 tyX1_ok nmX1 1 (by decide) kn59 rfl (by decide +kernel) hM (show 1 < 7 by decide) rfl rfl d kk
theorem pg_X3_233 {ov : Nat} {sa : Int32} {cp : Int32} {po : Int32} {li : Int32} {mk : Int32} {rd : Int32} {xx : Int32} {M0 : zM} (C : z_C X cc RX3 nL rm) (d : decode cc pc = .ok (.putfield 233, 3)) (kk : z_W X (z_up M0 a (cPn ov xx cp po li mk rd)) k n (pc + 3) lv st) : z_W X (z_up M0 a (cPn ov sa cp po li mk rd)) k n pc lv (.int xx :: .ref a :: st) := pf_X3_233 C (z_up_s _ _ _) d (by rw [z_up_up]; exact kk)
theorem gf_X3_247 {sb : Nat} (C : z_C X cc RX3 nL rm) (hM : M a = some (cLn sb)) (d : decode cc pc = .ok (.getfield 247, 3)) (kk : z_W X M k n (pc + 3) lv (.ref sb :: st)) : z_W X M k n pc lv (.ref a :: st) := z_getN (host := "Manypanes") C (T := TX0) (N := 1) (ci := 4) rfl inX0 0 (by decide) kn129 hM rfl d kk
theorem gf_X0_10 {sb : Nat} (C : z_C X cc RX0 nL rm) (hM : M a = some (cLn sb)) (d : decode cc pc = .ok (.getfield 10, 3)) (kk : z_W X M k n (pc + 3) lv (.ref sb :: st)) : z_W X M k n pc lv (.ref a :: st) := z_get C (T := TX0) (N := 1) (ci := 4) rfl inX0 0 (by decide) kw128 hM rfl d kk
theorem pf_X0_10 {xx : Nat} (C : z_C X cc RX0 nL rm) (hini : (z_me X).name = "<init>") (fs : List Value) (hfs : 0 < fs.length) (hM : M a = some (.inr (4, fs))) (d : decode cc pc = .ok (.putfield 10, 3)) (kk : z_W X (z_up M a (.inr (4, fs.set 0 (.ref xx)))) k n (pc + 3) lv st) : z_W X M k n pc lv (.ref xx :: .ref a :: st) := z_putF C (T := TX0) (N := 1) (ci := 4) (ty := .object "java/lang/StringBuilder") hini rfl inX0 tyX0 tyX0_ok nmX0 0 (by decide) kw128 rfl rfl (by decide +kernel) hM hfs rfl rfl d kk
theorem gf_X0_24 {ov : Nat} {sa : Int32} {cp : Int32} {po : Int32} {li : Int32} {mk : Int32} {rd : Int32} (C : z_C X cc RX0 nL rm) (hM : M a = some (cPn ov sa cp po li mk rd)) (d : decode cc pc = .ok (.getfield 24, 3)) (kk : z_W X M k n (pc + 3) lv (.int po :: st)) : z_W X M k n pc lv (.ref a :: st) := z_getN (host := "Manypanes") C (T := TX1) (N := 7) (ci := 5) rfl inX1 3 (by decide) kn65 hM rfl d kk
theorem pf_X0_24 {ov : Nat} {sa : Int32} {cp : Int32} {po : Int32} {li : Int32} {mk : Int32} {rd : Int32} {xx : Int32} (C : z_C X cc RX0 nL rm) (hM : M a = some (cPn ov sa cp po li mk rd)) (d : decode cc pc = .ok (.putfield 24, 3)) (kk : z_W X (z_up M a (cPn ov sa cp xx li mk rd)) k n (pc + 3) lv st) : z_W X M k n pc lv (.int xx :: .ref a :: st) := z_putN (host := "Manypanes") C (T := TX1) (N := 7) (ci := 5) (ty := .int) rfl inX1 tyX1 tyX1_ok nmX1 3 (by decide) kn65 rfl (by decide +kernel) hM (show 3 < 7 by decide) rfl rfl d kk
theorem pg_X0_24 {ov : Nat} {sa : Int32} {cp : Int32} {po : Int32} {li : Int32} {mk : Int32} {rd : Int32} {xx : Int32} {M0 : zM} (C : z_C X cc RX0 nL rm) (d : decode cc pc = .ok (.putfield 24, 3)) (kk : z_W X (z_up M0 a (cPn ov sa cp xx li mk rd)) k n (pc + 3) lv st) : z_W X (z_up M0 a (cPn ov sa cp po li mk rd)) k n pc lv (.int xx :: .ref a :: st) := pf_X0_24 C (z_up_s _ _ _) d (by rw [z_up_up]; exact kk)
theorem gf_X0_30 {ov : Nat} {sa : Int32} {cp : Int32} {po : Int32} {li : Int32} {mk : Int32} {rd : Int32} (C : z_C X cc RX0 nL rm) (hM : M a = some (cPn ov sa cp po li mk rd)) (d : decode cc pc = .ok (.getfield 30, 3)) (kk : z_W X M k n (pc + 3) lv (.int li :: st)) : z_W X M k n pc lv (.ref a :: st) := z_getN (host := "Manypanes") C (T := TX1) (N := 7) (ci := 5) rfl inX1 4 (by decide) kn68 hM rfl d kk
theorem pf_X0_30 {ov : Nat} {sa : Int32} {cp : Int32} {po : Int32} {li : Int32} {mk : Int32} {rd : Int32} {xx : Int32} (C : z_C X cc RX0 nL rm) (hM : M a = some (cPn ov sa cp po li mk rd)) (d : decode cc pc = .ok (.putfield 30, 3)) (kk : z_W X (z_up M a (cPn ov sa cp po xx mk rd)) k n (pc + 3) lv st) : z_W X M k n pc lv (.int xx :: .ref a :: st) := z_putN (host := "Manypanes") C (T := TX1) (N := 7) (ci := 5) (ty := .int) rfl inX1 tyX1 tyX1_ok nmX1 4 (by decide) kn68 rfl (by decide +kernel) hM (show 4 < 7 by decide) rfl rfl d kk
theorem pg_X0_30 {ov : Nat} {sa : Int32} {cp : Int32} {po : Int32} {li : Int32} {mk : Int32} {rd : Int32} {xx : Int32} {M0 : zM} (C : z_C X cc RX0 nL rm) (d : decode cc pc = .ok (.putfield 30, 3)) (kk : z_W X (z_up M0 a (cPn ov sa cp po xx mk rd)) k n (pc + 3) lv st) : z_W X (z_up M0 a (cPn ov sa cp po li mk rd)) k n pc lv (.int xx :: .ref a :: st) := pf_X0_30 C (z_up_s _ _ _) d (by rw [z_up_up]; exact kk)
theorem gf_X0_45 {ov : Nat} {sa : Int32} {cp : Int32} {po : Int32} {li : Int32} {mk : Int32} {rd : Int32} (C : z_C X cc RX0 nL rm) (hM : M a = some (cPn ov sa cp po li mk rd)) (d : decode cc pc = .ok (.getfield 45, 3)) (kk : z_W X M k n (pc + 3) lv (.int cp :: st)) : z_W X M k n pc lv (.ref a :: st) := z_getN (host := "Manypanes") C (T := TX1) (N := 7) (ci := 5) rfl inX1 2 (by decide) kn61 hM rfl d kk
theorem pf_X0_45 {ov : Nat} {sa : Int32} {cp : Int32} {po : Int32} {li : Int32} {mk : Int32} {rd : Int32} {xx : Int32} (C : z_C X cc RX0 nL rm) (hM : M a = some (cPn ov sa cp po li mk rd)) (d : decode cc pc = .ok (.putfield 45, 3)) (kk : z_W X (z_up M a (cPn ov sa xx po li mk rd)) k n (pc + 3) lv st) : z_W X M k n pc lv (.int xx :: .ref a :: st) := z_putN (host := "Manypanes") C (T := TX1) (N := 7) (ci := 5) (ty := .int) rfl inX1 tyX1 tyX1_ok nmX1 2 (by decide) kn61 rfl (by decide +kernel) hM (show 2 < 7 by decide) rfl rfl d kk
theorem pg_X0_45 {ov : Nat} {sa : Int32} {cp : Int32} {po : Int32} {li : Int32} {mk : Int32} {rd : Int32} {xx : Int32} {M0 : zM} (C : z_C X cc RX0 nL rm) (d : decode cc pc = .ok (.putfield 45, 3)) (kk : z_W X (z_up M0 a (cPn ov sa xx po li mk rd)) k n (pc + 3) lv st) : z_W X (z_up M0 a (cPn ov sa cp po li mk rd)) k n pc lv (.int xx :: .ref a :: st) := pf_X0_45 C (z_up_s _ _ _) d (by rw [z_up_up]; exact kk)
theorem gf_X0_52 {ov : Nat} {sa : Int32} {cp : Int32} {po : Int32} {li : Int32} {mk : Int32} {rd : Int32} (C : z_C X cc RX0 nL rm) (hM : M a = some (cPn ov sa cp po li mk rd)) (d : decode cc pc = .ok (.getfield 52, 3)) (kk : z_W X M k n (pc + 3) lv (.int mk :: st)) : z_W X M k n pc lv (.ref a :: st) := z_getN (host := "Manypanes") C (T := TX1) (N := 7) (ci := 5) rfl inX1 5 (by decide) kn70 hM rfl d kk
theorem pf_X0_52 {ov : Nat} {sa : Int32} {cp : Int32} {po : Int32} {li : Int32} {mk : Int32} {rd : Int32} {xx : Int32} (C : z_C X cc RX0 nL rm) (hM : M a = some (cPn ov sa cp po li mk rd)) (d : decode cc pc = .ok (.putfield 52, 3)) (kk : z_W X (z_up M a (cPn ov sa cp po li xx rd)) k n (pc + 3) lv st) : z_W X M k n pc lv (.int xx :: .ref a :: st) := z_putN (host := "Manypanes") C (T := TX1) (N := 7) (ci := 5) (ty := .int) rfl inX1 tyX1 tyX1_ok nmX1 5 (by decide) kn70 rfl (by decide +kernel) hM (show 5 < 7 by decide) rfl rfl d kk
theorem pg_X0_52 {ov : Nat} {sa : Int32} {cp : Int32} {po : Int32} {li : Int32} {mk : Int32} {rd : Int32} {xx : Int32} {M0 : zM} (C : z_C X cc RX0 nL rm) (d : decode cc pc = .ok (.putfield 52, 3)) (kk : z_W X (z_up M0 a (cPn ov sa cp po li xx rd)) k n (pc + 3) lv st) : z_W X (z_up M0 a (cPn ov sa cp po li mk rd)) k n pc lv (.int xx :: .ref a :: st) := pf_X0_52 C (z_up_s _ _ _) d (by rw [z_up_up]; exact kk)
theorem gf_X1_9 {ov : Nat} {sa : Int32} {cp : Int32} {po : Int32} {li : Int32} {mk : Int32} {rd : Int32} (C : z_C X cc RX1 nL rm) (hM : M a = some (cPn ov sa cp po li mk rd)) (d : decode cc pc = .ok (.getfield 9, 3)) (kk : z_W X M k n (pc + 3) lv (.ref ov :: st)) : z_W X M k n pc lv (.ref a :: st) := z_get C (T := TX1) (N := 7) (ci := 5) rfl inX1 0 (by decide) kw56 hM rfl d kk
theorem pf_X1_9 {ov : Nat} {sa : Int32} {cp : Int32} {po : Int32} {li : Int32} {mk : Int32} {rd : Int32} {xx : Nat} (C : z_C X cc RX1 nL rm) (hM : M a = some (cPn ov sa cp po li mk rd)) (d : decode cc pc = .ok (.putfield 9, 3)) (kk : z_W X (z_up M a (cPn xx sa cp po li mk rd)) k n (pc + 3) lv st) : z_W X M k n pc lv (.ref xx :: .ref a :: st) := z_put C (T := TX1) (N := 7) (ci := 5) (ty := .object "Manypanes$Row") rfl inX1 tyX1 tyX1_ok nmX1 0 (by decide) kw56 rfl (by decide +kernel) hM (show 0 < 7 by decide) rfl rfl d kk
theorem pg_X1_9 {ov : Nat} {sa : Int32} {cp : Int32} {po : Int32} {li : Int32} {mk : Int32} {rd : Int32} {xx : Nat} {M0 : zM} (C : z_C X cc RX1 nL rm) (d : decode cc pc = .ok (.putfield 9, 3)) (kk : z_W X (z_up M0 a (cPn xx sa cp po li mk rd)) k n (pc + 3) lv st) : z_W X (z_up M0 a (cPn ov sa cp po li mk rd)) k n pc lv (.ref xx :: .ref a :: st) := pf_X1_9 C (z_up_s _ _ _) d (by rw [z_up_up]; exact kk)
theorem gf_X1_15 {ov : Nat} {sa : Int32} {cp : Int32} {po : Int32} {li : Int32} {mk : Int32} {rd : Int32} (C : z_C X cc RX1 nL rm) (hM : M a = some (cPn ov sa cp po li mk rd)) (d : decode cc pc = .ok (.getfield 15, 3)) (kk : z_W X M k n (pc + 3) lv (.int sa :: st)) : z_W X M k n pc lv (.ref a :: st) := z_get C (T := TX1) (N := 7) (ci := 5) rfl inX1 1 (by decide) kw58 hM rfl d kk
theorem pf_X1_15 {ov : Nat} {sa : Int32} {cp : Int32} {po : Int32} {li : Int32} {mk : Int32} {rd : Int32} {xx : Int32} (C : z_C X cc RX1 nL rm) (hM : M a = some (cPn ov sa cp po li mk rd)) (d : decode cc pc = .ok (.putfield 15, 3)) (kk : z_W X (z_up M a (cPn ov xx cp po li mk rd)) k n (pc + 3) lv st) : z_W X M k n pc lv (.int xx :: .ref a :: st) := z_put C (T := TX1) (N := 7) (ci := 5) (ty := .int) rfl inX1 tyX1 tyX1_ok nmX1 1 (by decide) kw58 rfl (by decide +kernel) hM (show 1 < 7 by decide) rfl rfl d kk
theorem pg_X1_15 {ov : Nat} {sa : Int32} {cp : Int32} {po : Int32} {li : Int32} {mk : Int32} {rd : Int32} {xx : Int32} {M0 : zM} (C : z_C X cc RX1 nL rm) (d : decode cc pc = .ok (.putfield 15, 3)) (kk : z_W X (z_up M0 a (cPn ov xx cp po li mk rd)) k n (pc + 3) lv st) : z_W X (z_up M0 a (cPn ov sa cp po li mk rd)) k n pc lv (.int xx :: .ref a :: st) := pf_X1_15 C (z_up_s _ _ _) d (by rw [z_up_up]; exact kk)
theorem gf_X1_25 {ov : Nat} {sa : Int32} {cp : Int32} {po : Int32} {li : Int32} {mk : Int32} {rd : Int32} (C : z_C X cc RX1 nL rm) (hM : M a = some (cPn ov sa cp po li mk rd)) (d : decode cc pc = .ok (.getfield 25, 3)) (kk : z_W X M k n (pc + 3) lv (.int cp :: st)) : z_W X M k n pc lv (.ref a :: st) := z_get C (T := TX1) (N := 7) (ci := 5) rfl inX1 2 (by decide) kw60 hM rfl d kk
theorem pf_X1_25 {ov : Nat} {sa : Int32} {cp : Int32} {po : Int32} {li : Int32} {mk : Int32} {rd : Int32} {xx : Int32} (C : z_C X cc RX1 nL rm) (hM : M a = some (cPn ov sa cp po li mk rd)) (d : decode cc pc = .ok (.putfield 25, 3)) (kk : z_W X (z_up M a (cPn ov sa xx po li mk rd)) k n (pc + 3) lv st) : z_W X M k n pc lv (.int xx :: .ref a :: st) := z_put C (T := TX1) (N := 7) (ci := 5) (ty := .int) rfl inX1 tyX1 tyX1_ok nmX1 2 (by decide) kw60 rfl (by decide +kernel) hM (show 2 < 7 by decide) rfl rfl d kk
theorem pg_X1_25 {ov : Nat} {sa : Int32} {cp : Int32} {po : Int32} {li : Int32} {mk : Int32} {rd : Int32} {xx : Int32} {M0 : zM} (C : z_C X cc RX1 nL rm) (d : decode cc pc = .ok (.putfield 25, 3)) (kk : z_W X (z_up M0 a (cPn ov sa xx po li mk rd)) k n (pc + 3) lv st) : z_W X (z_up M0 a (cPn ov sa cp po li mk rd)) k n pc lv (.int xx :: .ref a :: st) := pf_X1_25 C (z_up_s _ _ _) d (by rw [z_up_up]; exact kk)
theorem gf_X1_28 {ov : Nat} {sa : Int32} {cp : Int32} {po : Int32} {li : Int32} {mk : Int32} {rd : Int32} (C : z_C X cc RX1 nL rm) (hM : M a = some (cPn ov sa cp po li mk rd)) (d : decode cc pc = .ok (.getfield 28, 3)) (kk : z_W X M k n (pc + 3) lv (.int po :: st)) : z_W X M k n pc lv (.ref a :: st) := z_get C (T := TX1) (N := 7) (ci := 5) rfl inX1 3 (by decide) kw63 hM rfl d kk
theorem pf_X1_28 {ov : Nat} {sa : Int32} {cp : Int32} {po : Int32} {li : Int32} {mk : Int32} {rd : Int32} {xx : Int32} (C : z_C X cc RX1 nL rm) (hM : M a = some (cPn ov sa cp po li mk rd)) (d : decode cc pc = .ok (.putfield 28, 3)) (kk : z_W X (z_up M a (cPn ov sa cp xx li mk rd)) k n (pc + 3) lv st) : z_W X M k n pc lv (.int xx :: .ref a :: st) := z_put C (T := TX1) (N := 7) (ci := 5) (ty := .int) rfl inX1 tyX1 tyX1_ok nmX1 3 (by decide) kw63 rfl (by decide +kernel) hM (show 3 < 7 by decide) rfl rfl d kk
theorem pg_X1_28 {ov : Nat} {sa : Int32} {cp : Int32} {po : Int32} {li : Int32} {mk : Int32} {rd : Int32} {xx : Int32} {M0 : zM} (C : z_C X cc RX1 nL rm) (d : decode cc pc = .ok (.putfield 28, 3)) (kk : z_W X (z_up M0 a (cPn ov sa cp xx li mk rd)) k n (pc + 3) lv st) : z_W X (z_up M0 a (cPn ov sa cp po li mk rd)) k n pc lv (.int xx :: .ref a :: st) := pf_X1_28 C (z_up_s _ _ _) d (by rw [z_up_up]; exact kk)
theorem gf_X1_31 {ov : Nat} {sa : Int32} {cp : Int32} {po : Int32} {li : Int32} {mk : Int32} {rd : Int32} (C : z_C X cc RX1 nL rm) (hM : M a = some (cPn ov sa cp po li mk rd)) (d : decode cc pc = .ok (.getfield 31, 3)) (kk : z_W X M k n (pc + 3) lv (.int li :: st)) : z_W X M k n pc lv (.ref a :: st) := z_get C (T := TX1) (N := 7) (ci := 5) rfl inX1 4 (by decide) kw66 hM rfl d kk
theorem pf_X1_31 {ov : Nat} {sa : Int32} {cp : Int32} {po : Int32} {li : Int32} {mk : Int32} {rd : Int32} {xx : Int32} (C : z_C X cc RX1 nL rm) (hM : M a = some (cPn ov sa cp po li mk rd)) (d : decode cc pc = .ok (.putfield 31, 3)) (kk : z_W X (z_up M a (cPn ov sa cp po xx mk rd)) k n (pc + 3) lv st) : z_W X M k n pc lv (.int xx :: .ref a :: st) := z_put C (T := TX1) (N := 7) (ci := 5) (ty := .int) rfl inX1 tyX1 tyX1_ok nmX1 4 (by decide) kw66 rfl (by decide +kernel) hM (show 4 < 7 by decide) rfl rfl d kk
theorem pg_X1_31 {ov : Nat} {sa : Int32} {cp : Int32} {po : Int32} {li : Int32} {mk : Int32} {rd : Int32} {xx : Int32} {M0 : zM} (C : z_C X cc RX1 nL rm) (d : decode cc pc = .ok (.putfield 31, 3)) (kk : z_W X (z_up M0 a (cPn ov sa cp po xx mk rd)) k n (pc + 3) lv st) : z_W X (z_up M0 a (cPn ov sa cp po li mk rd)) k n pc lv (.int xx :: .ref a :: st) := pf_X1_31 C (z_up_s _ _ _) d (by rw [z_up_up]; exact kk)
theorem gf_X1_34 {ov : Nat} {sa : Int32} {cp : Int32} {po : Int32} {li : Int32} {mk : Int32} {rd : Int32} (C : z_C X cc RX1 nL rm) (hM : M a = some (cPn ov sa cp po li mk rd)) (d : decode cc pc = .ok (.getfield 34, 3)) (kk : z_W X M k n (pc + 3) lv (.int mk :: st)) : z_W X M k n pc lv (.ref a :: st) := z_get C (T := TX1) (N := 7) (ci := 5) rfl inX1 5 (by decide) kw69 hM rfl d kk
theorem pf_X1_34 {ov : Nat} {sa : Int32} {cp : Int32} {po : Int32} {li : Int32} {mk : Int32} {rd : Int32} {xx : Int32} (C : z_C X cc RX1 nL rm) (hM : M a = some (cPn ov sa cp po li mk rd)) (d : decode cc pc = .ok (.putfield 34, 3)) (kk : z_W X (z_up M a (cPn ov sa cp po li xx rd)) k n (pc + 3) lv st) : z_W X M k n pc lv (.int xx :: .ref a :: st) := z_put C (T := TX1) (N := 7) (ci := 5) (ty := .int) rfl inX1 tyX1 tyX1_ok nmX1 5 (by decide) kw69 rfl (by decide +kernel) hM (show 5 < 7 by decide) rfl rfl d kk
theorem pg_X1_34 {ov : Nat} {sa : Int32} {cp : Int32} {po : Int32} {li : Int32} {mk : Int32} {rd : Int32} {xx : Int32} {M0 : zM} (C : z_C X cc RX1 nL rm) (d : decode cc pc = .ok (.putfield 34, 3)) (kk : z_W X (z_up M0 a (cPn ov sa cp po li xx rd)) k n (pc + 3) lv st) : z_W X (z_up M0 a (cPn ov sa cp po li mk rd)) k n pc lv (.int xx :: .ref a :: st) := pf_X1_34 C (z_up_s _ _ _) d (by rw [z_up_up]; exact kk)
theorem gf_X1_37 {ov : Nat} {sa : Int32} {cp : Int32} {po : Int32} {li : Int32} {mk : Int32} {rd : Int32} (C : z_C X cc RX1 nL rm) (hM : M a = some (cPn ov sa cp po li mk rd)) (d : decode cc pc = .ok (.getfield 37, 3)) (kk : z_W X M k n (pc + 3) lv (.int rd :: st)) : z_W X M k n pc lv (.ref a :: st) := z_get C (T := TX1) (N := 7) (ci := 5) rfl inX1 6 (by decide) kw72 hM rfl d kk
theorem pf_X1_37 {ov : Nat} {sa : Int32} {cp : Int32} {po : Int32} {li : Int32} {mk : Int32} {rd : Int32} {xx : Int32} (C : z_C X cc RX1 nL rm) (hx : narrow .boolean (.int xx) = .int xx) (hf : fits .boolean (.int xx) = true) (hM : M a = some (cPn ov sa cp po li mk rd)) (d : decode cc pc = .ok (.putfield 37, 3)) (kk : z_W X (z_up M a (cPn ov sa cp po li mk xx)) k n (pc + 3) lv st) : z_W X M k n pc lv (.int xx :: .ref a :: st) := z_put C (T := TX1) (N := 7) (ci := 5) (ty := .boolean) rfl inX1 tyX1 tyX1_ok nmX1 6 (by decide) kw72 rfl (by decide +kernel) hM (show 6 < 7 by decide) hx hf d kk
theorem pg_X1_37 {ov : Nat} {sa : Int32} {cp : Int32} {po : Int32} {li : Int32} {mk : Int32} {rd : Int32} {xx : Int32} {M0 : zM} (C : z_C X cc RX1 nL rm) (hx : narrow .boolean (.int xx) = .int xx) (hf : fits .boolean (.int xx) = true) (d : decode cc pc = .ok (.putfield 37, 3)) (kk : z_W X (z_up M0 a (cPn ov sa cp po li mk xx)) k n (pc + 3) lv st) : z_W X (z_up M0 a (cPn ov sa cp po li mk rd)) k n pc lv (.int xx :: .ref a :: st) := pf_X1_37 C hx hf (z_up_s _ _ _) d (by rw [z_up_up]; exact kk)
theorem gf_X2_7 {vs : Nat} (C : z_C X cc RX2 nL rm) (hM : M a = some (cRw vs)) (d : decode cc pc = .ok (.getfield 7, 3)) (kk : z_W X M k n (pc + 3) lv (.ref vs :: st)) : z_W X M k n pc lv (.ref a :: st) := z_get C (T := TX2) (N := 1) (ci := 6) rfl inX2 0 (by decide) kw40 hM rfl d kk
theorem pf_X2_7 {xx : Nat} (C : z_C X cc RX2 nL rm) (hini : (z_me X).name = "<init>") (fs : List Value) (hfs : 0 < fs.length) (hM : M a = some (.inr (6, fs))) (d : decode cc pc = .ok (.putfield 7, 3)) (kk : z_W X (z_up M a (.inr (6, fs.set 0 (.ref xx)))) k n (pc + 3) lv st) : z_W X M k n pc lv (.ref xx :: .ref a :: st) := z_putF C (T := TX2) (N := 1) (ci := 6) (ty := .array .int) hini rfl inX2 tyX2 tyX2_ok nmX2 0 (by decide) kw40 rfl rfl (by decide +kernel) hM hfs rfl rfl d kk
theorem gf_L_13 {on : Int64} {os : Option Nat} (C : z_C X cc RL nL rm) (hM : M a = some (cOu on os)) (d : decode cc pc = .ok (.getfield 13, 3)) (kk : z_W X M k n (pc + 3) lv (.long on :: st)) : z_W X M k n pc lv (.ref a :: st) := z_getN (host := "ManypanesLaw") C (T := TX4) (N := 2) (ci := 8) rfl inX4 0 (by decide) kn683 hM rfl d kk
theorem pf_L_13 {on : Int64} {os : Option Nat} {xx : Int64} (C : z_C X cc RL nL rm) (hM : M a = some (cOu on os)) (d : decode cc pc = .ok (.putfield 13, 3)) (kk : z_W X (z_up M a (cOu xx os)) k n (pc + 3) lv st) : z_W X M k n pc lv (.long xx :: .ref a :: st) := z_putN (host := "ManypanesLaw") C (T := TX4) (N := 2) (ci := 8) (ty := .long) rfl inX4 tyX4 tyX4_ok nmX4 0 (by decide) kn683 rfl (by decide +kernel) hM (show 0 < 2 by decide) rfl rfl d kk
theorem pg_L_13 {on : Int64} {os : Option Nat} {xx : Int64} {M0 : zM} (C : z_C X cc RL nL rm) (d : decode cc pc = .ok (.putfield 13, 3)) (kk : z_W X (z_up M0 a (cOu xx os)) k n (pc + 3) lv st) : z_W X (z_up M0 a (cOu on os)) k n pc lv (.long xx :: .ref a :: st) := pf_L_13 C (z_up_s _ _ _) d (by rw [z_up_up]; exact kk)
theorem gf_L_117 {on : Int64} {os : Option Nat} (C : z_C X cc RL nL rm) (hM : M a = some (cOu on os)) (d : decode cc pc = .ok (.getfield 117, 3)) (kk : z_W X M k n (pc + 3) lv (va_rf os :: st)) : z_W X M k n pc lv (.ref a :: st) := z_getN (host := "ManypanesLaw") C (T := TX4) (N := 2) (ci := 8) rfl inX4 1 (by decide) kn684 hM rfl d kk
theorem pf_L_117 {on : Int64} {os : Option Nat} {xx : Option Nat} (C : z_C X cc RL nL rm) (hM : M a = some (cOu on os)) (d : decode cc pc = .ok (.putfield 117, 3)) (kk : z_W X (z_up M a (cOu on xx)) k n (pc + 3) lv st) : z_W X M k n pc lv (va_rf xx :: .ref a :: st) := z_putN (host := "ManypanesLaw") C (T := TX4) (N := 2) (ci := 8) (ty := .object "java/lang/String") rfl inX4 tyX4 tyX4_ok nmX4 1 (by decide) kn684 rfl (by decide +kernel) hM (show 1 < 2 by decide) (by cases xx <;> rfl) (by cases xx <;> rfl) d kk
theorem pg_L_117 {on : Int64} {os : Option Nat} {xx : Option Nat} {M0 : zM} (C : z_C X cc RL nL rm) (d : decode cc pc = .ok (.putfield 117, 3)) (kk : z_W X (z_up M0 a (cOu on xx)) k n (pc + 3) lv st) : z_W X (z_up M0 a (cOu on os)) k n pc lv (va_rf xx :: .ref a :: st) := pf_L_117 C (z_up_s _ _ _) d (by rw [z_up_up]; exact kk)
theorem gf_X5_9 {tp : Nat} {ro : Int32} {pn : Nat} {td : Nat} {ac : Int32} {kn : Int32} {th : Int32} (C : z_C X cc RX5 nL rm) (hM : M a = some (cMd tp ro pn td ac kn th)) (d : decode cc pc = .ok (.getfield 9, 3)) (kk : z_W X M k n (pc + 3) lv (.ref tp :: st)) : z_W X M k n pc lv (.ref a :: st) := z_get C (T := TX5) (N := 7) (ci := 9) rfl inX5 0 (by decide) kw1050 hM rfl d kk
theorem pf_X5_9 {tp : Nat} {ro : Int32} {pn : Nat} {td : Nat} {ac : Int32} {kn : Int32} {th : Int32} {xx : Nat} (C : z_C X cc RX5 nL rm) (hM : M a = some (cMd tp ro pn td ac kn th)) (d : decode cc pc = .ok (.putfield 9, 3)) (kk : z_W X (z_up M a (cMd xx ro pn td ac kn th)) k n (pc + 3) lv st) : z_W X M k n pc lv (.ref xx :: .ref a :: st) := z_put C (T := TX5) (N := 7) (ci := 9) (ty := .array .int) rfl inX5 tyX5 tyX5_ok nmX5 0 (by decide) kw1050 rfl (by decide +kernel) hM (show 0 < 7 by decide) rfl rfl d kk
theorem pg_X5_9 {tp : Nat} {ro : Int32} {pn : Nat} {td : Nat} {ac : Int32} {kn : Int32} {th : Int32} {xx : Nat} {M0 : zM} (C : z_C X cc RX5 nL rm) (d : decode cc pc = .ok (.putfield 9, 3)) (kk : z_W X (z_up M0 a (cMd xx ro pn td ac kn th)) k n (pc + 3) lv st) : z_W X (z_up M0 a (cMd tp ro pn td ac kn th)) k n pc lv (.ref xx :: .ref a :: st) := pf_X5_9 C (z_up_s _ _ _) d (by rw [z_up_up]; exact kk)
theorem gf_X5_13 {tp : Nat} {ro : Int32} {pn : Nat} {td : Nat} {ac : Int32} {kn : Int32} {th : Int32} (C : z_C X cc RX5 nL rm) (hM : M a = some (cMd tp ro pn td ac kn th)) (d : decode cc pc = .ok (.getfield 13, 3)) (kk : z_W X M k n (pc + 3) lv (.int ro :: st)) : z_W X M k n pc lv (.ref a :: st) := z_get C (T := TX5) (N := 7) (ci := 9) rfl inX5 1 (by decide) kw1051 hM rfl d kk
theorem pf_X5_13 {tp : Nat} {ro : Int32} {pn : Nat} {td : Nat} {ac : Int32} {kn : Int32} {th : Int32} {xx : Int32} (C : z_C X cc RX5 nL rm) (hM : M a = some (cMd tp ro pn td ac kn th)) (d : decode cc pc = .ok (.putfield 13, 3)) (kk : z_W X (z_up M a (cMd tp xx pn td ac kn th)) k n (pc + 3) lv st) : z_W X M k n pc lv (.int xx :: .ref a :: st) := z_put C (T := TX5) (N := 7) (ci := 9) (ty := .int) rfl inX5 tyX5 tyX5_ok nmX5 1 (by decide) kw1051 rfl (by decide +kernel) hM (show 1 < 7 by decide) rfl rfl d kk
theorem pg_X5_13 {tp : Nat} {ro : Int32} {pn : Nat} {td : Nat} {ac : Int32} {kn : Int32} {th : Int32} {xx : Int32} {M0 : zM} (C : z_C X cc RX5 nL rm) (d : decode cc pc = .ok (.putfield 13, 3)) (kk : z_W X (z_up M0 a (cMd tp xx pn td ac kn th)) k n (pc + 3) lv st) : z_W X (z_up M0 a (cMd tp ro pn td ac kn th)) k n pc lv (.int xx :: .ref a :: st) := pf_X5_13 C (z_up_s _ _ _) d (by rw [z_up_up]; exact kk)
theorem gf_X5_18 {tp : Nat} {ro : Int32} {pn : Nat} {td : Nat} {ac : Int32} {kn : Int32} {th : Int32} (C : z_C X cc RX5 nL rm) (hM : M a = some (cMd tp ro pn td ac kn th)) (d : decode cc pc = .ok (.getfield 18, 3)) (kk : z_W X M k n (pc + 3) lv (.ref pn :: st)) : z_W X M k n pc lv (.ref a :: st) := z_get C (T := TX5) (N := 7) (ci := 9) rfl inX5 2 (by decide) kw1052 hM rfl d kk
theorem pf_X5_18 {xx : Nat} (C : z_C X cc RX5 nL rm) (hini : (z_me X).name = "<init>") (fs : List Value) (hfs : 2 < fs.length) (hM : M a = some (.inr (9, fs))) (d : decode cc pc = .ok (.putfield 18, 3)) (kk : z_W X (z_up M a (.inr (9, fs.set 2 (.ref xx)))) k n (pc + 3) lv st) : z_W X M k n pc lv (.ref xx :: .ref a :: st) := z_putF C (T := TX5) (N := 7) (ci := 9) (ty := .array (.array .int)) hini rfl inX5 tyX5 tyX5_ok nmX5 2 (by decide) kw1052 rfl rfl (by decide +kernel) hM hfs rfl rfl d kk
theorem gf_X5_22 {tp : Nat} {ro : Int32} {pn : Nat} {td : Nat} {ac : Int32} {kn : Int32} {th : Int32} (C : z_C X cc RX5 nL rm) (hM : M a = some (cMd tp ro pn td ac kn th)) (d : decode cc pc = .ok (.getfield 22, 3)) (kk : z_W X M k n (pc + 3) lv (.ref td :: st)) : z_W X M k n pc lv (.ref a :: st) := z_get C (T := TX5) (N := 7) (ci := 9) rfl inX5 3 (by decide) kw1053 hM rfl d kk
theorem pf_X5_22 {xx : Nat} (C : z_C X cc RX5 nL rm) (hini : (z_me X).name = "<init>") (fs : List Value) (hfs : 3 < fs.length) (hM : M a = some (.inr (9, fs))) (d : decode cc pc = .ok (.putfield 22, 3)) (kk : z_W X (z_up M a (.inr (9, fs.set 3 (.ref xx)))) k n (pc + 3) lv st) : z_W X M k n pc lv (.ref xx :: .ref a :: st) := z_putF C (T := TX5) (N := 7) (ci := 9) (ty := .array .int) hini rfl inX5 tyX5 tyX5_ok nmX5 3 (by decide) kw1053 rfl rfl (by decide +kernel) hM hfs rfl rfl d kk
theorem gf_X5_33 {tp : Nat} {ro : Int32} {pn : Nat} {td : Nat} {ac : Int32} {kn : Int32} {th : Int32} (C : z_C X cc RX5 nL rm) (hM : M a = some (cMd tp ro pn td ac kn th)) (d : decode cc pc = .ok (.getfield 33, 3)) (kk : z_W X M k n (pc + 3) lv (.int th :: st)) : z_W X M k n pc lv (.ref a :: st) := z_get C (T := TX5) (N := 7) (ci := 9) rfl inX5 6 (by decide) kw1056 hM rfl d kk
theorem pf_X5_33 {tp : Nat} {ro : Int32} {pn : Nat} {td : Nat} {ac : Int32} {kn : Int32} {th : Int32} {xx : Int32} (C : z_C X cc RX5 nL rm) (hM : M a = some (cMd tp ro pn td ac kn th)) (d : decode cc pc = .ok (.putfield 33, 3)) (kk : z_W X (z_up M a (cMd tp ro pn td ac kn xx)) k n (pc + 3) lv st) : z_W X M k n pc lv (.int xx :: .ref a :: st) := z_put C (T := TX5) (N := 7) (ci := 9) (ty := .int) rfl inX5 tyX5 tyX5_ok nmX5 6 (by decide) kw1056 rfl (by decide +kernel) hM (show 6 < 7 by decide) rfl rfl d kk
theorem pg_X5_33 {tp : Nat} {ro : Int32} {pn : Nat} {td : Nat} {ac : Int32} {kn : Int32} {th : Int32} {xx : Int32} {M0 : zM} (C : z_C X cc RX5 nL rm) (d : decode cc pc = .ok (.putfield 33, 3)) (kk : z_W X (z_up M0 a (cMd tp ro pn td ac kn xx)) k n (pc + 3) lv st) : z_W X (z_up M0 a (cMd tp ro pn td ac kn th)) k n pc lv (.int xx :: .ref a :: st) := pf_X5_33 C (z_up_s _ _ _) d (by rw [z_up_up]; exact kk)
theorem gf_X5_40 {tp : Nat} {ro : Int32} {pn : Nat} {td : Nat} {ac : Int32} {kn : Int32} {th : Int32} (C : z_C X cc RX5 nL rm) (hM : M a = some (cMd tp ro pn td ac kn th)) (d : decode cc pc = .ok (.getfield 40, 3)) (kk : z_W X M k n (pc + 3) lv (.int ac :: st)) : z_W X M k n pc lv (.ref a :: st) := z_get C (T := TX5) (N := 7) (ci := 9) rfl inX5 4 (by decide) kw1054 hM rfl d kk
theorem pf_X5_40 {tp : Nat} {ro : Int32} {pn : Nat} {td : Nat} {ac : Int32} {kn : Int32} {th : Int32} {xx : Int32} (C : z_C X cc RX5 nL rm) (hM : M a = some (cMd tp ro pn td ac kn th)) (d : decode cc pc = .ok (.putfield 40, 3)) (kk : z_W X (z_up M a (cMd tp ro pn td xx kn th)) k n (pc + 3) lv st) : z_W X M k n pc lv (.int xx :: .ref a :: st) := z_put C (T := TX5) (N := 7) (ci := 9) (ty := .int) rfl inX5 tyX5 tyX5_ok nmX5 4 (by decide) kw1054 rfl (by decide +kernel) hM (show 4 < 7 by decide) rfl rfl d kk
theorem pg_X5_40 {tp : Nat} {ro : Int32} {pn : Nat} {td : Nat} {ac : Int32} {kn : Int32} {th : Int32} {xx : Int32} {M0 : zM} (C : z_C X cc RX5 nL rm) (d : decode cc pc = .ok (.putfield 40, 3)) (kk : z_W X (z_up M0 a (cMd tp ro pn td xx kn th)) k n (pc + 3) lv st) : z_W X (z_up M0 a (cMd tp ro pn td ac kn th)) k n pc lv (.int xx :: .ref a :: st) := pf_X5_40 C (z_up_s _ _ _) d (by rw [z_up_up]; exact kk)
theorem gf_X5_139 {tp : Nat} {ro : Int32} {pn : Nat} {td : Nat} {ac : Int32} {kn : Int32} {th : Int32} (C : z_C X cc RX5 nL rm) (hM : M a = some (cMd tp ro pn td ac kn th)) (d : decode cc pc = .ok (.getfield 139, 3)) (kk : z_W X M k n (pc + 3) lv (.int kn :: st)) : z_W X M k n pc lv (.ref a :: st) := z_get C (T := TX5) (N := 7) (ci := 9) rfl inX5 5 (by decide) kw1055 hM rfl d kk
theorem pf_X5_139 {tp : Nat} {ro : Int32} {pn : Nat} {td : Nat} {ac : Int32} {kn : Int32} {th : Int32} {xx : Int32} (C : z_C X cc RX5 nL rm) (hM : M a = some (cMd tp ro pn td ac kn th)) (d : decode cc pc = .ok (.putfield 139, 3)) (kk : z_W X (z_up M a (cMd tp ro pn td ac xx th)) k n (pc + 3) lv st) : z_W X M k n pc lv (.int xx :: .ref a :: st) := z_put C (T := TX5) (N := 7) (ci := 9) (ty := .int) rfl inX5 tyX5 tyX5_ok nmX5 5 (by decide) kw1055 rfl (by decide +kernel) hM (show 5 < 7 by decide) rfl rfl d kk
theorem pg_X5_139 {tp : Nat} {ro : Int32} {pn : Nat} {td : Nat} {ac : Int32} {kn : Int32} {th : Int32} {xx : Int32} {M0 : zM} (C : z_C X cc RX5 nL rm) (d : decode cc pc = .ok (.putfield 139, 3)) (kk : z_W X (z_up M0 a (cMd tp ro pn td ac xx th)) k n (pc + 3) lv st) : z_W X (z_up M0 a (cMd tp ro pn td ac kn th)) k n pc lv (.int xx :: .ref a :: st) := pf_X5_139 C (z_up_s _ _ _) d (by rw [z_up_up]; exact kk)
theorem gf_J5_15 {vb : Nat} {co : Int32} {ml : Int32} {ct : Int32} (C : z_C X cc RJ5 nL rm) (hM : M a = some (cSb vb co ml ct)) (d : decode cc pc = .ok (.getfield 15, 3)) (kk : z_W X M k n (pc + 3) lv (.ref vb :: st)) : z_W X M k n pc lv (.ref a :: st) := z_get C (T := TJ4) (N := 4) (ci := 1) rfl inJ4 0 (by decide) kw113 hM rfl d kk
theorem pf_J5_15 {vb : Nat} {co : Int32} {ml : Int32} {ct : Int32} {xx : Nat} (C : z_C X cc RJ5 nL rm) (hM : M a = some (cSb vb co ml ct)) (d : decode cc pc = .ok (.putfield 15, 3)) (kk : z_W X (z_up M a (cSb xx co ml ct)) k n (pc + 3) lv st) : z_W X M k n pc lv (.ref xx :: .ref a :: st) := z_put C (T := TJ4) (N := 4) (ci := 1) (ty := .array .byte) rfl inJ4 tyJ4 tyJ4_ok nmJ4 0 (by decide) kw113 rfl (by decide +kernel) hM (show 0 < 4 by decide) rfl rfl d kk
theorem pg_J5_15 {vb : Nat} {co : Int32} {ml : Int32} {ct : Int32} {xx : Nat} {M0 : zM} (C : z_C X cc RJ5 nL rm) (d : decode cc pc = .ok (.putfield 15, 3)) (kk : z_W X (z_up M0 a (cSb xx co ml ct)) k n (pc + 3) lv st) : z_W X (z_up M0 a (cSb vb co ml ct)) k n pc lv (.ref xx :: .ref a :: st) := pf_J5_15 C (z_up_s _ _ _) d (by rw [z_up_up]; exact kk)
theorem gf_J5_22 {vb : Nat} {co : Int32} {ml : Int32} {ct : Int32} (C : z_C X cc RJ5 nL rm) (hM : M a = some (cSb vb co ml ct)) (d : decode cc pc = .ok (.getfield 22, 3)) (kk : z_W X M k n (pc + 3) lv (.int co :: st)) : z_W X M k n pc lv (.ref a :: st) := z_get C (T := TJ4) (N := 4) (ci := 1) rfl inJ4 1 (by decide) kw114 hM rfl d kk
theorem pf_J5_22 {vb : Nat} {co : Int32} {ml : Int32} {ct : Int32} {xx : Int32} (C : z_C X cc RJ5 nL rm) (hx : narrow .byte (.int xx) = .int xx) (hf : fits .byte (.int xx) = true) (hM : M a = some (cSb vb co ml ct)) (d : decode cc pc = .ok (.putfield 22, 3)) (kk : z_W X (z_up M a (cSb vb xx ml ct)) k n (pc + 3) lv st) : z_W X M k n pc lv (.int xx :: .ref a :: st) := z_put C (T := TJ4) (N := 4) (ci := 1) (ty := .byte) rfl inJ4 tyJ4 tyJ4_ok nmJ4 1 (by decide) kw114 rfl (by decide +kernel) hM (show 1 < 4 by decide) hx hf d kk
theorem pg_J5_22 {vb : Nat} {co : Int32} {ml : Int32} {ct : Int32} {xx : Int32} {M0 : zM} (C : z_C X cc RJ5 nL rm) (hx : narrow .byte (.int xx) = .int xx) (hf : fits .byte (.int xx) = true) (d : decode cc pc = .ok (.putfield 22, 3)) (kk : z_W X (z_up M0 a (cSb vb xx ml ct)) k n (pc + 3) lv st) : z_W X (z_up M0 a (cSb vb co ml ct)) k n pc lv (.int xx :: .ref a :: st) := pf_J5_22 C hx hf (z_up_s _ _ _) d (by rw [z_up_up]; exact kk)
theorem gf_J5_73 {vb : Nat} {co : Int32} {ml : Int32} {ct : Int32} (C : z_C X cc RJ5 nL rm) (hM : M a = some (cSb vb co ml ct)) (d : decode cc pc = .ok (.getfield 73, 3)) (kk : z_W X M k n (pc + 3) lv (.int ml :: st)) : z_W X M k n pc lv (.ref a :: st) := z_get C (T := TJ4) (N := 4) (ci := 1) rfl inJ4 2 (by decide) kw115 hM rfl d kk
theorem pf_J5_73 {vb : Nat} {co : Int32} {ml : Int32} {ct : Int32} {xx : Int32} (C : z_C X cc RJ5 nL rm) (hx : narrow .boolean (.int xx) = .int xx) (hf : fits .boolean (.int xx) = true) (hM : M a = some (cSb vb co ml ct)) (d : decode cc pc = .ok (.putfield 73, 3)) (kk : z_W X (z_up M a (cSb vb co xx ct)) k n (pc + 3) lv st) : z_W X M k n pc lv (.int xx :: .ref a :: st) := z_put C (T := TJ4) (N := 4) (ci := 1) (ty := .boolean) rfl inJ4 tyJ4 tyJ4_ok nmJ4 2 (by decide) kw115 rfl (by decide +kernel) hM (show 2 < 4 by decide) hx hf d kk
theorem pg_J5_73 {vb : Nat} {co : Int32} {ml : Int32} {ct : Int32} {xx : Int32} {M0 : zM} (C : z_C X cc RJ5 nL rm) (hx : narrow .boolean (.int xx) = .int xx) (hf : fits .boolean (.int xx) = true) (d : decode cc pc = .ok (.putfield 73, 3)) (kk : z_W X (z_up M0 a (cSb vb co xx ct)) k n (pc + 3) lv st) : z_W X (z_up M0 a (cSb vb co ml ct)) k n pc lv (.int xx :: .ref a :: st) := pf_J5_73 C hx hf (z_up_s _ _ _) d (by rw [z_up_up]; exact kk)
theorem gf_J5_79 {vb : Nat} {co : Int32} {ml : Int32} {ct : Int32} (C : z_C X cc RJ5 nL rm) (hM : M a = some (cSb vb co ml ct)) (d : decode cc pc = .ok (.getfield 79, 3)) (kk : z_W X M k n (pc + 3) lv (.int ct :: st)) : z_W X M k n pc lv (.ref a :: st) := z_get C (T := TJ4) (N := 4) (ci := 1) rfl inJ4 3 (by decide) kw117 hM rfl d kk
theorem pf_J5_79 {vb : Nat} {co : Int32} {ml : Int32} {ct : Int32} {xx : Int32} (C : z_C X cc RJ5 nL rm) (hM : M a = some (cSb vb co ml ct)) (d : decode cc pc = .ok (.putfield 79, 3)) (kk : z_W X (z_up M a (cSb vb co ml xx)) k n (pc + 3) lv st) : z_W X M k n pc lv (.int xx :: .ref a :: st) := z_put C (T := TJ4) (N := 4) (ci := 1) (ty := .int) rfl inJ4 tyJ4 tyJ4_ok nmJ4 3 (by decide) kw117 rfl (by decide +kernel) hM (show 3 < 4 by decide) rfl rfl d kk
theorem pg_J5_79 {vb : Nat} {co : Int32} {ml : Int32} {ct : Int32} {xx : Int32} {M0 : zM} (C : z_C X cc RJ5 nL rm) (d : decode cc pc = .ok (.putfield 79, 3)) (kk : z_W X (z_up M0 a (cSb vb co ml xx)) k n (pc + 3) lv st) : z_W X (z_up M0 a (cSb vb co ml ct)) k n pc lv (.int xx :: .ref a :: st) := pf_J5_79 C (z_up_s _ _ _) d (by rw [z_up_up]; exact kk)
theorem gf_J0_9 {vb : Nat} {co : Int32} {ha : Int32} {hz : Int32} (C : z_C X cc RJ0 nL rm) (hM : M a = some (cSt vb co ha hz)) (d : decode cc pc = .ok (.getfield 9, 3)) (kk : z_W X M k n (pc + 3) lv (.ref vb :: st)) : z_W X M k n pc lv (.ref a :: st) := z_get C (T := TJ0) (N := 4) (ci := 0) rfl inJ0 0 (by decide) kw457 hM rfl d kk
theorem pf_J0_9 {xx : Nat} (C : z_C X cc RJ0 nL rm) (hini : (z_me X).name = "<init>") (fs : List Value) (hfs : 0 < fs.length) (hM : M a = some (.inr (0, fs))) (d : decode cc pc = .ok (.putfield 9, 3)) (kk : z_W X (z_up M a (.inr (0, fs.set 0 (.ref xx)))) k n (pc + 3) lv st) : z_W X M k n pc lv (.ref xx :: .ref a :: st) := z_putF C (T := TJ0) (N := 4) (ci := 0) (ty := .array .byte) hini rfl inJ0 tyJ0 tyJ0_ok nmJ0 0 (by decide) kw457 rfl rfl (by decide +kernel) hM hfs rfl rfl d kk
theorem gf_J0_15 {vb : Nat} {co : Int32} {ha : Int32} {hz : Int32} (C : z_C X cc RJ0 nL rm) (hM : M a = some (cSt vb co ha hz)) (d : decode cc pc = .ok (.getfield 15, 3)) (kk : z_W X M k n (pc + 3) lv (.int co :: st)) : z_W X M k n pc lv (.ref a :: st) := z_get C (T := TJ0) (N := 4) (ci := 0) rfl inJ0 1 (by decide) kw458 hM rfl d kk
theorem pf_J0_15 {xx : Int32} (C : z_C X cc RJ0 nL rm) (hini : (z_me X).name = "<init>") (hx : narrow .byte (.int xx) = .int xx) (hf : fits .byte (.int xx) = true) (fs : List Value) (hfs : 1 < fs.length) (hM : M a = some (.inr (0, fs))) (d : decode cc pc = .ok (.putfield 15, 3)) (kk : z_W X (z_up M a (.inr (0, fs.set 1 (.int xx)))) k n (pc + 3) lv st) : z_W X M k n pc lv (.int xx :: .ref a :: st) := z_putF C (T := TJ0) (N := 4) (ci := 0) (ty := .byte) hini rfl inJ0 tyJ0 tyJ0_ok nmJ0 1 (by decide) kw458 rfl rfl (by decide +kernel) hM hfs hx hf d kk
theorem gf_J0_1048 {vb : Nat} {co : Int32} {ml : Int32} {ct : Int32} (C : z_C X cc RJ0 nL rm) (hM : M a = some (cSb vb co ml ct)) (d : decode cc pc = .ok (.getfield 1048, 3)) (kk : z_W X M k n (pc + 3) lv (.int ml :: st)) : z_W X M k n pc lv (.ref a :: st) := z_get C (T := TJ4) (N := 4) (ci := 1) rfl inJ4 2 (by decide) kw116 hM rfl d kk
theorem pf_J0_1048 {vb : Nat} {co : Int32} {ml : Int32} {ct : Int32} {xx : Int32} (C : z_C X cc RJ0 nL rm) (hx : narrow .boolean (.int xx) = .int xx) (hf : fits .boolean (.int xx) = true) (hM : M a = some (cSb vb co ml ct)) (d : decode cc pc = .ok (.putfield 1048, 3)) (kk : z_W X (z_up M a (cSb vb co xx ct)) k n (pc + 3) lv st) : z_W X M k n pc lv (.int xx :: .ref a :: st) := z_put C (T := TJ4) (N := 4) (ci := 1) (ty := .boolean) rfl inJ4 tyJ4 tyJ4_ok nmJ4 2 (by decide) kw116 rfl (by decide +kernel) hM (show 2 < 4 by decide) hx hf d kk
theorem pg_J0_1048 {vb : Nat} {co : Int32} {ml : Int32} {ct : Int32} {xx : Int32} {M0 : zM} (C : z_C X cc RJ0 nL rm) (hx : narrow .boolean (.int xx) = .int xx) (hf : fits .boolean (.int xx) = true) (d : decode cc pc = .ok (.putfield 1048, 3)) (kk : z_W X (z_up M0 a (cSb vb co xx ct)) k n (pc + 3) lv st) : z_W X (z_up M0 a (cSb vb co ml ct)) k n pc lv (.int xx :: .ref a :: st) := pf_J0_1048 C hx hf (z_up_s _ _ _) d (by rw [z_up_up]; exact kk)
variable {rmc : Room}
theorem cs_J0_47 (C : z_C X cc RJ0 nL rm) (hR : rmc.frames + 1 ≤ rm.frames ∧ 8 + (2 + 11) + rmc.locals ≤ rm.locals) : CallB (z_R X) (z_s X) (z_a X) RJ0 47 (qJ2_coderFromArrayLen_85cad).1 (qJ2_coderFromArrayLen_85cad).2.1 (qJ2_coderFromArrayLen_85cad).2.2.1 (qJ2_coderFromArrayLen_85cad).2.2.2 (z_ws qJ2_coderFromArrayLen_85cad) rmc rmc.cells rmc.slots 2 ∧ (Cond.static (qJ2_coderFromArrayLen_85cad).1).before (z_a X) (z_s X) = true := z_cwS (q := qJ2_coderFromArrayLen_85cad) C kc_J2_coderFromArrayLen_85cad kw454 kw455 kw8 (by decide +kernel) hR
theorem cs_J0_54 (C : z_C X cc RJ0 nL rm) (hR : rmc.frames + 1 ≤ rm.frames ∧ 8 + (3 + 11) + rmc.locals ≤ rm.locals) : CallB (z_R X) (z_s X) (z_a X) RJ0 54 (qJ7_copyOfRange_39247).1 (qJ7_copyOfRange_39247).2.1 (qJ7_copyOfRange_39247).2.2.1 (qJ7_copyOfRange_39247).2.2.2 (z_ws qJ7_copyOfRange_39247) rmc rmc.cells rmc.slots 3 ∧ (Cond.static (qJ7_copyOfRange_39247).1).before (z_a X) (z_s X) = true := z_cwS (q := qJ7_copyOfRange_39247) C kc_J7_copyOfRange_39247 kw362 kw363 kw19 (by decide +kernel) hR
theorem cs_J0_106 (C : z_C X cc RJ0 nL rm) (hR : rmc.frames + 1 ≤ rm.frames ∧ 8 + (5 + 11) + rmc.locals ≤ rm.locals) : CallB (z_R X) (z_s X) (z_a X) RJ0 106 (qJ1_inflate_0e8fd).1 (qJ1_inflate_0e8fd).2.1 (qJ1_inflate_0e8fd).2.2.1 (qJ1_inflate_0e8fd).2.2.2 (z_ws qJ1_inflate_0e8fd) rmc rmc.cells rmc.slots 5 ∧ (Cond.static (qJ1_inflate_0e8fd).1).before (z_a X) (z_s X) = true := z_cwS (q := qJ1_inflate_0e8fd) C kc_J1_inflate_0e8fd kw309 kw290 kw22 (by decide +kernel) hR
theorem cs_J0_335 (C : z_C X cc RJ0 nL rm) (hR : rmc.frames + 1 ≤ rm.frames ∧ 8 + (1 + 11) + rmc.locals ≤ rm.locals) : CallW (z_R X) (z_s X) (z_a X) RJ0 (qJ0_coder_7d493).1.cls 335 (qJ0_coder_7d493).1 (qJ0_coder_7d493).2.1 (qJ0_coder_7d493).2.2.1 (qJ0_coder_7d493).2.2.2 (z_ws qJ0_coder_7d493) rmc rmc.cells rmc.slots 0 := z_cwV (q := qJ0_coder_7d493) C kc_J0_coder_7d493 kw271 kw272 kw273 kw7 (by decide +kernel) hR
theorem cs_J0_489 (C : z_C X cc RJ0 nL rm) (hR : rmc.frames + 1 ≤ rm.frames ∧ 8 + (5 + 11) + rmc.locals ≤ rm.locals) : CallB (z_R X) (z_s X) (z_a X) RJ0 489 (qJ0_init_db425).1 (qJ0_init_db425).2.1 (qJ0_init_db425).2.2.1 none (z_ws qJ0_init_db425) rmc rmc.cells rmc.slots 2 ∧ (qJ0_init_db425).1.name = "<init>" ∧ (Cond.instanceMethod (qJ0_init_db425).1).before (z_a X) (z_s X) = true := z_cwI (q := qJ0_init_db425) C kc_J0_init_db425 rfl kw344 kw345 kw7 rfl (by decide +kernel) hR
theorem cs_J0_492 (C : z_C X cc RJ0 nL rm) (hR : rmc.frames + 1 ≤ rm.frames ∧ 8 + (1 + 11) + rmc.locals ≤ rm.locals) : CallW (z_R X) (z_s X) (z_a X) RJ0 (qJ0_isLatin1_aae02).1.cls 492 (qJ0_isLatin1_aae02).1 (qJ0_isLatin1_aae02).2.1 (qJ0_isLatin1_aae02).2.2.1 (qJ0_isLatin1_aae02).2.2.2 (z_ws qJ0_isLatin1_aae02) rmc rmc.cells rmc.slots 0 := z_cwV (q := qJ0_isLatin1_aae02) C kc_J0_isLatin1_aae02 kw1357 kw1358 kw1359 kw7 (by decide +kernel) hR
theorem cs_J0_495 (C : z_C X cc RJ0 nL rm) (hR : rmc.frames + 1 ≤ rm.frames ∧ 8 + (2 + 11) + rmc.locals ≤ rm.locals) : CallB (z_R X) (z_s X) (z_a X) RJ0 495 (qJ1_charAt_3b067).1 (qJ1_charAt_3b067).2.1 (qJ1_charAt_3b067).2.2.1 (qJ1_charAt_3b067).2.2.2 (z_ws qJ1_charAt_3b067) rmc rmc.cells rmc.slots 2 ∧ (Cond.static (qJ1_charAt_3b067).1).before (z_a X) (z_s X) = true := z_cwS (q := qJ1_charAt_3b067) C kc_J1_charAt_3b067 kw1361 kw1362 kw22 (by decide +kernel) hR
theorem cs_J0_498 (C : z_C X cc RJ0 nL rm) (hR : rmc.frames + 1 ≤ rm.frames ∧ 8 + (2 + 11) + rmc.locals ≤ rm.locals) : CallB (z_R X) (z_s X) (z_a X) RJ0 498 (qJ2_charAt_3b067).1 (qJ2_charAt_3b067).2.1 (qJ2_charAt_3b067).2.2.1 (qJ2_charAt_3b067).2.2.2 (z_ws qJ2_charAt_3b067) rmc rmc.cells rmc.slots 2 ∧ (Cond.static (qJ2_charAt_3b067).1).before (z_a X) (z_s X) = true := z_cwS (q := qJ2_charAt_3b067) C kc_J2_charAt_3b067 kw1365 kw1366 kw8 (by decide +kernel) hR
theorem cs_J0_1051 (C : z_C X cc RJ0 nL rm) (hR : rmc.frames + 1 ≤ rm.frames ∧ 8 + (6 + 11) + rmc.locals ≤ rm.locals) : CallB (z_R X) (z_s X) (z_a X) RJ0 1051 (qJ2_compress_39247).1 (qJ2_compress_39247).2.1 (qJ2_compress_39247).2.2.1 (qJ2_compress_39247).2.2.2 (z_ws qJ2_compress_39247) rmc rmc.cells rmc.slots 3 ∧ (Cond.static (qJ2_compress_39247).1).before (z_a X) (z_s X) = true := z_cwS (q := qJ2_compress_39247) C kc_J2_compress_39247 kw444 kw445 kw8 (by decide +kernel) hR
theorem cs_J0_1059 (C : z_C X cc RJ0 nL rm) (hR : rmc.frames + 1 ≤ rm.frames ∧ 8 + (3 + 11) + rmc.locals ≤ rm.locals) : CallB (z_R X) (z_s X) (z_a X) RJ0 1059 (qJ3_checkIndex_8e157).1 (qJ3_checkIndex_8e157).2.1 (qJ3_checkIndex_8e157).2.2.1 (qJ3_checkIndex_8e157).2.2.2 (z_ws qJ3_checkIndex_8e157) rmc rmc.cells rmc.slots 3 ∧ (Cond.static (qJ3_checkIndex_8e157).1).before (z_a X) (z_s X) = true := z_cwS (q := qJ3_checkIndex_8e157) C kc_J3_checkIndex_8e157 kw537 kw538 kw21 (by decide +kernel) hR
theorem cs_J0_1062 (C : z_C X cc RJ0 nL rm) (hR : rmc.frames + 1 ≤ rm.frames ∧ 8 + (4 + 11) + rmc.locals ≤ rm.locals) : CallB (z_R X) (z_s X) (z_a X) RJ0 1062 (qJ3_checkFromToIndex_8c36e).1 (qJ3_checkFromToIndex_8c36e).2.1 (qJ3_checkFromToIndex_8c36e).2.2.1 (qJ3_checkFromToIndex_8c36e).2.2.2 (z_ws qJ3_checkFromToIndex_8c36e) rmc rmc.cells rmc.slots 4 ∧ (Cond.static (qJ3_checkFromToIndex_8c36e).1).before (z_a X) (z_s X) = true := z_cwS (q := qJ3_checkFromToIndex_8c36e) C kc_J3_checkFromToIndex_8c36e kw255 kw256 kw21 (by decide +kernel) hR
theorem cs_J0_1065 (C : z_C X cc RJ0 nL rm) (hR : rmc.frames + 1 ≤ rm.frames ∧ 8 + (4 + 11) + rmc.locals ≤ rm.locals) : CallB (z_R X) (z_s X) (z_a X) RJ0 1065 (qJ3_checkFromIndexSize_8c36e).1 (qJ3_checkFromIndexSize_8c36e).2.1 (qJ3_checkFromIndexSize_8c36e).2.2.1 (qJ3_checkFromIndexSize_8c36e).2.2.2 (z_ws qJ3_checkFromIndexSize_8c36e) rmc rmc.cells rmc.slots 4 ∧ (Cond.static (qJ3_checkFromIndexSize_8c36e).1).before (z_a X) (z_s X) = true := z_cwS (q := qJ3_checkFromIndexSize_8c36e) C kc_J3_checkFromIndexSize_8c36e kw301 kw302 kw21 (by decide +kernel) hR
theorem cs_J1_9 (C : z_C X cc RJ1 nL rm) (hR : rmc.frames + 1 ≤ rm.frames ∧ 8 + (2 + 11) + rmc.locals ≤ rm.locals) : CallB (z_R X) (z_s X) (z_a X) RJ1 9 (qJ0_checkIndex_df160).1 (qJ0_checkIndex_df160).2.1 (qJ0_checkIndex_df160).2.2.1 (qJ0_checkIndex_df160).2.2.2 (z_ws qJ0_checkIndex_df160) rmc rmc.cells rmc.slots 2 ∧ (Cond.static (qJ0_checkIndex_df160).1).before (z_a X) (z_s X) = true := z_cwS (q := qJ0_checkIndex_df160) C kc_J0_checkIndex_df160 kw1364 kw535 kw7 (by decide +kernel) hR
theorem cs_J1_236 (C : z_C X cc RJ1 nL rm) (hR : rmc.frames + 1 ≤ rm.frames ∧ 8 + (5 + 11) + rmc.locals ≤ rm.locals) : CallB (z_R X) (z_s X) (z_a X) RJ1 236 (qJ7_fill_eb02e).1 (qJ7_fill_eb02e).2.1 (qJ7_fill_eb02e).2.2.1 (qJ7_fill_eb02e).2.2.2 (z_ws qJ7_fill_eb02e) rmc rmc.cells rmc.slots 4 ∧ (Cond.static (qJ7_fill_eb02e).1).before (z_a X) (z_s X) = true := z_cwS (q := qJ7_fill_eb02e) C kc_J7_fill_eb02e kw482 kw483 kw19 (by decide +kernel) hR
theorem cs_J1_240 (C : z_C X cc RJ1 nL rm) (hR : rmc.frames + 1 ≤ rm.frames ∧ 8 + (6 + 11) + rmc.locals ≤ rm.locals) : CallB (z_R X) (z_s X) (z_a X) RJ1 240 (qJ2_inflate_0e8fd).1 (qJ2_inflate_0e8fd).2.1 (qJ2_inflate_0e8fd).2.2.1 (qJ2_inflate_0e8fd).2.2.2 (z_ws qJ2_inflate_0e8fd) rmc rmc.cells rmc.slots 5 ∧ (Cond.static (qJ2_inflate_0e8fd).1).before (z_a X) (z_s X) = true := z_cwS (q := qJ2_inflate_0e8fd) C kc_J2_inflate_0e8fd kw292 kw293 kw8 (by decide +kernel) hR
theorem cs_J2_11 (C : z_C X cc RJ2 nL rm) (hR : rmc.frames + 1 ≤ rm.frames ∧ 8 + (1 + 11) + rmc.locals ≤ rm.locals) : CallB (z_R X) (z_s X) (z_a X) RJ2 11 (qJ2_newBytesLength_0f7a4).1 (qJ2_newBytesLength_0f7a4).2.1 (qJ2_newBytesLength_0f7a4).2.2.1 (qJ2_newBytesLength_0f7a4).2.2.2 (z_ws qJ2_newBytesLength_0f7a4) rmc rmc.cells rmc.slots 1 ∧ (Cond.static (qJ2_newBytesLength_0f7a4).1).before (z_a X) (z_s X) = true := z_cwS (q := qJ2_newBytesLength_0f7a4) C kc_J2_newBytesLength_0f7a4 kw109 kw110 kw8 (by decide +kernel) hR
theorem cs_J2_48 (C : z_C X cc RJ2 nL rm) (hR : rmc.frames + 1 ≤ rm.frames ∧ 8 + (1 + 11) + rmc.locals ≤ rm.locals) : CallB (z_R X) (z_s X) (z_a X) RJ2 48 (qJ2_length_9d52b).1 (qJ2_length_9d52b).2.1 (qJ2_length_9d52b).2.2.1 (qJ2_length_9d52b).2.2.2 (z_ws qJ2_length_9d52b) rmc rmc.cells rmc.slots 1 ∧ (Cond.static (qJ2_length_9d52b).1).before (z_a X) (z_s X) = true := z_cwS (q := qJ2_length_9d52b) C kc_J2_length_9d52b kw247 kw248 kw8 (by decide +kernel) hR
theorem cs_J2_67 (C : z_C X cc RJ2 nL rm) (hR : rmc.frames + 1 ≤ rm.frames ∧ 8 + (2 + 11) + rmc.locals ≤ rm.locals) : CallB (z_R X) (z_s X) (z_a X) RJ2 67 (qJ2_checkIndex_2214a).1 (qJ2_checkIndex_2214a).2.1 (qJ2_checkIndex_2214a).2.2.1 (qJ2_checkIndex_2214a).2.2.2 (z_ws qJ2_checkIndex_2214a) rmc rmc.cells rmc.slots 2 ∧ (Cond.static (qJ2_checkIndex_2214a).1).before (z_a X) (z_s X) = true := z_cwS (q := qJ2_checkIndex_2214a) C kc_J2_checkIndex_2214a kw531 kw532 kw8 (by decide +kernel) hR
theorem cs_J2_71 (C : z_C X cc RJ2 nL rm) (hR : rmc.frames + 1 ≤ rm.frames ∧ 8 + (2 + 11) + rmc.locals ≤ rm.locals) : CallB (z_R X) (z_s X) (z_a X) RJ2 71 (qJ2_getChar_3b067).1 (qJ2_getChar_3b067).2.1 (qJ2_getChar_3b067).2.2.1 (qJ2_getChar_3b067).2.2.2 (z_ws qJ2_getChar_3b067) rmc rmc.cells rmc.slots 2 ∧ (Cond.static (qJ2_getChar_3b067).1).before (z_a X) (z_s X) = true := z_cwS (q := qJ2_getChar_3b067) C kc_J2_getChar_3b067 kw450 kw451 kw8 (by decide +kernel) hR
theorem cs_J2_96 (C : z_C X cc RJ2 nL rm) (hR : rmc.frames + 1 ≤ rm.frames ∧ 8 + (3 + 11) + rmc.locals ≤ rm.locals) : CallB (z_R X) (z_s X) (z_a X) RJ2 96 (qJ2_checkBoundsBeginEnd_d044e).1 (qJ2_checkBoundsBeginEnd_d044e).2.1 (qJ2_checkBoundsBeginEnd_d044e).2.2.1 (qJ2_checkBoundsBeginEnd_d044e).2.2.2 (z_ws qJ2_checkBoundsBeginEnd_d044e) rmc rmc.cells rmc.slots 3 ∧ (Cond.static (qJ2_checkBoundsBeginEnd_d044e).1).before (z_a X) (z_s X) = true := z_cwS (q := qJ2_checkBoundsBeginEnd_d044e) C kc_J2_checkBoundsBeginEnd_d044e kw244 kw245 kw8 (by decide +kernel) hR
theorem cs_J2_111 (C : z_C X cc RJ2 nL rm) (hR : rmc.frames + 1 ≤ rm.frames ∧ 8 + (3 + 11) + rmc.locals ≤ rm.locals) : CallB (z_R X) (z_s X) (z_a X) RJ2 111 (qJ2_putChar_b72d1).1 (qJ2_putChar_b72d1).2.1 (qJ2_putChar_b72d1).2.2.1 (qJ2_putChar_b72d1).2.2.2 (z_ws qJ2_putChar_b72d1) rmc rmc.cells rmc.slots 3 ∧ (Cond.static (qJ2_putChar_b72d1).1).before (z_a X) (z_s X) = true := z_cwS (q := qJ2_putChar_b72d1) C kc_J2_putChar_b72d1 kw258 kw259 kw8 (by decide +kernel) hR
theorem cs_J2_123 (C : z_C X cc RJ2 nL rm) (hR : rmc.frames + 1 ≤ rm.frames ∧ 8 + (7 + 11) + rmc.locals ≤ rm.locals) : CallB (z_R X) (z_s X) (z_a X) RJ2 123 (qJ2_compress_5af95).1 (qJ2_compress_5af95).2.1 (qJ2_compress_5af95).2.2.1 (qJ2_compress_5af95).2.2.2 (z_ws qJ2_compress_5af95) rmc rmc.cells rmc.slots 5 ∧ (Cond.static (qJ2_compress_5af95).1).before (z_a X) (z_s X) = true := z_cwS (q := qJ2_compress_5af95) C kc_J2_compress_5af95 kw447 kw448 kw8 (by decide +kernel) hR
theorem cs_J2_126 (C : z_C X cc RJ2 nL rm) (hR : rmc.frames + 1 ≤ rm.frames ∧ 8 + (3 + 11) + rmc.locals ≤ rm.locals) : CallB (z_R X) (z_s X) (z_a X) RJ2 126 (qJ7_copyOfRange_39247).1 (qJ7_copyOfRange_39247).2.1 (qJ7_copyOfRange_39247).2.2.1 (qJ7_copyOfRange_39247).2.2.2 (z_ws qJ7_copyOfRange_39247) rmc rmc.cells rmc.slots 3 ∧ (Cond.static (qJ7_copyOfRange_39247).1).before (z_a X) (z_s X) = true := z_cwS (q := qJ7_copyOfRange_39247) C kc_J7_copyOfRange_39247 kw453 kw363 kw19 (by decide +kernel) hR
theorem cs_J2_173 (C : z_C X cc RJ2 nL rm) (hR : rmc.frames + 1 ≤ rm.frames ∧ 8 + (3 + 11) + rmc.locals ≤ rm.locals) : CallB (z_R X) (z_s X) (z_a X) RJ2 173 (qJ2_checkBoundsOffCount_d044e).1 (qJ2_checkBoundsOffCount_d044e).2.1 (qJ2_checkBoundsOffCount_d044e).2.2.1 (qJ2_checkBoundsOffCount_d044e).2.2.2 (z_ws qJ2_checkBoundsOffCount_d044e) rmc rmc.cells rmc.slots 3 ∧ (Cond.static (qJ2_checkBoundsOffCount_d044e).1).before (z_a X) (z_s X) = true := z_cwS (q := qJ2_checkBoundsOffCount_d044e) C kc_J2_checkBoundsOffCount_d044e kw295 kw296 kw8 (by decide +kernel) hR
theorem cs_J2_241 (C : z_C X cc RJ2 nL rm) (hR : rmc.frames + 1 ≤ rm.frames ∧ 8 + (3 + 11) + rmc.locals ≤ rm.locals) : CallB (z_R X) (z_s X) (z_a X) RJ2 241 (qJ0_checkBoundsBeginEnd_23922).1 (qJ0_checkBoundsBeginEnd_23922).2.1 (qJ0_checkBoundsBeginEnd_23922).2.2.1 (qJ0_checkBoundsBeginEnd_23922).2.2.2 (z_ws qJ0_checkBoundsBeginEnd_23922) rmc rmc.cells rmc.slots 3 ∧ (Cond.static (qJ0_checkBoundsBeginEnd_23922).1).before (z_a X) (z_s X) = true := z_cwS (q := qJ0_checkBoundsBeginEnd_23922) C kc_J0_checkBoundsBeginEnd_23922 kw250 kw251 kw7 (by decide +kernel) hR
theorem cs_J2_380 (C : z_C X cc RJ2 nL rm) (hR : rmc.frames + 1 ≤ rm.frames ∧ 8 + (5 + 11) + rmc.locals ≤ rm.locals) : CallB (z_R X) (z_s X) (z_a X) RJ2 380 (qJ7_fill_eb02e).1 (qJ7_fill_eb02e).2.1 (qJ7_fill_eb02e).2.2.1 (qJ7_fill_eb02e).2.2.2 (z_ws qJ7_fill_eb02e) rmc rmc.cells rmc.slots 4 ∧ (Cond.static (qJ7_fill_eb02e).1).before (z_a X) (z_s X) = true := z_cwS (q := qJ7_fill_eb02e) C kc_J7_fill_eb02e kw517 kw483 kw19 (by decide +kernel) hR
theorem cs_J2_393 (C : z_C X cc RJ2 nL rm) (hR : rmc.frames + 1 ≤ rm.frames ∧ 8 + (7 + 11) + rmc.locals ≤ rm.locals) : CallB (z_R X) (z_s X) (z_a X) RJ2 393 (qJ2_getChars_ba4f3).1 (qJ2_getChars_ba4f3).2.1 (qJ2_getChars_ba4f3).2.2.1 (qJ2_getChars_ba4f3).2.2.2 (z_ws qJ2_getChars_ba4f3) rmc rmc.cells rmc.slots 3 ∧ (Cond.static (qJ2_getChars_ba4f3).1).before (z_a X) (z_s X) = true := z_cwS (q := qJ2_getChars_ba4f3) C kc_J2_getChars_ba4f3 kw330 kw331 kw8 (by decide +kernel) hR
theorem cs_J2_396 (C : z_C X cc RJ2 nL rm) (hR : rmc.frames + 1 ≤ rm.frames ∧ 8 + (11 + 11) + rmc.locals ≤ rm.locals) : CallB (z_R X) (z_s X) (z_a X) RJ2 396 (qJ2_getChars_11360).1 (qJ2_getChars_11360).2.1 (qJ2_getChars_11360).2.2.1 (qJ2_getChars_11360).2.2.2 (z_ws qJ2_getChars_11360) rmc rmc.cells rmc.slots 3 ∧ (Cond.static (qJ2_getChars_11360).1).before (z_a X) (z_s X) = true := z_cwS (q := qJ2_getChars_11360) C kc_J2_getChars_11360 kw1282 kw1283 kw8 (by decide +kernel) hR
theorem cs_J2_414 (C : z_C X cc RJ2 nL rm) (hR : rmc.frames + 1 ≤ rm.frames ∧ 8 + (2 + 11) + rmc.locals ≤ rm.locals) : CallB (z_R X) (z_s X) (z_a X) RJ2 414 (qJ0_checkIndex_df160).1 (qJ0_checkIndex_df160).2.1 (qJ0_checkIndex_df160).2.2.1 (qJ0_checkIndex_df160).2.2.2 (z_ws qJ0_checkIndex_df160) rmc rmc.cells rmc.slots 2 ∧ (Cond.static (qJ0_checkIndex_df160).1).before (z_a X) (z_s X) = true := z_cwS (q := qJ0_checkIndex_df160) C kc_J0_checkIndex_df160 kw534 kw535 kw7 (by decide +kernel) hR
theorem cs_J2_419 (C : z_C X cc RJ2 nL rm) (hR : rmc.frames + 1 ≤ rm.frames ∧ 8 + (3 + 11) + rmc.locals ≤ rm.locals) : CallB (z_R X) (z_s X) (z_a X) RJ2 419 (qJ0_checkBoundsOffCount_cabcc).1 (qJ0_checkBoundsOffCount_cabcc).2.1 (qJ0_checkBoundsOffCount_cabcc).2.2.1 (qJ0_checkBoundsOffCount_cabcc).2.2.2 (z_ws qJ0_checkBoundsOffCount_cabcc) rmc rmc.cells rmc.slots 3 ∧ (Cond.static (qJ0_checkBoundsOffCount_cabcc).1).before (z_a X) (z_s X) = true := z_cwS (q := qJ0_checkBoundsOffCount_cabcc) C kc_J0_checkBoundsOffCount_cabcc kw298 kw299 kw7 (by decide +kernel) hR
theorem cs_J4_1 (C : z_C X cc RJ4 nL rm) (hR : rmc.frames + 1 ≤ rm.frames ∧ 8 + (2 + 11) + rmc.locals ≤ rm.locals) : CallB (z_R X) (z_s X) (z_a X) RJ4 1 (qJ5_init_d00df).1 (qJ5_init_d00df).2.1 (qJ5_init_d00df).2.2.1 none (z_ws qJ5_init_d00df) rmc rmc.cells rmc.slots 1 ∧ (qJ5_init_d00df).1.name = "<init>" ∧ (Cond.instanceMethod (qJ5_init_d00df).1).before (z_a X) (z_s X) = true := z_cwI (q := qJ5_init_d00df) C kc_J5_init_d00df rfl kw100 kw101 kw5 rfl (by decide +kernel) hR
theorem cs_J4_137 (C : z_C X cc RJ4 nL rm) (hR : rmc.frames + 1 ≤ rm.frames ∧ 8 + (2 + 11) + rmc.locals ≤ rm.locals) : CallB (z_R X) (z_s X) (z_a X) RJ4 137 (qJ0_init_81219).1 (qJ0_init_81219).2.1 (qJ0_init_81219).2.2.1 none (z_ws qJ0_init_81219) rmc rmc.cells rmc.slots 1 ∧ (qJ0_init_81219).1.name = "<init>" ∧ (Cond.instanceMethod (qJ0_init_81219).1).before (z_a X) (z_s X) = true := z_cwI (q := qJ0_init_81219) C kc_J0_init_81219 rfl kw341 kw342 kw7 rfl (by decide +kernel) hR
theorem cs_J5_26 (C : z_C X cc RJ5 nL rm) (hR : rmc.frames + 1 ≤ rm.frames ∧ 8 + (1 + 11) + rmc.locals ≤ rm.locals) : CallB (z_R X) (z_s X) (z_a X) RJ5 26 (qJ2_newBytesFor_77867).1 (qJ2_newBytesFor_77867).2.1 (qJ2_newBytesFor_77867).2.2.1 (qJ2_newBytesFor_77867).2.2.2 (z_ws qJ2_newBytesFor_77867) rmc rmc.cells rmc.slots 1 ∧ (Cond.static (qJ2_newBytesFor_77867).1).before (z_a X) (z_s X) = true := z_cwS (q := qJ2_newBytesFor_77867) C kc_J2_newBytesFor_77867 kw106 kw107 kw8 (by decide +kernel) hR
theorem cs_J5_32 (C : z_C X cc RJ5 nL rm) (hR : rmc.frames + 1 ≤ rm.frames ∧ 8 + (1 + 11) + rmc.locals ≤ rm.locals) : CallW (z_R X) (z_s X) (z_a X) RJ5 (qJ0_length_8abf5).1.cls 32 (qJ0_length_8abf5).1 (qJ0_length_8abf5).2.1 (qJ0_length_8abf5).2.2.1 (qJ0_length_8abf5).2.2.2 (z_ws qJ0_length_8abf5) rmc rmc.cells rmc.slots 0 := z_cwV (q := qJ0_length_8abf5) C kc_J0_length_8abf5 kw267 kw268 kw269 kw7 (by decide +kernel) hR
theorem cs_J5_40 (C : z_C X cc RJ5 nL rm) (hR : rmc.frames + 1 ≤ rm.frames ∧ 8 + (1 + 11) + rmc.locals ≤ rm.locals) : CallW (z_R X) (z_s X) (z_a X) RJ5 (qJ0_coder_7d493).1.cls 40 (qJ0_coder_7d493).1 (qJ0_coder_7d493).2.1 (qJ0_coder_7d493).2.2.1 (qJ0_coder_7d493).2.2.2 (z_ws qJ0_coder_7d493) rmc rmc.cells rmc.slots 0 := z_cwV (q := qJ0_coder_7d493) C kc_J0_coder_7d493 kw284 kw272 kw273 kw7 (by decide +kernel) hR
theorem cs_J5_108 (C : z_C X cc RJ5 nL rm) (hR : rmc.frames + 1 ≤ rm.frames ∧ 8 + (3 + 11) + rmc.locals ≤ rm.locals) : CallB (z_R X) (z_s X) (z_a X) RJ5 108 (qJ7_copyOf_9075b).1 (qJ7_copyOf_9075b).2.1 (qJ7_copyOf_9075b).2.2.1 (qJ7_copyOf_9075b).2.2.2 (z_ws qJ7_copyOf_9075b) rmc rmc.cells rmc.slots 2 ∧ (Cond.static (qJ7_copyOf_9075b).1).before (z_a X) (z_s X) = true := z_cwS (q := qJ7_copyOf_9075b) C kc_J7_copyOf_9075b kw220 kw221 kw19 (by decide +kernel) hR
theorem cs_J5_114 (C : z_C X cc RJ5 nL rm) (hR : rmc.frames + 1 ≤ rm.frames ∧ 8 + (4 + 11) + rmc.locals ≤ rm.locals) : CallB (z_R X) (z_s X) (z_a X) RJ5 114 (qJ8_newLength_cabcc).1 (qJ8_newLength_cabcc).2.1 (qJ8_newLength_cabcc).2.2.1 (qJ8_newLength_cabcc).2.2.2 (z_ws qJ8_newLength_cabcc) rmc rmc.cells rmc.slots 3 ∧ (Cond.static (qJ8_newLength_cabcc).1).before (z_a X) (z_s X) = true := z_cwS (q := qJ8_newLength_cabcc) C kc_J8_newLength_cabcc kw209 kw210 kw18 (by decide +kernel) hR
theorem cs_J5_125 (C : z_C X cc RJ5 nL rm) (hR : rmc.frames + 1 ≤ rm.frames ∧ 8 + (5 + 11) + rmc.locals ≤ rm.locals) : CallB (z_R X) (z_s X) (z_a X) RJ5 125 (qJ1_inflate_0e8fd).1 (qJ1_inflate_0e8fd).2.1 (qJ1_inflate_0e8fd).2.2.1 (qJ1_inflate_0e8fd).2.2.2 (z_ws qJ1_inflate_0e8fd) rmc rmc.cells rmc.slots 5 ∧ (Cond.static (qJ1_inflate_0e8fd).1).before (z_a X) (z_s X) = true := z_cwS (q := qJ1_inflate_0e8fd) C kc_J1_inflate_0e8fd kw289 kw290 kw22 (by decide +kernel) hR
theorem cs_J5_131 (C : z_C X cc RJ5 nL rm) (hR : rmc.frames + 1 ≤ rm.frames ∧ 8 + (2 + 11) + rmc.locals ≤ rm.locals) : CallB (z_R X) (z_s X) (z_a X) RJ5 131 (qJx7c733_init_d00df).1 (qJx7c733_init_d00df).2.1 (qJx7c733_init_d00df).2.2.1 none (z_ws qJx7c733_init_d00df) rmc rmc.cells rmc.slots 1 ∧ (qJx7c733_init_d00df).1.name = "<init>" ∧ (Cond.instanceMethod (qJx7c733_init_d00df).1).before (z_a X) (z_s X) = true := z_cwI (q := qJx7c733_init_d00df) C kc_Jx7c733_init_d00df rfl kw184 kw185 kw17 rfl (by decide +kernel) hR
theorem cs_J5_133 (C : z_C X cc RJ5 nL rm) (hR : rmc.frames + 1 ≤ rm.frames ∧ 8 + (3 + 11) + rmc.locals ≤ rm.locals) : CallB (z_R X) (z_s X) (z_a X) RJ5 133 (qJ1_fillNull_b72d1).1 (qJ1_fillNull_b72d1).2.1 (qJ1_fillNull_b72d1).2.2.1 (qJ1_fillNull_b72d1).2.2.2 (z_ws qJ1_fillNull_b72d1) rmc rmc.cells rmc.slots 3 ∧ (Cond.static (qJ1_fillNull_b72d1).1).before (z_a X) (z_s X) = true := z_cwS (q := qJ1_fillNull_b72d1) C kc_J1_fillNull_b72d1 kw479 kw480 kw22 (by decide +kernel) hR
theorem cs_J5_137 (C : z_C X cc RJ5 nL rm) (hR : rmc.frames + 1 ≤ rm.frames ∧ 8 + (3 + 11) + rmc.locals ≤ rm.locals) : CallB (z_R X) (z_s X) (z_a X) RJ5 137 (qJ2_fillNull_b72d1).1 (qJ2_fillNull_b72d1).2.1 (qJ2_fillNull_b72d1).2.2.1 (qJ2_fillNull_b72d1).2.2.2 (z_ws qJ2_fillNull_b72d1) rmc rmc.cells rmc.slots 3 ∧ (Cond.static (qJ2_fillNull_b72d1).1).before (z_a X) (z_s X) = true := z_cwS (q := qJ2_fillNull_b72d1) C kc_J2_fillNull_b72d1 kw514 kw515 kw8 (by decide +kernel) hR
theorem cs_J5_138 (C : z_C X cc RJ5 nL rm) (hR : rmc.frames + 1 ≤ rm.frames ∧ 8 + (2 + 11) + rmc.locals ≤ rm.locals) : CallB (z_R X) (z_s X) (z_a X) RJ5 138 (qJ9_min_7cf53).1 (qJ9_min_7cf53).2.1 (qJ9_min_7cf53).2.2.1 (qJ9_min_7cf53).2.2.2 (z_ws qJ9_min_7cf53) rmc rmc.cells rmc.slots 2 ∧ (Cond.static (qJ9_min_7cf53).1).before (z_a X) (z_s X) = true := z_cwS (q := qJ9_min_7cf53) C kc_J9_min_7cf53 kw669 kw231 kw16 (by decide +kernel) hR
theorem cs_J5_144 (C : z_C X cc RJ5 nL rm) (hR : rmc.frames + 1 ≤ rm.frames ∧ 8 + (2 + 11) + rmc.locals ≤ rm.locals) : CallB (z_R X) (z_s X) (z_a X) RJ5 144 (qJ0_checkIndex_df160).1 (qJ0_checkIndex_df160).2.1 (qJ0_checkIndex_df160).2.2.1 (qJ0_checkIndex_df160).2.2.2 (z_ws qJ0_checkIndex_df160) rmc rmc.cells rmc.slots 2 ∧ (Cond.static (qJ0_checkIndex_df160).1).before (z_a X) (z_s X) = true := z_cwS (q := qJ0_checkIndex_df160) C kc_J0_checkIndex_df160 kw670 kw535 kw7 (by decide +kernel) hR
theorem cs_J5_148 (C : z_C X cc RJ5 nL rm) (hR : rmc.frames + 1 ≤ rm.frames ∧ 8 + (2 + 11) + rmc.locals ≤ rm.locals) : CallB (z_R X) (z_s X) (z_a X) RJ5 148 (qJ2_getChar_3b067).1 (qJ2_getChar_3b067).2.1 (qJ2_getChar_3b067).2.2.1 (qJ2_getChar_3b067).2.2.2 (z_ws qJ2_getChar_3b067) rmc rmc.cells rmc.slots 2 ∧ (Cond.static (qJ2_getChar_3b067).1).before (z_a X) (z_s X) = true := z_cwS (q := qJ2_getChar_3b067) C kc_J2_getChar_3b067 kw671 kw451 kw8 (by decide +kernel) hR
theorem cs_J5_191 (C : z_C X cc RJ5 nL rm) (hR : rmc.frames + 1 ≤ rm.frames ∧ 8 + (1 + 11) + rmc.locals ≤ rm.locals) : CallB (z_R X) (z_s X) (z_a X) RJ5 191 (qJ1_canEncode_fc78d).1 (qJ1_canEncode_fc78d).2.1 (qJ1_canEncode_fc78d).2.2.1 (qJ1_canEncode_fc78d).2.2.2 (z_ws qJ1_canEncode_fc78d) rmc rmc.cells rmc.slots 1 ∧ (Cond.static (qJ1_canEncode_fc78d).1).before (z_a X) (z_s X) = true := z_cwS (q := qJ1_canEncode_fc78d) C kc_J1_canEncode_fc78d kw525 kw526 kw22 (by decide +kernel) hR
theorem cs_J5_197 (C : z_C X cc RJ5 nL rm) (hR : rmc.frames + 1 ≤ rm.frames ∧ 8 + (3 + 11) + rmc.locals ≤ rm.locals) : CallB (z_R X) (z_s X) (z_a X) RJ5 197 (qJ2_putCharSB_b72d1).1 (qJ2_putCharSB_b72d1).2.1 (qJ2_putCharSB_b72d1).2.2.1 (qJ2_putCharSB_b72d1).2.2.2 (z_ws qJ2_putCharSB_b72d1) rmc rmc.cells rmc.slots 3 ∧ (Cond.static (qJ2_putCharSB_b72d1).1).before (z_a X) (z_s X) = true := z_cwS (q := qJ2_putCharSB_b72d1) C kc_J2_putCharSB_b72d1 kw528 kw529 kw8 (by decide +kernel) hR
theorem cs_J5_226 (C : z_C X cc RJ5 nL rm) (hR : rmc.frames + 1 ≤ rm.frames ∧ 8 + (7 + 11) + rmc.locals ≤ rm.locals) : CallB (z_R X) (z_s X) (z_a X) RJ5 226 (qJ2_putCharsAt_cd4e5).1 (qJ2_putCharsAt_cd4e5).2.1 (qJ2_putCharsAt_cd4e5).2.2.1 (qJ2_putCharsAt_cd4e5).2.2.2 (z_ws qJ2_putCharsAt_cd4e5) rmc rmc.cells rmc.slots 6 ∧ (Cond.static (qJ2_putCharsAt_cd4e5).1).before (z_a X) (z_s X) = true := z_cwS (q := qJ2_putCharsAt_cd4e5) C kc_J2_putCharsAt_cd4e5 kw241 kw242 kw8 (by decide +kernel) hR
theorem cs_J5_245 (C : z_C X cc RJ5 nL rm) (hR : rmc.frames + 1 ≤ rm.frames ∧ 8 + (4 + 11) + rmc.locals ≤ rm.locals) : CallB (z_R X) (z_s X) (z_a X) RJ5 245 (qJ6_stringSize_0f7a4).1 (qJ6_stringSize_0f7a4).2.1 (qJ6_stringSize_0f7a4).2.2.1 (qJ6_stringSize_0f7a4).2.2.2 (z_ws qJ6_stringSize_0f7a4) rmc rmc.cells rmc.slots 1 ∧ (Cond.static (qJ6_stringSize_0f7a4).1).before (z_a X) (z_s X) = true := z_cwS (q := qJ6_stringSize_0f7a4) C kc_J6_stringSize_0f7a4 kw317 kw318 kw23 (by decide +kernel) hR
theorem cs_J5_248 (C : z_C X cc RJ5 nL rm) (hR : rmc.frames + 1 ≤ rm.frames ∧ 8 + (7 + 11) + rmc.locals ≤ rm.locals) : CallB (z_R X) (z_s X) (z_a X) RJ5 248 (qJ6_getChars_ba4f3).1 (qJ6_getChars_ba4f3).2.1 (qJ6_getChars_ba4f3).2.2.1 (qJ6_getChars_ba4f3).2.2.2 (z_ws qJ6_getChars_ba4f3) rmc rmc.cells rmc.slots 3 ∧ (Cond.static (qJ6_getChars_ba4f3).1).before (z_a X) (z_s X) = true := z_cwS (q := qJ6_getChars_ba4f3) C kc_J6_getChars_ba4f3 kw320 kw321 kw23 (by decide +kernel) hR
theorem cs_J5_251 (C : z_C X cc RJ5 nL rm) (hR : rmc.frames + 1 ≤ rm.frames ∧ 8 + (5 + 11) + rmc.locals ≤ rm.locals) : CallB (z_R X) (z_s X) (z_a X) RJ5 251 (qJ2_getChars_46870).1 (qJ2_getChars_46870).2.1 (qJ2_getChars_46870).2.2.1 (qJ2_getChars_46870).2.2.2 (z_ws qJ2_getChars_46870) rmc rmc.cells rmc.slots 4 ∧ (Cond.static (qJ2_getChars_46870).1).before (z_a X) (z_s X) = true := z_cwS (q := qJ2_getChars_46870) C kc_J2_getChars_46870 kw327 kw328 kw8 (by decide +kernel) hR
theorem cs_J5_254 (C : z_C X cc RJ5 nL rm) (hR : rmc.frames + 1 ≤ rm.frames ∧ 8 + (6 + 11) + rmc.locals ≤ rm.locals) : CallB (z_R X) (z_s X) (z_a X) RJ5 254 (qJ13_stringSize_95d88).1 (qJ13_stringSize_95d88).2.1 (qJ13_stringSize_95d88).2.2.1 (qJ13_stringSize_95d88).2.2.2 (z_ws qJ13_stringSize_95d88) rmc rmc.cells rmc.slots 1 ∧ (Cond.static (qJ13_stringSize_95d88).1).before (z_a X) (z_s X) = true := z_cwS (q := qJ13_stringSize_95d88) C kc_J13_stringSize_95d88 kw1267 kw1268 kw25 (by decide +kernel) hR
theorem cs_J5_259 (C : z_C X cc RJ5 nL rm) (hR : rmc.frames + 1 ≤ rm.frames ∧ 8 + (11 + 11) + rmc.locals ≤ rm.locals) : CallB (z_R X) (z_s X) (z_a X) RJ5 259 (qJ13_getChars_11360).1 (qJ13_getChars_11360).2.1 (qJ13_getChars_11360).2.2.1 (qJ13_getChars_11360).2.2.2 (z_ws qJ13_getChars_11360) rmc rmc.cells rmc.slots 3 ∧ (Cond.static (qJ13_getChars_11360).1).before (z_a X) (z_s X) = true := z_cwS (q := qJ13_getChars_11360) C kc_J13_getChars_11360 kw1272 kw1273 kw25 (by decide +kernel) hR
theorem cs_J5_262 (C : z_C X cc RJ5 nL rm) (hR : rmc.frames + 1 ≤ rm.frames ∧ 8 + (6 + 11) + rmc.locals ≤ rm.locals) : CallB (z_R X) (z_s X) (z_a X) RJ5 262 (qJ2_getChars_1ba55).1 (qJ2_getChars_1ba55).2.1 (qJ2_getChars_1ba55).2.2.1 (qJ2_getChars_1ba55).2.2.2 (z_ws qJ2_getChars_1ba55) rmc rmc.cells rmc.slots 4 ∧ (Cond.static (qJ2_getChars_1ba55).1).before (z_a X) (z_s X) = true := z_cwS (q := qJ2_getChars_1ba55) C kc_J2_getChars_1ba55 kw1279 kw1280 kw8 (by decide +kernel) hR
theorem cs_J5_399 (C : z_C X cc RJ5 nL rm) (hR : rmc.frames + 1 ≤ rm.frames ∧ 8 + (4 + 11) + rmc.locals ≤ rm.locals) : CallW (z_R X) (z_s X) (z_a X) RJ5 (qJ0_getBytes_840e7).1.cls 399 (qJ0_getBytes_840e7).1 (qJ0_getBytes_840e7).2.1 (qJ0_getBytes_840e7).2.2.1 (qJ0_getBytes_840e7).2.2.2 (z_ws qJ0_getBytes_840e7) rmc rmc.cells rmc.slots 3 := z_cwV (q := qJ0_getBytes_840e7) C kc_J0_getBytes_840e7 kw304 kw305 kw306 kw7 (by decide +kernel) hR
theorem cs_J7_13 (C : z_C X cc RJ7 nL rm) (hR : rmc.frames + 1 ≤ rm.frames ∧ 8 + (3 + 11) + rmc.locals ≤ rm.locals) : CallB (z_R X) (z_s X) (z_a X) RJ7 13 (qJ7_rangeCheck_23922).1 (qJ7_rangeCheck_23922).2.1 (qJ7_rangeCheck_23922).2.2.1 (qJ7_rangeCheck_23922).2.2.2 (z_ws qJ7_rangeCheck_23922) rmc rmc.cells rmc.slots 3 ∧ (Cond.static (qJ7_rangeCheck_23922).1).before (z_a X) (z_s X) = true := z_cwS (q := qJ7_rangeCheck_23922) C kc_J7_rangeCheck_23922 kw485 kw486 kw19 (by decide +kernel) hR
theorem cs_J7_47 (C : z_C X cc RJ7 nL rm) (hR : rmc.frames + 1 ≤ rm.frames ∧ 8 + (1 + 11) + rmc.locals ≤ rm.locals) : CallB (z_R X) (z_s X) (z_a X) RJ7 47 (qJ4_init_da8c8).1 (qJ4_init_da8c8).2.1 (qJ4_init_da8c8).2.2.1 none (z_ws qJ4_init_da8c8) rmc rmc.cells rmc.slots 0 ∧ (qJ4_init_da8c8).1.name = "<init>" ∧ (Cond.instanceMethod (qJ4_init_da8c8).1).before (z_a X) (z_s X) = true := z_cwI (q := qJ4_init_da8c8) C kc_J4_init_da8c8 rfl kw414 kw98 kw6 rfl (by decide +kernel) hR
theorem cs_J7_50 (C : z_C X cc RJ7 nL rm) (hR : rmc.frames + 1 ≤ rm.frames ∧ 8 + (2 + 11) + rmc.locals ≤ rm.locals) : CallW (z_R X) (z_s X) (z_a X) RJ7 (qJ4_append_15ec4).1.cls 50 (qJ4_append_15ec4).1 (qJ4_append_15ec4).2.1 (qJ4_append_15ec4).2.2.1 (qJ4_append_15ec4).2.2.2 (z_ws qJ4_append_15ec4) rmc rmc.cells rmc.slots 1 := z_cwV (q := qJ4_append_15ec4) C kc_J4_append_15ec4 kw417 kw191 kw192 kw6 (by decide +kernel) hR
theorem cs_J7_54 (C : z_C X cc RJ7 nL rm) (hR : rmc.frames + 1 ≤ rm.frames ∧ 8 + (2 + 11) + rmc.locals ≤ rm.locals) : CallW (z_R X) (z_s X) (z_a X) RJ7 (qJ4_append_bf812).1.cls 54 (qJ4_append_bf812).1 (qJ4_append_bf812).2.1 (qJ4_append_bf812).2.2.1 (qJ4_append_bf812).2.2.2 (z_ws qJ4_append_bf812) rmc rmc.cells rmc.slots 1 := z_cwV (q := qJ4_append_bf812) C kc_J4_append_bf812 kw415 kw311 kw312 kw6 (by decide +kernel) hR
theorem cs_J7_61 (C : z_C X cc RJ7 nL rm) (hR : rmc.frames + 1 ≤ rm.frames ∧ 8 + (1 + 11) + rmc.locals ≤ rm.locals) : CallW (z_R X) (z_s X) (z_a X) RJ7 (qJ4_toString_0e30d).1.cls 61 (qJ4_toString_0e30d).1 (qJ4_toString_0e30d).2.1 (qJ4_toString_0e30d).2.2.1 (qJ4_toString_0e30d).2.2.2 (z_ws qJ4_toString_0e30d) rmc rmc.cells rmc.slots 0 := z_cwV (q := qJ4_toString_0e30d) C kc_J4_toString_0e30d kw418 kw336 kw337 kw6 (by decide +kernel) hR
theorem cs_J7_70 (C : z_C X cc RJ7 nL rm) (hR : rmc.frames + 1 ≤ rm.frames ∧ 8 + (2 + 11) + rmc.locals ≤ rm.locals) : CallB (z_R X) (z_s X) (z_a X) RJ7 70 (qJx00060_init_d00df).1 (qJx00060_init_d00df).2.1 (qJx00060_init_d00df).2.2.1 none (z_ws qJx00060_init_d00df) rmc rmc.cells rmc.slots 1 ∧ (qJx00060_init_d00df).1.name = "<init>" ∧ (Cond.instanceMethod (qJx00060_init_d00df).1).before (z_a X) (z_s X) = true := z_cwI (q := qJx00060_init_d00df) C kc_Jx00060_init_d00df rfl kw502 kw503 kw24 rfl (by decide +kernel) hR
theorem cs_J7_304 (C : z_C X cc RJ7 nL rm) (hR : rmc.frames + 1 ≤ rm.frames ∧ 8 + (2 + 11) + rmc.locals ≤ rm.locals) : CallB (z_R X) (z_s X) (z_a X) RJ7 304 (qJ9_min_7cf53).1 (qJ9_min_7cf53).2.1 (qJ9_min_7cf53).2.2.1 (qJ9_min_7cf53).2.2.2 (z_ws qJ9_min_7cf53) rmc rmc.cells rmc.slots 2 ∧ (Cond.static (qJ9_min_7cf53).1).before (z_a X) (z_s X) = true := z_cwS (q := qJ9_min_7cf53) C kc_J9_min_7cf53 kw230 kw231 kw16 (by decide +kernel) hR
theorem cs_J7_339 (C : z_C X cc RJ7 nL rm) (hR : rmc.frames + 1 ≤ rm.frames ∧ 8 + (5 + 11) + rmc.locals ≤ rm.locals) : CallB (z_R X) (z_s X) (z_a X) RJ7 339 (qJ7_copyOfRangeByte_39247).1 (qJ7_copyOfRangeByte_39247).2.1 (qJ7_copyOfRangeByte_39247).2.2.1 (qJ7_copyOfRangeByte_39247).2.2.2 (z_ws qJ7_copyOfRangeByte_39247) rmc rmc.cells rmc.slots 3 ∧ (Cond.static (qJ7_copyOfRangeByte_39247).1).before (z_a X) (z_s X) = true := z_cwS (q := qJ7_copyOfRangeByte_39247) C kc_J7_copyOfRangeByte_39247 kw365 kw366 kw19 (by decide +kernel) hR
theorem cs_J7_343 (C : z_C X cc RJ7 nL rm) (hR : rmc.frames + 1 ≤ rm.frames ∧ 8 + (2 + 11) + rmc.locals ≤ rm.locals) : CallB (z_R X) (z_s X) (z_a X) RJ7 343 (qJ7_checkLength_df160).1 (qJ7_checkLength_df160).2.1 (qJ7_checkLength_df160).2.2.1 (qJ7_checkLength_df160).2.2.2 (z_ws qJ7_checkLength_df160) rmc rmc.cells rmc.slots 2 ∧ (Cond.static (qJ7_checkLength_df160).1).before (z_a X) (z_s X) = true := z_cwS (q := qJ7_checkLength_df160) C kc_J7_checkLength_df160 kw368 kw369 kw19 (by decide +kernel) hR
theorem cs_J8_194 (C : z_C X cc RJ8 nL rm) (hR : rmc.frames + 1 ≤ rm.frames ∧ 8 + (2 + 11) + rmc.locals ≤ rm.locals) : CallB (z_R X) (z_s X) (z_a X) RJ8 194 (qJ9_max_7cf53).1 (qJ9_max_7cf53).2.1 (qJ9_max_7cf53).2.2.1 (qJ9_max_7cf53).2.2.2 (z_ws qJ9_max_7cf53) rmc rmc.cells rmc.slots 2 ∧ (Cond.static (qJ9_max_7cf53).1).before (z_a X) (z_s X) = true := z_cwS (q := qJ9_max_7cf53) C kc_J9_max_7cf53 kw212 kw213 kw16 (by decide +kernel) hR
theorem cs_J8_201 (C : z_C X cc RJ8 nL rm) (hR : rmc.frames + 1 ≤ rm.frames ∧ 8 + (3 + 11) + rmc.locals ≤ rm.locals) : CallB (z_R X) (z_s X) (z_a X) RJ8 201 (qJ8_hugeLength_7cf53).1 (qJ8_hugeLength_7cf53).2.1 (qJ8_hugeLength_7cf53).2.2.1 (qJ8_hugeLength_7cf53).2.2.2 (z_ws qJ8_hugeLength_7cf53) rmc rmc.cells rmc.slots 2 ∧ (Cond.static (qJ8_hugeLength_7cf53).1).before (z_a X) (z_s X) = true := z_cwS (q := qJ8_hugeLength_7cf53) C kc_J8_hugeLength_7cf53 kw216 kw217 kw18 (by decide +kernel) hR
theorem cs_Jx00060_12 (C : z_C X cc RJx00060 nL rm) (hR : rmc.frames + 1 ≤ rm.frames ∧ 8 + (1 + 11) + rmc.locals ≤ rm.locals) : CallB (z_R X) (z_s X) (z_a X) RJx00060 12 (qJ4_init_da8c8).1 (qJ4_init_da8c8).2.1 (qJ4_init_da8c8).2.2.1 none (z_ws qJ4_init_da8c8) rmc rmc.cells rmc.slots 0 ∧ (qJ4_init_da8c8).1.name = "<init>" ∧ (Cond.instanceMethod (qJ4_init_da8c8).1).before (z_a X) (z_s X) = true := z_cwI (q := qJ4_init_da8c8) C kc_J4_init_da8c8 rfl kw506 kw98 kw6 rfl (by decide +kernel) hR
theorem cs_Jx00060_15 (C : z_C X cc RJx00060 nL rm) (hR : rmc.frames + 1 ≤ rm.frames ∧ 8 + (2 + 11) + rmc.locals ≤ rm.locals) : CallW (z_R X) (z_s X) (z_a X) RJx00060 (qJ4_append_15ec4).1.cls 15 (qJ4_append_15ec4).1 (qJ4_append_15ec4).2.1 (qJ4_append_15ec4).2.2.1 (qJ4_append_15ec4).2.2.2 (z_ws qJ4_append_15ec4) rmc rmc.cells rmc.slots 1 := z_cwV (q := qJ4_append_15ec4) C kc_J4_append_15ec4 kw508 kw191 kw192 kw6 (by decide +kernel) hR
theorem cs_Jx00060_19 (C : z_C X cc RJx00060 nL rm) (hR : rmc.frames + 1 ≤ rm.frames ∧ 8 + (2 + 11) + rmc.locals ≤ rm.locals) : CallW (z_R X) (z_s X) (z_a X) RJx00060 (qJ4_append_bf812).1.cls 19 (qJ4_append_bf812).1 (qJ4_append_bf812).2.1 (qJ4_append_bf812).2.2.1 (qJ4_append_bf812).2.2.2 (z_ws qJ4_append_bf812) rmc rmc.cells rmc.slots 1 := z_cwV (q := qJ4_append_bf812) C kc_J4_append_bf812 kw509 kw311 kw312 kw6 (by decide +kernel) hR
theorem cs_Jx00060_22 (C : z_C X cc RJx00060 nL rm) (hR : rmc.frames + 1 ≤ rm.frames ∧ 8 + (1 + 11) + rmc.locals ≤ rm.locals) : CallW (z_R X) (z_s X) (z_a X) RJx00060 (qJ4_toString_0e30d).1.cls 22 (qJ4_toString_0e30d).1 (qJ4_toString_0e30d).2.1 (qJ4_toString_0e30d).2.2.1 (qJ4_toString_0e30d).2.2.2 (z_ws qJ4_toString_0e30d) rmc rmc.cells rmc.slots 0 := z_cwV (q := qJ4_toString_0e30d) C kc_J4_toString_0e30d kw510 kw336 kw337 kw6 (by decide +kernel) hR
theorem cs_Jx7c733_12 (C : z_C X cc RJx7c733 nL rm) (hR : rmc.frames + 1 ≤ rm.frames ∧ 8 + (1 + 11) + rmc.locals ≤ rm.locals) : CallB (z_R X) (z_s X) (z_a X) RJx7c733 12 (qJ4_init_da8c8).1 (qJ4_init_da8c8).2.1 (qJ4_init_da8c8).2.2.1 none (z_ws qJ4_init_da8c8) rmc rmc.cells rmc.slots 0 ∧ (qJ4_init_da8c8).1.name = "<init>" ∧ (Cond.instanceMethod (qJ4_init_da8c8).1).before (z_a X) (z_s X) = true := z_cwI (q := qJ4_init_da8c8) C kc_J4_init_da8c8 rfl kw188 kw98 kw6 rfl (by decide +kernel) hR
theorem cs_Jx7c733_15 (C : z_C X cc RJx7c733 nL rm) (hR : rmc.frames + 1 ≤ rm.frames ∧ 8 + (2 + 11) + rmc.locals ≤ rm.locals) : CallW (z_R X) (z_s X) (z_a X) RJx7c733 (qJ4_append_15ec4).1.cls 15 (qJ4_append_15ec4).1 (qJ4_append_15ec4).2.1 (qJ4_append_15ec4).2.2.1 (qJ4_append_15ec4).2.2.2 (z_ws qJ4_append_15ec4) rmc rmc.cells rmc.slots 1 := z_cwV (q := qJ4_append_15ec4) C kc_J4_append_15ec4 kw190 kw191 kw192 kw6 (by decide +kernel) hR
theorem cs_Jx7c733_19 (C : z_C X cc RJx7c733 nL rm) (hR : rmc.frames + 1 ≤ rm.frames ∧ 8 + (2 + 11) + rmc.locals ≤ rm.locals) : CallW (z_R X) (z_s X) (z_a X) RJx7c733 (qJ4_append_bf812).1.cls 19 (qJ4_append_bf812).1 (qJ4_append_bf812).2.1 (qJ4_append_bf812).2.2.1 (qJ4_append_bf812).2.2.2 (z_ws qJ4_append_bf812) rmc rmc.cells rmc.slots 1 := z_cwV (q := qJ4_append_bf812) C kc_J4_append_bf812 kw310 kw311 kw312 kw6 (by decide +kernel) hR
theorem cs_Jx7c733_22 (C : z_C X cc RJx7c733 nL rm) (hR : rmc.frames + 1 ≤ rm.frames ∧ 8 + (1 + 11) + rmc.locals ≤ rm.locals) : CallW (z_R X) (z_s X) (z_a X) RJx7c733 (qJ4_toString_0e30d).1.cls 22 (qJ4_toString_0e30d).1 (qJ4_toString_0e30d).2.1 (qJ4_toString_0e30d).2.2.1 (qJ4_toString_0e30d).2.2.2 (z_ws qJ4_toString_0e30d) rmc rmc.cells rmc.slots 0 := z_cwV (q := qJ4_toString_0e30d) C kc_J4_toString_0e30d kw335 kw336 kw337 kw6 (by decide +kernel) hR
theorem cs_L_7 (C : z_C X cc RL nL rm) (hR : rmc.frames + 1 ≤ rm.frames ∧ 8 + (5 + 11) + rmc.locals ≤ rm.locals) : CallW (z_R X) (z_s X) (z_a X) RL (qX3_wrap).1.cls 7 (qX3_wrap).1 (qX3_wrap).2.1 (qX3_wrap).2.2.1 (qX3_wrap).2.2.2 (z_ws qX3_wrap) rmc rmc.cells rmc.slots 3 := z_cwV (q := qX3_wrap) C kc_X3_wrap kw695 kw696 kw697 kw1 (by decide +kernel) hR
theorem cs_L_23 (C : z_C X cc RL nL rm) (hR : rmc.frames + 1 ≤ rm.frames ∧ 8 + (4 + 11) + rmc.locals ≤ rm.locals) : CallW (z_R X) (z_s X) (z_a X) RL (qX3_fresh).1.cls 23 (qX3_fresh).1 (qX3_fresh).2.1 (qX3_fresh).2.2.1 (qX3_fresh).2.2.2 (z_ws qX3_fresh) rmc rmc.cells rmc.slots 2 := z_cwV (q := qX3_fresh) C kc_X3_fresh kw732 kw733 kw734 kw1 (by decide +kernel) hR
theorem cs_L_27 (C : z_C X cc RL nL rm) (hR : rmc.frames + 1 ≤ rm.frames ∧ 8 + (5 + 11) + rmc.locals ≤ rm.locals) : CallW (z_R X) (z_s X) (z_a X) RL (qX3_twin).1.cls 27 (qX3_twin).1 (qX3_twin).2.1 (qX3_twin).2.2.1 (qX3_twin).2.2.2 (z_ws qX3_twin) rmc rmc.cells rmc.slots 2 := z_cwV (q := qX3_twin) C kc_X3_twin kw739 kw740 kw741 kw1 (by decide +kernel) hR
theorem cs_L_30 (C : z_C X cc RL nL rm) (hR : rmc.frames + 1 ≤ rm.frames ∧ 8 + (5 + 11) + rmc.locals ≤ rm.locals) : CallW (z_R X) (z_s X) (z_a X) RL (qX3_rest).1.cls 30 (qX3_rest).1 (qX3_rest).2.1 (qX3_rest).2.2.1 (qX3_rest).2.2.2 (z_ws qX3_rest) rmc rmc.cells rmc.slots 2 := z_cwV (q := qX3_rest) C kc_X3_rest kw746 kw747 kw748 kw1 (by decide +kernel) hR
theorem cs_L_33 (C : z_C X cc RL nL rm) (hR : rmc.frames + 1 ≤ rm.frames ∧ 8 + (7 + 11) + rmc.locals ≤ rm.locals) : CallW (z_R X) (z_s X) (z_a X) RL (qX3_part).1.cls 33 (qX3_part).1 (qX3_part).2.1 (qX3_part).2.2.1 (qX3_part).2.2.2 (z_ws qX3_part) rmc rmc.cells rmc.slots 4 := z_cwV (q := qX3_part) C kc_X3_part kw753 kw754 kw755 kw1 (by decide +kernel) hR
theorem cs_L_37 (C : z_C X cc RL nL rm) (hR : rmc.frames + 1 ≤ rm.frames ∧ 8 + (5 + 11) + rmc.locals ≤ rm.locals) : CallW (z_R X) (z_s X) (z_a X) RL (qX3_reader).1.cls 37 (qX3_reader).1 (qX3_reader).2.1 (qX3_reader).2.2.1 (qX3_reader).2.2.2 (z_ws qX3_reader) rmc rmc.cells rmc.slots 2 := z_cwV (q := qX3_reader) C kc_X3_reader kw764 kw765 kw766 kw1 (by decide +kernel) hR
theorem cs_L_40 (C : z_C X cc RL nL rm) (hR : rmc.frames + 1 ≤ rm.frames ∧ 8 + (5 + 11) + rmc.locals ≤ rm.locals) : CallW (z_R X) (z_s X) (z_a X) RL (qX3_exchange).1.cls 40 (qX3_exchange).1 (qX3_exchange).2.1 (qX3_exchange).2.2.1 (qX3_exchange).2.2.2 (z_ws qX3_exchange) rmc rmc.cells rmc.slots 2 := z_cwV (q := qX3_exchange) C kc_X3_exchange kw771 kw772 kw773 kw1 (by decide +kernel) hR
theorem cs_L_43 (C : z_C X cc RL nL rm) (hR : rmc.frames + 1 ≤ rm.frames ∧ 8 + (5 + 11) + rmc.locals ≤ rm.locals) : CallW (z_R X) (z_s X) (z_a X) RL (qX3_go).1.cls 43 (qX3_go).1 (qX3_go).2.1 (qX3_go).2.2.1 (qX3_go).2.2.2 (z_ws qX3_go) rmc rmc.cells rmc.slots 2 := z_cwV (q := qX3_go) C kc_X3_go kw782 kw783 kw784 kw1 (by decide +kernel) hR
theorem cs_L_46 (C : z_C X cc RL nL rm) (hR : rmc.frames + 1 ≤ rm.frames ∧ 8 + (5 + 11) + rmc.locals ≤ rm.locals) : CallW (z_R X) (z_s X) (z_a X) RL (qX3_move).1.cls 46 (qX3_move).1 (qX3_move).2.1 (qX3_move).2.2.1 (qX3_move).2.2.2 (z_ws qX3_move) rmc rmc.cells rmc.slots 2 := z_cwV (q := qX3_move) C kc_X3_move kw793 kw794 kw795 kw1 (by decide +kernel) hR
theorem cs_L_49 (C : z_C X cc RL nL rm) (hR : rmc.frames + 1 ≤ rm.frames ∧ 8 + (5 + 11) + rmc.locals ≤ rm.locals) : CallW (z_R X) (z_s X) (z_a X) RL (qX3_end).1.cls 49 (qX3_end).1 (qX3_end).2.1 (qX3_end).2.2.1 (qX3_end).2.2.2 (z_ws qX3_end) rmc rmc.cells rmc.slots 2 := z_cwV (q := qX3_end) C kc_X3_end kw800 kw801 kw802 kw1 (by decide +kernel) hR
theorem cs_L_52 (C : z_C X cc RL nL rm) (hR : rmc.frames + 1 ≤ rm.frames ∧ 8 + (5 + 11) + rmc.locals ≤ rm.locals) : CallW (z_R X) (z_s X) (z_a X) RL (qX3_stretch).1.cls 52 (qX3_stretch).1 (qX3_stretch).2.1 (qX3_stretch).2.2.1 (qX3_stretch).2.2.2 (z_ws qX3_stretch) rmc rmc.cells rmc.slots 2 := z_cwV (q := qX3_stretch) C kc_X3_stretch kw811 kw812 kw813 kw1 (by decide +kernel) hR
theorem cs_L_55 (C : z_C X cc RL nL rm) (hR : rmc.frames + 1 ≤ rm.frames ∧ 8 + (3 + 11) + rmc.locals ≤ rm.locals) : CallW (z_R X) (z_s X) (z_a X) RL (qX3_mark).1.cls 55 (qX3_mark).1 (qX3_mark).2.1 (qX3_mark).2.2.1 (qX3_mark).2.2.2 (z_ws qX3_mark) rmc rmc.cells rmc.slots 1 := z_cwV (q := qX3_mark) C kc_X3_mark kw818 kw819 kw820 kw1 (by decide +kernel) hR
theorem cs_L_59 (C : z_C X cc RL nL rm) (hR : rmc.frames + 1 ≤ rm.frames ∧ 8 + (4 + 11) + rmc.locals ≤ rm.locals) : CallW (z_R X) (z_s X) (z_a X) RL (qX3_back).1.cls 59 (qX3_back).1 (qX3_back).2.1 (qX3_back).2.2.1 (qX3_back).2.2.2 (z_ws qX3_back) rmc rmc.cells rmc.slots 1 := z_cwV (q := qX3_back) C kc_X3_back kw825 kw826 kw827 kw1 (by decide +kernel) hR
theorem cs_L_62 (C : z_C X cc RL nL rm) (hR : rmc.frames + 1 ≤ rm.frames ∧ 8 + (3 + 11) + rmc.locals ≤ rm.locals) : CallW (z_R X) (z_s X) (z_a X) RL (qX3_clear).1.cls 62 (qX3_clear).1 (qX3_clear).2.1 (qX3_clear).2.2.1 (qX3_clear).2.2.2 (z_ws qX3_clear) rmc rmc.cells rmc.slots 1 := z_cwV (q := qX3_clear) C kc_X3_clear kw832 kw833 kw834 kw1 (by decide +kernel) hR
theorem cs_L_65 (C : z_C X cc RL nL rm) (hR : rmc.frames + 1 ≤ rm.frames ∧ 8 + (3 + 11) + rmc.locals ≤ rm.locals) : CallW (z_R X) (z_s X) (z_a X) RL (qX3_flip).1.cls 65 (qX3_flip).1 (qX3_flip).2.1 (qX3_flip).2.2.1 (qX3_flip).2.2.2 (z_ws qX3_flip) rmc rmc.cells rmc.slots 1 := z_cwV (q := qX3_flip) C kc_X3_flip kw840 kw841 kw842 kw1 (by decide +kernel) hR
theorem cs_L_68 (C : z_C X cc RL nL rm) (hR : rmc.frames + 1 ≤ rm.frames ∧ 8 + (3 + 11) + rmc.locals ≤ rm.locals) : CallW (z_R X) (z_s X) (z_a X) RL (qX3_rewind).1.cls 68 (qX3_rewind).1 (qX3_rewind).2.1 (qX3_rewind).2.2.1 (qX3_rewind).2.2.2 (z_ws qX3_rewind) rmc rmc.cells rmc.slots 1 := z_cwV (q := qX3_rewind) C kc_X3_rewind kw847 kw848 kw849 kw1 (by decide +kernel) hR
theorem cs_L_71 (C : z_C X cc RL nL rm) (hR : rmc.frames + 1 ≤ rm.frames ∧ 8 + (4 + 11) + rmc.locals ≤ rm.locals) : CallW (z_R X) (z_s X) (z_a X) RL (qX3_put).1.cls 71 (qX3_put).1 (qX3_put).2.1 (qX3_put).2.2.1 (qX3_put).2.2.2 (z_ws qX3_put) rmc rmc.cells rmc.slots 2 := z_cwV (q := qX3_put) C kc_X3_put kw854 kw855 kw856 kw1 (by decide +kernel) hR
theorem cs_L_74 (C : z_C X cc RL nL rm) (hR : rmc.frames + 1 ≤ rm.frames ∧ 8 + (5 + 11) + rmc.locals ≤ rm.locals) : CallW (z_R X) (z_s X) (z_a X) RL (qX3_putAt).1.cls 74 (qX3_putAt).1 (qX3_putAt).2.1 (qX3_putAt).2.2.1 (qX3_putAt).2.2.2 (z_ws qX3_putAt) rmc rmc.cells rmc.slots 3 := z_cwV (q := qX3_putAt) C kc_X3_putAt kw881 kw882 kw883 kw1 (by decide +kernel) hR
theorem cs_L_77 (C : z_C X cc RL nL rm) (hR : rmc.frames + 1 ≤ rm.frames ∧ 8 + (7 + 11) + rmc.locals ≤ rm.locals) : CallW (z_R X) (z_s X) (z_a X) RL (qX3_bring).1.cls 77 (qX3_bring).1 (qX3_bring).2.1 (qX3_bring).2.2.1 (qX3_bring).2.2.2 (z_ws qX3_bring) rmc rmc.cells rmc.slots 4 := z_cwV (q := qX3_bring) C kc_X3_bring kw893 kw894 kw895 kw1 (by decide +kernel) hR
theorem cs_L_80 (C : z_C X cc RL nL rm) (hR : rmc.frames + 1 ≤ rm.frames ∧ 8 + (7 + 11) + rmc.locals ≤ rm.locals) : CallW (z_R X) (z_s X) (z_a X) RL (qX3_fill).1.cls 80 (qX3_fill).1 (qX3_fill).2.1 (qX3_fill).2.2.1 (qX3_fill).2.2.2 (z_ws qX3_fill) rmc rmc.cells rmc.slots 4 := z_cwV (q := qX3_fill) C kc_X3_fill kw900 kw901 kw902 kw1 (by decide +kernel) hR
theorem cs_L_83 (C : z_C X cc RL nL rm) (hR : rmc.frames + 1 ≤ rm.frames ∧ 8 + (5 + 11) + rmc.locals ≤ rm.locals) : CallW (z_R X) (z_s X) (z_a X) RL (qX3_pack).1.cls 83 (qX3_pack).1 (qX3_pack).2.1 (qX3_pack).2.2.1 (qX3_pack).2.2.2 (z_ws qX3_pack) rmc rmc.cells rmc.slots 1 := z_cwV (q := qX3_pack) C kc_X3_pack kw908 kw909 kw910 kw1 (by decide +kernel) hR
theorem cs_L_86 (C : z_C X cc RL nL rm) (hR : rmc.frames + 1 ≤ rm.frames ∧ 8 + (7 + 11) + rmc.locals ≤ rm.locals) : CallW (z_R X) (z_s X) (z_a X) RL (qX3_pour).1.cls 86 (qX3_pour).1 (qX3_pour).2.1 (qX3_pour).2.2.1 (qX3_pour).2.2.2 (z_ws qX3_pour) rmc rmc.cells rmc.slots 3 := z_cwV (q := qX3_pour) C kc_X3_pour kw915 kw916 kw917 kw1 (by decide +kernel) hR
theorem cs_L_89 (C : z_C X cc RL nL rm) (hR : rmc.frames + 1 ≤ rm.frames ∧ 8 + (3 + 11) + rmc.locals ≤ rm.locals) : CallW (z_R X) (z_s X) (z_a X) RL (qX3_lay).1.cls 89 (qX3_lay).1 (qX3_lay).2.1 (qX3_lay).2.2.1 (qX3_lay).2.2.2 (z_ws qX3_lay) rmc rmc.cells rmc.slots 2 := z_cwV (q := qX3_lay) C kc_X3_lay kw930 kw931 kw932 kw1 (by decide +kernel) hR
theorem cs_L_92 (C : z_C X cc RL nL rm) (hR : rmc.frames + 1 ≤ rm.frames ∧ 8 + (5 + 11) + rmc.locals ≤ rm.locals) : CallW (z_R X) (z_s X) (z_a X) RL (qX3_reach).1.cls 92 (qX3_reach).1 (qX3_reach).2.1 (qX3_reach).2.2.1 (qX3_reach).2.2.2 (z_ws qX3_reach) rmc rmc.cells rmc.slots 3 := z_cwV (q := qX3_reach) C kc_X3_reach kw940 kw941 kw942 kw1 (by decide +kernel) hR
theorem cs_L_95 (C : z_C X cc RL nL rm) (hR : rmc.frames + 1 ≤ rm.frames ∧ 8 + (3 + 11) + rmc.locals ≤ rm.locals) : CallW (z_R X) (z_s X) (z_a X) RL (qX3_get).1.cls 95 (qX3_get).1 (qX3_get).2.1 (qX3_get).2.2.1 (qX3_get).2.2.2 (z_ws qX3_get) rmc rmc.cells rmc.slots 1 := z_cwV (q := qX3_get) C kc_X3_get kw947 kw948 kw949 kw1 (by decide +kernel) hR
theorem cs_L_98 (C : z_C X cc RL nL rm) (hR : rmc.frames + 1 ≤ rm.frames ∧ 8 + (5 + 11) + rmc.locals ≤ rm.locals) : CallW (z_R X) (z_s X) (z_a X) RL (qX3_drain).1.cls 98 (qX3_drain).1 (qX3_drain).2.1 (qX3_drain).2.2.1 (qX3_drain).2.2.2 (z_ws qX3_drain) rmc rmc.cells rmc.slots 2 := z_cwV (q := qX3_drain) C kc_X3_drain kw954 kw955 kw956 kw1 (by decide +kernel) hR
theorem cs_L_101 (C : z_C X cc RL nL rm) (hR : rmc.frames + 1 ≤ rm.frames ∧ 8 + (3 + 11) + rmc.locals ≤ rm.locals) : CallW (z_R X) (z_s X) (z_a X) RL (qX3_pop).1.cls 101 (qX3_pop).1 (qX3_pop).2.1 (qX3_pop).2.2.1 (qX3_pop).2.2.2 (z_ws qX3_pop) rmc rmc.cells rmc.slots 1 := z_cwV (q := qX3_pop) C kc_X3_pop kw961 kw962 kw963 kw1 (by decide +kernel) hR
theorem cs_L_104 (C : z_C X cc RL nL rm) (hR : rmc.frames + 1 ≤ rm.frames ∧ 8 + (4 + 11) + rmc.locals ≤ rm.locals) : CallW (z_R X) (z_s X) (z_a X) RL (qX3_ofPane).1.cls 104 (qX3_ofPane).1 (qX3_ofPane).2.1 (qX3_ofPane).2.2.1 (qX3_ofPane).2.2.2 (z_ws qX3_ofPane) rmc rmc.cells rmc.slots 2 := z_cwV (q := qX3_ofPane) C kc_X3_ofPane kw968 kw969 kw970 kw1 (by decide +kernel) hR
theorem cs_L_107 (C : z_C X cc RL nL rm) (hR : rmc.frames + 1 ≤ rm.frames ∧ 8 + (4 + 11) + rmc.locals ≤ rm.locals) : CallW (z_R X) (z_s X) (z_a X) RL (qX3_at).1.cls 107 (qX3_at).1 (qX3_at).2.1 (qX3_at).2.2.1 (qX3_at).2.2.2 (z_ws qX3_at) rmc rmc.cells rmc.slots 2 := z_cwV (q := qX3_at) C kc_X3_at kw975 kw976 kw977 kw1 (by decide +kernel) hR
theorem cs_L_110 (C : z_C X cc RL nL rm) (hR : rmc.frames + 1 ≤ rm.frames ∧ 8 + (3 + 11) + rmc.locals ≤ rm.locals) : CallW (z_R X) (z_s X) (z_a X) RL (qX3_peek).1.cls 110 (qX3_peek).1 (qX3_peek).2.1 (qX3_peek).2.2.1 (qX3_peek).2.2.2 (z_ws qX3_peek) rmc rmc.cells rmc.slots 1 := z_cwV (q := qX3_peek) C kc_X3_peek kw982 kw983 kw984 kw1 (by decide +kernel) hR
theorem cs_L_113 (C : z_C X cc RL nL rm) (hR : rmc.frames + 1 ≤ rm.frames ∧ 8 + (3 + 11) + rmc.locals ≤ rm.locals) : CallW (z_R X) (z_s X) (z_a X) RL (qX3_total).1.cls 113 (qX3_total).1 (qX3_total).2.1 (qX3_total).2.2.1 (qX3_total).2.2.2 (z_ws qX3_total) rmc rmc.cells rmc.slots 1 := z_cwV (q := qX3_total) C kc_X3_total kw989 kw990 kw991 kw1 (by decide +kernel) hR
theorem cs_L_121 (C : z_C X cc RL nL rm) (hR : rmc.frames + 1 ≤ rm.frames ∧ 8 + (3 + 11) + rmc.locals ≤ rm.locals) : CallW (z_R X) (z_s X) (z_a X) RL (qX3_text).1.cls 121 (qX3_text).1 (qX3_text).2.1 (qX3_text).2.2.1 (qX3_text).2.2.2 (z_ws qX3_text) rmc rmc.cells rmc.slots 1 := z_cwV (q := qX3_text) C kc_X3_text kw996 kw997 kw998 kw1 (by decide +kernel) hR
theorem cs_L_124 (C : z_C X cc RL nL rm) (hR : rmc.frames + 1 ≤ rm.frames ∧ 8 + (3 + 11) + rmc.locals ≤ rm.locals) : CallW (z_R X) (z_s X) (z_a X) RL (qX3_whole).1.cls 124 (qX3_whole).1 (qX3_whole).2.1 (qX3_whole).2.2.1 (qX3_whole).2.2.2 (z_ws qX3_whole) rmc rmc.cells rmc.slots 1 := z_cwV (q := qX3_whole) C kc_X3_whole kw1003 kw1004 kw1005 kw1 (by decide +kernel) hR
theorem cs_L_127 (C : z_C X cc RL nL rm) (hR : rmc.frames + 1 ≤ rm.frames ∧ 8 + (3 + 11) + rmc.locals ≤ rm.locals) : CallW (z_R X) (z_s X) (z_a X) RL (qX3_isKin).1.cls 127 (qX3_isKin).1 (qX3_isKin).2.1 (qX3_isKin).2.2.1 (qX3_isKin).2.2.2 (z_ws qX3_isKin) rmc rmc.cells rmc.slots 2 := z_cwV (q := qX3_isKin) C kc_X3_isKin kw1010 kw1011 kw1012 kw1 (by decide +kernel) hR
theorem cs_L_130 (C : z_C X cc RL nL rm) (hR : rmc.frames + 1 ≤ rm.frames ∧ 8 + (4 + 11) + rmc.locals ≤ rm.locals) : CallW (z_R X) (z_s X) (z_a X) RL (qX3_sees).1.cls 130 (qX3_sees).1 (qX3_sees).2.1 (qX3_sees).2.2.1 (qX3_sees).2.2.2 (z_ws qX3_sees) rmc rmc.cells rmc.slots 3 := z_cwV (q := qX3_sees) C kc_X3_sees kw1017 kw1018 kw1019 kw1 (by decide +kernel) hR
theorem cs_L_133 (C : z_C X cc RL nL rm) (hR : rmc.frames + 1 ≤ rm.frames ∧ 8 + (4 + 11) + rmc.locals ≤ rm.locals) : CallW (z_R X) (z_s X) (z_a X) RL (qX3_would).1.cls 133 (qX3_would).1 (qX3_would).2.1 (qX3_would).2.2.1 (qX3_would).2.2.2 (z_ws qX3_would) rmc rmc.cells rmc.slots 2 := z_cwV (q := qX3_would) C kc_X3_would kw1024 kw1025 kw1026 kw1 (by decide +kernel) hR
theorem cs_L_136 (C : z_C X cc RL nL rm) (hR : rmc.frames + 1 ≤ rm.frames ∧ 8 + (2 + 11) + rmc.locals ≤ rm.locals) : CallW (z_R X) (z_s X) (z_a X) RL (qX3_house).1.cls 136 (qX3_house).1 (qX3_house).2.1 (qX3_house).2.2.1 (qX3_house).2.2.2 (z_ws qX3_house) rmc rmc.cells rmc.slots 1 := z_cwV (q := qX3_house) C kc_X3_house kw1031 kw1032 kw1033 kw1 (by decide +kernel) hR
theorem cs_L_139 (C : z_C X cc RL nL rm) (hR : rmc.frames + 1 ≤ rm.frames ∧ 8 + (2 + 11) + rmc.locals ≤ rm.locals) : CallB (z_R X) (z_s X) (z_a X) RL 139 (qX3_init).1 (qX3_init).2.1 (qX3_init).2.2.1 none (z_ws qX3_init) rmc rmc.cells rmc.slots 0 ∧ (qX3_init).1.name = "<init>" ∧ (Cond.instanceMethod (qX3_init).1).before (z_a X) (z_s X) = true := z_cwI (q := qX3_init) C kc_X3_init rfl kw28 kw29 kw1 rfl (by decide +kernel) hR
theorem cs_L_142 (C : z_C X cc RL nL rm) (hR : rmc.frames + 1 ≤ rm.frames ∧ 8 + (2 + 11) + rmc.locals ≤ rm.locals) : CallB (z_R X) (z_s X) (z_a X) RL 142 (qX5_init).1 (qX5_init).2.1 (qX5_init).2.2.1 none (z_ws qX5_init) rmc rmc.cells rmc.slots 0 ∧ (qX5_init).1.name = "<init>" ∧ (Cond.instanceMethod (qX5_init).1).before (z_a X) (z_s X) = true := z_cwI (q := qX5_init) C kc_X5_init rfl kw1037 kw1038 kw9 rfl (by decide +kernel) hR
theorem cs_L_149 (C : z_C X cc RL nL rm) (hR : rmc.frames + 1 ≤ rm.frames ∧ 8 + (4 + 11) + rmc.locals ≤ rm.locals) : CallW (z_R X) (z_s X) (z_a X) RL (qX5_wrap).1.cls 149 (qX5_wrap).1 (qX5_wrap).2.1 (qX5_wrap).2.2.1 (qX5_wrap).2.2.2 (z_ws qX5_wrap) rmc rmc.cells rmc.slots 3 := z_cwV (q := qX5_wrap) C kc_X5_wrap kw1076 kw1077 kw1078 kw9 (by decide +kernel) hR
theorem cs_L_153 (C : z_C X cc RL nL rm) (hR : rmc.frames + 1 ≤ rm.frames ∧ 8 + (3 + 11) + rmc.locals ≤ rm.locals) : CallW (z_R X) (z_s X) (z_a X) RL (qX5_fresh).1.cls 153 (qX5_fresh).1 (qX5_fresh).2.1 (qX5_fresh).2.2.1 (qX5_fresh).2.2.2 (z_ws qX5_fresh) rmc rmc.cells rmc.slots 2 := z_cwV (q := qX5_fresh) C kc_X5_fresh kw1094 kw1095 kw1096 kw9 (by decide +kernel) hR
theorem cs_L_156 (C : z_C X cc RL nL rm) (hR : rmc.frames + 1 ≤ rm.frames ∧ 8 + (3 + 11) + rmc.locals ≤ rm.locals) : CallW (z_R X) (z_s X) (z_a X) RL (qX5_twin).1.cls 156 (qX5_twin).1 (qX5_twin).2.1 (qX5_twin).2.2.1 (qX5_twin).2.2.2 (z_ws qX5_twin) rmc rmc.cells rmc.slots 2 := z_cwV (q := qX5_twin) C kc_X5_twin kw1098 kw1099 kw1100 kw9 (by decide +kernel) hR
theorem cs_L_159 (C : z_C X cc RL nL rm) (hR : rmc.frames + 1 ≤ rm.frames ∧ 8 + (3 + 11) + rmc.locals ≤ rm.locals) : CallW (z_R X) (z_s X) (z_a X) RL (qX5_rest).1.cls 159 (qX5_rest).1 (qX5_rest).2.1 (qX5_rest).2.2.1 (qX5_rest).2.2.2 (z_ws qX5_rest) rmc rmc.cells rmc.slots 2 := z_cwV (q := qX5_rest) C kc_X5_rest kw1108 kw1109 kw1110 kw9 (by decide +kernel) hR
theorem cs_L_163 (C : z_C X cc RL nL rm) (hR : rmc.frames + 1 ≤ rm.frames ∧ 8 + (6 + 11) + rmc.locals ≤ rm.locals) : CallW (z_R X) (z_s X) (z_a X) RL (qX5_part).1.cls 163 (qX5_part).1 (qX5_part).2.1 (qX5_part).2.2.1 (qX5_part).2.2.2 (z_ws qX5_part) rmc rmc.cells rmc.slots 4 := z_cwV (q := qX5_part) C kc_X5_part kw1116 kw1117 kw1118 kw9 (by decide +kernel) hR
theorem cs_L_166 (C : z_C X cc RL nL rm) (hR : rmc.frames + 1 ≤ rm.frames ∧ 8 + (3 + 11) + rmc.locals ≤ rm.locals) : CallW (z_R X) (z_s X) (z_a X) RL (qX5_reader).1.cls 166 (qX5_reader).1 (qX5_reader).2.1 (qX5_reader).2.2.1 (qX5_reader).2.2.2 (z_ws qX5_reader) rmc rmc.cells rmc.slots 2 := z_cwV (q := qX5_reader) C kc_X5_reader kw1124 kw1125 kw1126 kw9 (by decide +kernel) hR
theorem cs_L_169 (C : z_C X cc RL nL rm) (hR : rmc.frames + 1 ≤ rm.frames ∧ 8 + (4 + 11) + rmc.locals ≤ rm.locals) : CallW (z_R X) (z_s X) (z_a X) RL (qX5_exchange).1.cls 169 (qX5_exchange).1 (qX5_exchange).2.1 (qX5_exchange).2.2.1 (qX5_exchange).2.2.2 (z_ws qX5_exchange) rmc rmc.cells rmc.slots 2 := z_cwV (q := qX5_exchange) C kc_X5_exchange kw1128 kw1129 kw1130 kw9 (by decide +kernel) hR
theorem cs_L_172 (C : z_C X cc RL nL rm) (hR : rmc.frames + 1 ≤ rm.frames ∧ 8 + (5 + 11) + rmc.locals ≤ rm.locals) : CallW (z_R X) (z_s X) (z_a X) RL (qX5_go).1.cls 172 (qX5_go).1 (qX5_go).2.1 (qX5_go).2.2.1 (qX5_go).2.2.2 (z_ws qX5_go) rmc rmc.cells rmc.slots 2 := z_cwV (q := qX5_go) C kc_X5_go kw1132 kw1133 kw1134 kw9 (by decide +kernel) hR
theorem cs_L_175 (C : z_C X cc RL nL rm) (hR : rmc.frames + 1 ≤ rm.frames ∧ 8 + (4 + 11) + rmc.locals ≤ rm.locals) : CallW (z_R X) (z_s X) (z_a X) RL (qX5_move).1.cls 175 (qX5_move).1 (qX5_move).2.1 (qX5_move).2.2.1 (qX5_move).2.2.2 (z_ws qX5_move) rmc rmc.cells rmc.slots 2 := z_cwV (q := qX5_move) C kc_X5_move kw1140 kw1141 kw1142 kw9 (by decide +kernel) hR
theorem cs_L_178 (C : z_C X cc RL nL rm) (hR : rmc.frames + 1 ≤ rm.frames ∧ 8 + (5 + 11) + rmc.locals ≤ rm.locals) : CallW (z_R X) (z_s X) (z_a X) RL (qX5_end).1.cls 178 (qX5_end).1 (qX5_end).2.1 (qX5_end).2.2.1 (qX5_end).2.2.2 (z_ws qX5_end) rmc rmc.cells rmc.slots 2 := z_cwV (q := qX5_end) C kc_X5_end kw1145 kw1146 kw1147 kw9 (by decide +kernel) hR
theorem cs_L_181 (C : z_C X cc RL nL rm) (hR : rmc.frames + 1 ≤ rm.frames ∧ 8 + (4 + 11) + rmc.locals ≤ rm.locals) : CallW (z_R X) (z_s X) (z_a X) RL (qX5_stretch).1.cls 181 (qX5_stretch).1 (qX5_stretch).2.1 (qX5_stretch).2.2.1 (qX5_stretch).2.2.2 (z_ws qX5_stretch) rmc rmc.cells rmc.slots 2 := z_cwV (q := qX5_stretch) C kc_X5_stretch kw1153 kw1154 kw1155 kw9 (by decide +kernel) hR
theorem cs_L_185 (C : z_C X cc RL nL rm) (hR : rmc.frames + 1 ≤ rm.frames ∧ 8 + (2 + 11) + rmc.locals ≤ rm.locals) : CallW (z_R X) (z_s X) (z_a X) RL (qX5_mark).1.cls 185 (qX5_mark).1 (qX5_mark).2.1 (qX5_mark).2.2.1 (qX5_mark).2.2.2 (z_ws qX5_mark) rmc rmc.cells rmc.slots 1 := z_cwV (q := qX5_mark) C kc_X5_mark kw1158 kw1159 kw1160 kw9 (by decide +kernel) hR
theorem cs_L_188 (C : z_C X cc RL nL rm) (hR : rmc.frames + 1 ≤ rm.frames ∧ 8 + (4 + 11) + rmc.locals ≤ rm.locals) : CallW (z_R X) (z_s X) (z_a X) RL (qX5_back).1.cls 188 (qX5_back).1 (qX5_back).2.1 (qX5_back).2.2.1 (qX5_back).2.2.2 (z_ws qX5_back) rmc rmc.cells rmc.slots 1 := z_cwV (q := qX5_back) C kc_X5_back kw1162 kw1163 kw1164 kw9 (by decide +kernel) hR
theorem cs_L_191 (C : z_C X cc RL nL rm) (hR : rmc.frames + 1 ≤ rm.frames ∧ 8 + (2 + 11) + rmc.locals ≤ rm.locals) : CallW (z_R X) (z_s X) (z_a X) RL (qX5_clear).1.cls 191 (qX5_clear).1 (qX5_clear).2.1 (qX5_clear).2.2.1 (qX5_clear).2.2.2 (z_ws qX5_clear) rmc rmc.cells rmc.slots 1 := z_cwV (q := qX5_clear) C kc_X5_clear kw1166 kw1167 kw1168 kw9 (by decide +kernel) hR
theorem cs_L_194 (C : z_C X cc RL nL rm) (hR : rmc.frames + 1 ≤ rm.frames ∧ 8 + (2 + 11) + rmc.locals ≤ rm.locals) : CallW (z_R X) (z_s X) (z_a X) RL (qX5_flip).1.cls 194 (qX5_flip).1 (qX5_flip).2.1 (qX5_flip).2.2.1 (qX5_flip).2.2.2 (z_ws qX5_flip) rmc rmc.cells rmc.slots 1 := z_cwV (q := qX5_flip) C kc_X5_flip kw1174 kw1175 kw1176 kw9 (by decide +kernel) hR
theorem cs_L_197 (C : z_C X cc RL nL rm) (hR : rmc.frames + 1 ≤ rm.frames ∧ 8 + (2 + 11) + rmc.locals ≤ rm.locals) : CallW (z_R X) (z_s X) (z_a X) RL (qX5_rewind).1.cls 197 (qX5_rewind).1 (qX5_rewind).2.1 (qX5_rewind).2.2.1 (qX5_rewind).2.2.2 (z_ws qX5_rewind) rmc rmc.cells rmc.slots 1 := z_cwV (q := qX5_rewind) C kc_X5_rewind kw1178 kw1179 kw1180 kw9 (by decide +kernel) hR
theorem cs_L_200 (C : z_C X cc RL nL rm) (hR : rmc.frames + 1 ≤ rm.frames ∧ 8 + (3 + 11) + rmc.locals ≤ rm.locals) : CallW (z_R X) (z_s X) (z_a X) RL (qX5_put).1.cls 200 (qX5_put).1 (qX5_put).2.1 (qX5_put).2.2.1 (qX5_put).2.2.2 (z_ws qX5_put) rmc rmc.cells rmc.slots 2 := z_cwV (q := qX5_put) C kc_X5_put kw1182 kw1183 kw1184 kw9 (by decide +kernel) hR
theorem cs_L_203 (C : z_C X cc RL nL rm) (hR : rmc.frames + 1 ≤ rm.frames ∧ 8 + (5 + 11) + rmc.locals ≤ rm.locals) : CallW (z_R X) (z_s X) (z_a X) RL (qX5_putAt).1.cls 203 (qX5_putAt).1 (qX5_putAt).2.1 (qX5_putAt).2.2.1 (qX5_putAt).2.2.2 (z_ws qX5_putAt) rmc rmc.cells rmc.slots 3 := z_cwV (q := qX5_putAt) C kc_X5_putAt kw1194 kw1195 kw1196 kw9 (by decide +kernel) hR
theorem cs_L_206 (C : z_C X cc RL nL rm) (hR : rmc.frames + 1 ≤ rm.frames ∧ 8 + (7 + 11) + rmc.locals ≤ rm.locals) : CallW (z_R X) (z_s X) (z_a X) RL (qX5_bring).1.cls 206 (qX5_bring).1 (qX5_bring).2.1 (qX5_bring).2.2.1 (qX5_bring).2.2.2 (z_ws qX5_bring) rmc rmc.cells rmc.slots 4 := z_cwV (q := qX5_bring) C kc_X5_bring kw1202 kw1203 kw1204 kw9 (by decide +kernel) hR
theorem cs_L_209 (C : z_C X cc RL nL rm) (hR : rmc.frames + 1 ≤ rm.frames ∧ 8 + (6 + 11) + rmc.locals ≤ rm.locals) : CallW (z_R X) (z_s X) (z_a X) RL (qX5_fill).1.cls 209 (qX5_fill).1 (qX5_fill).2.1 (qX5_fill).2.2.1 (qX5_fill).2.2.2 (z_ws qX5_fill) rmc rmc.cells rmc.slots 4 := z_cwV (q := qX5_fill) C kc_X5_fill kw1206 kw1207 kw1208 kw9 (by decide +kernel) hR
theorem cs_L_212 (C : z_C X cc RL nL rm) (hR : rmc.frames + 1 ≤ rm.frames ∧ 8 + (5 + 11) + rmc.locals ≤ rm.locals) : CallW (z_R X) (z_s X) (z_a X) RL (qX5_pack).1.cls 212 (qX5_pack).1 (qX5_pack).2.1 (qX5_pack).2.2.1 (qX5_pack).2.2.2 (z_ws qX5_pack) rmc rmc.cells rmc.slots 1 := z_cwV (q := qX5_pack) C kc_X5_pack kw1211 kw1212 kw1213 kw9 (by decide +kernel) hR
theorem cs_L_215 (C : z_C X cc RL nL rm) (hR : rmc.frames + 1 ≤ rm.frames ∧ 8 + (6 + 11) + rmc.locals ≤ rm.locals) : CallW (z_R X) (z_s X) (z_a X) RL (qX5_pour).1.cls 215 (qX5_pour).1 (qX5_pour).2.1 (qX5_pour).2.2.1 (qX5_pour).2.2.2 (z_ws qX5_pour) rmc rmc.cells rmc.slots 3 := z_cwV (q := qX5_pour) C kc_X5_pour kw1215 kw1216 kw1217 kw9 (by decide +kernel) hR
theorem cs_L_218 (C : z_C X cc RL nL rm) (hR : rmc.frames + 1 ≤ rm.frames ∧ 8 + (3 + 11) + rmc.locals ≤ rm.locals) : CallW (z_R X) (z_s X) (z_a X) RL (qX5_lay).1.cls 218 (qX5_lay).1 (qX5_lay).2.1 (qX5_lay).2.2.1 (qX5_lay).2.2.2 (z_ws qX5_lay) rmc rmc.cells rmc.slots 2 := z_cwV (q := qX5_lay) C kc_X5_lay kw1219 kw1220 kw1221 kw9 (by decide +kernel) hR
theorem cs_L_221 (C : z_C X cc RL nL rm) (hR : rmc.frames + 1 ≤ rm.frames ∧ 8 + (5 + 11) + rmc.locals ≤ rm.locals) : CallW (z_R X) (z_s X) (z_a X) RL (qX5_reach).1.cls 221 (qX5_reach).1 (qX5_reach).2.1 (qX5_reach).2.2.1 (qX5_reach).2.2.2 (z_ws qX5_reach) rmc rmc.cells rmc.slots 3 := z_cwV (q := qX5_reach) C kc_X5_reach kw1223 kw1224 kw1225 kw9 (by decide +kernel) hR
theorem cs_L_224 (C : z_C X cc RL nL rm) (hR : rmc.frames + 1 ≤ rm.frames ∧ 8 + (3 + 11) + rmc.locals ≤ rm.locals) : CallW (z_R X) (z_s X) (z_a X) RL (qX5_get).1.cls 224 (qX5_get).1 (qX5_get).2.1 (qX5_get).2.2.1 (qX5_get).2.2.2 (z_ws qX5_get) rmc rmc.cells rmc.slots 1 := z_cwV (q := qX5_get) C kc_X5_get kw1227 kw1228 kw1229 kw9 (by decide +kernel) hR
theorem cs_L_227 (C : z_C X cc RL nL rm) (hR : rmc.frames + 1 ≤ rm.frames ∧ 8 + (5 + 11) + rmc.locals ≤ rm.locals) : CallW (z_R X) (z_s X) (z_a X) RL (qX5_drain).1.cls 227 (qX5_drain).1 (qX5_drain).2.1 (qX5_drain).2.2.1 (qX5_drain).2.2.2 (z_ws qX5_drain) rmc rmc.cells rmc.slots 2 := z_cwV (q := qX5_drain) C kc_X5_drain kw1231 kw1232 kw1233 kw9 (by decide +kernel) hR
theorem cs_L_228 (C : z_C X cc RL nL rm) (hR : rmc.frames + 1 ≤ rm.frames ∧ 8 + (1 + 11) + rmc.locals ≤ rm.locals) : CallW (z_R X) (z_s X) (z_a X) RL (qX5_thrown).1.cls 228 (qX5_thrown).1 (qX5_thrown).2.1 (qX5_thrown).2.2.1 (qX5_thrown).2.2.2 (z_ws qX5_thrown) rmc rmc.cells rmc.slots 0 := z_cwV (q := qX5_thrown) C kc_X5_thrown kw1072 kw1073 kw1074 kw9 (by decide +kernel) hR
theorem cs_L_234 (C : z_C X cc RL nL rm) (hR : rmc.frames + 1 ≤ rm.frames ∧ 8 + (3 + 11) + rmc.locals ≤ rm.locals) : CallW (z_R X) (z_s X) (z_a X) RL (qX5_pop).1.cls 234 (qX5_pop).1 (qX5_pop).2.1 (qX5_pop).2.2.1 (qX5_pop).2.2.2 (z_ws qX5_pop) rmc rmc.cells rmc.slots 1 := z_cwV (q := qX5_pop) C kc_X5_pop kw1236 kw1237 kw1238 kw9 (by decide +kernel) hR
theorem cs_L_237 (C : z_C X cc RL nL rm) (hR : rmc.frames + 1 ≤ rm.frames ∧ 8 + (5 + 11) + rmc.locals ≤ rm.locals) : CallW (z_R X) (z_s X) (z_a X) RL (qX5_ofPane).1.cls 237 (qX5_ofPane).1 (qX5_ofPane).2.1 (qX5_ofPane).2.2.1 (qX5_ofPane).2.2.2 (z_ws qX5_ofPane) rmc rmc.cells rmc.slots 2 := z_cwV (q := qX5_ofPane) C kc_X5_ofPane kw1240 kw1241 kw1242 kw9 (by decide +kernel) hR
theorem cs_L_240 (C : z_C X cc RL nL rm) (hR : rmc.frames + 1 ≤ rm.frames ∧ 8 + (3 + 11) + rmc.locals ≤ rm.locals) : CallW (z_R X) (z_s X) (z_a X) RL (qX5_at).1.cls 240 (qX5_at).1 (qX5_at).2.1 (qX5_at).2.2.1 (qX5_at).2.2.2 (z_ws qX5_at) rmc rmc.cells rmc.slots 2 := z_cwV (q := qX5_at) C kc_X5_at kw1244 kw1245 kw1246 kw9 (by decide +kernel) hR
theorem cs_L_243 (C : z_C X cc RL nL rm) (hR : rmc.frames + 1 ≤ rm.frames ∧ 8 + (2 + 11) + rmc.locals ≤ rm.locals) : CallW (z_R X) (z_s X) (z_a X) RL (qX5_peek).1.cls 243 (qX5_peek).1 (qX5_peek).2.1 (qX5_peek).2.2.1 (qX5_peek).2.2.2 (z_ws qX5_peek) rmc rmc.cells rmc.slots 1 := z_cwV (q := qX5_peek) C kc_X5_peek kw1248 kw1249 kw1250 kw9 (by decide +kernel) hR
theorem cs_L_246 (C : z_C X cc RL nL rm) (hR : rmc.frames + 1 ≤ rm.frames ∧ 8 + (5 + 11) + rmc.locals ≤ rm.locals) : CallW (z_R X) (z_s X) (z_a X) RL (qX5_total).1.cls 246 (qX5_total).1 (qX5_total).2.1 (qX5_total).2.2.1 (qX5_total).2.2.2 (z_ws qX5_total) rmc rmc.cells rmc.slots 1 := z_cwV (q := qX5_total) C kc_X5_total kw1252 kw1253 kw1254 kw9 (by decide +kernel) hR
theorem cs_L_249 (C : z_C X cc RL nL rm) (hR : rmc.frames + 1 ≤ rm.frames ∧ 8 + (2 + 11) + rmc.locals ≤ rm.locals) : CallW (z_R X) (z_s X) (z_a X) RL (qX5_text).1.cls 249 (qX5_text).1 (qX5_text).2.1 (qX5_text).2.2.1 (qX5_text).2.2.2 (z_ws qX5_text) rmc rmc.cells rmc.slots 1 := z_cwV (q := qX5_text) C kc_X5_text kw1288 kw1289 kw1290 kw9 (by decide +kernel) hR
theorem cs_L_252 (C : z_C X cc RL nL rm) (hR : rmc.frames + 1 ≤ rm.frames ∧ 8 + (5 + 11) + rmc.locals ≤ rm.locals) : CallW (z_R X) (z_s X) (z_a X) RL (qX5_whole).1.cls 252 (qX5_whole).1 (qX5_whole).2.1 (qX5_whole).2.2.1 (qX5_whole).2.2.2 (z_ws qX5_whole) rmc rmc.cells rmc.slots 1 := z_cwV (q := qX5_whole) C kc_X5_whole kw1298 kw1299 kw1300 kw9 (by decide +kernel) hR
theorem cs_L_253 (C : z_C X cc RL nL rm) (hR : rmc.frames + 1 ≤ rm.frames ∧ 8 + (1 + 11) + rmc.locals ≤ rm.locals) : CallW (z_R X) (z_s X) (z_a X) RL (qX3_row).1.cls 253 (qX3_row).1 (qX3_row).2.1 (qX3_row).2.2.1 (qX3_row).2.2.2 (z_ws qX3_row) rmc rmc.cells rmc.slots 0 := z_cwV (q := qX3_row) C kc_X3_row kw155 kw156 kw157 kw1 (by decide +kernel) hR
theorem cs_L_257 (C : z_C X cc RL nL rm) (hR : rmc.frames + 1 ≤ rm.frames ∧ 8 + (1 + 11) + rmc.locals ≤ rm.locals) : CallW (z_R X) (z_s X) (z_a X) RL (qX5_row).1.cls 257 (qX5_row).1 (qX5_row).2.1 (qX5_row).2.2.1 (qX5_row).2.2.2 (z_ws qX5_row) rmc rmc.cells rmc.slots 0 := z_cwV (q := qX5_row) C kc_X5_row kw1305 kw1306 kw1307 kw9 (by decide +kernel) hR
theorem cs_L_260 (C : z_C X cc RL nL rm) (hR : rmc.frames + 1 ≤ rm.frames ∧ 8 + (3 + 11) + rmc.locals ≤ rm.locals) : CallW (z_R X) (z_s X) (z_a X) RL (qX5_isKin).1.cls 260 (qX5_isKin).1 (qX5_isKin).2.1 (qX5_isKin).2.2.1 (qX5_isKin).2.2.2 (z_ws qX5_isKin) rmc rmc.cells rmc.slots 2 := z_cwV (q := qX5_isKin) C kc_X5_isKin kw1309 kw1310 kw1311 kw9 (by decide +kernel) hR
theorem cs_L_263 (C : z_C X cc RL nL rm) (hR : rmc.frames + 1 ≤ rm.frames ∧ 8 + (7 + 11) + rmc.locals ≤ rm.locals) : CallW (z_R X) (z_s X) (z_a X) RL (qX5_sees).1.cls 263 (qX5_sees).1 (qX5_sees).2.1 (qX5_sees).2.2.1 (qX5_sees).2.2.2 (z_ws qX5_sees) rmc rmc.cells rmc.slots 3 := z_cwV (q := qX5_sees) C kc_X5_sees kw1317 kw1318 kw1319 kw9 (by decide +kernel) hR
theorem cs_L_266 (C : z_C X cc RL nL rm) (hR : rmc.frames + 1 ≤ rm.frames ∧ 8 + (4 + 11) + rmc.locals ≤ rm.locals) : CallW (z_R X) (z_s X) (z_a X) RL (qX5_would).1.cls 266 (qX5_would).1 (qX5_would).2.1 (qX5_would).2.2.1 (qX5_would).2.2.2 (z_ws qX5_would) rmc rmc.cells rmc.slots 2 := z_cwV (q := qX5_would) C kc_X5_would kw1321 kw1322 kw1323 kw9 (by decide +kernel) hR
theorem cs_L_269 (C : z_C X cc RL nL rm) (hR : rmc.frames + 1 ≤ rm.frames ∧ 8 + (7 + 11) + rmc.locals ≤ rm.locals) : CallW (z_R X) (z_s X) (z_a X) RL (qX5_house).1.cls 269 (qX5_house).1 (qX5_house).2.1 (qX5_house).2.2.1 (qX5_house).2.2.2 (z_ws qX5_house) rmc rmc.cells rmc.slots 1 := z_cwV (q := qX5_house) C kc_X5_house kw1325 kw1326 kw1327 kw9 (by decide +kernel) hR
theorem cs_L_270 (C : z_C X cc RL nL rm) (hR : rmc.frames + 1 ≤ rm.frames ∧ 8 + (1 + 11) + rmc.locals ≤ rm.locals) : CallW (z_R X) (z_s X) (z_a X) RL (qX3_knock).1.cls 270 (qX3_knock).1 (qX3_knock).2.1 (qX3_knock).2.2.1 (qX3_knock).2.2.2 (z_ws qX3_knock) rmc rmc.cells rmc.slots 0 := z_cwV (q := qX3_knock) C kc_X3_knock kw563 kw564 kw565 kw1 (by decide +kernel) hR
theorem cs_L_273 (C : z_C X cc RL nL rm) (hR : rmc.frames + 1 ≤ rm.frames ∧ 8 + (1 + 11) + rmc.locals ≤ rm.locals) : CallW (z_R X) (z_s X) (z_a X) RL (qX5_knock).1.cls 273 (qX5_knock).1 (qX5_knock).2.1 (qX5_knock).2.2.1 (qX5_knock).2.2.2 (z_ws qX5_knock) rmc rmc.cells rmc.slots 0 := z_cwV (q := qX5_knock) C kc_X5_knock kw1329 kw1330 kw1331 kw9 (by decide +kernel) hR
theorem cs_L_274 (C : z_C X cc RL nL rm) (hR : rmc.frames + 1 ≤ rm.frames ∧ 8 + (3 + 11) + rmc.locals ≤ rm.locals) : CallW (z_R X) (z_s X) (z_a X) RL (qX3_isSound).1.cls 274 (qX3_isSound).1 (qX3_isSound).2.1 (qX3_isSound).2.2.1 (qX3_isSound).2.2.2 (z_ws qX3_isSound) rmc rmc.cells rmc.slots 0 := z_cwV (q := qX3_isSound) C kc_X3_isSound kw567 kw568 kw569 kw1 (by decide +kernel) hR
theorem cs_L_278 (C : z_C X cc RL nL rm) (hR : rmc.frames + 1 ≤ rm.frames ∧ 8 + (1 + 11) + rmc.locals ≤ rm.locals) : CallW (z_R X) (z_s X) (z_a X) RL (qX5_isSound).1.cls 278 (qX5_isSound).1 (qX5_isSound).2.1 (qX5_isSound).2.2.1 (qX5_isSound).2.2.2 (z_ws qX5_isSound) rmc rmc.cells rmc.slots 0 := z_cwV (q := qX5_isSound) C kc_X5_isSound kw1333 kw1334 kw1335 kw9 (by decide +kernel) hR
theorem cs_L_279 (C : z_C X cc RL nL rm) (hR : rmc.frames + 1 ≤ rm.frames ∧ 8 + (5 + 11) + rmc.locals ≤ rm.locals) : CallW (z_R X) (z_s X) (z_a X) RL (qX3_digest).1.cls 279 (qX3_digest).1 (qX3_digest).2.1 (qX3_digest).2.2.1 (qX3_digest).2.2.2 (z_ws qX3_digest) rmc rmc.cells rmc.slots 0 := z_cwV (q := qX3_digest) C kc_X3_digest kw619 kw620 kw621 kw1 (by decide +kernel) hR
theorem cs_L_283 (C : z_C X cc RL nL rm) (hR : rmc.frames + 1 ≤ rm.frames ∧ 8 + (5 + 11) + rmc.locals ≤ rm.locals) : CallW (z_R X) (z_s X) (z_a X) RL (qX5_digest).1.cls 283 (qX5_digest).1 (qX5_digest).2.1 (qX5_digest).2.2.1 (qX5_digest).2.2.2 (z_ws qX5_digest) rmc rmc.cells rmc.slots 0 := z_cwV (q := qX5_digest) C kc_X5_digest kw1337 kw1338 kw1339 kw9 (by decide +kernel) hR
theorem cs_X0_9 (C : z_C X cc RX0 nL rm) (hR : rmc.frames + 1 ≤ rm.frames ∧ 8 + (1 + 11) + rmc.locals ≤ rm.locals) : CallB (z_R X) (z_s X) (z_a X) RX0 9 (qJ4_init_da8c8).1 (qJ4_init_da8c8).2.1 (qJ4_init_da8c8).2.2.1 none (z_ws qJ4_init_da8c8) rmc rmc.cells rmc.slots 0 ∧ (qJ4_init_da8c8).1.name = "<init>" ∧ (Cond.instanceMethod (qJ4_init_da8c8).1).before (z_a X) (z_s X) = true := z_cwI (q := qJ4_init_da8c8) C kc_J4_init_da8c8 rfl kw97 kw98 kw6 rfl (by decide +kernel) hR
theorem cs_X0_16 (C : z_C X cc RX0 nL rm) (hR : rmc.frames + 1 ≤ rm.frames ∧ 8 + (1 + 11) + rmc.locals ≤ rm.locals) : CallW (z_R X) (z_s X) (z_a X) RX0 (qJ4_toString_0e30d).1.cls 16 (qJ4_toString_0e30d).1 (qJ4_toString_0e30d).2.1 (qJ4_toString_0e30d).2.2.1 (qJ4_toString_0e30d).2.2.2 (z_ws qJ4_toString_0e30d) rmc rmc.cells rmc.slots 0 := z_cwV (q := qJ4_toString_0e30d) C kc_J4_toString_0e30d kw562 kw336 kw337 kw6 (by decide +kernel) hR
theorem cs_X0_20 (C : z_C X cc RX0 nL rm) (hR : rmc.frames + 1 ≤ rm.frames ∧ 8 + (2 + 11) + rmc.locals ≤ rm.locals) : CallW (z_R X) (z_s X) (z_a X) RX0 (qJ4_setLength_d00df).1.cls 20 (qJ4_setLength_d00df).1 (qJ4_setLength_d00df).2.1 (qJ4_setLength_d00df).2.2.1 (qJ4_setLength_d00df).2.2.2 (z_ws qJ4_setLength_d00df) rmc rmc.cells rmc.slots 1 := z_cwV (q := qJ4_setLength_d00df) C kc_J4_setLength_d00df kw175 kw176 kw177 kw6 (by decide +kernel) hR
theorem cs_X0_33 (C : z_C X cc RX0 nL rm) (hR : rmc.frames + 1 ≤ rm.frames ∧ 8 + (2 + 11) + rmc.locals ≤ rm.locals) : CallW (z_R X) (z_s X) (z_a X) RX0 (qX1_valueAt).1.cls 33 (qX1_valueAt).1 (qX1_valueAt).2.1 (qX1_valueAt).2.2.1 (qX1_valueAt).2.2.2 (z_ws qX1_valueAt) rmc rmc.cells rmc.slots 1 := z_cwV (q := qX1_valueAt) C kc_X1_valueAt kw540 kw541 kw542 kw3 (by decide +kernel) hR
theorem cs_X0_37 (C : z_C X cc RX0 nL rm) (hR : rmc.frames + 1 ≤ rm.frames ∧ 8 + (5 + 11) + rmc.locals ≤ rm.locals) : CallW (z_R X) (z_s X) (z_a X) RX0 (qX0_addNumber).1.cls 37 (qX0_addNumber).1 (qX0_addNumber).2.1 (qX0_addNumber).2.2.1 (qX0_addNumber).2.2.2 (z_ws qX0_addNumber) rmc rmc.cells rmc.slots 1 := z_cwV (q := qX0_addNumber) C kc_X0_addNumber kw552 kw554 kp2 kw4 (by decide +kernel) hR
theorem cs_X0_41 (C : z_C X cc RX0 nL rm) (hR : rmc.frames + 1 ≤ rm.frames ∧ 8 + (2 + 11) + rmc.locals ≤ rm.locals) : CallW (z_R X) (z_s X) (z_a X) RX0 (qJ4_append_cf468).1.cls 41 (qJ4_append_cf468).1 (qJ4_append_cf468).2.1 (qJ4_append_cf468).2.2.1 (qJ4_append_cf468).2.2.2 (z_ws qJ4_append_cf468) rmc rmc.cells rmc.slots 1 := z_cwV (q := qJ4_append_cf468) C kc_J4_append_cf468 kw518 kw519 kw520 kw6 (by decide +kernel) hR
theorem cs_X0_48 (C : z_C X cc RX0 nL rm) (hR : rmc.frames + 1 ≤ rm.frames ∧ 8 + (3 + 11) + rmc.locals ≤ rm.locals) : CallW (z_R X) (z_s X) (z_a X) RX0 (qX0_addSigns).1.cls 48 (qX0_addSigns).1 (qX0_addSigns).2.1 (qX0_addSigns).2.2.1 (qX0_addSigns).2.2.2 (z_ws qX0_addSigns) rmc rmc.cells rmc.slots 2 := z_cwV (q := qX0_addSigns) C kc_X0_addSigns kw653 kw655 kp9 kw4 (by decide +kernel) hR
theorem cs_X1_19 (C : z_C X cc RX1 nL rm) (hR : rmc.frames + 1 ≤ rm.frames ∧ 8 + (1 + 11) + rmc.locals ≤ rm.locals) : CallW (z_R X) (z_s X) (z_a X) RX1 (qX2_length).1.cls 19 (qX2_length).1 (qX2_length).2.1 (qX2_length).2.2.1 (qX2_length).2.2.2 (z_ws qX2_length) rmc rmc.cells rmc.slots 0 := z_cwV (q := qX2_length) C kc_X2_length kw52 kw53 kw54 kw2 (by decide +kernel) hR
theorem cs_X1_41 (C : z_C X cc RX1 nL rm) (hR : rmc.frames + 1 ≤ rm.frames ∧ 8 + (2 + 11) + rmc.locals ≤ rm.locals) : CallW (z_R X) (z_s X) (z_a X) RX1 (qX1_beginAgain).1.cls 41 (qX1_beginAgain).1 (qX1_beginAgain).2.1 (qX1_beginAgain).2.2.1 (qX1_beginAgain).2.2.2 (z_ws qX1_beginAgain) rmc rmc.cells rmc.slots 1 := z_cwV (q := qX1_beginAgain) C kc_X1_beginAgain kw167 kw168 kw169 kw3 (by decide +kernel) hR
theorem cs_X1_45 (C : z_C X cc RX1 nL rm) (hR : rmc.frames + 1 ≤ rm.frames ∧ 8 + (2 + 11) + rmc.locals ≤ rm.locals) : CallW (z_R X) (z_s X) (z_a X) RX1 (qX2_valueAt).1.cls 45 (qX2_valueAt).1 (qX2_valueAt).2.1 (qX2_valueAt).2.2.1 (qX2_valueAt).2.2.2 (z_ws qX2_valueAt) rmc rmc.cells rmc.slots 1 := z_cwV (q := qX2_valueAt) C kc_X2_valueAt kw544 kw545 kw546 kw2 (by decide +kernel) hR
theorem cs_X1_49 (C : z_C X cc RX1 nL rm) (hR : rmc.frames + 1 ≤ rm.frames ∧ 8 + (4 + 11) + rmc.locals ≤ rm.locals) : CallW (z_R X) (z_s X) (z_a X) RX1 (qX2_exchangeAt).1.cls 49 (qX2_exchangeAt).1 (qX2_exchangeAt).2.1 (qX2_exchangeAt).2.2.1 (qX2_exchangeAt).2.2.2 (z_ws qX2_exchangeAt) rmc rmc.cells rmc.slots 2 := z_cwV (q := qX2_exchangeAt) C kc_X2_exchangeAt kw874 kw875 kw876 kw2 (by decide +kernel) hR
theorem cs_X1_53 (C : z_C X cc RX1 nL rm) (hR : rmc.frames + 1 ≤ rm.frames ∧ 8 + (2 + 11) + rmc.locals ≤ rm.locals) : CallW (z_R X) (z_s X) (z_a X) RX1 (qX1_valueAt).1.cls 53 (qX1_valueAt).1 (qX1_valueAt).2.1 (qX1_valueAt).2.2.1 (qX1_valueAt).2.2.2 (z_ws qX1_valueAt) rmc rmc.cells rmc.slots 1 := z_cwV (q := qX1_valueAt) C kc_X1_valueAt kw595 kw541 kw542 kw3 (by decide +kernel) hR
theorem cs_X1_54 (C : z_C X cc RX1 nL rm) (hR : rmc.frames + 1 ≤ rm.frames ∧ 8 + (3 + 11) + rmc.locals ≤ rm.locals) : CallW (z_R X) (z_s X) (z_a X) RX1 (qX1_replace).1.cls 54 (qX1_replace).1 (qX1_replace).2.1 (qX1_replace).2.2.1 (qX1_replace).2.2.2 (z_ws qX1_replace) rmc rmc.cells rmc.slots 2 := z_cwV (q := qX1_replace) C kc_X1_replace kw870 kw871 kw872 kw3 (by decide +kernel) hR
theorem cs_X1_57 (C : z_C X cc RX1 nL rm) (hR : rmc.frames + 1 ≤ rm.frames ∧ 8 + (1 + 11) + rmc.locals ≤ rm.locals) : CallW (z_R X) (z_s X) (z_a X) RX1 (qX1_left).1.cls 57 (qX1_left).1 (qX1_left).2.1 (qX1_left).2.2.1 (qX1_left).2.2.2 (z_ws qX1_left) rmc rmc.cells rmc.slots 0 := z_cwV (q := qX1_left) C kc_X1_left kw579 kw580 kw581 kw3 (by decide +kernel) hR
theorem cs_X1_60 (C : z_C X cc RX1 nL rm) (hR : rmc.frames + 1 ≤ rm.frames ∧ 8 + (1 + 11) + rmc.locals ≤ rm.locals) : CallW (z_R X) (z_s X) (z_a X) RX1 (qX1_hasMark).1.cls 60 (qX1_hasMark).1 (qX1_hasMark).2.1 (qX1_hasMark).2.2.1 (qX1_hasMark).2.2.2 (z_ws qX1_hasMark) rmc rmc.cells rmc.slots 0 := z_cwV (q := qX1_hasMark) C kc_X1_hasMark kw575 kw576 kw577 kw3 (by decide +kernel) hR
theorem cs_X2_13 (C : z_C X cc RX2 nL rm) (hR : rmc.frames + 1 ≤ rm.frames ∧ 8 + (2 + 11) + rmc.locals ≤ rm.locals) : CallW (z_R X) (z_s X) (z_a X) RX2 (qX2_hasPlace).1.cls 13 (qX2_hasPlace).1 (qX2_hasPlace).2.1 (qX2_hasPlace).2.2.1 (qX2_hasPlace).2.2.2 (z_ws qX2_hasPlace) rmc rmc.cells rmc.slots 1 := z_cwV (q := qX2_hasPlace) C kc_X2_hasPlace kw548 kw549 kw550 kw2 (by decide +kernel) hR
theorem cs_X3_11 (C : z_C X cc RX3 nL rm) (hR : rmc.frames + 1 ≤ rm.frames ∧ 8 + (2 + 11) + rmc.locals ≤ rm.locals) : CallB (z_R X) (z_s X) (z_a X) RX3 11 (qX2_init).1 (qX2_init).2.1 (qX2_init).2.2.1 none (z_ws qX2_init) rmc rmc.cells rmc.slots 1 ∧ (qX2_init).1.name = "<init>" ∧ (Cond.instanceMethod (qX2_init).1).before (z_a X) (z_s X) = true := z_cwI (q := qX2_init) C kc_X2_init rfl kw36 kw37 kw2 rfl (by decide +kernel) hR
theorem cs_X3_24 (C : z_C X cc RX3 nL rm) (hR : rmc.frames + 1 ≤ rm.frames ∧ 8 + (2 + 11) + rmc.locals ≤ rm.locals) : CallB (z_R X) (z_s X) (z_a X) RX3 24 (qX1_init).1 (qX1_init).2.1 (qX1_init).2.2.1 none (z_ws qX1_init) rmc rmc.cells rmc.slots 1 ∧ (qX1_init).1.name = "<init>" ∧ (Cond.instanceMethod (qX1_init).1).before (z_a X) (z_s X) = true := z_cwI (q := qX1_init) C kc_X1_init rfl kw48 kw49 kw3 rfl (by decide +kernel) hR
theorem cs_X3_49 (C : z_C X cc RX3 nL rm) (hR : rmc.frames + 1 ≤ rm.frames ∧ 8 + (2 + 11) + rmc.locals ≤ rm.locals) : CallW (z_R X) (z_s X) (z_a X) RX3 (qX3_paneOf).1.cls 49 (qX3_paneOf).1 (qX3_paneOf).2.1 (qX3_paneOf).2.2.1 (qX3_paneOf).2.2.2 (z_ws qX3_paneOf) rmc rmc.cells rmc.slots 1 := z_cwV (q := qX3_paneOf) C kc_X3_paneOf kw699 kw701 kp11 kw1 (by decide +kernel) hR
theorem cs_X3_53 (C : z_C X cc RX3 nL rm) (hR : rmc.frames + 1 ≤ rm.frames ∧ 8 + (3 + 11) + rmc.locals ≤ rm.locals) : CallB (z_R X) (z_s X) (z_a X) RX3 53 (qX3_needWithin).1 (qX3_needWithin).2.1 (qX3_needWithin).2.2.1 (qX3_needWithin).2.2.2 (z_ws qX3_needWithin) rmc rmc.cells rmc.slots 3 ∧ (Cond.static (qX3_needWithin).1).before (z_a X) (z_s X) = true := z_cwS (q := qX3_needWithin) C kc_X3_needWithin kw716 kw717 kw1 (by decide +kernel) hR
theorem cs_X3_57 (C : z_C X cc RX3 nL rm) (hR : rmc.frames + 1 ≤ rm.frames ∧ 8 + (2 + 11) + rmc.locals ≤ rm.locals) : CallW (z_R X) (z_s X) (z_a X) RX3 (qX1_showAll).1.cls 57 (qX1_showAll).1 (qX1_showAll).2.1 (qX1_showAll).2.2.1 (qX1_showAll).2.2.2 (z_ws qX1_showAll) rmc rmc.cells rmc.slots 1 := z_cwV (q := qX1_showAll) C kc_X1_showAll kw163 kw164 kw165 kw3 (by decide +kernel) hR
theorem cs_X3_66 (C : z_C X cc RX3 nL rm) (hR : rmc.frames + 1 ≤ rm.frames ∧ 8 + (2 + 11) + rmc.locals ≤ rm.locals) : CallW (z_R X) (z_s X) (z_a X) RX3 (qX3_done).1.cls 66 (qX3_done).1 (qX3_done).2.1 (qX3_done).2.2.1 (qX3_done).2.2.2 (z_ws qX3_done) rmc rmc.cells rmc.slots 1 := z_cwV (q := qX3_done) C kc_X3_done kw725 kw727 kp12 kw1 (by decide +kernel) hR
theorem cs_X3_70 (C : z_C X cc RX3 nL rm) (hR : rmc.frames + 1 ≤ rm.frames ∧ 8 + (2 + 11) + rmc.locals ≤ rm.locals) : CallW (z_R X) (z_s X) (z_a X) RX3 (qX1_becomeTwin).1.cls 70 (qX1_becomeTwin).1 (qX1_becomeTwin).2.1 (qX1_becomeTwin).2.2.1 (qX1_becomeTwin).2.2.2 (z_ws qX1_becomeTwin) rmc rmc.cells rmc.slots 1 := z_cwV (q := qX1_becomeTwin) C kc_X1_becomeTwin kw587 kw588 kw589 kw3 (by decide +kernel) hR
theorem cs_X3_74 (C : z_C X cc RX3 nL rm) (hR : rmc.frames + 1 ≤ rm.frames ∧ 8 + (1 + 11) + rmc.locals ≤ rm.locals) : CallW (z_R X) (z_s X) (z_a X) RX3 (qX1_left).1.cls 74 (qX1_left).1 (qX1_left).2.1 (qX1_left).2.2.1 (qX1_left).2.2.2 (z_ws qX1_left) rmc rmc.cells rmc.slots 0 := z_cwV (q := qX1_left) C kc_X1_left kw600 kw580 kw581 kw3 (by decide +kernel) hR
theorem cs_X3_78 (C : z_C X cc RX3 nL rm) (hR : rmc.frames + 1 ≤ rm.frames ∧ 8 + (4 + 11) + rmc.locals ≤ rm.locals) : CallW (z_R X) (z_s X) (z_a X) RX3 (qX1_becomePart).1.cls 78 (qX1_becomePart).1 (qX1_becomePart).2.1 (qX1_becomePart).2.2.1 (qX1_becomePart).2.2.2 (z_ws qX1_becomePart) rmc rmc.cells rmc.slots 3 := z_cwV (q := qX1_becomePart) C kc_X1_becomePart kw601 kw602 kw603 kw3 (by decide +kernel) hR
theorem cs_X3_82 (C : z_C X cc RX3 nL rm) (hR : rmc.frames + 1 ≤ rm.frames ∧ 8 + (3 + 11) + rmc.locals ≤ rm.locals) : CallB (z_R X) (z_s X) (z_a X) RX3 82 (qX3_isWithin).1 (qX3_isWithin).2.1 (qX3_isWithin).2.2.1 (qX3_isWithin).2.2.2 (z_ws qX3_isWithin) rmc rmc.cells rmc.slots 3 ∧ (Cond.static (qX3_isWithin).1).before (z_a X) (z_s X) = true := z_cwS (q := qX3_isWithin) C kc_X3_isWithin kw719 kw720 kw1 (by decide +kernel) hR
theorem cs_X3_86 (C : z_C X cc RX3 nL rm) (hR : rmc.frames + 1 ≤ rm.frames ∧ 8 + (2 + 11) + rmc.locals ≤ rm.locals) : CallW (z_R X) (z_s X) (z_a X) RX3 (qX3_refuse).1.cls 86 (qX3_refuse).1 (qX3_refuse).2.1 (qX3_refuse).2.2.1 (qX3_refuse).2.2.2 (z_ws qX3_refuse) rmc rmc.cells rmc.slots 1 := z_cwV (q := qX3_refuse) C kc_X3_refuse kw757 kw759 kp13 kw1 (by decide +kernel) hR
theorem cs_X3_93 (C : z_C X cc RX3 nL rm) (hR : rmc.frames + 1 ≤ rm.frames ∧ 8 + (3 + 11) + rmc.locals ≤ rm.locals) : CallW (z_R X) (z_s X) (z_a X) RX3 (qX3_setPane).1.cls 93 (qX3_setPane).1 (qX3_setPane).2.1 (qX3_setPane).2.2.1 (qX3_setPane).2.2.2 (z_ws qX3_setPane) rmc rmc.cells rmc.slots 2 := z_cwV (q := qX3_setPane) C kc_X3_setPane kw775 kw777 kp14 kw1 (by decide +kernel) hR
theorem cs_X3_97 (C : z_C X cc RX3 nL rm) (hR : rmc.frames + 1 ≤ rm.frames ∧ 8 + (2 + 11) + rmc.locals ≤ rm.locals) : CallW (z_R X) (z_s X) (z_a X) RX3 (qX1_moveTo).1.cls 97 (qX1_moveTo).1 (qX1_moveTo).2.1 (qX1_moveTo).2.2.1 (qX1_moveTo).2.2.2 (z_ws qX1_moveTo) rmc rmc.cells rmc.slots 1 := z_cwV (q := qX1_moveTo) C kc_X1_moveTo kw786 kw787 kw788 kw3 (by decide +kernel) hR
theorem cs_X3_103 (C : z_C X cc RX3 nL rm) (hR : rmc.frames + 1 ≤ rm.frames ∧ 8 + (2 + 11) + rmc.locals ≤ rm.locals) : CallW (z_R X) (z_s X) (z_a X) RX3 (qX1_endAt).1.cls 103 (qX1_endAt).1 (qX1_endAt).2.1 (qX1_endAt).2.2.1 (qX1_endAt).2.2.2 (z_ws qX1_endAt) rmc rmc.cells rmc.slots 1 := z_cwV (q := qX1_endAt) C kc_X1_endAt kw804 kw805 kw806 kw3 (by decide +kernel) hR
theorem cs_X3_109 (C : z_C X cc RX3 nL rm) (hR : rmc.frames + 1 ≤ rm.frames ∧ 8 + (1 + 11) + rmc.locals ≤ rm.locals) : CallW (z_R X) (z_s X) (z_a X) RX3 (qX1_hasMark).1.cls 109 (qX1_hasMark).1 (qX1_hasMark).2.1 (qX1_hasMark).2.2.1 (qX1_hasMark).2.2.2 (z_ws qX1_hasMark) rmc rmc.cells rmc.slots 0 := z_cwV (q := qX1_hasMark) C kc_X1_hasMark kw636 kw576 kw577 kw3 (by decide +kernel) hR
theorem cs_X3_113 (C : z_C X cc RX3 nL rm) (hR : rmc.frames + 1 ≤ rm.frames ∧ 8 + (2 + 11) + rmc.locals ≤ rm.locals) : CallW (z_R X) (z_s X) (z_a X) RX3 (qX1_beginAgain).1.cls 113 (qX1_beginAgain).1 (qX1_beginAgain).2.1 (qX1_beginAgain).2.2.1 (qX1_beginAgain).2.2.2 (z_ws qX1_beginAgain) rmc rmc.cells rmc.slots 1 := z_cwV (q := qX1_beginAgain) C kc_X1_beginAgain kw836 kw168 kw169 kw3 (by decide +kernel) hR
theorem cs_X3_116 (C : z_C X cc RX3 nL rm) (hR : rmc.frames + 1 ≤ rm.frames ∧ 8 + (1 + 11) + rmc.locals ≤ rm.locals) : CallB (z_R X) (z_s X) (z_a X) RX3 116 (qX3_needValue).1 (qX3_needValue).2.1 (qX3_needValue).2.2.1 (qX3_needValue).2.2.2 (z_ws qX3_needValue) rmc rmc.cells rmc.slots 1 ∧ (Cond.static (qX3_needValue).1).before (z_a X) (z_s X) = true := z_cwS (q := qX3_needValue) C kc_X3_needValue kw858 kw859 kw1 (by decide +kernel) hR
theorem cs_X3_119 (C : z_C X cc RX3 nL rm) (hR : rmc.frames + 1 ≤ rm.frames ∧ 8 + (3 + 11) + rmc.locals ≤ rm.locals) : CallW (z_R X) (z_s X) (z_a X) RX3 (qX3_tryPut).1.cls 119 (qX3_tryPut).1 (qX3_tryPut).2.1 (qX3_tryPut).2.2.1 (qX3_tryPut).2.2.2 (z_ws qX3_tryPut) rmc rmc.cells rmc.slots 2 := z_cwV (q := qX3_tryPut) C kc_X3_tryPut kw862 kw864 kp15 kw1 (by decide +kernel) hR
theorem cs_X3_123 (C : z_C X cc RX3 nL rm) (hR : rmc.frames + 1 ≤ rm.frames ∧ 8 + (2 + 11) + rmc.locals ≤ rm.locals) : CallW (z_R X) (z_s X) (z_a X) RX3 (qX1_hasIndex).1.cls 123 (qX1_hasIndex).1 (qX1_hasIndex).2.1 (qX1_hasIndex).2.2.1 (qX1_hasIndex).2.2.2 (z_ws qX1_hasIndex) rmc rmc.cells rmc.slots 1 := z_cwV (q := qX1_hasIndex) C kc_X1_hasIndex kw885 kw886 kw887 kw3 (by decide +kernel) hR
theorem cs_X3_127 (C : z_C X cc RX3 nL rm) (hR : rmc.frames + 1 ≤ rm.frames ∧ 8 + (3 + 11) + rmc.locals ≤ rm.locals) : CallW (z_R X) (z_s X) (z_a X) RX3 (qX1_replace).1.cls 127 (qX1_replace).1 (qX1_replace).2.1 (qX1_replace).2.2.1 (qX1_replace).2.2.2 (z_ws qX1_replace) rmc rmc.cells rmc.slots 2 := z_cwV (q := qX1_replace) C kc_X1_replace kw889 kw871 kw872 kw3 (by decide +kernel) hR
theorem cs_X3_131 (C : z_C X cc RX3 nL rm) (hR : rmc.frames + 1 ≤ rm.frames ∧ 8 + (2 + 11) + rmc.locals ≤ rm.locals) : CallW (z_R X) (z_s X) (z_a X) RX3 (qX1_valueAt).1.cls 131 (qX1_valueAt).1 (qX1_valueAt).2.1 (qX1_valueAt).2.2.1 (qX1_valueAt).2.2.2 (z_ws qX1_valueAt) rmc rmc.cells rmc.slots 1 := z_cwV (q := qX1_valueAt) C kc_X1_valueAt kw605 kw541 kw542 kw3 (by decide +kernel) hR
theorem cs_X3_135 (C : z_C X cc RX3 nL rm) (hR : rmc.frames + 1 ≤ rm.frames ∧ 8 + (4 + 11) + rmc.locals ≤ rm.locals) : CallW (z_R X) (z_s X) (z_a X) RX3 (qX3_pourOne).1.cls 135 (qX3_pourOne).1 (qX3_pourOne).2.1 (qX3_pourOne).2.2.1 (qX3_pourOne).2.2.2 (z_ws qX3_pourOne) rmc rmc.cells rmc.slots 2 := z_cwV (q := qX3_pourOne) C kc_X3_pourOne kw919 kw921 kp16 kw1 (by decide +kernel) hR
theorem cs_X3_139 (C : z_C X cc RX3 nL rm) (hR : rmc.frames + 1 ≤ rm.frames ∧ 8 + (2 + 11) + rmc.locals ≤ rm.locals) : CallW (z_R X) (z_s X) (z_a X) RX3 (qX2_hasPlace).1.cls 139 (qX2_hasPlace).1 (qX2_hasPlace).2.1 (qX2_hasPlace).2.2.1 (qX2_hasPlace).2.2.2 (z_ws qX2_hasPlace) rmc rmc.cells rmc.slots 1 := z_cwV (q := qX2_hasPlace) C kc_X2_hasPlace kw934 kw549 kw550 kw2 (by decide +kernel) hR
theorem cs_X3_149 (C : z_C X cc RX3 nL rm) (hR : rmc.frames + 1 ≤ rm.frames ∧ 8 + (4 + 11) + rmc.locals ≤ rm.locals) : CallW (z_R X) (z_s X) (z_a X) RX3 (qX2_exchangeAt).1.cls 149 (qX2_exchangeAt).1 (qX2_exchangeAt).2.1 (qX2_exchangeAt).2.2.1 (qX2_exchangeAt).2.2.2 (z_ws qX2_exchangeAt) rmc rmc.cells rmc.slots 2 := z_cwV (q := qX2_exchangeAt) C kc_X2_exchangeAt kw936 kw875 kw876 kw2 (by decide +kernel) hR
theorem cs_X3_152 (C : z_C X cc RX3 nL rm) (hR : rmc.frames + 1 ≤ rm.frames ∧ 8 + (2 + 11) + rmc.locals ≤ rm.locals) : CallW (z_R X) (z_s X) (z_a X) RX3 (qX1_shows).1.cls 152 (qX1_shows).1 (qX1_shows).2.1 (qX1_shows).2.2.1 (qX1_shows).2.2.2 (z_ws qX1_shows) rmc rmc.cells rmc.slots 1 := z_cwV (q := qX1_shows) C kc_X1_shows kw615 kw616 kw617 kw3 (by decide +kernel) hR
theorem cs_X3_155 (C : z_C X cc RX3 nL rm) (hR : rmc.frames + 1 ≤ rm.frames ∧ 8 + (2 + 11) + rmc.locals ≤ rm.locals) : CallW (z_R X) (z_s X) (z_a X) RX3 (qX1_takeNext).1.cls 155 (qX1_takeNext).1 (qX1_takeNext).2.1 (qX1_takeNext).2.2.1 (qX1_takeNext).2.2.2 (z_ws qX1_takeNext) rmc rmc.cells rmc.slots 0 := z_cwV (q := qX1_takeNext) C kc_X1_takeNext kw923 kw924 kw925 kw3 (by decide +kernel) hR
theorem cs_X3_158 (C : z_C X cc RX3 nL rm) (hR : rmc.frames + 1 ≤ rm.frames ∧ 8 + (2 + 11) + rmc.locals ≤ rm.locals) : CallW (z_R X) (z_s X) (z_a X) RX3 (qX1_numberOf).1.cls 158 (qX1_numberOf).1 (qX1_numberOf).2.1 (qX1_numberOf).2.2.1 (qX1_numberOf).2.2.2 (z_ws qX1_numberOf) rmc rmc.cells rmc.slots 1 := z_cwV (q := qX1_numberOf) C kc_X1_numberOf kw645 kw646 kw647 kw3 (by decide +kernel) hR
theorem cs_X3_161 (C : z_C X cc RX3 nL rm) (hR : rmc.frames + 1 ≤ rm.frames ∧ 8 + (5 + 11) + rmc.locals ≤ rm.locals) : CallW (z_R X) (z_s X) (z_a X) RX3 (qX0_beginTotal).1.cls 161 (qX0_beginTotal).1 (qX0_beginTotal).2.1 (qX0_beginTotal).2.2.1 (qX0_beginTotal).2.2.2 (z_ws qX0_beginTotal) rmc rmc.cells rmc.slots 1 := z_cwV (q := qX0_beginTotal) C kc_X0_beginTotal kw672 kw673 kw674 kw4 (by decide +kernel) hR
theorem cs_X3_164 (C : z_C X cc RX3 nL rm) (hR : rmc.frames + 1 ≤ rm.frames ∧ 8 + (1 + 11) + rmc.locals ≤ rm.locals) : CallW (z_R X) (z_s X) (z_a X) RX3 (qX0_written).1.cls 164 (qX0_written).1 (qX0_written).2.1 (qX0_written).2.2.1 (qX0_written).2.2.2 (z_ws qX0_written) rmc rmc.cells rmc.slots 0 := z_cwV (q := qX0_written) C kc_X0_written kw558 kw559 kw560 kw4 (by decide +kernel) hR
theorem cs_X3_168 (C : z_C X cc RX3 nL rm) (hR : rmc.frames + 1 ≤ rm.frames ∧ 8 + (5 + 11) + rmc.locals ≤ rm.locals) : CallW (z_R X) (z_s X) (z_a X) RX3 (qX0_beginValues).1.cls 168 (qX0_beginValues).1 (qX0_beginValues).2.1 (qX0_beginValues).2.2.1 (qX0_beginValues).2.2.2 (z_ws qX0_beginValues) rmc rmc.cells rmc.slots 3 := z_cwV (q := qX0_beginValues) C kc_X0_beginValues kw171 kw172 kw173 kw4 (by decide +kernel) hR
theorem cs_X3_171 (C : z_C X cc RX3 nL rm) (hR : rmc.frames + 1 ≤ rm.frames ∧ 8 + (3 + 11) + rmc.locals ≤ rm.locals) : CallW (z_R X) (z_s X) (z_a X) RX3 (qX0_beginWhole).1.cls 171 (qX0_beginWhole).1 (qX0_beginWhole).2.1 (qX0_beginWhole).2.2.1 (qX0_beginWhole).2.2.2 (z_ws qX0_beginWhole) rmc rmc.cells rmc.slots 1 := z_cwV (q := qX0_beginWhole) C kc_X0_beginWhole kw649 kw650 kw651 kw4 (by decide +kernel) hR
theorem cs_X3_174 (C : z_C X cc RX3 nL rm) (hR : rmc.frames + 1 ≤ rm.frames ∧ 8 + (1 + 11) + rmc.locals ≤ rm.locals) : CallW (z_R X) (z_s X) (z_a X) RX3 (qX3_beginLongRow).1.cls 174 (qX3_beginLongRow).1 (qX3_beginLongRow).2.1 (qX3_beginLongRow).2.2.1 (qX3_beginLongRow).2.2.2 (z_ws qX3_beginLongRow) rmc rmc.cells rmc.slots 0 := z_cwV (q := qX3_beginLongRow) C kc_X3_beginLongRow kw159 kw161 kp0 kw1 (by decide +kernel) hR
theorem cs_X3_177 (C : z_C X cc RX3 nL rm) (hR : rmc.frames + 1 ≤ rm.frames ∧ 8 + (2 + 11) + rmc.locals ≤ rm.locals) : CallB (z_R X) (z_s X) (z_a X) RX3 177 (qX3_kinship).1 (qX3_kinship).2.1 (qX3_kinship).2.2.1 (qX3_kinship).2.2.2 (z_ws qX3_kinship) rmc rmc.cells rmc.slots 2 ∧ (Cond.static (qX3_kinship).1).before (z_a X) (z_s X) = true := z_cwS (q := qX3_kinship) C kc_X3_kinship kw609 kw610 kw1 (by decide +kernel) hR
theorem cs_X3_181 (C : z_C X cc RX3 nL rm) (hR : rmc.frames + 1 ≤ rm.frames ∧ 8 + (4 + 11) + rmc.locals ≤ rm.locals) : CallB (z_R X) (z_s X) (z_a X) RX3 181 (qX3_indexSeen).1 (qX3_indexSeen).2.1 (qX3_indexSeen).2.2.1 (qX3_indexSeen).2.2.2 (z_ws qX3_indexSeen) rmc rmc.cells rmc.slots 3 ∧ (Cond.static (qX3_indexSeen).1).before (z_a X) (z_s X) = true := z_cwS (q := qX3_indexSeen) C kc_X3_indexSeen kw612 kw613 kw1 (by decide +kernel) hR
theorem cs_X3_185 (C : z_C X cc RX3 nL rm) (hR : rmc.frames + 1 ≤ rm.frames ∧ 8 + (2 + 11) + rmc.locals ≤ rm.locals) : CallW (z_R X) (z_s X) (z_a X) RX3 (qX3_houseNumber).1.cls 185 (qX3_houseNumber).1 (qX3_houseNumber).2.1 (qX3_houseNumber).2.2.1 (qX3_houseNumber).2.2.2 (z_ws qX3_houseNumber) rmc rmc.cells rmc.slots 1 := z_cwV (q := qX3_houseNumber) C kc_X3_houseNumber kw624 kw626 kp5 kw1 (by decide +kernel) hR
theorem cs_X3_188 (C : z_C X cc RX3 nL rm) (hR : rmc.frames + 1 ≤ rm.frames ∧ 8 + (1 + 11) + rmc.locals ≤ rm.locals) : CallW (z_R X) (z_s X) (z_a X) RX3 (qX1_isInOrder).1.cls 188 (qX1_isInOrder).1 (qX1_isInOrder).2.1 (qX1_isInOrder).2.2.1 (qX1_isInOrder).2.2.2 (z_ws qX1_isInOrder) rmc rmc.cells rmc.slots 0 := z_cwV (q := qX1_isInOrder) C kc_X1_isInOrder kw571 kw572 kw573 kw3 (by decide +kernel) hR
theorem cs_X3_191 (C : z_C X cc RX3 nL rm) (hR : rmc.frames + 1 ≤ rm.frames ∧ 8 + (3 + 11) + rmc.locals ≤ rm.locals) : CallW (z_R X) (z_s X) (z_a X) RX3 (qX3_hasTrueTwins).1.cls 191 (qX3_hasTrueTwins).1 (qX3_hasTrueTwins).2.1 (qX3_hasTrueTwins).2.2.1 (qX3_hasTrueTwins).2.2.2 (z_ws qX3_hasTrueTwins) rmc rmc.cells rmc.slots 1 := z_cwV (q := qX3_hasTrueTwins) C kc_X3_hasTrueTwins kw583 kw585 kp3 kw1 (by decide +kernel) hR
theorem cs_X3_195 (C : z_C X cc RX3 nL rm) (hR : rmc.frames + 1 ≤ rm.frames ∧ 8 + (3 + 11) + rmc.locals ≤ rm.locals) : CallW (z_R X) (z_s X) (z_a X) RX3 (qX3_hasTrueRemainder).1.cls 195 (qX3_hasTrueRemainder).1 (qX3_hasTrueRemainder).2.1 (qX3_hasTrueRemainder).2.2.1 (qX3_hasTrueRemainder).2.2.2 (z_ws qX3_hasTrueRemainder) rmc rmc.cells rmc.slots 1 := z_cwV (q := qX3_hasTrueRemainder) C kc_X3_hasTrueRemainder kw596 kw598 kp4 kw1 (by decide +kernel) hR
theorem cs_X3_198 (C : z_C X cc RX3 nL rm) (hR : rmc.frames + 1 ≤ rm.frames ∧ 8 + (4 + 11) + rmc.locals ≤ rm.locals) : CallB (z_R X) (z_s X) (z_a X) RX3 198 (qX3_agree).1 (qX3_agree).2.1 (qX3_agree).2.2.1 (qX3_agree).2.2.2 (z_ws qX3_agree) rmc rmc.cells rmc.slots 2 ∧ (Cond.static (qX3_agree).1).before (z_a X) (z_s X) = true := z_cwS (q := qX3_agree) C kc_X3_agree kw606 kw607 kw1 (by decide +kernel) hR
theorem cs_X3_203 (C : z_C X cc RX3 nL rm) (hR : rmc.frames + 1 ≤ rm.frames ∧ 8 + (3 + 11) + rmc.locals ≤ rm.locals) : CallB (z_R X) (z_s X) (z_a X) RX3 203 (qX3_mix).1 (qX3_mix).2.1 (qX3_mix).2.2.1 (qX3_mix).2.2.2 (z_ws qX3_mix) rmc rmc.cells rmc.slots 2 ∧ (Cond.static (qX3_mix).1).before (z_a X) (z_s X) = true := z_cwS (q := qX3_mix) C kc_X3_mix kw637 kw638 kw1 (by decide +kernel) hR
theorem cs_X3_207 (C : z_C X cc RX3 nL rm) (hR : rmc.frames + 1 ≤ rm.frames ∧ 8 + (7 + 11) + rmc.locals ≤ rm.locals) : CallW (z_R X) (z_s X) (z_a X) RX3 (qX3_mixPane).1.cls 207 (qX3_mixPane).1 (qX3_mixPane).2.1 (qX3_mixPane).2.2.1 (qX3_mixPane).2.2.2 (z_ws qX3_mixPane) rmc rmc.cells rmc.slots 2 := z_cwV (q := qX3_mixPane) C kc_X3_mixPane kw641 kw643 kp8 kw1 (by decide +kernel) hR
theorem cs_X3_211 (C : z_C X cc RX3 nL rm) (hR : rmc.frames + 1 ≤ rm.frames ∧ 8 + (6 + 11) + rmc.locals ≤ rm.locals) : CallW (z_R X) (z_s X) (z_a X) RX3 (qX3_mixLine).1.cls 211 (qX3_mixLine).1 (qX3_mixLine).2.1 (qX3_mixLine).2.2.1 (qX3_mixLine).2.2.2 (z_ws qX3_mixLine) rmc rmc.cells rmc.slots 1 := z_cwV (q := qX3_mixLine) C kc_X3_mixLine kw657 kw659 kp10 kw1 (by decide +kernel) hR
theorem cs_X3_215 (C : z_C X cc RX3 nL rm) (hR : rmc.frames + 1 ≤ rm.frames ∧ 8 + (3 + 11) + rmc.locals ≤ rm.locals) : CallW (z_R X) (z_s X) (z_a X) RX3 (qX3_isSound).1.cls 215 (qX3_isSound).1 (qX3_isSound).2.1 (qX3_isSound).2.2.1 (qX3_isSound).2.2.2 (z_ws qX3_isSound) rmc rmc.cells rmc.slots 0 := z_cwV (q := qX3_isSound) C kc_X3_isSound kw676 kw568 kw569 kw1 (by decide +kernel) hR
theorem cs_X3_227 (C : z_C X cc RX3 nL rm) (hR : rmc.frames + 1 ≤ rm.frames ∧ 8 + (2 + 11) + rmc.locals ≤ rm.locals) : CallW (z_R X) (z_s X) (z_a X) RX3 (qX1_putNext).1.cls 227 (qX1_putNext).1 (qX1_putNext).2.1 (qX1_putNext).2.2.1 (qX1_putNext).2.2.2 (z_ws qX1_putNext) rmc rmc.cells rmc.slots 1 := z_cwV (q := qX1_putNext) C kc_X1_putNext kw866 kw867 kw868 kw3 (by decide +kernel) hR
theorem cs_X3_236 (C : z_C X cc RX3 nL rm) (hR : rmc.frames + 1 ≤ rm.frames ∧ 8 + (3 + 11) + rmc.locals ≤ rm.locals) : CallW (z_R X) (z_s X) (z_a X) RX3 (qX3_howManyReaders).1.cls 236 (qX3_howManyReaders).1 (qX3_howManyReaders).2.1 (qX3_howManyReaders).2.2.1 (qX3_howManyReaders).2.2.2 (z_ws qX3_howManyReaders) rmc rmc.cells rmc.slots 0 := z_cwV (q := qX3_howManyReaders) C kc_X3_howManyReaders kw628 kw630 kp6 kw1 (by decide +kernel) hR
theorem cs_X3_239 (C : z_C X cc RX3 nL rm) (hR : rmc.frames + 1 ≤ rm.frames ∧ 8 + (3 + 11) + rmc.locals ≤ rm.locals) : CallW (z_R X) (z_s X) (z_a X) RX3 (qX3_howManyMarks).1.cls 239 (qX3_howManyMarks).1 (qX3_howManyMarks).2.1 (qX3_howManyMarks).2.2.1 (qX3_howManyMarks).2.2.2 (z_ws qX3_howManyMarks) rmc rmc.cells rmc.slots 0 := z_cwV (q := qX3_howManyMarks) C kc_X3_howManyMarks kw632 kw634 kp7 kw1 (by decide +kernel) hR
theorem cs_X3_242 (C : z_C X cc RX3 nL rm) (hR : rmc.frames + 1 ≤ rm.frames ∧ 8 + (3 + 11) + rmc.locals ≤ rm.locals) : CallW (z_R X) (z_s X) (z_a X) RX3 (qX1_tellsAs).1.cls 242 (qX1_tellsAs).1 (qX1_tellsAs).2.1 (qX1_tellsAs).2.2.1 (qX1_tellsAs).2.2.2 (z_ws qX1_tellsAs) rmc rmc.cells rmc.slots 1 := z_cwV (q := qX1_tellsAs) C kc_X1_tellsAs kw591 kw592 kw593 kw3 (by decide +kernel) hR
theorem cs_X3_251 (C : z_C X cc RX3 nL rm) (hR : rmc.frames + 1 ≤ rm.frames ∧ 8 + (1 + 11) + rmc.locals ≤ rm.locals) : CallW (z_R X) (z_s X) (z_a X) RX3 (qJ4_length_8abf5).1.cls 251 (qJ4_length_8abf5).1 (qJ4_length_8abf5).2.1 (qJ4_length_8abf5).2.2.1 (qJ4_length_8abf5).2.2.2 (z_ws qJ4_length_8abf5) rmc rmc.cells rmc.slots 0 := z_cwV (q := qJ4_length_8abf5) C kc_J4_length_8abf5 kw661 kw357 kw1383 kw6 (by decide +kernel) hR
theorem cs_X3_256 (C : z_C X cc RX3 nL rm) (hR : rmc.frames + 1 ≤ rm.frames ∧ 8 + (2 + 11) + rmc.locals ≤ rm.locals) : CallW (z_R X) (z_s X) (z_a X) RX3 (qJ4_charAt_5068e).1.cls 256 (qJ4_charAt_5068e).1 (qJ4_charAt_5068e).2.1 (qJ4_charAt_5068e).2.2.1 (qJ4_charAt_5068e).2.2.2 (z_ws qJ4_charAt_5068e) rmc rmc.cells rmc.slots 1 := z_cwV (q := qJ4_charAt_5068e) C kc_J4_charAt_5068e kw662 kw663 kw664 kw6 (by decide +kernel) hR
theorem cs_X5_25 (C : z_C X cc RX5 nL rm) (hR : rmc.frames + 1 ≤ rm.frames ∧ 8 + (4 + 11) + rmc.locals ≤ rm.locals) : CallB (z_R X) (z_s X) (z_a X) RX5 25 (qX5_over).1 (qX5_over).2.1 (qX5_over).2.2.1 (qX5_over).2.2.2 (z_ws qX5_over) rmc rmc.cells rmc.slots 4 ∧ (Cond.static (qX5_over).1).before (z_a X) (z_s X) = true := z_cwS (q := qX5_over) C kc_X5_over kw1043 kw1044 kw9 (by decide +kernel) hR
theorem cs_X5_29 (C : z_C X cc RX5 nL rm) (hR : rmc.frames + 1 ≤ rm.frames ∧ 8 + (4 + 11) + rmc.locals ≤ rm.locals) : CallW (z_R X) (z_s X) (z_a X) RX5 (qX5_made).1.cls 29 (qX5_made).1 (qX5_made).2.1 (qX5_made).2.2.1 (qX5_made).2.2.2 (z_ws qX5_made) rmc rmc.cells rmc.slots 1 := z_cwV (q := qX5_made) C kc_X5_made kw1046 kw1048 kp17 kw9 (by decide +kernel) hR
theorem cs_X5_36 (C : z_C X cc RX5 nL rm) (hR : rmc.frames + 1 ≤ rm.frames ∧ 8 + (3 + 11) + rmc.locals ≤ rm.locals) : CallB (z_R X) (z_s X) (z_a X) RX5 36 (qX5_isIn).1 (qX5_isIn).2.1 (qX5_isIn).2.2.1 (qX5_isIn).2.2.2 (z_ws qX5_isIn) rmc rmc.cells rmc.slots 3 ∧ (Cond.static (qX5_isIn).1).before (z_a X) (z_s X) = true := z_cwS (q := qX5_isIn) C kc_X5_isIn kw1083 kw1084 kw9 (by decide +kernel) hR
theorem cs_X5_43 (C : z_C X cc RX5 nL rm) (hR : rmc.frames + 1 ≤ rm.frames ∧ 8 + (1 + 11) + rmc.locals ≤ rm.locals) : CallB (z_R X) (z_s X) (z_a X) RX5 43 (qX5_left).1 (qX5_left).2.1 (qX5_left).2.2.1 (qX5_left).2.2.2 (z_ws qX5_left) rmc rmc.cells rmc.slots 1 ∧ (Cond.static (qX5_left).1).before (z_a X) (z_s X) = true := z_cwS (q := qX5_left) C kc_X5_left kw1105 kw1106 kw9 (by decide +kernel) hR
theorem cs_X5_47 (C : z_C X cc RX5 nL rm) (hR : rmc.frames + 1 ≤ rm.frames ∧ 8 + (2 + 11) + rmc.locals ≤ rm.locals) : CallW (z_R X) (z_s X) (z_a X) RX5 (qX5_refuse).1.cls 47 (qX5_refuse).1 (qX5_refuse).2.1 (qX5_refuse).2.2.1 (qX5_refuse).2.2.2 (z_ws qX5_refuse) rmc rmc.cells rmc.slots 1 := z_cwV (q := qX5_refuse) C kc_X5_refuse kw1120 kw1122 kp21 kw9 (by decide +kernel) hR
theorem cs_X5_51 (C : z_C X cc RX5 nL rm) (hR : rmc.frames + 1 ≤ rm.frames ∧ 8 + (3 + 11) + rmc.locals ≤ rm.locals) : CallW (z_R X) (z_s X) (z_a X) RX5 (qX5_where).1.cls 51 (qX5_where).1 (qX5_where).2.1 (qX5_where).2.2.1 (qX5_where).2.2.2 (z_ws qX5_where) rmc rmc.cells rmc.slots 2 := z_cwV (q := qX5_where) C kc_X5_where kw1190 kw1192 kp26 kw9 (by decide +kernel) hR
theorem cs_X5_55 (C : z_C X cc RX5 nL rm) (hR : rmc.frames + 1 ≤ rm.frames ∧ 8 + (1 + 11) + rmc.locals ≤ rm.locals) : CallB (z_R X) (z_s X) (z_a X) RX5 55 (qX5_isPane).1 (qX5_isPane).2.1 (qX5_isPane).2.2.1 (qX5_isPane).2.2.2 (z_ws qX5_isPane) rmc rmc.cells rmc.slots 1 ∧ (Cond.static (qX5_isPane).1).before (z_a X) (z_s X) = true := z_cwS (q := qX5_isPane) C kc_X5_isPane kw1080 kw1081 kw9 (by decide +kernel) hR
theorem cs_X5_59 (C : z_C X cc RX5 nL rm) (hR : rmc.frames + 1 ≤ rm.frames ∧ 8 + (3 + 11) + rmc.locals ≤ rm.locals) : CallW (z_R X) (z_s X) (z_a X) RX5 (qX5_isLet).1.cls 59 (qX5_isLet).1 (qX5_isLet).2.1 (qX5_isLet).2.2.1 (qX5_isLet).2.2.2 (z_ws qX5_isLet) rmc rmc.cells rmc.slots 2 := z_cwV (q := qX5_isLet) C kc_X5_isLet kw1086 kw1088 kp18 kw9 (by decide +kernel) hR
theorem cs_X5_63 (C : z_C X cc RX5 nL rm) (hR : rmc.frames + 1 ≤ rm.frames ∧ 8 + (2 + 11) + rmc.locals ≤ rm.locals) : CallW (z_R X) (z_s X) (z_a X) RX5 (qX5_did).1.cls 63 (qX5_did).1 (qX5_did).2.1 (qX5_did).2.2.1 (qX5_did).2.2.2 (z_ws qX5_did) rmc rmc.cells rmc.slots 1 := z_cwV (q := qX5_did) C kc_X5_did kw1090 kw1092 kp19 kw9 (by decide +kernel) hR
theorem cs_X5_66 (C : z_C X cc RX5 nL rm) (hR : rmc.frames + 1 ≤ rm.frames ∧ 8 + (3 + 11) + rmc.locals ≤ rm.locals) : CallB (z_R X) (z_s X) (z_a X) RX5 66 (qX5_like).1 (qX5_like).2.1 (qX5_like).2.2.1 (qX5_like).2.2.2 (z_ws qX5_like) rmc rmc.cells rmc.slots 1 ∧ (Cond.static (qX5_like).1).before (z_a X) (z_s X) = true := z_cwS (q := qX5_like) C kc_X5_like kw1102 kw1103 kw9 (by decide +kernel) hR
theorem cs_X5_70 (C : z_C X cc RX5 nL rm) (hR : rmc.frames + 1 ≤ rm.frames ∧ 8 + (6 + 11) + rmc.locals ≤ rm.locals) : CallW (z_R X) (z_s X) (z_a X) RX5 (qX5_cut).1.cls 70 (qX5_cut).1 (qX5_cut).2.1 (qX5_cut).2.2.1 (qX5_cut).2.2.2 (z_ws qX5_cut) rmc rmc.cells rmc.slots 4 := z_cwV (q := qX5_cut) C kc_X5_cut kw1112 kw1114 kp20 kw9 (by decide +kernel) hR
theorem cs_X5_74 (C : z_C X cc RX5 nL rm) (hR : rmc.frames + 1 ≤ rm.frames ∧ 8 + (3 + 11) + rmc.locals ≤ rm.locals) : CallW (z_R X) (z_s X) (z_a X) RX5 (qX5_moved).1.cls 74 (qX5_moved).1 (qX5_moved).2.1 (qX5_moved).2.2.1 (qX5_moved).2.2.2 (z_ws qX5_moved) rmc rmc.cells rmc.slots 2 := z_cwV (q := qX5_moved) C kc_X5_moved kw1136 kw1138 kp22 kw9 (by decide +kernel) hR
theorem cs_X5_78 (C : z_C X cc RX5 nL rm) (hR : rmc.frames + 1 ≤ rm.frames ∧ 8 + (5 + 11) + rmc.locals ≤ rm.locals) : CallW (z_R X) (z_s X) (z_a X) RX5 (qX5_go).1.cls 78 (qX5_go).1 (qX5_go).2.1 (qX5_go).2.2.1 (qX5_go).2.2.2 (z_ws qX5_go) rmc rmc.cells rmc.slots 2 := z_cwV (q := qX5_go) C kc_X5_go kw1144 kw1133 kw1134 kw9 (by decide +kernel) hR
theorem cs_X5_82 (C : z_C X cc RX5 nL rm) (hR : rmc.frames + 1 ≤ rm.frames ∧ 8 + (3 + 11) + rmc.locals ≤ rm.locals) : CallW (z_R X) (z_s X) (z_a X) RX5 (qX5_ended).1.cls 82 (qX5_ended).1 (qX5_ended).2.1 (qX5_ended).2.2.1 (qX5_ended).2.2.2 (z_ws qX5_ended) rmc rmc.cells rmc.slots 2 := z_cwV (q := qX5_ended) C kc_X5_ended kw1149 kw1151 kp23 kw9 (by decide +kernel) hR
theorem cs_X5_85 (C : z_C X cc RX5 nL rm) (hR : rmc.frames + 1 ≤ rm.frames ∧ 8 + (5 + 11) + rmc.locals ≤ rm.locals) : CallW (z_R X) (z_s X) (z_a X) RX5 (qX5_end).1.cls 85 (qX5_end).1 (qX5_end).2.1 (qX5_end).2.2.1 (qX5_end).2.2.2 (z_ws qX5_end) rmc rmc.cells rmc.slots 2 := z_cwV (q := qX5_end) C kc_X5_end kw1157 kw1146 kw1147 kw9 (by decide +kernel) hR
theorem cs_X5_88 (C : z_C X cc RX5 nL rm) (hR : rmc.frames + 1 ≤ rm.frames ∧ 8 + (4 + 11) + rmc.locals ≤ rm.locals) : CallW (z_R X) (z_s X) (z_a X) RX5 (qX5_begun).1.cls 88 (qX5_begun).1 (qX5_begun).2.1 (qX5_begun).2.2.1 (qX5_begun).2.2.2 (z_ws qX5_begun) rmc rmc.cells rmc.slots 3 := z_cwV (q := qX5_begun) C kc_X5_begun kw1170 kw1172 kp24 kw9 (by decide +kernel) hR
theorem cs_X5_92 (C : z_C X cc RX5 nL rm) (hR : rmc.frames + 1 ≤ rm.frames ∧ 8 + (4 + 11) + rmc.locals ≤ rm.locals) : CallW (z_R X) (z_s X) (z_a X) RX5 (qX5_puts).1.cls 92 (qX5_puts).1 (qX5_puts).2.1 (qX5_puts).2.2.1 (qX5_puts).2.2.2 (z_ws qX5_puts) rmc rmc.cells rmc.slots 2 := z_cwV (q := qX5_puts) C kc_X5_puts kw1186 kw1188 kp25 kw9 (by decide +kernel) hR
theorem cs_X5_95 (C : z_C X cc RX5 nL rm) (hR : rmc.frames + 1 ≤ rm.frames ∧ 8 + (4 + 11) + rmc.locals ≤ rm.locals) : CallW (z_R X) (z_s X) (z_a X) RX5 (qX5_written).1.cls 95 (qX5_written).1 (qX5_written).2.1 (qX5_written).2.2.1 (qX5_written).2.2.2 (z_ws qX5_written) rmc rmc.cells rmc.slots 2 := z_cwV (q := qX5_written) C kc_X5_written kw1198 kw1200 kp27 kw9 (by decide +kernel) hR
theorem cs_X5_99 (C : z_C X cc RX5 nL rm) (hR : rmc.frames + 1 ≤ rm.frames ∧ 8 + (2 + 11) + rmc.locals ≤ rm.locals) : CallB (z_R X) (z_s X) (z_a X) RX5 99 (qJ9_min_7cf53).1 (qJ9_min_7cf53).2.1 (qJ9_min_7cf53).2.2.1 (qJ9_min_7cf53).2.2.2 (z_ws qJ9_min_7cf53) rmc rmc.cells rmc.slots 2 ∧ (Cond.static (qJ9_min_7cf53).1).before (z_a X) (z_s X) = true := z_cwS (q := qJ9_min_7cf53) C kc_J9_min_7cf53 kw1235 kw231 kw16 (by decide +kernel) hR
theorem cs_X5_108 (C : z_C X cc RX5 nL rm) (hR : rmc.frames + 1 ≤ rm.frames ∧ 8 + (1 + 11) + rmc.locals ≤ rm.locals) : CallB (z_R X) (z_s X) (z_a X) RX5 108 (qJ4_init_da8c8).1 (qJ4_init_da8c8).2.1 (qJ4_init_da8c8).2.2.1 none (z_ws qJ4_init_da8c8) rmc rmc.cells rmc.slots 0 ∧ (qJ4_init_da8c8).1.name = "<init>" ∧ (Cond.instanceMethod (qJ4_init_da8c8).1).before (z_a X) (z_s X) = true := z_cwI (q := qJ4_init_da8c8) C kc_J4_init_da8c8 rfl kw1258 kw98 kw6 rfl (by decide +kernel) hR
theorem cs_X5_109 (C : z_C X cc RX5 nL rm) (hR : rmc.frames + 1 ≤ rm.frames ∧ 8 + (2 + 11) + rmc.locals ≤ rm.locals) : CallW (z_R X) (z_s X) (z_a X) RX5 (qJ4_append_15ec4).1.cls 109 (qJ4_append_15ec4).1 (qJ4_append_15ec4).2.1 (qJ4_append_15ec4).2.2.1 (qJ4_append_15ec4).2.2.2 (z_ws qJ4_append_15ec4) rmc rmc.cells rmc.slots 1 := z_cwV (q := qJ4_append_15ec4) C kc_J4_append_15ec4 kw1259 kw191 kw192 kw6 (by decide +kernel) hR
theorem cs_X5_113 (C : z_C X cc RX5 nL rm) (hR : rmc.frames + 1 ≤ rm.frames ∧ 8 + (3 + 11) + rmc.locals ≤ rm.locals) : CallW (z_R X) (z_s X) (z_a X) RX5 (qJ4_append_f7089).1.cls 113 (qJ4_append_f7089).1 (qJ4_append_f7089).2.1 (qJ4_append_f7089).2.2.1 (qJ4_append_f7089).2.2.2 (z_ws qJ4_append_f7089) rmc rmc.cells rmc.slots 1 := z_cwV (q := qJ4_append_f7089) C kc_J4_append_f7089 kw1260 kw1261 kw1262 kw6 (by decide +kernel) hR
theorem cs_X5_116 (C : z_C X cc RX5 nL rm) (hR : rmc.frames + 1 ≤ rm.frames ∧ 8 + (1 + 11) + rmc.locals ≤ rm.locals) : CallW (z_R X) (z_s X) (z_a X) RX5 (qJ4_toString_0e30d).1.cls 116 (qJ4_toString_0e30d).1 (qJ4_toString_0e30d).2.1 (qJ4_toString_0e30d).2.2.1 (qJ4_toString_0e30d).2.2.2 (z_ws qJ4_toString_0e30d) rmc rmc.cells rmc.slots 0 := z_cwV (q := qJ4_toString_0e30d) C kc_J4_toString_0e30d kw1287 kw336 kw337 kw6 (by decide +kernel) hR
theorem cs_X5_122 (C : z_C X cc RX5 nL rm) (hR : rmc.frames + 1 ≤ rm.frames ∧ 8 + (2 + 11) + rmc.locals ≤ rm.locals) : CallW (z_R X) (z_s X) (z_a X) RX5 (qJ4_append_bf812).1.cls 122 (qJ4_append_bf812).1 (qJ4_append_bf812).2.1 (qJ4_append_bf812).2.2.1 (qJ4_append_bf812).2.2.2 (z_ws qJ4_append_bf812) rmc rmc.cells rmc.slots 1 := z_cwV (q := qJ4_append_bf812) C kc_J4_append_bf812 kw1297 kw311 kw312 kw6 (by decide +kernel) hR
theorem cs_X5_125 (C : z_C X cc RX5 nL rm) (hR : rmc.frames + 1 ≤ rm.frames ∧ 8 + (5 + 11) + rmc.locals ≤ rm.locals) : CallW (z_R X) (z_s X) (z_a X) RX5 (qX5_joined).1.cls 125 (qX5_joined).1 (qX5_joined).2.1 (qX5_joined).2.2.1 (qX5_joined).2.2.2 (z_ws qX5_joined) rmc rmc.cells rmc.slots 2 := z_cwV (q := qX5_joined) C kc_X5_joined kw1292 kw1294 kp28 kw9 (by decide +kernel) hR
theorem cs_X5_135 (C : z_C X cc RX5 nL rm) (hR : rmc.frames + 1 ≤ rm.frames ∧ 8 + (3 + 11) + rmc.locals ≤ rm.locals) : CallW (z_R X) (z_s X) (z_a X) RX5 (qX5_areReaders).1.cls 135 (qX5_areReaders).1 (qX5_areReaders).2.1 (qX5_areReaders).2.2.1 (qX5_areReaders).2.2.2 (z_ws qX5_areReaders) rmc rmc.cells rmc.slots 2 := z_cwV (q := qX5_areReaders) C kc_X5_areReaders kw1313 kw1315 kp29 kw9 (by decide +kernel) hR
theorem cs_X5_144 (C : z_C X cc RX5 nL rm) (hR : rmc.frames + 1 ≤ rm.frames ∧ 8 + (1 + 11) + rmc.locals ≤ rm.locals) : CallW (z_R X) (z_s X) (z_a X) RX5 (qJ0_length_8abf5).1.cls 144 (qJ0_length_8abf5).1 (qJ0_length_8abf5).2.1 (qJ0_length_8abf5).2.2.1 (qJ0_length_8abf5).2.2.2 (z_ws qJ0_length_8abf5) rmc rmc.cells rmc.slots 0 := z_cwV (q := qJ0_length_8abf5) C kc_J0_length_8abf5 kw1352 kw268 kw269 kw7 (by decide +kernel) hR
theorem cs_X5_150 (C : z_C X cc RX5 nL rm) (hR : rmc.frames + 1 ≤ rm.frames ∧ 8 + (2 + 11) + rmc.locals ≤ rm.locals) : CallW (z_R X) (z_s X) (z_a X) RX5 (qJ0_charAt_5068e).1.cls 150 (qJ0_charAt_5068e).1 (qJ0_charAt_5068e).2.1 (qJ0_charAt_5068e).2.2.1 (qJ0_charAt_5068e).2.2.2 (z_ws qJ0_charAt_5068e) rmc rmc.cells rmc.slots 1 := z_cwV (q := qJ0_charAt_5068e) C kc_J0_charAt_5068e kw1353 kw1354 kw1355 kw7 (by decide +kernel) hR
theorem cs_X5_154 (C : z_C X cc RX5 nL rm) (hR : rmc.frames + 1 ≤ rm.frames ∧ 8 + (4 + 11) + rmc.locals ≤ rm.locals) : CallB (z_R X) (z_s X) (z_a X) RX5 154 (qX5_add).1 (qX5_add).2.1 (qX5_add).2.2.1 (qX5_add).2.2.2 (z_ws qX5_add) rmc rmc.cells rmc.slots 2 ∧ (Cond.static (qX5_add).1).before (z_a X) (z_s X) = true := z_cwS (q := qX5_add) C kc_X5_add kw1343 kw1344 kw9 (by decide +kernel) hR
theorem cs_X5_160 (C : z_C X cc RX5 nL rm) (hR : rmc.frames + 1 ≤ rm.frames ∧ 8 + (7 + 11) + rmc.locals ≤ rm.locals) : CallW (z_R X) (z_s X) (z_a X) RX5 (qX5_house).1.cls 160 (qX5_house).1 (qX5_house).2.1 (qX5_house).2.2.1 (qX5_house).2.2.2 (z_ws qX5_house) rmc rmc.cells rmc.slots 1 := z_cwV (q := qX5_house) C kc_X5_house kw1342 kw1326 kw1327 kw9 (by decide +kernel) hR
theorem cs_X5_163 (C : z_C X cc RX5 nL rm) (hR : rmc.frames + 1 ≤ rm.frames ∧ 8 + (5 + 11) + rmc.locals ≤ rm.locals) : CallW (z_R X) (z_s X) (z_a X) RX5 (qX5_ofPane).1.cls 163 (qX5_ofPane).1 (qX5_ofPane).2.1 (qX5_ofPane).2.2.1 (qX5_ofPane).2.2.2 (z_ws qX5_ofPane) rmc rmc.cells rmc.slots 2 := z_cwV (q := qX5_ofPane) C kc_X5_ofPane kw1347 kw1241 kw1242 kw9 (by decide +kernel) hR
theorem cs_X5_166 (C : z_C X cc RX5 nL rm) (hR : rmc.frames + 1 ≤ rm.frames ∧ 8 + (5 + 11) + rmc.locals ≤ rm.locals) : CallW (z_R X) (z_s X) (z_a X) RX5 (qX5_whole).1.cls 166 (qX5_whole).1 (qX5_whole).2.1 (qX5_whole).2.2.1 (qX5_whole).2.2.2 (z_ws qX5_whole) rmc rmc.cells rmc.slots 1 := z_cwV (q := qX5_whole) C kc_X5_whole kw1348 kw1299 kw1300 kw9 (by decide +kernel) hR
theorem cs_X5_170 (C : z_C X cc RX5 nL rm) (hR : rmc.frames + 1 ≤ rm.frames ∧ 8 + (6 + 11) + rmc.locals ≤ rm.locals) : CallB (z_R X) (z_s X) (z_a X) RX5 170 (qX5_addSigns).1 (qX5_addSigns).2.1 (qX5_addSigns).2.2.1 (qX5_addSigns).2.2.2 (z_ws qX5_addSigns) rmc rmc.cells rmc.slots 2 ∧ (Cond.static (qX5_addSigns).1).before (z_a X) (z_s X) = true := z_cwS (q := qX5_addSigns) C kc_X5_addSigns kw1349 kw1350 kw9 (by decide +kernel) hR
theorem cs_X5_174 (C : z_C X cc RX5 nL rm) (hR : rmc.frames + 1 ≤ rm.frames ∧ 8 + (5 + 11) + rmc.locals ≤ rm.locals) : CallW (z_R X) (z_s X) (z_a X) RX5 (qX5_total).1.cls 174 (qX5_total).1 (qX5_total).2.1 (qX5_total).2.2.1 (qX5_total).2.2.2 (z_ws qX5_total) rmc rmc.cells rmc.slots 1 := z_cwV (q := qX5_total) C kc_X5_total kw1368 kw1253 kw1254 kw9 (by decide +kernel) hR
theorem cs_X5_177 (C : z_C X cc RX5 nL rm) (hR : rmc.frames + 1 ≤ rm.frames ∧ 8 + (3 + 11) + rmc.locals ≤ rm.locals) : CallW (z_R X) (z_s X) (z_a X) RX5 (qX5_isKin).1.cls 177 (qX5_isKin).1 (qX5_isKin).2.1 (qX5_isKin).2.2.1 (qX5_isKin).2.2.2 (z_ws qX5_isKin) rmc rmc.cells rmc.slots 2 := z_cwV (q := qX5_isKin) C kc_X5_isKin kw1369 kw1310 kw1311 kw9 (by decide +kernel) hR
theorem cs_X5_180 (C : z_C X cc RX5 nL rm) (hR : rmc.frames + 1 ≤ rm.frames ∧ 8 + (7 + 11) + rmc.locals ≤ rm.locals) : CallW (z_R X) (z_s X) (z_a X) RX5 (qX5_sees).1.cls 180 (qX5_sees).1 (qX5_sees).2.1 (qX5_sees).2.2.1 (qX5_sees).2.2.2 (z_ws qX5_sees) rmc rmc.cells rmc.slots 3 := z_cwV (q := qX5_sees) C kc_X5_sees kw1370 kw1318 kw1319 kw9 (by decide +kernel) hR
theorem cs_X5_184 (C : z_C X cc RX5 nL rm) (hR : rmc.frames + 1 ≤ rm.frames ∧ 8 + (1 + 11) + rmc.locals ≤ rm.locals) : CallW (z_R X) (z_s X) (z_a X) RX5 (qX5_row).1.cls 184 (qX5_row).1 (qX5_row).2.1 (qX5_row).2.2.1 (qX5_row).2.2.2 (z_ws qX5_row) rmc rmc.cells rmc.slots 0 := z_cwV (q := qX5_row) C kc_X5_row kw1371 kw1306 kw1307 kw9 (by decide +kernel) hR
end FR
end
section
/-! PART 05: the reference's panes as cells; small facts -/
theorem z_upd_z (f : Nat → Int32) (k : Nat) (x : Int32) : upd f k x k = x := if_pos rfl
def mPf (ro ba sa cp po li mk rd : Int32) : Nat → Int32 := upd (upd (upd (upd (upd (upd (upd (upd (fun _ => 0) 0 ro) 1 ba) 2 sa) 3 cp) 4 po) 5 li) 6 mk) 7 rd
abbrev cPm (G : zG) (ro ba sa cp po li mk rd : Int32) : va_E := aI G 8 (mPf ro ba sa cp po li mk rd)
theorem mPf_4 (ro ba sa cp po li mk rd x : Int32) : upd (mPf ro ba sa cp po li mk rd) 4 x = mPf ro ba sa cp x li mk rd := by
  funext j
  by_cases h : j = 4
  · subst h; rfl
  · simp only [upd, mPf, if_neg h]
theorem mPf_5 (ro ba sa cp po li mk rd x : Int32) : upd (mPf ro ba sa cp po li mk rd) 5 x = mPf ro ba sa cp po x mk rd := by
  funext j
  by_cases h : j = 5
  · subst h; rfl
  · simp only [upd, mPf, if_neg h]
theorem mPf_6 (ro ba sa cp po li mk rd x : Int32) : upd (mPf ro ba sa cp po li mk rd) 6 x = mPf ro ba sa cp po li x rd := by
  funext j
  by_cases h : j = 6
  · subst h; rfl
  · simp only [upd, mPf, if_neg h]
theorem mPf_7 (ro ba sa cp po li mk rd x : Int32) : upd (mPf ro ba sa cp po li mk rd) 7 x = mPf ro ba sa cp po li mk x := by
  funext j
  by_cases h : j = 7
  · subst h; rfl
  · simp only [upd, mPf, if_neg h]
theorem z_inL {i : Int32} {n : Nat} (h : 0 ≤ i ∧ i.toNatClampNeg < n) : vp_in i n := fun q => q.elim (fun q => absurd h.1 (Int32.not_le.mpr q)) (fun q => absurd h.2 (Nat.not_lt.mpr q))
theorem fb_rng (x : Int32) : -2147483648 ≤ x.toInt ∧ x.toInt < 2147483648 := by
  have h1 := Int32.le_toInt x
  have h2 := Int32.toInt_lt x
  constructor <;> omega
theorem fb_bmod {z : Int} (h1 : -2147483648 ≤ z) (h2 : z < 2147483648) : z.bmod (2 ^ 32) = z := by
  rw [Int.bmod_eq_of_le] <;> omega
theorem fb_addI {x y : Int32} (h1 : -2147483648 ≤ x.toInt + y.toInt) (h2 : x.toInt + y.toInt < 2147483648) : (x + y).toInt = x.toInt + y.toInt := by
  rw [Int32.toInt_add]; exact fb_bmod h1 h2
theorem fb_subI {x y : Int32} (h1 : -2147483648 ≤ x.toInt - y.toInt) (h2 : x.toInt - y.toInt < 2147483648) : (x - y).toInt = x.toInt - y.toInt := by
  rw [Int32.toInt_sub]; exact fb_bmod h1 h2
theorem z_le {a b : Int32} : a ≤ b ↔ a.toInt ≤ b.toInt := Int32.le_iff_toInt_le
theorem z_ltI {a b : Int32} : a < b ↔ a.toInt < b.toInt := Int32.lt_iff_toInt_lt
theorem z_eqI {a b : Int32} : a = b ↔ a.toInt = b.toInt := ⟨fun h => by rw [h], Int32.toInt_inj.mp⟩
theorem z_t0 : (0 : Int32).toInt = 0 := by decide
theorem z_t1 : (1 : Int32).toInt = 1 := by decide
theorem z_tm1 : (-1 : Int32).toInt = -1 := by decide
theorem z_cl {x : Int32} (h : 0 ≤ x) : (x.toNatClampNeg : Int) = x.toInt := by
  have h1 : (0 : Int) ≤ x.toInt := by have := z_le.mp h; rw [z_t0] at this; exact this
  show ((x.toInt.toNat : Nat) : Int) = x.toInt
  omega
/-- within a row of n places -/
theorem z_inT {x : Int32} {n : Nat} : vp_in x n ↔ 0 ≤ x.toInt ∧ x.toInt < n := vp_in_iff
def z_is (v a b : Int32) : Int32 := if v < a then 0 else if b < v then 0 else 1
theorem z_is_n (v a b : Int32) : narrow .boolean (.int (z_is v a b)) = .int (z_is v a b) := by
  unfold z_is
  split
  · rfl
  · split <;> rfl
theorem z_is1 {v a b : Int32} (h : ¬ z_is v a b = 0) : a ≤ v ∧ v ≤ b := by
  unfold z_is at h
  split at h
  · exact absurd rfl h
  · rename_i h1
    split at h
    · exact absurd rfl h
    · rename_i h2
      exact ⟨Int32.not_lt.mp h1, Int32.not_lt.mp h2⟩
theorem z_is0 {v a b : Int32} (h : a ≤ v ∧ v ≤ b) : z_is v a b = 1 := by
  unfold z_is
  rw [if_neg (Int32.not_lt.mpr h.1), if_neg (Int32.not_lt.mpr h.2)]
theorem z_is01 (v a b : Int32) : z_is v a b = 0 ∨ z_is v a b = 1 := by
  unfold z_is
  split
  · exact Or.inl rfl
  · split
    · exact Or.inl rfl
    · exact Or.inr rfl
/-- an index below a limit, as the reference tests it -/
theorem z_isp {x li : Int32} (h0 : 0 ≤ li) (h : ¬ z_is x 0 (li - 1) = 0) : 0 ≤ x ∧ x < li := by
  obtain ⟨h1, h2⟩ := z_is1 h
  refine ⟨h1, ?_⟩
  rw [z_le] at h2 h0
  rw [z_t0] at h0
  rw [z_ltI]
  rw [fb_subI (by rw [z_t1]; omega) (by rw [z_t1]; have := fb_rng li; omega), z_t1] at h2
  omega
def z_lt (t f : Int32) : Int32 := if t = 0 then 1 else if f = 0 then 2 else 0
def z_lr (t f : Int32) : Int32 := if z_lt t f = 0 then 1 else 0
theorem z_lr_n (t f : Int32) : narrow .boolean (.int (z_lr t f)) = .int (z_lr t f) := by
  unfold z_lr
  split <;> rfl
theorem z_lay {pl : Int32} {nt : Nat} {f : Int32} (hn : 16 ≤ nt ∧ nt < 100000) (h : ¬ z_lr (z_is pl 0 15) f = 0) : vp_in pl nt := by
  have h1 : ¬ z_is pl 0 15 = 0 := fun e => h (by simp [z_lr, z_lt, e])
  obtain ⟨a, b⟩ := z_is1 h1
  rw [z_le] at a b
  rw [z_t0] at a
  rw [show (15 : Int32).toInt = 15 from by decide] at b
  rw [z_inT]
  omega
theorem z_ou3 {x : Int32} (h0 : ¬ x = 0) (h1 : ¬ x = 1) (h2 : ¬ x = 2) : x.toInt < 0 ∨ 2 < x.toInt := by
  have g0 : x.toInt ≠ 0 := fun e => h0 (z_eqI.mpr (by rw [e]; rfl))
  have g1 : x.toInt ≠ 1 := fun e => h1 (z_eqI.mpr (by rw [e]; rfl))
  have g2 : x.toInt ≠ 2 := fun e => h2 (z_eqI.mpr (by rw [e]; rfl))
  omega
theorem z_ou9 {x : Int32} (h0 : ¬ x = 0) (h1 : ¬ x = 1) (h2 : ¬ x = 2) (h3 : ¬ x = 3) (h4 : ¬ x = 4) (h5 : ¬ x = 5) (h6 : ¬ x = 6) (h7 : ¬ x = 7) (h8 : ¬ x = 8) : x.toInt < 0 ∨ 8 < x.toInt := by
  have g0 : x.toInt ≠ 0 := fun e => h0 (z_eqI.mpr (by rw [e]; rfl))
  have g1 : x.toInt ≠ 1 := fun e => h1 (z_eqI.mpr (by rw [e]; rfl))
  have g2 : x.toInt ≠ 2 := fun e => h2 (z_eqI.mpr (by rw [e]; rfl))
  have g3 : x.toInt ≠ 3 := fun e => h3 (z_eqI.mpr (by rw [e]; rfl))
  have g4 : x.toInt ≠ 4 := fun e => h4 (z_eqI.mpr (by rw [e]; rfl))
  have g5 : x.toInt ≠ 5 := fun e => h5 (z_eqI.mpr (by rw [e]; rfl))
  have g6 : x.toInt ≠ 6 := fun e => h6 (z_eqI.mpr (by rw [e]; rfl))
  have g7 : x.toInt ≠ 7 := fun e => h7 (z_eqI.mpr (by rw [e]; rfl))
  have g8 : x.toInt ≠ 8 := fun e => h8 (z_eqI.mpr (by rw [e]; rfl))
  omega
theorem z_ou41 {x : Int32} (h0 : ¬ x = 0) (h1 : ¬ x = 1) (h2 : ¬ x = 2) (h3 : ¬ x = 3) (h4 : ¬ x = 4) (h5 : ¬ x = 5) (h6 : ¬ x = 6) (h7 : ¬ x = 7) (h8 : ¬ x = 8) (h9 : ¬ x = 9) (h10 : ¬ x = 10) (h11 : ¬ x = 11) (h12 : ¬ x = 12) (h13 : ¬ x = 13) (h14 : ¬ x = 14) (h15 : ¬ x = 15) (h16 : ¬ x = 16) (h17 : ¬ x = 17) (h18 : ¬ x = 18) (h19 : ¬ x = 19) (h20 : ¬ x = 20) (h21 : ¬ x = 21) (h22 : ¬ x = 22) (h23 : ¬ x = 23) (h24 : ¬ x = 24) (h25 : ¬ x = 25) (h26 : ¬ x = 26) (h27 : ¬ x = 27) (h28 : ¬ x = 28) (h29 : ¬ x = 29) (h30 : ¬ x = 30) (h31 : ¬ x = 31) (h32 : ¬ x = 32) (h33 : ¬ x = 33) (h34 : ¬ x = 34) (h35 : ¬ x = 35) (h36 : ¬ x = 36) (h37 : ¬ x = 37) (h38 : ¬ x = 38) (h39 : ¬ x = 39) (h40 : ¬ x = 40) : x.toInt < 0 ∨ 40 < x.toInt := by
  have g0 : x.toInt ≠ 0 := fun e => h0 (z_eqI.mpr (by rw [e]; rfl))
  have g1 : x.toInt ≠ 1 := fun e => h1 (z_eqI.mpr (by rw [e]; rfl))
  have g2 : x.toInt ≠ 2 := fun e => h2 (z_eqI.mpr (by rw [e]; rfl))
  have g3 : x.toInt ≠ 3 := fun e => h3 (z_eqI.mpr (by rw [e]; rfl))
  have g4 : x.toInt ≠ 4 := fun e => h4 (z_eqI.mpr (by rw [e]; rfl))
  have g5 : x.toInt ≠ 5 := fun e => h5 (z_eqI.mpr (by rw [e]; rfl))
  have g6 : x.toInt ≠ 6 := fun e => h6 (z_eqI.mpr (by rw [e]; rfl))
  have g7 : x.toInt ≠ 7 := fun e => h7 (z_eqI.mpr (by rw [e]; rfl))
  have g8 : x.toInt ≠ 8 := fun e => h8 (z_eqI.mpr (by rw [e]; rfl))
  have g9 : x.toInt ≠ 9 := fun e => h9 (z_eqI.mpr (by rw [e]; rfl))
  have g10 : x.toInt ≠ 10 := fun e => h10 (z_eqI.mpr (by rw [e]; rfl))
  have g11 : x.toInt ≠ 11 := fun e => h11 (z_eqI.mpr (by rw [e]; rfl))
  have g12 : x.toInt ≠ 12 := fun e => h12 (z_eqI.mpr (by rw [e]; rfl))
  have g13 : x.toInt ≠ 13 := fun e => h13 (z_eqI.mpr (by rw [e]; rfl))
  have g14 : x.toInt ≠ 14 := fun e => h14 (z_eqI.mpr (by rw [e]; rfl))
  have g15 : x.toInt ≠ 15 := fun e => h15 (z_eqI.mpr (by rw [e]; rfl))
  have g16 : x.toInt ≠ 16 := fun e => h16 (z_eqI.mpr (by rw [e]; rfl))
  have g17 : x.toInt ≠ 17 := fun e => h17 (z_eqI.mpr (by rw [e]; rfl))
  have g18 : x.toInt ≠ 18 := fun e => h18 (z_eqI.mpr (by rw [e]; rfl))
  have g19 : x.toInt ≠ 19 := fun e => h19 (z_eqI.mpr (by rw [e]; rfl))
  have g20 : x.toInt ≠ 20 := fun e => h20 (z_eqI.mpr (by rw [e]; rfl))
  have g21 : x.toInt ≠ 21 := fun e => h21 (z_eqI.mpr (by rw [e]; rfl))
  have g22 : x.toInt ≠ 22 := fun e => h22 (z_eqI.mpr (by rw [e]; rfl))
  have g23 : x.toInt ≠ 23 := fun e => h23 (z_eqI.mpr (by rw [e]; rfl))
  have g24 : x.toInt ≠ 24 := fun e => h24 (z_eqI.mpr (by rw [e]; rfl))
  have g25 : x.toInt ≠ 25 := fun e => h25 (z_eqI.mpr (by rw [e]; rfl))
  have g26 : x.toInt ≠ 26 := fun e => h26 (z_eqI.mpr (by rw [e]; rfl))
  have g27 : x.toInt ≠ 27 := fun e => h27 (z_eqI.mpr (by rw [e]; rfl))
  have g28 : x.toInt ≠ 28 := fun e => h28 (z_eqI.mpr (by rw [e]; rfl))
  have g29 : x.toInt ≠ 29 := fun e => h29 (z_eqI.mpr (by rw [e]; rfl))
  have g30 : x.toInt ≠ 30 := fun e => h30 (z_eqI.mpr (by rw [e]; rfl))
  have g31 : x.toInt ≠ 31 := fun e => h31 (z_eqI.mpr (by rw [e]; rfl))
  have g32 : x.toInt ≠ 32 := fun e => h32 (z_eqI.mpr (by rw [e]; rfl))
  have g33 : x.toInt ≠ 33 := fun e => h33 (z_eqI.mpr (by rw [e]; rfl))
  have g34 : x.toInt ≠ 34 := fun e => h34 (z_eqI.mpr (by rw [e]; rfl))
  have g35 : x.toInt ≠ 35 := fun e => h35 (z_eqI.mpr (by rw [e]; rfl))
  have g36 : x.toInt ≠ 36 := fun e => h36 (z_eqI.mpr (by rw [e]; rfl))
  have g37 : x.toInt ≠ 37 := fun e => h37 (z_eqI.mpr (by rw [e]; rfl))
  have g38 : x.toInt ≠ 38 := fun e => h38 (z_eqI.mpr (by rw [e]; rfl))
  have g39 : x.toInt ≠ 39 := fun e => h39 (z_eqI.mpr (by rw [e]; rfl))
  have g40 : x.toInt ≠ 40 := fun e => h40 (z_eqI.mpr (by rw [e]; rfl))
  omega
/-- a pane in order: what holds of its numbers, and that its places lie in a row of nt places from ba + sa on -/
def z_or (ba sa cp po li : Int32) (nt : Nat) : Prop := 0 ≤ ba.toInt ∧ 0 ≤ sa.toInt ∧ 0 ≤ po.toInt ∧ po.toInt ≤ li.toInt ∧ li.toInt ≤ cp.toInt ∧ cp.toInt ≤ 16 ∧ ba.toInt + sa.toInt + cp.toInt ≤ nt ∧ nt < 100000
theorem z_orI {ba sa cp po li x : Int32} {nt : Nat} (h : z_or ba sa cp po li nt) (h1 : 0 ≤ x.toInt) (h2 : x.toInt < cp.toInt) : vp_in (ba + sa + x) nt := by
  obtain ⟨a1, a2, a3, a4, a5, a6, a7, a8⟩ := h
  rw [z_inT]
  have e1 : (ba + sa).toInt = ba.toInt + sa.toInt := fb_addI (by omega) (by omega)
  rw [fb_addI (by rw [e1]; omega) (by rw [e1]; omega), e1]
  omega
theorem z_orL {ba sa cp po li x : Int32} {nt : Nat} (h : z_or ba sa cp po li nt) (hx : ¬ z_is x 0 (li - 1) = 0) : vp_in (ba + sa + x) nt := by
  have h0 : (0 : Int32) ≤ li := by rw [z_le, z_t0]; obtain ⟨a1, a2, a3, a4, a5, a6, a7, a8⟩ := h; omega
  obtain ⟨h1, h2⟩ := z_isp h0 hx
  rw [z_le, z_t0] at h1
  rw [z_ltI] at h2
  exact z_orI h h1 (by obtain ⟨a1, a2, a3, a4, a5, a6, a7, a8⟩ := h; omega)
theorem z_orP {ba sa cp po li : Int32} {nt : Nat} (h : z_or ba sa cp po li nt) (hx : ¬ li - po = 0) : vp_in (ba + sa + po) nt := by
  obtain ⟨a1, a2, a3, a4, a5, a6, a7, a8⟩ := id h
  refine z_orI h a3 ?_
  have : po.toInt ≠ li.toInt := fun e => hx (by rw [z_eqI, fb_subI (by omega) (by omega), z_t0]; omega)
  omega
theorem z_orC {ba sa cp po li x : Int32} {nt : Nat} (h : z_or ba sa cp po li nt) (hx : ¬ z_is x 0 (cp - 1) = 0) : vp_in (ba + sa + x) nt := by
  have h0 : (0 : Int32) ≤ cp := by rw [z_le, z_t0]; obtain ⟨a1, a2, a3, a4, a5, a6, a7, a8⟩ := h; omega
  obtain ⟨h1, h2⟩ := z_isp h0 hx
  rw [z_le, z_t0] at h1
  rw [z_ltI] at h2
  exact z_orI h h1 h2
theorem z_orQ {ba sa cp po li : Int32} {nt : Nat} (h : z_or ba sa cp po li nt) (hx : ¬ po = 0) : vp_in (ba + sa + (po - 1)) nt := by
  obtain ⟨a1, a2, a3, a4, a5, a6, a7, a8⟩ := id h
  have : po.toInt ≠ 0 := fun e => hx (by rw [z_eqI, z_t0]; exact e)
  have e : (po - 1).toInt = po.toInt - 1 := by rw [fb_subI (by rw [z_t1]; omega) (by rw [z_t1]; omega), z_t1]
  exact z_orI h (by omega) (by omega)
theorem z_orR {ba sa cp po li : Int32} {nt : Nat} (h : z_or ba sa cp po li nt) (hx : ¬ li - po = 0) : vp_in (ba + sa + (po + 1 - 1)) nt := by
  rw [show po + 1 - 1 = po from Int32.add_sub_cancel po 1]
  exact z_orP h hx
theorem z_leT {x y : Int32} (h : x ≤ y) : x.toInt ≤ y.toInt := z_le.mp h
section PM
variable {X : zX} {cc : ByteArray} {own : String} {nL : Nat} {rm : Room} {M : zM} {k n pc a : Nat} {lv : List (Nat × Value)} {st : List Value} {ro ba sa cp po li mk rd x : Int32}
theorem z_pl0 (C : z_C X cc own nL rm) (hM : M a = some (cPm (z_G X) ro ba sa cp po li mk rd)) (d : decode cc pc = .ok (.iaload, 1)) (kk : z_W X M k n (pc + 1) lv (.int ro :: st)) : z_W X M k n pc lv (.int 0 :: .ref a :: st) := z_iald (j := 0) C hM (z_inL (by decide)) (by decide) d kk
theorem z_pl1 (C : z_C X cc own nL rm) (hM : M a = some (cPm (z_G X) ro ba sa cp po li mk rd)) (d : decode cc pc = .ok (.iaload, 1)) (kk : z_W X M k n (pc + 1) lv (.int ba :: st)) : z_W X M k n pc lv (.int 1 :: .ref a :: st) := z_iald (j := 1) C hM (z_inL (by decide)) (by decide) d kk
theorem z_pl2 (C : z_C X cc own nL rm) (hM : M a = some (cPm (z_G X) ro ba sa cp po li mk rd)) (d : decode cc pc = .ok (.iaload, 1)) (kk : z_W X M k n (pc + 1) lv (.int sa :: st)) : z_W X M k n pc lv (.int 2 :: .ref a :: st) := z_iald (j := 2) C hM (z_inL (by decide)) (by decide) d kk
theorem z_pl3 (C : z_C X cc own nL rm) (hM : M a = some (cPm (z_G X) ro ba sa cp po li mk rd)) (d : decode cc pc = .ok (.iaload, 1)) (kk : z_W X M k n (pc + 1) lv (.int cp :: st)) : z_W X M k n pc lv (.int 3 :: .ref a :: st) := z_iald (j := 3) C hM (z_inL (by decide)) (by decide) d kk
theorem z_pl4 (C : z_C X cc own nL rm) (hM : M a = some (cPm (z_G X) ro ba sa cp po li mk rd)) (d : decode cc pc = .ok (.iaload, 1)) (kk : z_W X M k n (pc + 1) lv (.int po :: st)) : z_W X M k n pc lv (.int 4 :: .ref a :: st) := z_iald (j := 4) C hM (z_inL (by decide)) (by decide) d kk
theorem z_pl5 (C : z_C X cc own nL rm) (hM : M a = some (cPm (z_G X) ro ba sa cp po li mk rd)) (d : decode cc pc = .ok (.iaload, 1)) (kk : z_W X M k n (pc + 1) lv (.int li :: st)) : z_W X M k n pc lv (.int 5 :: .ref a :: st) := z_iald (j := 5) C hM (z_inL (by decide)) (by decide) d kk
theorem z_pl6 (C : z_C X cc own nL rm) (hM : M a = some (cPm (z_G X) ro ba sa cp po li mk rd)) (d : decode cc pc = .ok (.iaload, 1)) (kk : z_W X M k n (pc + 1) lv (.int mk :: st)) : z_W X M k n pc lv (.int 6 :: .ref a :: st) := z_iald (j := 6) C hM (z_inL (by decide)) (by decide) d kk
theorem z_pl7 (C : z_C X cc own nL rm) (hM : M a = some (cPm (z_G X) ro ba sa cp po li mk rd)) (d : decode cc pc = .ok (.iaload, 1)) (kk : z_W X M k n (pc + 1) lv (.int rd :: st)) : z_W X M k n pc lv (.int 7 :: .ref a :: st) := z_iald (j := 7) C hM (z_inL (by decide)) (by decide) d kk
theorem z_ps4 (C : z_C X cc own nL rm) (hM : M a = some (cPm (z_G X) ro ba sa cp po li mk rd)) (d : decode cc pc = .ok (.iastore, 1)) (kk : z_W X (z_up M a (cPm (z_G X) ro ba sa cp x li mk rd)) k n (pc + 1) lv st) : z_W X M k n pc lv (.int x :: .int 4 :: .ref a :: st) := z_iast (j := 4) C hM (z_inL (by decide)) (by decide) d (by rw [mPf_4]; exact kk)
theorem z_pt4 (C : z_C X cc own nL rm) (d : decode cc pc = .ok (.iastore, 1)) (kk : z_W X (z_up M a (cPm (z_G X) ro ba sa cp x li mk rd)) k n (pc + 1) lv st) : z_W X (z_up M a (cPm (z_G X) ro ba sa cp po li mk rd)) k n pc lv (.int x :: .int 4 :: .ref a :: st) := z_ps4 C (z_up_s _ _ _) d (by rw [z_up_up]; exact kk)
theorem z_ps5 (C : z_C X cc own nL rm) (hM : M a = some (cPm (z_G X) ro ba sa cp po li mk rd)) (d : decode cc pc = .ok (.iastore, 1)) (kk : z_W X (z_up M a (cPm (z_G X) ro ba sa cp po x mk rd)) k n (pc + 1) lv st) : z_W X M k n pc lv (.int x :: .int 5 :: .ref a :: st) := z_iast (j := 5) C hM (z_inL (by decide)) (by decide) d (by rw [mPf_5]; exact kk)
theorem z_pt5 (C : z_C X cc own nL rm) (d : decode cc pc = .ok (.iastore, 1)) (kk : z_W X (z_up M a (cPm (z_G X) ro ba sa cp po x mk rd)) k n (pc + 1) lv st) : z_W X (z_up M a (cPm (z_G X) ro ba sa cp po li mk rd)) k n pc lv (.int x :: .int 5 :: .ref a :: st) := z_ps5 C (z_up_s _ _ _) d (by rw [z_up_up]; exact kk)
theorem z_ps6 (C : z_C X cc own nL rm) (hM : M a = some (cPm (z_G X) ro ba sa cp po li mk rd)) (d : decode cc pc = .ok (.iastore, 1)) (kk : z_W X (z_up M a (cPm (z_G X) ro ba sa cp po li x rd)) k n (pc + 1) lv st) : z_W X M k n pc lv (.int x :: .int 6 :: .ref a :: st) := z_iast (j := 6) C hM (z_inL (by decide)) (by decide) d (by rw [mPf_6]; exact kk)
theorem z_pt6 (C : z_C X cc own nL rm) (d : decode cc pc = .ok (.iastore, 1)) (kk : z_W X (z_up M a (cPm (z_G X) ro ba sa cp po li x rd)) k n (pc + 1) lv st) : z_W X (z_up M a (cPm (z_G X) ro ba sa cp po li mk rd)) k n pc lv (.int x :: .int 6 :: .ref a :: st) := z_ps6 C (z_up_s _ _ _) d (by rw [z_up_up]; exact kk)
theorem z_ps7 (C : z_C X cc own nL rm) (hM : M a = some (cPm (z_G X) ro ba sa cp po li mk rd)) (d : decode cc pc = .ok (.iastore, 1)) (kk : z_W X (z_up M a (cPm (z_G X) ro ba sa cp po li mk x)) k n (pc + 1) lv st) : z_W X M k n pc lv (.int x :: .int 7 :: .ref a :: st) := z_iast (j := 7) C hM (z_inL (by decide)) (by decide) d (by rw [mPf_7]; exact kk)
theorem z_pt7 (C : z_C X cc own nL rm) (d : decode cc pc = .ok (.iastore, 1)) (kk : z_W X (z_up M a (cPm (z_G X) ro ba sa cp po li mk x)) k n (pc + 1) lv st) : z_W X (z_up M a (cPm (z_G X) ro ba sa cp po li mk rd)) k n pc lv (.int x :: .int 7 :: .ref a :: st) := z_ps7 C (z_up_s _ _ _) d (by rw [z_up_up]; exact kk)
end PM
end
section
/-! PART 06: methods that return or throw, over the z layer -/
/-- an exception of class E is on its way, at this place of the walk -/
def z_V (X : zX) (M : zM) (k n pc : Nat) (lv : List (Nat × Value)) (st : List Value) (E : String) : Prop := ∀ (H : Heap) (locs : List Loc) (ls : Array Slot) (q : Addr) (ce : Cell), z_h (z_G X) M H → z_in (z_F X) M → va_S (z_F X) (z_s X).heap H locs → lv_has ls (z_c X).maxLocals lv → H[q]? = some ce → ce.vm = .none → (z_s X).vm.findClass E = some ce.cls →
  vx_W (z_p X) (z_l X) (z_e X) (z_R X) (z_s X) (z_m X) (z_a X) (z_b X) (z_me X) (z_c X) H locs k n (z_Q X) (F0 (z_m X) pc ls st) q
def z_XC (G : zG) (M : zM) (sz : Nat) (xpost : String → zM → Prop) : String → State → State → Prop := vx_X (fun _ : zM => True) (fun E M' t => xpost E M' ∧ z_E G M sz M' t) (z_A M sz)
def z_Xi (l : Launch) (G : zG) (q : zY) (rm : Room) (av : List Value) (M : zM) (post : Int32 → zM → Prop) (xpost : String → zM → Prop) : Prop := ∀ sz : Nat, vx_Met l q.1 (z_ws q) rm (va_Pc av (z_B G M sz)) (va_Qi post (z_E G M sz) (z_A M sz)) (z_XC G M sz xpost) rm.cells rm.slots (z_A M sz)
def z_Xv (l : Launch) (G : zG) (q : zY) (rm : Room) (av : List Value) (M : zM) (post : zM → Prop) (xpost : String → zM → Prop) : Prop := ∀ sz : Nat, vx_Met l q.1 (z_ws q) rm (va_Pc av (z_B G M sz)) (va_Qv post (z_E G M sz) (z_A M sz)) (z_XC G M sz xpost) rm.cells rm.slots (z_A M sz)
/-- an answer that is a cell: the method's answer is told through va_Qq -/
def z_Xr (l : Launch) (G : zG) (q : zY) (rm : Room) (av : List Value) (M : zM) (post : Nat → zM → Prop) (xpost : String → zM → Prop) : Prop := ∀ sz : Nat, vx_Met l q.1 (z_ws q) rm (va_Pc av (z_B G M sz)) (va_Qq (fun (r : Option Nat) (u : zM) => ∃ a, r = some a ∧ post a u) (z_E G M sz) (z_A M sz)) (z_XC G M sz xpost) rm.cells rm.slots (z_A M sz)
theorem z_h_same {G : zG} {M : zM} {H H1 : Heap} (h : z_h G M H) (oq : ∀ q : Nat, q < H.size → H1[q]? = H[q]?) : z_h G M H1 := fun a e ha => (h a e ha).kept (oq a (z_h_lt h ha))
theorem z_XC_of {G : zG} {M M' : zM} {s t : State} {H : Heap} {locs : List Loc} {xpost : String → zM → Prop} {E : String} (h1 : z_h G M' H) (h2 : z_in (z_A M s.heap.size) M') (h3 : va_S (z_A M s.heap.size) s.heap H locs) (hx : xpost E M') (hz : H.size ≤ t.heap.size) (oq : ∀ q : Nat, q < H.size → t.heap[q]? = H[q]?) : z_XC G M s.heap.size xpost E s t :=
  ⟨M', trivial, ⟨hx, z_h_same h1 oq, h2⟩, Nat.le_trans h3.1 hz, fun q g1 g2 => (oq q (Nat.lt_of_lt_of_le g1 h3.1)).trans (h3.2.1 q g1 g2)⟩
/-- what a body that may throw may do at its end: throw a new exception, or let one pass -/
def z_thr (X : zX) (q : zY) (rm : Room) (xpost : String → zM → Prop) : Prop := ∀ {M' : zM} {k n pc : Nat} {lv : List (Nat × Value)} {st : List Value} (cls text : String) (names : List String) (ik is ic : Nat), Bundle.fit cls = true → (∀ n ∈ names, Bundle.fit n = true) → Cond.classLink q.1.cls ik cls ∈ gw → Cond.initialized cls ∈ gw → q.1.cls = RX3 → (is, text) ∈ z_sC →
  (∀ w ∈ vx_atS q.1.cls ic cls names, w.before (z_a X) (z_s X) = true) → (∀ w ∈ Cond.classLink q.1.cls ik cls :: Cond.initialized cls :: vx_atS q.1.cls ic cls names, vx_ot w = true) → decode q.2.1 pc = .ok (.new ik, 3) → decode q.2.1 (pc + 3) = .ok (.dup, 1) → decode q.2.1 (pc + 4) = .ok (.ldc is, 2) → decode q.2.1 (pc + 6) = .ok (.invokespecial ic, 3) → decode q.2.1 (pc + 9) = .ok (.athrow, 1) →
  names.length + 3 < rm.frames → (st.map fun v => v.category).sum + (13 * (names.length + 1) + 43) ≤ rm.locals → k + 1 ≤ rm.cells → n + 6 ≤ rm.slots → xpost cls M' → z_W X M' k n pc lv st
def z_prp (X : zX) (rm : Room) (xpost : String → zM → Prop) : Prop := ∀ {M' : zM} {k n pc : Nat} {lv : List (Nat × Value)} {st : List Value} {E : String}, xpost E M' → k ≤ rm.cells → n ≤ rm.slots → z_V X M' k n pc lv st E
section ZXE
variable {l : Launch} {G : zG} {q : zY} {rm : Room} {av : List Value} {M : zM}
theorem z_thr_of {p : Program} {e : Env} {s : State} {m : MethodId} {below : List Frame} {meth : Method} {c : Code} {Qc : Array Value → State → Outcome → State → Prop} {xpost : String → zM → Prop} (hl : l.stackTraces = false) (hlocks : meth.locks = false) (ht : ∀ x ∈ c.exceptionTable.toList, False) (C : z_C (p, l, e, rm, s, m, av.toArray, below, meth, c, vx_MQ below Qc (z_XC G M s.heap.size xpost) av.toArray s rm.cells rm.slots (z_A M s.heap.size), z_A M s.heap.size, G) q.2.1 q.1.cls q.2.2.1 rm) :
    z_thr (p, l, e, rm, s, m, av.toArray, below, meth, c, vx_MQ below Qc (z_XC G M s.heap.size xpost) av.toArray s rm.cells rm.slots (z_A M s.heap.size), z_A M s.heap.size, G) q rm xpost := by
  intro M' k n pc lv st cls text names ik is ic f1 f2 w1 w2 hc3 hs hat hgood d0 d3 d4 d6 d9 r1 r2 r3 r4 hx H locs ls h1 h2 h3 h4
  obtain ⟨sa, hsa⟩ := C.2.2.2.2.2.2.1.2.1.2 _ hs
  have hJ := C.2.2.2.2.2.2.1
  exact vx_throwS (XC := z_XC G M s.heap.size xpost) C.1 C.2.1 hl C.2.2.2.1 f1 f2 (z_tow C w1) (z_tow C w2) (by rw [hc3]; exact hsa) hat hgood hJ.2.2.2.2.2.2.1 hJ.2.2.2.2.2.2.2 h3 h4.1 d0 d3 d4 d6 d9 (fun x hx => (ht x hx).elim) r1 r2 r3 r4 hlocks (fun t _ hz oq => z_XC_of h1 h2 h3 hx hz oq) h3.2.2 r3 r4
theorem z_prp_of {p : Program} {e : Env} {s : State} {m : MethodId} {below : List Frame} {meth : Method} {c : Code} {Qc : Array Value → State → Outcome → State → Prop} {xpost : String → zM → Prop} (hlocks : meth.locks = false) (ht : ∀ x ∈ c.exceptionTable.toList, False) :
    z_prp (p, l, e, rm, s, m, av.toArray, below, meth, c, vx_MQ below Qc (z_XC G M s.heap.size xpost) av.toArray s rm.cells rm.slots (z_A M s.heap.size), z_A M s.heap.size, G) rm xpost := by
  intro M' k n pc lv st E hx hk hn H locs ls q9 ce h1 h2 h3 h4 g1 g2 g3
  exact vx_out (XC := z_XC G M s.heap.size xpost) (fun x hx => (ht x hx).elim) hlocks g1 g2 g3 (fun t ht hW => z_XC_of h1 h2 h3 hx (by rw [ht]; exact Nat.le_refl _) (fun q _ => by rw [ht])) h3.2.2 hk hn
theorem z_Xi_of {ty : FieldType} (post : Int32 → zM → Prop) (xpost : String → zM → Prop) (hl : l.stackTraces = false) (hy : plainName q.1.cls = true) (hr : q.2.2.2 = some ty) (hargs : (lg_sl av).length ≤ q.2.2.1)
    (body : ∀ X : zX, z_l X = l → z_G X = G → z_C X q.2.1 q.1.cls q.2.2.1 rm → (∀ {M' : zM} {r : Int32} {k n pc : Nat} {lv : List (Nat × Value)}, decode q.2.1 pc = .ok (.ireturn, 1) → narrow ty (.int r) = .int r → post r M' → k ≤ rm.cells → n ≤ rm.slots → z_W X M' k n pc lv [.int r]) → z_thr X q rm xpost → z_prp X rm xpost → z_W X M 0 0 0 (lv_args 0 av) []) : z_Xi l G q rm av M post xpost := by
  intro sz
  refine vx_ofW (cc := q.2.1) (maxL := q.2.2.1) (ret := q.2.2.2) hy rfl ?_
  intro p e s m args below meth c s₁ B hml ht hv
  obtain ⟨rfl, hsz, hh, hK, hJ⟩ := hv
  subst hsz
  have hl9 := lv_entry av (n := q.2.2.1) hargs
  rw [lg_entry_eq]
  have hts : ∀ w ∈ gw, w.before av.toArray s = true := fun w h => atoms_spec (ws := z_ws q) B.pre w (List.mem_cons_of_mem _ h)
  have C : z_C (p, l, e, rm, s, m, av.toArray, below, meth, c, vx_MQ below (va_Qi post (z_E G M s.heap.size) (z_A M s.heap.size)) (z_XC G M s.heap.size xpost) av.toArray s rm.cells rm.slots (z_A M s.heap.size), z_A M s.heap.size, G) q.2.1 q.1.cls q.2.2.1 rm :=
    ⟨B.exec, B.bytes, hml, findClass_of_methodNamed B.named, hts, hK, hJ, fun q h => Or.inr h, rfl⟩
  exact body _ rfl rfl C
    (fun d hn hp hk hs H locs ls h1 h2 h3 h4 => W.widen hk hs (vx_ret (W.zret B.exec B.bytes (B.returns.trans hr) hn (fun t ht hW => ⟨⟨_, _, rfl, hp, by rw [ht]; exact h1, h2⟩, h3.F ht⟩) h3.2.2 d B.notSynchronized)))
    (z_thr_of hl B.notSynchronized ht C) (z_prp_of B.notSynchronized ht)
    s.heap [] _ hh (fun a e h => Or.inl ⟨e, h⟩) va_S.rf (by rw [show c.maxLocals = q.2.2.1 from hml]; exact hl9)
theorem z_Xv_of (post : zM → Prop) (xpost : String → zM → Prop) (hl : l.stackTraces = false) (hy : plainName q.1.cls = true) (hr : q.2.2.2 = none) (hargs : (lg_sl av).length ≤ q.2.2.1)
    (body : ∀ X : zX, z_l X = l → z_G X = G → z_C X q.2.1 q.1.cls q.2.2.1 rm → (∀ {M' : zM} {k n pc : Nat} {lv : List (Nat × Value)}, decode q.2.1 pc = .ok (.return_, 1) → post M' → k ≤ rm.cells → n ≤ rm.slots → z_W X M' k n pc lv []) → z_thr X q rm xpost → z_prp X rm xpost → z_W X M 0 0 0 (lv_args 0 av) []) : z_Xv l G q rm av M post xpost := by
  intro sz
  refine vx_ofW (cc := q.2.1) (maxL := q.2.2.1) (ret := q.2.2.2) hy rfl ?_
  intro p e s m args below meth c s₁ B hml ht hv
  obtain ⟨rfl, hsz, hh, hK, hJ⟩ := hv
  subst hsz
  have hl9 := lv_entry av (n := q.2.2.1) hargs
  rw [lg_entry_eq]
  have hts : ∀ w ∈ gw, w.before av.toArray s = true := fun w h => atoms_spec (ws := z_ws q) B.pre w (List.mem_cons_of_mem _ h)
  have C : z_C (p, l, e, rm, s, m, av.toArray, below, meth, c, vx_MQ below (va_Qv post (z_E G M s.heap.size) (z_A M s.heap.size)) (z_XC G M s.heap.size xpost) av.toArray s rm.cells rm.slots (z_A M s.heap.size), z_A M s.heap.size, G) q.2.1 q.1.cls q.2.2.1 rm :=
    ⟨B.exec, B.bytes, hml, findClass_of_methodNamed B.named, hts, hK, hJ, fun q h => Or.inr h, rfl⟩
  exact body _ rfl rfl C
    (fun d hp hk hs H locs ls h1 h2 h3 h4 => W.widen hk hs (vx_ret (W.vret B.exec B.bytes (B.returns.trans hr) (fun t ht hW => ⟨⟨_, rfl, hp, by rw [ht]; exact h1, h2⟩, h3.F ht⟩) h3.2.2 d B.notSynchronized)))
    (z_thr_of hl B.notSynchronized ht C) (z_prp_of B.notSynchronized ht)
    s.heap [] _ hh (fun a e h => Or.inl ⟨e, h⟩) va_S.rf (by rw [show c.maxLocals = q.2.2.1 from hml]; exact hl9)
theorem z_Xr_of {ty : FieldType} (post : Nat → zM → Prop) (xpost : String → zM → Prop) (hl : l.stackTraces = false) (hy : plainName q.1.cls = true) (hr : q.2.2.2 = some ty) (hty : (∃ n, ty = .object n) ∨ ∃ t, ty = .array t) (hargs : (lg_sl av).length ≤ q.2.2.1)
    (body : ∀ X : zX, z_l X = l → z_G X = G → z_C X q.2.1 q.1.cls q.2.2.1 rm → (∀ {M' : zM} {a k n pc : Nat} {lv : List (Nat × Value)}, decode q.2.1 pc = .ok (.areturn, 1) → post a M' → k ≤ rm.cells → n ≤ rm.slots → z_W X M' k n pc lv [.ref a]) → z_thr X q rm xpost → z_prp X rm xpost → z_W X M 0 0 0 (lv_args 0 av) []) : z_Xr l G q rm av M post xpost := by
  intro sz
  refine vx_ofW (cc := q.2.1) (maxL := q.2.2.1) (ret := q.2.2.2) hy rfl ?_
  intro p e s m args below meth c s₁ B hml ht hv
  obtain ⟨rfl, hsz, hh, hK, hJ⟩ := hv
  subst hsz
  have hl9 := lv_entry av (n := q.2.2.1) hargs
  rw [lg_entry_eq]
  have hts : ∀ w ∈ gw, w.before av.toArray s = true := fun w h => atoms_spec (ws := z_ws q) B.pre w (List.mem_cons_of_mem _ h)
  have C : z_C (p, l, e, rm, s, m, av.toArray, below, meth, c, vx_MQ below (va_Qq (fun (r : Option Nat) (u : zM) => ∃ a, r = some a ∧ post a u) (z_E G M s.heap.size) (z_A M s.heap.size)) (z_XC G M s.heap.size xpost) av.toArray s rm.cells rm.slots (z_A M s.heap.size), z_A M s.heap.size, G) q.2.1 q.1.cls q.2.2.1 rm :=
    ⟨B.exec, B.bytes, hml, findClass_of_methodNamed B.named, hts, hK, hJ, fun q h => Or.inr h, rfl⟩
  exact body _ rfl rfl C
    (fun {M' a k n pc lv} d hp hk hs H locs ls h1 h2 h3 h4 => W.widen hk hs (vx_ret (W.aret B.exec B.bytes (B.returns.trans hr) hty (Or.inr ⟨a, rfl⟩) (fun t ht hW => ⟨⟨some a, M', rfl, ⟨a, rfl, hp⟩, by rw [ht]; exact h1, h2⟩, h3.F ht⟩) h3.2.2 d B.notSynchronized)))
    (z_thr_of hl B.notSynchronized ht C) (z_prp_of B.notSynchronized ht)
    s.heap [] _ hh (fun a e h => Or.inl ⟨e, h⟩) va_S.rf (by rw [show c.maxLocals = q.2.2.1 from hml]; exact hl9)
end ZXE
section ZXq
variable {p : Program} {l : Launch} {e : Env} {R : Room} {s : State} {m : MethodId} {args : Array Value} {below : List Frame} {meth : Method} {c : Code} {H : Heap} {locs : List Loc} {cells slots : Nat} {Q : State → Prop}
variable {mc ms : Nat} {free : Addr → Prop} {A0 A1 : Nat → Prop} {H0 : Heap} {a : Array Value} {pc : Nat} {ls : Array Slot} {st0 rest : List Value}
theorem vx_callq {S SX : Type} {post : Option Nat → S → Prop} {px : SX → Prop} {B : S → State → Prop} {BX : String → SX → State → Prop} {AX : Nat → Prop} (hr : vx_Run p l e R s m args below meth c H locs cells slots mc ms (F0 m pc ls st0) rest (va_Qq post B A1 a) (vx_X px BX AX) free) (hS : va_S A0 H0 H locs) (hA : ∀ q, q < H.size → A1 q → A0 q) (hf : ∀ q, free q → A0 q) (hAX : ∀ q, q < H.size → AX q → A0 q)
    (kx : ∀ (E : String) (ce : Cell) (q9 : Addr) (u : SX) (t : State) (H1 : Heap) (locs1 : List Loc), t.heap = H1 → s.vm.Alike t.vm → px u → BX E u t → H.size ≤ H1.size → (∀ q : Nat, q < H.size → ¬ AX q → H1[q]? = H[q]?) → va_S A0 H0 H1 locs1 → H1[q9]? = some ce → ce.vm = .none → s.vm.findClass E = some ce.cls → vx_W p l e R s m args below meth c H1 locs1 (cells + mc) (slots + ms) Q (F0 m pc ls rest) q9)
    (kk : ∀ (r : Option Nat) (u : S) (t : State) (H1 : Heap) (locs1 : List Loc), t.heap = H1 → s.vm.Alike t.vm → post r u → B u t → H.size ≤ H1.size → (∀ q : Nat, q < H.size → ¬ A1 q → H1[q]? = H[q]?) → va_S A0 H0 H1 locs1 → W p l e R s m args below meth c H1 locs1 (cells + mc) (slots + ms) Q (F0 m (pc + 3) ls (va_rf r :: rest))) : W p l e R s m args below meth c H locs cells slots Q (F0 m pc ls st0) := by
  intro T hT X
  rcases hr T hT X with ⟨v, st₀, t, T', L, h0, X', hL, e1, e2, ⟨⟨r, u, hv, hp, hb⟩, hF⟩, st⟩ | ⟨q, st₀, t, T', L, E, ce, h0, X', hL, e1, e2, ⟨u, hp, hb, hF⟩, hce, hcv, hcl, st⟩
  · cases hv
    obtain ⟨k1, k2, k3⟩ := vx_keep h0 e1 hS hA hf hL hF
    obtain ⟨t2, a1, b1⟩ := kk r u t T'.heap (locs ++ L) e1.symm (by rw [← e2]; exact X'.warmed.alike) hp hb k1 k2 k3 T' rfl X'
    exact ⟨t2, st t2 a1, b1⟩
  · obtain ⟨k1, k2, k3⟩ := vx_keep h0 e1 hS hAX hf hL hF
    obtain ⟨t2, a1, b1⟩ := kx E ce q u t T'.heap (locs ++ L) e1.symm (by rw [← e2]; exact X'.warmed.alike) hp hb k1 k2 k3 (by rw [e1]; exact hce) hcv hcl T' rfl X'
    exact ⟨t2, st.trans a1, b1⟩
end ZXq
section ZXK
variable {X : zX} {cc : ByteArray} {own : String} {nL : Nat} {rm : Room} {M : zM} {k n k' n' pc : Nat} {lv : List (Nat × Value)} {st rest : List Value} {q : zY} {rmc : Room} {index b ci N : Nat} {fs : List Value} {r : vw_C} {As : List Value} {xpost : String → zM → Prop}
theorem z_callXVi {post : Int32 → zM → Prop} (C : z_C X cc own nL rm) (hM : z_Xi (z_l X) (z_G X) q rmc (.ref b :: As) M post xpost) (cw : CallW (z_R X) (z_s X) (z_a X) own q.1.cls index q.1 q.2.1 q.2.2.1 q.2.2.2 (z_ws q) rmc rmc.cells rmc.slots N) (hb : M b = some (.inr (ci, fs))) (hc : vwCl[ci]? = some r) (hr : r.1 = q.1.cls) (hN : As.length = N) (hst : st = As.reverse ++ .ref b :: rest) (hcat : (rest.map fun v => v.category).sum ≤ 8) (ek : k + rmc.cells = k') (en : n + rmc.slots = n') (hk : k' ≤ rm.cells) (hn : n' ≤ rm.slots) (d : decode cc pc = .ok (.invokevirtual index, 3))
    (kx : ∀ (E : String) (M' : zM), xpost E M' → z_V X M' k' n' pc lv rest E) (kk : ∀ (x : Int32) (M' : zM), post x M' → z_W X M' k' n' (pc + 3) lv (.int x :: rest)) : z_W X M k n pc lv st := by
  subst hst; subst ek; subst en
  intro H locs ls h1 h2 h3 h4
  have hs := z_sub C h2 h3
  exact vx_calli (vx_runV ⟨C.1, C.2.1, rfl, C.2.2.2.1, C.2.2.2.2.1⟩ (hM H.size) cw ⟨z_blind, by rw [← hr]; exact z_recv C h1 hb hc, fun U hU hW => ⟨rfl, z_pre C h1 h2 h3 hU hW⟩⟩ rfl hN h4.1 rfl (lv_room hcat) d (by rw [C.2.2.2.2.2.2.2.2]; exact ⟨hk, hn⟩)) h3 (fun q _ h => hs q h) hs (fun q _ h => hs q h)
    (fun E ce q9 M' t H1 locs1 ht hvm _ hB hz hk1 hS g1 g2 g3 => kx E M' hB.1 H1 locs1 ls q9 ce (by rw [← ht]; exact hB.2.1) (fun a e h => hs a (hB.2.2 a e h)) hS h4 g1 g2 g3)
    (fun x M' t H1 locs1 ht hvm hp hB hz hk1 hS => kk x M' hp H1 locs1 ls (by rw [← ht]; exact hB.1) (fun a e h => hs a (hB.2 a e h)) hS h4)
theorem z_callXVr {post : Nat → zM → Prop} (C : z_C X cc own nL rm) (hM : z_Xr (z_l X) (z_G X) q rmc (.ref b :: As) M post xpost) (cw : CallW (z_R X) (z_s X) (z_a X) own q.1.cls index q.1 q.2.1 q.2.2.1 q.2.2.2 (z_ws q) rmc rmc.cells rmc.slots N) (hb : M b = some (.inr (ci, fs))) (hc : vwCl[ci]? = some r) (hr : r.1 = q.1.cls) (hN : As.length = N) (hst : st = As.reverse ++ .ref b :: rest) (hcat : (rest.map fun v => v.category).sum ≤ 8) (ek : k + rmc.cells = k') (en : n + rmc.slots = n') (hk : k' ≤ rm.cells) (hn : n' ≤ rm.slots) (d : decode cc pc = .ok (.invokevirtual index, 3))
    (kx : ∀ (E : String) (M' : zM), xpost E M' → z_V X M' k' n' pc lv rest E) (kk : ∀ (a : Nat) (M' : zM), post a M' → z_W X M' k' n' (pc + 3) lv (.ref a :: rest)) : z_W X M k n pc lv st := by
  subst hst; subst ek; subst en
  intro H locs ls h1 h2 h3 h4
  have hs := z_sub C h2 h3
  exact vx_callq (vx_runV ⟨C.1, C.2.1, rfl, C.2.2.2.1, C.2.2.2.2.1⟩ (hM H.size) cw ⟨z_blind, by rw [← hr]; exact z_recv C h1 hb hc, fun U hU hW => ⟨rfl, z_pre C h1 h2 h3 hU hW⟩⟩ rfl hN h4.1 rfl (lv_room hcat) d (by rw [C.2.2.2.2.2.2.2.2]; exact ⟨hk, hn⟩)) h3 (fun q _ h => hs q h) hs (fun q _ h => hs q h)
    (fun E ce q9 M' t H1 locs1 ht hvm _ hB hz hk1 hS g1 g2 g3 => kx E M' hB.1 H1 locs1 ls q9 ce (by rw [← ht]; exact hB.2.1) (fun a e h => hs a (hB.2.2 a e h)) hS h4 g1 g2 g3)
    (fun x M' t H1 locs1 ht hvm hp hB hz hk1 hS => by
      obtain ⟨a, rfl, hp⟩ := hp
      exact kk a M' hp H1 locs1 ls (by rw [← ht]; exact hB.1) (fun a e h => hs a (hB.2 a e h)) hS h4)
theorem z_callXSv {post : zM → Prop} (C : z_C X cc own nL rm) (hM : z_Xv (z_l X) (z_G X) q rmc As M post xpost) (cw : CallB (z_R X) (z_s X) (z_a X) own index q.1 q.2.1 q.2.2.1 q.2.2.2 (z_ws q) rmc rmc.cells rmc.slots N ∧ (Cond.static q.1).before (z_a X) (z_s X) = true) (hN : As.length = N) (hst : st = As.reverse ++ rest) (hcat : (rest.map fun v => v.category).sum ≤ 8) (ek : k + rmc.cells = k') (en : n + rmc.slots = n') (hk : k' ≤ rm.cells) (hn : n' ≤ rm.slots) (d : decode cc pc = .ok (.invokestatic index, 3))
    (kx : ∀ (E : String) (M' : zM), xpost E M' → z_V X M' k' n' pc lv rest E) (kk : ∀ (M' : zM), post M' → z_W X M' k' n' (pc + 3) lv rest) : z_W X M k n pc lv st := by
  subst hst; subst ek; subst en
  intro H locs ls h1 h2 h3 h4
  have hs := z_sub C h2 h3
  exact vx_callv (vx_runS ⟨C.1, C.2.1, rfl, C.2.2.2.1, C.2.2.2.2.1⟩ (hM H.size) cw ⟨z_blind, fun U hU hW => ⟨rfl, z_pre C h1 h2 h3 hU hW⟩⟩ rfl hN h4.1 rfl (lv_room hcat) d (by rw [C.2.2.2.2.2.2.2.2]; exact ⟨hk, hn⟩)) h3 (fun q _ h => hs q h) hs (fun q _ h => hs q h)
    (fun E ce q9 M' t H1 locs1 ht hvm _ hB hz hk1 hS g1 g2 g3 => kx E M' hB.1 H1 locs1 ls q9 ce (by rw [← ht]; exact hB.2.1) (fun a e h => hs a (hB.2.2 a e h)) hS h4 g1 g2 g3)
    (fun M' t H1 locs1 ht hvm hp hB hz hk1 hS => kk M' hp H1 locs1 ls (by rw [← ht]; exact hB.1) (fun a e h => hs a (hB.2 a e h)) hS h4)
end ZXK
/-! the exceptions that the class throws -/
def z_nm : List String := ["java/lang/RuntimeException", "java/lang/Exception"]
theorem ht_I {X : zX} {cc : ByteArray} {own : String} {nL : Nat} {rm : Room} (C : z_C X cc own nL rm) : ∀ w ∈ vx_atS RX3 146 "java/lang/IndexOutOfBoundsException" z_nm, w.before (z_a X) (z_s X) = true :=
  vx_hat (B := [.castable "java/lang/IndexOutOfBoundsException" "java/lang/IndexOutOfBoundsException", .declares ⟨"java/lang/RuntimeException", "<init>", "(Ljava/lang/String;)V"⟩, .declares ⟨"java/lang/Exception", "<init>", "(Ljava/lang/String;)V"⟩, .declares ⟨"java/lang/Throwable", "<init>", "(Ljava/lang/String;)V"⟩]) (fun w hw => z_tow C (gw_mem ((by decide +kernel : ∀ w ∈ (vx_atS RX3 146 "java/lang/IndexOutOfBoundsException" z_nm).filter goodWord, w ∈ lw_tbl) w hw) (List.mem_filter.mp hw).2)) (by decide +kernel)
    (vx_c (va_Nw.use rfl (C.2.2.2.2.2.2.1.1.2.2.2.1 _ _ kn705)) (vx_c (va_Nw.use rfl (C.2.2.2.2.2.2.1.1.2.2.1 _ kn375)) (vx_c (va_Nw.use rfl (C.2.2.2.2.2.2.1.1.2.2.1 _ kn377)) (vx_c (va_Nw.use rfl (C.2.2.2.2.2.2.1.1.2.2.1 _ kn379)) vx_n))))
theorem ht_A {X : zX} {cc : ByteArray} {own : String} {nL : Nat} {rm : Room} (C : z_C X cc own nL rm) : ∀ w ∈ vx_atS RX3 224 "java/lang/IllegalArgumentException" z_nm, w.before (z_a X) (z_s X) = true :=
  vx_hat (B := [.castable "java/lang/IllegalArgumentException" "java/lang/IllegalArgumentException", .declares ⟨"java/lang/RuntimeException", "<init>", "(Ljava/lang/String;)V"⟩, .declares ⟨"java/lang/Exception", "<init>", "(Ljava/lang/String;)V"⟩, .declares ⟨"java/lang/Throwable", "<init>", "(Ljava/lang/String;)V"⟩]) (fun w hw => z_tow C (gw_mem ((by decide +kernel : ∀ w ∈ (vx_atS RX3 224 "java/lang/IllegalArgumentException" z_nm).filter goodWord, w ∈ lw_tbl) w hw) (List.mem_filter.mp hw).2)) (by decide +kernel)
    (vx_c (va_Nw.use rfl (C.2.2.2.2.2.2.1.1.2.2.2.1 _ _ kn373)) (vx_c (va_Nw.use rfl (C.2.2.2.2.2.2.1.1.2.2.1 _ kn375)) (vx_c (va_Nw.use rfl (C.2.2.2.2.2.2.1.1.2.2.1 _ kn377)) (vx_c (va_Nw.use rfl (C.2.2.2.2.2.2.1.1.2.2.1 _ kn379)) vx_n))))
theorem hg_I : ∀ w ∈ Cond.classLink RX3 142 "java/lang/IndexOutOfBoundsException" :: Cond.initialized "java/lang/IndexOutOfBoundsException" :: vx_atS RX3 146 "java/lang/IndexOutOfBoundsException" z_nm, vx_ot w = true := by decide +kernel
theorem hg_A : ∀ w ∈ Cond.classLink RX3 220 "java/lang/IllegalArgumentException" :: Cond.initialized "java/lang/IllegalArgumentException" :: vx_atS RX3 224 "java/lang/IllegalArgumentException" z_nm, vx_ot w = true := by decide +kernel
end
section
/-! PART 07: contracts weakened, contracts framed (worlds side by side) -/
theorem z_mf {l : Launch} {x : MethodName} {S : Spec} {P P' : Array Value → State → Prop} {K : Program → Env → List Frame → State → Array Value → Prop} {Q Q' : Array Value → State → Outcome → State → Prop} (h : MetFree l x S P K Q) (hP : ∀ a s, P' a s → P a s) (hQ : ∀ a s o t, P' a s → Q a s o t → Q' a s o t) : MetFree l x S P' K Q' := by
  intro p e h1 h2 h3 s m args below hf hs hp hk
  obtain ⟨n, o, a, b, c, d⟩ := h p e h1 h2 h3 s m args below hf hs (hP _ _ hp) hk
  exact ⟨n, o, a, b, c, hQ _ _ _ _ hp d⟩
section MONO
variable {l : Launch} {G : zG} {q : zY} {rm : Room} {av : List Value} {M : zM}
theorem z_Mi_mono {post post' : Int32 → zM → Prop} (h : z_Mi l G q rm av M post) (hq : ∀ r M', post r M' → post' r M') : z_Mi l G q rm av M post' := fun sz =>
  z_mf (h sz) (fun _ _ hp => hp) fun a s o t _ ⟨⟨⟨r, u, e, p, b⟩, f⟩, g⟩ => ⟨⟨⟨r, u, e, hq _ _ p, b⟩, f⟩, g⟩
theorem z_Ml_mono {post post' : Int64 → zM → Prop} (h : z_Ml l G q rm av M post) (hq : ∀ r M', post r M' → post' r M') : z_Ml l G q rm av M post' := fun sz =>
  z_mf (h sz) (fun _ _ hp => hp) fun a s o t _ ⟨⟨⟨r, u, e, p, b⟩, f⟩, g⟩ => ⟨⟨⟨r, u, e, hq _ _ p, b⟩, f⟩, g⟩
theorem z_Mv_mono {post post' : zM → Prop} (h : z_Mv l G q rm av M post) (hq : ∀ M', post M' → post' M') : z_Mv l G q rm av M post' := fun sz =>
  z_mf (h sz) (fun _ _ hp => hp) fun a s o t _ ⟨⟨⟨u, e, p, b⟩, f⟩, g⟩ => ⟨⟨⟨u, e, hq _ p, b⟩, f⟩, g⟩
theorem z_Mr_mono {post post' : Nat → zM → Prop} (h : z_Mr l G q rm av M post) (hq : ∀ r M', post r M' → post' r M') : z_Mr l G q rm av M post' := fun sz =>
  z_mf (h sz) (fun _ _ hp => hp) fun a s o t _ ⟨⟨⟨u, r, e, p, b⟩, f⟩, g⟩ => ⟨⟨⟨u, r, e, hq _ _ p, b⟩, f⟩, g⟩
theorem z_Xi_mono {post post' : Int32 → zM → Prop} {xp xp' : String → zM → Prop} (h : z_Xi l G q rm av M post xp) (hq : ∀ r M', post r M' → post' r M') (hx : ∀ E M', xp E M' → xp' E M') : z_Xi l G q rm av M post' xp' := fun sz =>
  z_mf (h sz) (fun _ _ hp => hp) fun a s o t _ k => by
    rcases k with ⟨⟨⟨r, u, e, p, b⟩, f⟩, g⟩ | ⟨q, e, E, ce, L, ⟨u, t1, ⟨p, b⟩, f⟩, g⟩
    · exact Or.inl ⟨⟨⟨r, u, e, hq _ _ p, b⟩, f⟩, g⟩
    · exact Or.inr ⟨q, e, E, ce, L, ⟨u, t1, ⟨hx _ _ p, b⟩, f⟩, g⟩
theorem z_Xv_mono {post post' : zM → Prop} {xp xp' : String → zM → Prop} (h : z_Xv l G q rm av M post xp) (hq : ∀ M', post M' → post' M') (hx : ∀ E M', xp E M' → xp' E M') : z_Xv l G q rm av M post' xp' := fun sz =>
  z_mf (h sz) (fun _ _ hp => hp) fun a s o t _ k => by
    rcases k with ⟨⟨⟨u, e, p, b⟩, f⟩, g⟩ | ⟨q, e, E, ce, L, ⟨u, t1, ⟨p, b⟩, f⟩, g⟩
    · exact Or.inl ⟨⟨⟨u, e, hq _ p, b⟩, f⟩, g⟩
    · exact Or.inr ⟨q, e, E, ce, L, ⟨u, t1, ⟨hx _ _ p, b⟩, f⟩, g⟩
theorem z_Xr_mono {post post' : Nat → zM → Prop} {xp xp' : String → zM → Prop} (h : z_Xr l G q rm av M post xp) (hq : ∀ r M', post r M' → post' r M') (hx : ∀ E M', xp E M' → xp' E M') : z_Xr l G q rm av M post' xp' := fun sz =>
  z_mf (h sz) (fun _ _ hp => hp) fun a s o t _ k => by
    rcases k with ⟨⟨⟨r, u, e, ⟨a, e2, p⟩, b⟩, f⟩, g⟩ | ⟨q, e, E, ce, L, ⟨u, t1, ⟨p, b⟩, f⟩, g⟩
    · exact Or.inl ⟨⟨⟨r, u, e, ⟨a, e2, hq _ _ p⟩, b⟩, f⟩, g⟩
    · exact Or.inr ⟨q, e, E, ce, L, ⟨u, t1, ⟨hx _ _ p, b⟩, f⟩, g⟩
end MONO
/-- two worlds side by side -/
def z_un (A B : zM) : zM := fun q => match A q with
  | some e => some e
  | none => B q
def z_dj (A B : zM) : Prop := ∀ q e, A q = some e → B q = none
theorem z_un_l {A B : zM} {q : Nat} {e : va_E} (h : A q = some e) : z_un A B q = some e := by
  unfold z_un
  rw [h]
theorem z_un_n {A B : zM} {q : Nat} (h : A q = none) : z_un A B q = B q := by
  unfold z_un
  rw [h]
theorem z_un_r {A B : zM} (d : z_dj A B) {q : Nat} {e : va_E} (h : B q = some e) : z_un A B q = some e := by
  cases ha : A q with
  | none => rw [z_un_n ha, h]
  | some f => rw [d q f ha] at h; cases h
theorem z_un_or {A B : zM} {q : Nat} {e : va_E} (h : z_un A B q = some e) : A q = some e ∨ B q = some e := by
  cases ha : A q with
  | none => rw [z_un_n ha] at h; exact Or.inr h
  | some f => rw [z_un_l ha] at h; exact Or.inl h
theorem z_dj_sym {A B : zM} (d : z_dj A B) : z_dj B A := fun q e h => by
  cases ha : A q with
  | none => rfl
  | some f => rw [d q f ha] at h; cases h
theorem z_un_comm {A B : zM} (d : z_dj A B) : z_un A B = z_un B A := by
  funext q
  cases ha : A q with
  | none =>
    cases hb : B q with
    | none => rw [z_un_n ha, z_un_n hb, ha, hb]
    | some e => rw [z_un_n ha, z_un_l hb, hb]
  | some f => rw [z_un_l ha, z_un_r (z_dj_sym d) ha]
theorem z_un_assoc (A B D : zM) : z_un (z_un A B) D = z_un A (z_un B D) := by
  funext q
  cases ha : A q with
  | none => rw [z_un_n ha]; cases hb : B q with
    | none => rw [z_un_n (by rw [z_un_n ha, hb]), z_un_n hb]
    | some e => rw [z_un_l (e := e) (by rw [z_un_n ha, hb]), z_un_l hb]
  | some f => rw [z_un_l (z_un_l ha), z_un_l ha]
theorem z_un_up (A B : zM) (a : Nat) (e : va_E) : z_up (z_un A B) a e = z_un (z_up A a e) B := by
  funext q
  by_cases h : q = a
  · subst h
    rw [z_up_s, z_un_l (z_up_s _ _ _)]
  · rw [z_up_n _ _ h]
    unfold z_un
    rw [z_up_n _ _ h]
theorem z_dj_un {A B D : zM} (h1 : z_dj A D) (h2 : z_dj B D) : z_dj (z_un A B) D := fun q e h => (z_un_or h).elim (h1 q e) (h2 q e)
theorem z_dj_un2 {A B D : zM} (h1 : z_dj A B) (h2 : z_dj A D) : z_dj A (z_un B D) := fun q e h => by rw [z_un_n (h1 q e h)]; exact h2 q e h
theorem z_dj_l {A B D : zM} (h : z_dj (z_un A B) D) : z_dj A D := fun q e h1 => h q e (z_un_l h1)
theorem z_dj_r {A B D : zM} (d : z_dj A B) (h : z_dj (z_un A B) D) : z_dj B D := fun q e h1 => h q e (z_un_r d h1)
theorem z_dj_2l {A B D : zM} (h : z_dj A (z_un B D)) : z_dj A B := fun q e h1 => by
  have h2 := h q e h1
  cases hb : B q with
  | none => rfl
  | some f => rw [z_un_l hb] at h2; cases h2
theorem z_dj_2r {A B D : zM} (h : z_dj A (z_un B D)) : z_dj A D := fun q e h1 => by
  have h2 := h q e h1
  rw [z_un_n (z_dj_2l h q e h1)] at h2
  exact h2
theorem z_h_l {G : zG} {A B : zM} {H : Heap} (h : z_h G (z_un A B) H) : z_h G A H := fun a e ha => h a e (z_un_l ha)
theorem z_h_r {G : zG} {A B : zM} {H : Heap} (d : z_dj A B) (h : z_h G (z_un A B) H) : z_h G B H := fun a e ha => h a e (z_un_r d ha)
theorem z_A_l {A B : zM} {sz q : Nat} (h : z_A A sz q) : z_A (z_un A B) sz q := h.elim (fun ⟨e, he⟩ => Or.inl ⟨e, z_un_l he⟩) Or.inr
theorem z_B_l {G : zG} {A B : zM} {sz : Nat} {U : State} (h : z_B G (z_un A B) sz U) : z_B G A sz U := ⟨h.1, z_h_l h.2.1, h.2.2.1, z_J_narrow h.2.2.2 fun _ q => z_A_l q⟩
/-- what comes behind a call over a part of the world: that part anew, beside the rest -/
theorem z_E_l {G : zG} {A B A' : zM} {sz : Nat} {s t : State} (d : z_dj A B) (hB : z_B G (z_un A B) sz s) (hE : z_E G A sz A' t) (hF : va_F (z_A A sz) s t) : z_dj A' B ∧ z_E G (z_un A B) sz (z_un A' B) t ∧ va_F (z_A (z_un A B) sz) s t := by
  obtain ⟨hsz, hh, _, _⟩ := hB
  have hb := z_h_r d hh
  refine ⟨fun q e h => ?_, ⟨fun a e h => ?_, fun a e h => ?_⟩, hF.1, fun q h1 h2 => hF.2 q h1 fun h3 => h2 (z_A_l h3)⟩
  · rcases hE.2 q e h with ⟨f, hf⟩ | hq
    · exact d q f hf
    · exact z_h_no hb (by rw [hsz]; exact hq)
  · rcases z_un_or h with h | h
    · exact hE.1 a e h
    · have hlt : a < s.heap.size := z_h_lt hb h
      refine (hb a e h).kept (hF.2 a hlt ?_)
      rintro (⟨f, hf⟩ | hq)
      · rw [d a f hf] at h; cases h
      · omega
  · rcases z_un_or h with h | h
    · exact z_A_l (hE.2 a e h)
    · exact Or.inl ⟨e, z_un_r d h⟩
section FRAME
variable {l : Launch} {G : zG} {q : zY} {rm : Room} {av : List Value} {A B : zM}
theorem z_Mi_fr {post : Int32 → zM → Prop} (d : z_dj A B) (h : z_Mi l G q rm av A post) : z_Mi l G q rm av (z_un A B) (fun r M' => ∃ A', post r A' ∧ z_dj A' B ∧ M' = z_un A' B) := fun sz =>
  z_mf (h sz) (fun _ _ hp => ⟨hp.1, z_B_l hp.2⟩) fun a s o t hp ⟨⟨⟨r, u, e, p, b⟩, f⟩, ⟨L, g1, g2⟩⟩ => by
    obtain ⟨k1, k2, k3⟩ := z_E_l d hp.2 b f
    exact ⟨⟨⟨r, _, e, ⟨u, p, k1, rfl⟩, k2⟩, k3⟩, L, g1, fun q h => z_A_l (g2 q h)⟩
theorem z_Ml_fr {post : Int64 → zM → Prop} (d : z_dj A B) (h : z_Ml l G q rm av A post) : z_Ml l G q rm av (z_un A B) (fun r M' => ∃ A', post r A' ∧ z_dj A' B ∧ M' = z_un A' B) := fun sz =>
  z_mf (h sz) (fun _ _ hp => ⟨hp.1, z_B_l hp.2⟩) fun a s o t hp ⟨⟨⟨r, u, e, p, b⟩, f⟩, ⟨L, g1, g2⟩⟩ => by
    obtain ⟨k1, k2, k3⟩ := z_E_l d hp.2 b f
    exact ⟨⟨⟨r, _, e, ⟨u, p, k1, rfl⟩, k2⟩, k3⟩, L, g1, fun q h => z_A_l (g2 q h)⟩
theorem z_Mv_fr {post : zM → Prop} (d : z_dj A B) (h : z_Mv l G q rm av A post) : z_Mv l G q rm av (z_un A B) (fun M' => ∃ A', post A' ∧ z_dj A' B ∧ M' = z_un A' B) := fun sz =>
  z_mf (h sz) (fun _ _ hp => ⟨hp.1, z_B_l hp.2⟩) fun a s o t hp ⟨⟨⟨u, e, p, b⟩, f⟩, ⟨L, g1, g2⟩⟩ => by
    obtain ⟨k1, k2, k3⟩ := z_E_l d hp.2 b f
    exact ⟨⟨⟨_, e, ⟨u, p, k1, rfl⟩, k2⟩, k3⟩, L, g1, fun q h => z_A_l (g2 q h)⟩
theorem z_Mr_fr {post : Nat → zM → Prop} (d : z_dj A B) (h : z_Mr l G q rm av A post) : z_Mr l G q rm av (z_un A B) (fun r M' => ∃ A', post r A' ∧ z_dj A' B ∧ M' = z_un A' B) := fun sz =>
  z_mf (h sz) (fun _ _ hp => ⟨hp.1, z_B_l hp.2⟩) fun a s o t hp ⟨⟨⟨⟨a9, u⟩, r, e, p, b1, b⟩, f⟩, ⟨L, g1, g2⟩⟩ => by
    obtain ⟨k1, k2, k3⟩ := z_E_l d hp.2 b f
    exact ⟨⟨⟨(a9, z_un u B), r, e, ⟨u, p, k1, rfl⟩, b1, k2⟩, k3⟩, L, g1, fun q h => z_A_l (g2 q h)⟩
theorem z_Xi_fr {post : Int32 → zM → Prop} {xp : String → zM → Prop} (d : z_dj A B) (h : z_Xi l G q rm av A post xp) : z_Xi l G q rm av (z_un A B) (fun r M' => ∃ A', post r A' ∧ z_dj A' B ∧ M' = z_un A' B) (fun E M' => ∃ A', xp E A' ∧ z_dj A' B ∧ M' = z_un A' B) := fun sz =>
  z_mf (h sz) (fun _ _ hp => ⟨hp.1, z_B_l hp.2⟩) fun a s o t hp k => by
    rcases k with ⟨⟨⟨r, u, e, p, b⟩, f⟩, ⟨L, g1, g2⟩⟩ | ⟨q, e, E, ce, L, ⟨u, t1, ⟨p, b⟩, f⟩, c1, c2, c3, c4, c5, c6⟩
    · obtain ⟨k1, k2, k3⟩ := z_E_l d hp.2 b f
      exact Or.inl ⟨⟨⟨r, _, e, ⟨u, p, k1, rfl⟩, k2⟩, k3⟩, L, g1, fun q h => z_A_l (g2 q h)⟩
    · obtain ⟨k1, k2, k3⟩ := z_E_l d hp.2 b f
      exact Or.inr ⟨q, e, E, ce, L, ⟨_, t1, ⟨⟨u, p, k1, rfl⟩, k2⟩, k3⟩, c1, c2, c3, c4, c5, fun z h => z_A_l (c6 z h)⟩
theorem z_Xr_fr {post : Nat → zM → Prop} {xp : String → zM → Prop} (d : z_dj A B) (h : z_Xr l G q rm av A post xp) : z_Xr l G q rm av (z_un A B) (fun r M' => ∃ A', post r A' ∧ z_dj A' B ∧ M' = z_un A' B) (fun E M' => ∃ A', xp E A' ∧ z_dj A' B ∧ M' = z_un A' B) := fun sz =>
  z_mf (h sz) (fun _ _ hp => ⟨hp.1, z_B_l hp.2⟩) fun a s o t hp k => by
    rcases k with ⟨⟨⟨r, u, e, ⟨a9, e2, p⟩, b⟩, f⟩, ⟨L, g1, g2⟩⟩ | ⟨q, e, E, ce, L, ⟨u, t1, ⟨p, b⟩, f⟩, c1, c2, c3, c4, c5, c6⟩
    · obtain ⟨k1, k2, k3⟩ := z_E_l d hp.2 b f
      exact Or.inl ⟨⟨⟨r, _, e, ⟨a9, e2, u, p, k1, rfl⟩, k2⟩, k3⟩, L, g1, fun q h => z_A_l (g2 q h)⟩
    · obtain ⟨k1, k2, k3⟩ := z_E_l d hp.2 b f
      exact Or.inr ⟨q, e, E, ce, L, ⟨_, t1, ⟨⟨u, p, k1, rfl⟩, k2⟩, k3⟩, c1, c2, c3, c4, c5, fun z h => z_A_l (c6 z h)⟩
end FRAME
end
