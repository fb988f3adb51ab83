/-- the good words of the tables -/
def BIG : List Cond := lw_tbl.filter goodWord
theorem bigAll : BIG.all goodWord = true := List.all_eq_true.mpr (fun w h => (List.mem_filter.mp h).2)
theorem bigIn {w : Cond} (i : Nat) (h : lw_tbl[i]? = some w) (hg : goodWord w = true) : w ∈ BIG := List.mem_filter.mpr ⟨List.mem_of_getElem? h, hg⟩
theorem bigT {w : Cond} (h : w ∈ BIG) : w ∈ lw_tbl := (List.mem_filter.mp h).1
theorem wd0 : Cond.selects "java/lang/Throwable" (⟨"java/lang/Throwable", "fillInStackTrace", "(I)Ljava/lang/Throwable;"⟩ : MethodName) (⟨"java/lang/Throwable", "fillInStackTrace", "(I)Ljava/lang/Throwable;"⟩ : MethodName) ∈ BIG := bigIn 0 (by rfl) (by rfl)
theorem wd1 : Cond.selects "FretSchool" yX5_needPiece yX5_needPiece ∈ BIG := bigIn 1 (by rfl) (by rfl)
theorem wd2 : Cond.selects "FretSchool" yX5_needNote yX5_needNote ∈ BIG := bigIn 2 (by rfl) (by rfl)
theorem wd3 : Cond.selects "FretSchool" yX5_needInstrument yX5_needInstrument ∈ BIG := bigIn 3 (by rfl) (by rfl)
theorem wd4 : Cond.selects "FretSchool" yX5_findBest yX5_findBest ∈ BIG := bigIn 4 (by rfl) (by rfl)
theorem wd5 : Cond.selects "FretSchool$Hand" yX0_feelReach yX0_feelReach ∈ BIG := bigIn 5 (by rfl) (by rfl)
theorem wd6 : Cond.selects "FretSchool$Hand" yX0_measureRest yX0_measureRest ∈ BIG := bigIn 6 (by rfl) (by rfl)
theorem wd7 : Cond.selects "FretSchool$Hand" yX0_nearest yX0_nearest ∈ BIG := bigIn 7 (by rfl) (by rfl)
theorem wd8 : Cond.selects "FretSchool$Hand" yX0_chooseRow yX0_chooseRow ∈ BIG := bigIn 8 (by rfl) (by rfl)
theorem wd9 : Cond.selects "FretSchool" yX5_learnableShift yX5_learnableShift ∈ BIG := bigIn 9 (by rfl) (by rfl)
theorem wd10 : Cond.selects "FretSchool" yX5_easiestShift yX5_easiestShift ∈ BIG := bigIn 10 (by rfl) (by rfl)
theorem wd11 : Cond.selects "FretSchool" yX5_ordersAtWork yX5_ordersAtWork ∈ BIG := bigIn 11 (by rfl) (by rfl)
theorem wd12 : Cond.selects "FretSchool" yX5_needOrder yX5_needOrder ∈ BIG := bigIn 12 (by rfl) (by rfl)
theorem wd13 : Cond.selects "FretSchoolModel" yX6_goes yX6_goes ∈ BIG := bigIn 13 (by rfl) (by rfl)
theorem wd14 : Cond.selects "FretSchoolModel" yX6_isPiece yX6_isPiece ∈ BIG := bigIn 14 (by rfl) (by rfl)
theorem wd15 : Cond.selects "FretSchoolModel" yX6_isNote yX6_isNote ∈ BIG := bigIn 15 (by rfl) (by rfl)
theorem wd16 : Cond.selects "FretSchoolModel" yX6_isInstrument yX6_isInstrument ∈ BIG := bigIn 16 (by rfl) (by rfl)
theorem wd17 : Cond.selects "FretSchoolModel" yX6_told yX6_told ∈ BIG := bigIn 17 (by rfl) (by rfl)
theorem wd18 : Cond.selects "FretSchoolModel" yX6_asks yX6_asks ∈ BIG := bigIn 18 (by rfl) (by rfl)
theorem wd19 : Cond.selects "FretSchoolModel" yX6_finds yX6_finds ∈ BIG := bigIn 19 (by rfl) (by rfl)
theorem wd20 : Cond.selects "FretSchoolModel" yX6_from yX6_from ∈ BIG := bigIn 20 (by rfl) (by rfl)
theorem wd21 : Cond.selects "FretSchoolModel" yX6_plays yX6_plays ∈ BIG := bigIn 21 (by rfl) (by rfl)
theorem wd22 : Cond.selects "FretSchoolModel" yX6_lies yX6_lies ∈ BIG := bigIn 22 (by rfl) (by rfl)
theorem wd23 : Cond.selects "FretSchoolModel" yX6_hardestOf yX6_hardestOf ∈ BIG := bigIn 23 (by rfl) (by rfl)
theorem wd24 : Cond.selects "FretSchoolModel" yX6_asksNote yX6_asksNote ∈ BIG := bigIn 24 (by rfl) (by rfl)
theorem wd25 : Cond.selects "FretSchoolModel" yX6_canLearn yX6_canLearn ∈ BIG := bigIn 25 (by rfl) (by rfl)
theorem wd26 : Cond.selects "FretSchoolModel" yX6_isKnown yX6_isKnown ∈ BIG := bigIn 26 (by rfl) (by rfl)
theorem wd27 : Cond.selects "FretSchoolModel" yX6_atWork yX6_atWork ∈ BIG := bigIn 27 (by rfl) (by rfl)
theorem wd28 : Cond.selects "FretSchoolModel" yX6_isOrder yX6_isOrder ∈ BIG := bigIn 28 (by rfl) (by rfl)
theorem wd29 : Cond.initialized "FretSchoolLaw" ∈ BIG := bigIn 29 (by rfl) (by rfl)
theorem wd30 : Cond.initialized "FretSchool" ∈ BIG := bigIn 30 (by rfl) (by rfl)
theorem wd31 : Cond.initialized "FretSchool$Piece" ∈ BIG := bigIn 31 (by rfl) (by rfl)
theorem wd32 : Cond.initialized "FretSchool$Instrument" ∈ BIG := bigIn 32 (by rfl) (by rfl)
theorem wd33 : Cond.initialized "FretSchool$Pupil" ∈ BIG := bigIn 33 (by rfl) (by rfl)
theorem wd34 : Cond.initialized "FretSchool$Order" ∈ BIG := bigIn 34 (by rfl) (by rfl)
theorem wd35 : Cond.initialized "FretSchool$Hand" ∈ BIG := bigIn 35 (by rfl) (by rfl)
theorem wd36 : Cond.initialized "FretSchoolModel" ∈ BIG := bigIn 36 (by rfl) (by rfl)
theorem wd37 : Cond.initialized "java/lang/Throwable" ∈ BIG := bigIn 37 (by rfl) (by rfl)
theorem wd38 : Cond.initialized "java/lang/Exception" ∈ BIG := bigIn 38 (by rfl) (by rfl)
theorem wd39 : Cond.initialized "java/lang/RuntimeException" ∈ BIG := bigIn 39 (by rfl) (by rfl)
theorem wd40 : Cond.initialized "java/lang/IllegalStateException" ∈ BIG := bigIn 40 (by rfl) (by rfl)
theorem wd41 : Cond.initialized "java/lang/IndexOutOfBoundsException" ∈ BIG := bigIn 41 (by rfl) (by rfl)
theorem wd42 : Cond.initialized "java/lang/IllegalArgumentException" ∈ BIG := bigIn 42 (by rfl) (by rfl)
theorem wd43 : Cond.initialized "java/lang/Math" ∈ BIG := bigIn 43 (by rfl) (by rfl)
theorem wd44 : Cond.classLink "FretSchoolLaw" 8 "FretSchool" ∈ BIG := bigIn 44 (by rfl) (by rfl)
theorem wd45 : Cond.instantiable "FretSchool" 10 ∈ BIG := bigIn 45 (by rfl) (by rfl)
theorem wd46 : Cond.methodLink "FretSchoolLaw" 81 yX5_init ∈ BIG := bigIn 46 (by rfl) (by rfl)
theorem wd47 : Cond.instanceMethod yX5_init ∈ BIG := bigIn 47 (by rfl) (by rfl)
theorem wd48 : Cond.code yX5_init cX5_init 2 (none : Option Jvm.ClassFile.FieldType) ∈ BIG := bigIn 48 (by rfl) (by rfl)
theorem wd49 : Cond.methodLink "FretSchool" 3 (⟨"java/lang/Object", "<init>", "()V"⟩ : MethodName) ∈ BIG := bigIn 49 (by rfl) (by rfl)
theorem wd50 : Cond.instanceMethod (⟨"java/lang/Object", "<init>", "()V"⟩ : MethodName) ∈ BIG := bigIn 50 (by rfl) (by rfl)
theorem wd51 : Cond.code (⟨"java/lang/Object", "<init>", "()V"⟩ : MethodName) object_method_1_code 1 (none : Option Jvm.ClassFile.FieldType) ∈ BIG := bigIn 51 (by rfl) (by rfl)
theorem wd52 : Cond.classLink "FretSchool" 9 "FretSchool$Piece" ∈ BIG := bigIn 52 (by rfl) (by rfl)
theorem wt53 : Cond.arrayOver (.object "FretSchool$Piece") ∈ lw_tbl := List.mem_of_getElem? (i := 53) (by rfl)
theorem wd54 : Cond.instantiable "FretSchool$Piece" 2 ∈ BIG := bigIn 54 (by rfl) (by rfl)
theorem wt55 : Cond.methodLinkNest "FretSchool" 15 yX3_init "FretSchool" ∈ lw_tbl := List.mem_of_getElem? (i := 55) (by rfl)
theorem wd56 : Cond.instanceMethod yX3_init ∈ BIG := bigIn 56 (by rfl) (by rfl)
theorem wd57 : Cond.code yX3_init cX3_init 1 (none : Option Jvm.ClassFile.FieldType) ∈ BIG := bigIn 57 (by rfl) (by rfl)
theorem wd58 : Cond.methodLink "FretSchool$Piece" 3 (⟨"java/lang/Object", "<init>", "()V"⟩ : MethodName) ∈ BIG := bigIn 58 (by rfl) (by rfl)
theorem wd59 : Cond.fieldLink "FretSchool$Piece" 9 "FretSchool$Piece" "pitches" "[I" ∈ BIG := bigIn 59 (by rfl) (by rfl)
theorem wd60 : Cond.fieldLink "FretSchool$Hand" 58 "FretSchool$Piece" "pitches" "[I" ∈ BIG := bigIn 60 (by rfl) (by rfl)
theorem wd61 : Cond.fieldLink "FretSchool" 101 "FretSchool$Piece" "pitches" "[I" ∈ BIG := bigIn 61 (by rfl) (by rfl)
theorem wd62 : Cond.fieldLink "FretSchool$Piece" 15 "FretSchool$Piece" "count" "I" ∈ BIG := bigIn 62 (by rfl) (by rfl)
theorem wd63 : Cond.fieldLink "FretSchool$Hand" 34 "FretSchool$Piece" "count" "I" ∈ BIG := bigIn 63 (by rfl) (by rfl)
theorem wd64 : Cond.fieldLink "FretSchool" 85 "FretSchool$Piece" "count" "I" ∈ BIG := bigIn 64 (by rfl) (by rfl)
theorem wd65 : Cond.laysFinal "FretSchool$Piece" "FretSchool$Piece" "pitches" "[I" ∈ BIG := bigIn 65 (by rfl) (by rfl)
theorem wd67 : Cond.lays "FretSchool$Piece" "FretSchool$Piece" "count" "I" ∈ BIG := bigIn 67 (by rfl) (by rfl)
theorem wd70 : Cond.arrayClass .int ∈ BIG := bigIn 70 (by rfl) (by rfl)
theorem wd71 : Cond.classLink "FretSchool" 16 "FretSchool$Instrument" ∈ BIG := bigIn 71 (by rfl) (by rfl)
theorem wt72 : Cond.arrayOver (.object "FretSchool$Instrument") ∈ lw_tbl := List.mem_of_getElem? (i := 72) (by rfl)
theorem wd73 : Cond.instantiable "FretSchool$Instrument" 3 ∈ BIG := bigIn 73 (by rfl) (by rfl)
theorem wt74 : Cond.methodLinkNest "FretSchool" 22 yX1_init "FretSchool" ∈ lw_tbl := List.mem_of_getElem? (i := 74) (by rfl)
theorem wd75 : Cond.instanceMethod yX1_init ∈ BIG := bigIn 75 (by rfl) (by rfl)
theorem wd76 : Cond.code yX1_init cX1_init 1 (none : Option Jvm.ClassFile.FieldType) ∈ BIG := bigIn 76 (by rfl) (by rfl)
theorem wd77 : Cond.methodLink "FretSchool$Instrument" 3 (⟨"java/lang/Object", "<init>", "()V"⟩ : MethodName) ∈ BIG := bigIn 77 (by rfl) (by rfl)
theorem wd78 : Cond.fieldLink "FretSchool$Instrument" 9 "FretSchool$Instrument" "open" "[I" ∈ BIG := bigIn 78 (by rfl) (by rfl)
theorem wd79 : Cond.fieldLink "FretSchool" 107 "FretSchool$Instrument" "open" "[I" ∈ BIG := bigIn 79 (by rfl) (by rfl)
theorem wd80 : Cond.fieldLink "FretSchool$Instrument" 15 "FretSchool$Instrument" "keeper" "I" ∈ BIG := bigIn 80 (by rfl) (by rfl)
theorem wd81 : Cond.fieldLink "FretSchool" 110 "FretSchool$Instrument" "keeper" "I" ∈ BIG := bigIn 81 (by rfl) (by rfl)
theorem wd82 : Cond.fieldLink "FretSchool$Instrument" 19 "FretSchool$Instrument" "fretCount" "I" ∈ BIG := bigIn 82 (by rfl) (by rfl)
theorem wd83 : Cond.laysFinal "FretSchool$Instrument" "FretSchool$Instrument" "open" "[I" ∈ BIG := bigIn 83 (by rfl) (by rfl)
theorem wd85 : Cond.lays "FretSchool$Instrument" "FretSchool$Instrument" "keeper" "I" ∈ BIG := bigIn 85 (by rfl) (by rfl)
theorem wd87 : Cond.lays "FretSchool$Instrument" "FretSchool$Instrument" "fretCount" "I" ∈ BIG := bigIn 87 (by rfl) (by rfl)
theorem wd90 : Cond.classLink "FretSchool" 23 "FretSchool$Pupil" ∈ BIG := bigIn 90 (by rfl) (by rfl)
theorem wt91 : Cond.arrayOver (.object "FretSchool$Pupil") ∈ lw_tbl := List.mem_of_getElem? (i := 91) (by rfl)
theorem wd92 : Cond.instantiable "FretSchool$Pupil" 2 ∈ BIG := bigIn 92 (by rfl) (by rfl)
theorem wt93 : Cond.methodLinkNest "FretSchool" 29 yX4_init "FretSchool" ∈ lw_tbl := List.mem_of_getElem? (i := 93) (by rfl)
theorem wd94 : Cond.instanceMethod yX4_init ∈ BIG := bigIn 94 (by rfl) (by rfl)
theorem wd95 : Cond.code yX4_init cX4_init 1 (none : Option Jvm.ClassFile.FieldType) ∈ BIG := bigIn 95 (by rfl) (by rfl)
theorem wd96 : Cond.methodLink "FretSchool$Pupil" 3 (⟨"java/lang/Object", "<init>", "()V"⟩ : MethodName) ∈ BIG := bigIn 96 (by rfl) (by rfl)
theorem wd97 : Cond.fieldLink "FretSchool$Pupil" 9 "FretSchool$Pupil" "grade" "I" ∈ BIG := bigIn 97 (by rfl) (by rfl)
theorem wd98 : Cond.fieldLink "FretSchool" 153 "FretSchool$Pupil" "grade" "I" ∈ BIG := bigIn 98 (by rfl) (by rfl)
theorem wd99 : Cond.fieldLink "FretSchool$Pupil" 15 "FretSchool$Pupil" "repertoire" "I" ∈ BIG := bigIn 99 (by rfl) (by rfl)
theorem wd100 : Cond.fieldLink "FretSchool" 156 "FretSchool$Pupil" "repertoire" "I" ∈ BIG := bigIn 100 (by rfl) (by rfl)
theorem wd101 : Cond.lays "FretSchool$Pupil" "FretSchool$Pupil" "grade" "I" ∈ BIG := bigIn 101 (by rfl) (by rfl)
theorem wd103 : Cond.lays "FretSchool$Pupil" "FretSchool$Pupil" "repertoire" "I" ∈ BIG := bigIn 103 (by rfl) (by rfl)
theorem wd106 : Cond.classLink "FretSchool" 30 "FretSchool$Order" ∈ BIG := bigIn 106 (by rfl) (by rfl)
theorem wt107 : Cond.arrayOver (.object "FretSchool$Order") ∈ lw_tbl := List.mem_of_getElem? (i := 107) (by rfl)
theorem wd108 : Cond.instantiable "FretSchool$Order" 4 ∈ BIG := bigIn 108 (by rfl) (by rfl)
theorem wt109 : Cond.methodLinkNest "FretSchool" 36 yX2_init "FretSchool" ∈ lw_tbl := List.mem_of_getElem? (i := 109) (by rfl)
theorem wd110 : Cond.instanceMethod yX2_init ∈ BIG := bigIn 110 (by rfl) (by rfl)
theorem wd111 : Cond.code yX2_init cX2_init 1 (none : Option Jvm.ClassFile.FieldType) ∈ BIG := bigIn 111 (by rfl) (by rfl)
theorem wd112 : Cond.methodLink "FretSchool$Order" 3 (⟨"java/lang/Object", "<init>", "()V"⟩ : MethodName) ∈ BIG := bigIn 112 (by rfl) (by rfl)
theorem wd113 : Cond.fieldLink "FretSchool$Order" 9 "FretSchool$Order" "buyer" "I" ∈ BIG := bigIn 113 (by rfl) (by rfl)
theorem wd114 : Cond.fieldLink "FretSchool" 194 "FretSchool$Order" "buyer" "I" ∈ BIG := bigIn 114 (by rfl) (by rfl)
theorem wd115 : Cond.fieldLink "FretSchool$Order" 15 "FretSchool$Order" "fretCount" "I" ∈ BIG := bigIn 115 (by rfl) (by rfl)
theorem wd116 : Cond.fieldLink "FretSchool" 197 "FretSchool$Order" "fretCount" "I" ∈ BIG := bigIn 116 (by rfl) (by rfl)
theorem wd117 : Cond.fieldLink "FretSchool$Order" 18 "FretSchool$Order" "readyDay" "I" ∈ BIG := bigIn 117 (by rfl) (by rfl)
theorem wd118 : Cond.fieldLink "FretSchool" 178 "FretSchool$Order" "readyDay" "I" ∈ BIG := bigIn 118 (by rfl) (by rfl)
theorem wd119 : Cond.fieldLink "FretSchool$Order" 21 "FretSchool$Order" "isFetched" "Z" ∈ BIG := bigIn 119 (by rfl) (by rfl)
theorem wd120 : Cond.fieldLink "FretSchool" 186 "FretSchool$Order" "isFetched" "Z" ∈ BIG := bigIn 120 (by rfl) (by rfl)
theorem wd121 : Cond.lays "FretSchool$Order" "FretSchool$Order" "buyer" "I" ∈ BIG := bigIn 121 (by rfl) (by rfl)
theorem wd123 : Cond.lays "FretSchool$Order" "FretSchool$Order" "fretCount" "I" ∈ BIG := bigIn 123 (by rfl) (by rfl)
theorem wd125 : Cond.lays "FretSchool$Order" "FretSchool$Order" "readyDay" "I" ∈ BIG := bigIn 125 (by rfl) (by rfl)
theorem wd127 : Cond.lays "FretSchool$Order" "FretSchool$Order" "isFetched" "Z" ∈ BIG := bigIn 127 (by rfl) (by rfl)
theorem wd130 : Cond.classLink "FretSchool" 41 "FretSchool$Hand" ∈ BIG := bigIn 130 (by rfl) (by rfl)
theorem wd131 : Cond.instantiable "FretSchool$Hand" 5 ∈ BIG := bigIn 131 (by rfl) (by rfl)
theorem wt132 : Cond.methodLinkNest "FretSchool" 43 yX0_init "FretSchool" ∈ lw_tbl := List.mem_of_getElem? (i := 132) (by rfl)
theorem wd133 : Cond.instanceMethod yX0_init ∈ BIG := bigIn 133 (by rfl) (by rfl)
theorem wd134 : Cond.code yX0_init cX0_init 1 (none : Option Jvm.ClassFile.FieldType) ∈ BIG := bigIn 134 (by rfl) (by rfl)
theorem wd135 : Cond.methodLink "FretSchool$Hand" 3 (⟨"java/lang/Object", "<init>", "()V"⟩ : MethodName) ∈ BIG := bigIn 135 (by rfl) (by rfl)
theorem wd136 : Cond.classLink "FretSchool$Hand" 15 "[[I" ∈ BIG := bigIn 136 (by rfl) (by rfl)
theorem wt137 : Cond.arrayOver (.array .int) ∈ lw_tbl := List.mem_of_getElem? (i := 137) (by rfl)
theorem wd138 : Cond.fieldLink "FretSchool$Hand" 9 "FretSchool$Hand" "reach" "[I" ∈ BIG := bigIn 138 (by rfl) (by rfl)
theorem wd139 : Cond.fieldLink "FretSchool$Hand" 17 "FretSchool$Hand" "rest" "[[I" ∈ BIG := bigIn 139 (by rfl) (by rfl)
theorem wd140 : Cond.fieldLink "FretSchool$Hand" 20 "FretSchool$Hand" "row" "[I" ∈ BIG := bigIn 140 (by rfl) (by rfl)
theorem wd141 : Cond.fieldLink "FretSchool" 129 "FretSchool$Hand" "row" "[I" ∈ BIG := bigIn 141 (by rfl) (by rfl)
theorem wd142 : Cond.fieldLink "FretSchool$Hand" 23 "FretSchool$Hand" "sum" "I" ∈ BIG := bigIn 142 (by rfl) (by rfl)
theorem wd143 : Cond.fieldLink "FretSchool" 117 "FretSchool$Hand" "sum" "I" ∈ BIG := bigIn 143 (by rfl) (by rfl)
theorem wd144 : Cond.fieldLink "FretSchool$Hand" 27 "FretSchool$Hand" "greatest" "I" ∈ BIG := bigIn 144 (by rfl) (by rfl)
theorem wd145 : Cond.fieldLink "FretSchool" 126 "FretSchool$Hand" "greatest" "I" ∈ BIG := bigIn 145 (by rfl) (by rfl)
theorem wd146 : Cond.laysFinal "FretSchool$Hand" "FretSchool$Hand" "reach" "[I" ∈ BIG := bigIn 146 (by rfl) (by rfl)
theorem wd148 : Cond.laysFinal "FretSchool$Hand" "FretSchool$Hand" "rest" "[[I" ∈ BIG := bigIn 148 (by rfl) (by rfl)
theorem wd150 : Cond.laysFinal "FretSchool$Hand" "FretSchool$Hand" "row" "[I" ∈ BIG := bigIn 150 (by rfl) (by rfl)
theorem wd152 : Cond.lays "FretSchool$Hand" "FretSchool$Hand" "sum" "I" ∈ BIG := bigIn 152 (by rfl) (by rfl)
theorem wd154 : Cond.lays "FretSchool$Hand" "FretSchool$Hand" "greatest" "I" ∈ BIG := bigIn 154 (by rfl) (by rfl)
theorem wd157 : Cond.fieldLink "FretSchool" 11 "FretSchool" "pieces" "[LFretSchool$Piece;" ∈ BIG := bigIn 157 (by rfl) (by rfl)
theorem wd158 : Cond.fieldLink "FretSchool" 18 "FretSchool" "builds" "[LFretSchool$Instrument;" ∈ BIG := bigIn 158 (by rfl) (by rfl)
theorem wd159 : Cond.fieldLink "FretSchool" 25 "FretSchool" "pupils" "[LFretSchool$Pupil;" ∈ BIG := bigIn 159 (by rfl) (by rfl)
theorem wd160 : Cond.fieldLink "FretSchool" 32 "FretSchool" "orders" "[LFretSchool$Order;" ∈ BIG := bigIn 160 (by rfl) (by rfl)
theorem wd161 : Cond.fieldLink "FretSchool" 37 "FretSchool" "stock" "[I" ∈ BIG := bigIn 161 (by rfl) (by rfl)
theorem wd162 : Cond.fieldLink "FretSchool" 44 "FretSchool" "hand" "LFretSchool$Hand;" ∈ BIG := bigIn 162 (by rfl) (by rfl)
theorem wd163 : Cond.fieldLink "FretSchool" 48 "FretSchool" "pieceCount" "I" ∈ BIG := bigIn 163 (by rfl) (by rfl)
theorem wd164 : Cond.fieldLink "FretSchool" 52 "FretSchool" "buildCount" "I" ∈ BIG := bigIn 164 (by rfl) (by rfl)
theorem wd165 : Cond.fieldLink "FretSchool" 55 "FretSchool" "orderCount" "I" ∈ BIG := bigIn 165 (by rfl) (by rfl)
theorem wd166 : Cond.fieldLink "FretSchool" 58 "FretSchool" "day" "I" ∈ BIG := bigIn 166 (by rfl) (by rfl)
theorem wd167 : Cond.laysFinal "FretSchool" "FretSchool" "pieces" "[LFretSchool$Piece;" ∈ BIG := bigIn 167 (by rfl) (by rfl)
theorem wd169 : Cond.laysFinal "FretSchool" "FretSchool" "builds" "[LFretSchool$Instrument;" ∈ BIG := bigIn 169 (by rfl) (by rfl)
theorem wd171 : Cond.laysFinal "FretSchool" "FretSchool" "pupils" "[LFretSchool$Pupil;" ∈ BIG := bigIn 171 (by rfl) (by rfl)
theorem wd173 : Cond.laysFinal "FretSchool" "FretSchool" "orders" "[LFretSchool$Order;" ∈ BIG := bigIn 173 (by rfl) (by rfl)
theorem wd175 : Cond.laysFinal "FretSchool" "FretSchool" "stock" "[I" ∈ BIG := bigIn 175 (by rfl) (by rfl)
theorem wd177 : Cond.laysFinal "FretSchool" "FretSchool" "hand" "LFretSchool$Hand;" ∈ BIG := bigIn 177 (by rfl) (by rfl)
theorem wd179 : Cond.lays "FretSchool" "FretSchool" "pieceCount" "I" ∈ BIG := bigIn 179 (by rfl) (by rfl)
theorem wd181 : Cond.lays "FretSchool" "FretSchool" "buildCount" "I" ∈ BIG := bigIn 181 (by rfl) (by rfl)
theorem wd183 : Cond.lays "FretSchool" "FretSchool" "orderCount" "I" ∈ BIG := bigIn 183 (by rfl) (by rfl)
theorem wd185 : Cond.lays "FretSchool" "FretSchool" "day" "I" ∈ BIG := bigIn 185 (by rfl) (by rfl)
theorem wd188 : Cond.methodLink "FretSchoolLaw" 113 yX5_instruments ∈ BIG := bigIn 188 (by rfl) (by rfl)
theorem wd189 : Cond.instanceMethod yX5_instruments ∈ BIG := bigIn 189 (by rfl) (by rfl)
theorem wd190 : Cond.selects "FretSchool" yX5_instruments yX5_instruments ∈ BIG := bigIn 190 (by rfl) (by rfl)
theorem wd191 : Cond.code yX5_instruments cX5_instruments 1 (some .int) ∈ BIG := bigIn 191 (by rfl) (by rfl)
theorem wd192 : Cond.methodLink "FretSchoolLaw" 160 yX5_today ∈ BIG := bigIn 192 (by rfl) (by rfl)
theorem wd193 : Cond.instanceMethod yX5_today ∈ BIG := bigIn 193 (by rfl) (by rfl)
theorem wd194 : Cond.selects "FretSchool" yX5_today yX5_today ∈ BIG := bigIn 194 (by rfl) (by rfl)
theorem wd195 : Cond.code yX5_today cX5_today 1 (some .int) ∈ BIG := bigIn 195 (by rfl) (by rfl)
theorem wd196 : Cond.methodLink "FretSchoolLaw" 85 yL_begin ∈ BIG := bigIn 196 (by rfl) (by rfl)
theorem wd197 : Cond.static yL_begin ∈ BIG := bigIn 197 (by rfl) (by rfl)
theorem wd198 : Cond.codeWith yL_begin cL_begin 3 (some .int) [(0, 8, 11, 13)] ∈ BIG := bigIn 198 (by rfl) (by rfl)
theorem wd199 : Cond.classLink "FretSchoolLaw" 13 "java/lang/IllegalStateException" ∈ BIG := bigIn 199 (by rfl) (by rfl)
theorem wd200 : Cond.methodLink "FretSchoolLaw" 7 yX5_begin ∈ BIG := bigIn 200 (by rfl) (by rfl)
theorem wd201 : Cond.instanceMethod yX5_begin ∈ BIG := bigIn 201 (by rfl) (by rfl)
theorem wd202 : Cond.selects "FretSchool" yX5_begin yX5_begin ∈ BIG := bigIn 202 (by rfl) (by rfl)
theorem wd203 : Cond.code yX5_begin cX5_begin 2 (some .int) ∈ BIG := bigIn 203 (by rfl) (by rfl)
theorem wd204 : Cond.classLink "FretSchool" 61 "java/lang/IllegalStateException" ∈ BIG := bigIn 204 (by rfl) (by rfl)
theorem wd205 : Cond.instantiable "java/lang/IllegalStateException" 6 ∈ BIG := bigIn 205 (by rfl) (by rfl)
theorem wt206 : Cond.castable "java/lang/IllegalStateException" "java/lang/IllegalStateException" ∈ lw_tbl := List.mem_of_getElem? (i := 206) (by rfl)
theorem wd213 : Cond.selects "java/lang/IllegalStateException" (⟨"java/lang/Throwable", "fillInStackTrace", "(I)Ljava/lang/Throwable;"⟩ : MethodName) (⟨"java/lang/Throwable", "fillInStackTrace", "(I)Ljava/lang/Throwable;"⟩ : MethodName) ∈ BIG := bigIn 213 (by rfl) (by rfl)
theorem wd214 : Cond.selects "java/lang/IllegalStateException" (⟨"java/lang/Throwable", "fillInStackTrace", "()Ljava/lang/Throwable;"⟩ : MethodName) (⟨"java/lang/Throwable", "fillInStackTrace", "()Ljava/lang/Throwable;"⟩ : MethodName) ∈ BIG := bigIn 214 (by rfl) (by rfl)
theorem wd215 : Cond.lays "java/lang/IllegalStateException" "java/lang/Throwable" "cause" "Ljava/lang/Throwable;" ∈ BIG := bigIn 215 (by rfl) (by rfl)
theorem wd216 : Cond.lays "java/lang/Throwable" "java/lang/Throwable" "cause" "Ljava/lang/Throwable;" ∈ BIG := bigIn 216 (by rfl) (by rfl)
theorem wd217 : Cond.lays "java/lang/IllegalStateException" "java/lang/Throwable" "stackTrace" "[Ljava/lang/StackTraceElement;" ∈ BIG := bigIn 217 (by rfl) (by rfl)
theorem wd218 : Cond.lays "java/lang/Throwable" "java/lang/Throwable" "stackTrace" "[Ljava/lang/StackTraceElement;" ∈ BIG := bigIn 218 (by rfl) (by rfl)
theorem wd219 : Cond.lays "java/lang/IllegalStateException" "java/lang/Throwable" "suppressedExceptions" "Ljava/util/List;" ∈ BIG := bigIn 219 (by rfl) (by rfl)
theorem wd220 : Cond.lays "java/lang/Throwable" "java/lang/Throwable" "suppressedExceptions" "Ljava/util/List;" ∈ BIG := bigIn 220 (by rfl) (by rfl)
theorem wd221 : Cond.lays "java/lang/IllegalStateException" "java/lang/Throwable" "detailMessage" "Ljava/lang/String;" ∈ BIG := bigIn 221 (by rfl) (by rfl)
theorem wd222 : Cond.lays "java/lang/Throwable" "java/lang/Throwable" "detailMessage" "Ljava/lang/String;" ∈ BIG := bigIn 222 (by rfl) (by rfl)
theorem wd223 : Cond.lays "java/lang/IllegalStateException" "java/lang/Throwable" "backtrace" "Ljava/lang/Object;" ∈ BIG := bigIn 223 (by rfl) (by rfl)
theorem wd224 : Cond.lays "java/lang/Throwable" "java/lang/Throwable" "backtrace" "Ljava/lang/Object;" ∈ BIG := bigIn 224 (by rfl) (by rfl)
theorem wd225 : Cond.fieldLink "java/lang/Throwable" 198 "java/lang/Throwable" "backtrace" "Ljava/lang/Object;" ∈ BIG := bigIn 225 (by rfl) (by rfl)
theorem wd227 : Cond.instanceMethod (⟨"java/lang/Throwable", "<init>", "()V"⟩ : MethodName) ∈ BIG := bigIn 227 (by rfl) (by rfl)
theorem wd228 : Cond.code (⟨"java/lang/Throwable", "<init>", "()V"⟩ : MethodName) prog_16_method_1_code 1 (none : Option Jvm.ClassFile.FieldType) ∈ BIG := bigIn 228 (by rfl) (by rfl)
theorem wd229 : Cond.methodLink "java/lang/Throwable" 1 (⟨"java/lang/Object", "<init>", "()V"⟩ : MethodName) ∈ BIG := bigIn 229 (by rfl) (by rfl)
theorem wd230 : Cond.fieldLink "java/lang/Throwable" 13 "java/lang/Throwable" "UNASSIGNED_STACK" "[Ljava/lang/StackTraceElement;" ∈ BIG := bigIn 230 (by rfl) (by rfl)
theorem wt231 : Cond.laysStatic "java/lang/Throwable" "UNASSIGNED_STACK" "[Ljava/lang/StackTraceElement;" ∈ lw_tbl := List.mem_of_getElem? (i := 231) (by rfl)
theorem wd232 : Cond.fieldLink "java/lang/Throwable" 20 "java/lang/Throwable" "SUPPRESSED_SENTINEL" "Ljava/util/List;" ∈ BIG := bigIn 232 (by rfl) (by rfl)
theorem wt233 : Cond.laysStatic "java/lang/Throwable" "SUPPRESSED_SENTINEL" "Ljava/util/List;" ∈ lw_tbl := List.mem_of_getElem? (i := 233) (by rfl)
theorem wd234 : Cond.methodLink "java/lang/Throwable" 27 (⟨"java/lang/Throwable", "fillInStackTrace", "()Ljava/lang/Throwable;"⟩ : MethodName) ∈ BIG := bigIn 234 (by rfl) (by rfl)
theorem wd235 : Cond.instanceMethod (⟨"java/lang/Throwable", "fillInStackTrace", "()Ljava/lang/Throwable;"⟩ : MethodName) ∈ BIG := bigIn 235 (by rfl) (by rfl)
theorem wd236 : Cond.sameMethod "java/lang/Throwable" "java/lang/Throwable" "fillInStackTrace" "()Ljava/lang/Throwable;" ∈ BIG := bigIn 236 (by rfl) (by rfl)
theorem wd237 : Cond.selects "java/lang/IllegalArgumentException" (⟨"java/lang/Throwable", "fillInStackTrace", "()Ljava/lang/Throwable;"⟩ : MethodName) (⟨"java/lang/Throwable", "fillInStackTrace", "()Ljava/lang/Throwable;"⟩ : MethodName) ∈ BIG := bigIn 237 (by rfl) (by rfl)
theorem wd238 : Cond.selects "java/lang/IndexOutOfBoundsException" (⟨"java/lang/Throwable", "fillInStackTrace", "()Ljava/lang/Throwable;"⟩ : MethodName) (⟨"java/lang/Throwable", "fillInStackTrace", "()Ljava/lang/Throwable;"⟩ : MethodName) ∈ BIG := bigIn 238 (by rfl) (by rfl)
theorem wd240 : Cond.methodLink "java/lang/Throwable" 202 (⟨"java/lang/Throwable", "fillInStackTrace", "(I)Ljava/lang/Throwable;"⟩ : MethodName) ∈ BIG := bigIn 240 (by rfl) (by rfl)
theorem wd242 : Cond.instanceMethod (⟨"java/lang/Throwable", "fillInStackTrace", "(I)Ljava/lang/Throwable;"⟩ : MethodName) ∈ BIG := bigIn 242 (by rfl) (by rfl)
theorem wd243 : Cond.instantiable "java/lang/Throwable" 6 ∈ BIG := bigIn 243 (by rfl) (by rfl)
theorem wt245 : Cond.stringRef "FretSchool" 63 "there are 8 pieces" ∈ lw_tbl := List.mem_of_getElem? (i := 245) (by rfl)
theorem wd246 : Cond.methodLink "FretSchool" 65 (⟨"java/lang/IllegalStateException", "<init>", "(Ljava/lang/String;)V"⟩ : MethodName) ∈ BIG := bigIn 246 (by rfl) (by rfl)
theorem wd247 : Cond.instanceMethod (⟨"java/lang/IllegalStateException", "<init>", "(Ljava/lang/String;)V"⟩ : MethodName) ∈ BIG := bigIn 247 (by rfl) (by rfl)
theorem wd248 : Cond.code (⟨"java/lang/IllegalStateException", "<init>", "(Ljava/lang/String;)V"⟩ : MethodName) prog_11_method_2_code 2 (none : Option Jvm.ClassFile.FieldType) ∈ BIG := bigIn 248 (by rfl) (by rfl)
theorem wd249 : Cond.methodLink "java/lang/IllegalStateException" 7 (⟨"java/lang/RuntimeException", "<init>", "(Ljava/lang/String;)V"⟩ : MethodName) ∈ BIG := bigIn 249 (by rfl) (by rfl)
theorem wd250 : Cond.instanceMethod (⟨"java/lang/RuntimeException", "<init>", "(Ljava/lang/String;)V"⟩ : MethodName) ∈ BIG := bigIn 250 (by rfl) (by rfl)
theorem wd251 : Cond.code (⟨"java/lang/RuntimeException", "<init>", "(Ljava/lang/String;)V"⟩ : MethodName) prog_14_method_2_code 2 (none : Option Jvm.ClassFile.FieldType) ∈ BIG := bigIn 251 (by rfl) (by rfl)
theorem wd252 : Cond.methodLink "java/lang/RuntimeException" 7 (⟨"java/lang/Exception", "<init>", "(Ljava/lang/String;)V"⟩ : MethodName) ∈ BIG := bigIn 252 (by rfl) (by rfl)
theorem wd253 : Cond.instanceMethod (⟨"java/lang/Exception", "<init>", "(Ljava/lang/String;)V"⟩ : MethodName) ∈ BIG := bigIn 253 (by rfl) (by rfl)
theorem wd254 : Cond.code (⟨"java/lang/Exception", "<init>", "(Ljava/lang/String;)V"⟩ : MethodName) prog_9_method_2_code 2 (none : Option Jvm.ClassFile.FieldType) ∈ BIG := bigIn 254 (by rfl) (by rfl)
theorem wd255 : Cond.methodLink "java/lang/Exception" 7 (⟨"java/lang/Throwable", "<init>", "(Ljava/lang/String;)V"⟩ : MethodName) ∈ BIG := bigIn 255 (by rfl) (by rfl)
theorem wd256 : Cond.instanceMethod (⟨"java/lang/Throwable", "<init>", "(Ljava/lang/String;)V"⟩ : MethodName) ∈ BIG := bigIn 256 (by rfl) (by rfl)
theorem wd257 : Cond.code (⟨"java/lang/Throwable", "<init>", "(Ljava/lang/String;)V"⟩ : MethodName) prog_16_method_2_code 2 (none : Option Jvm.ClassFile.FieldType) ∈ BIG := bigIn 257 (by rfl) (by rfl)
theorem wd258 : Cond.fieldLink "java/lang/Throwable" 198 "java/lang/Throwable" "backtrace" "Ljava/lang/Object;" ∈ BIG := bigIn 258 (by rfl) (by rfl)
theorem wd259 : Cond.fieldLink "java/lang/Throwable" 31 "java/lang/Throwable" "detailMessage" "Ljava/lang/String;" ∈ BIG := bigIn 259 (by rfl) (by rfl)
theorem wd260 : Cond.fieldLink "java/lang/Throwable" 7 "java/lang/Throwable" "cause" "Ljava/lang/Throwable;" ∈ BIG := bigIn 260 (by rfl) (by rfl)
theorem wd261 : Cond.fieldLink "java/lang/Throwable" 17 "java/lang/Throwable" "stackTrace" "[Ljava/lang/StackTraceElement;" ∈ BIG := bigIn 261 (by rfl) (by rfl)
theorem wd262 : Cond.fieldLink "java/lang/Throwable" 24 "java/lang/Throwable" "suppressedExceptions" "Ljava/util/List;" ∈ BIG := bigIn 262 (by rfl) (by rfl)
theorem wd267 : Cond.lays "java/lang/IllegalStateException" "java/lang/Throwable" "depth" "I" ∈ BIG := bigIn 267 (by rfl) (by rfl)
theorem wd271 : Cond.arrayClass .byte ∈ BIG := bigIn 271 (by rfl) (by rfl)
theorem wd272 : Cond.methodLink "FretSchoolLaw" 94 yL_addNote ∈ BIG := bigIn 272 (by rfl) (by rfl)
theorem wd273 : Cond.static yL_addNote ∈ BIG := bigIn 273 (by rfl) (by rfl)
theorem wd274 : Cond.codeWith yL_addNote cL_addNote 5 (some .int) [(0, 10, 13, 19), (0, 10, 17, 21), (0, 10, 21, 13)] ∈ BIG := bigIn 274 (by rfl) (by rfl)
theorem wd275 : Cond.classLink "FretSchoolLaw" 19 "java/lang/IndexOutOfBoundsException" ∈ BIG := bigIn 275 (by rfl) (by rfl)
theorem wd276 : Cond.classLink "FretSchoolLaw" 21 "java/lang/IllegalArgumentException" ∈ BIG := bigIn 276 (by rfl) (by rfl)
theorem wd277 : Cond.methodLink "FretSchoolLaw" 15 yX5_addNote ∈ BIG := bigIn 277 (by rfl) (by rfl)
theorem wd278 : Cond.instanceMethod yX5_addNote ∈ BIG := bigIn 278 (by rfl) (by rfl)
theorem wd279 : Cond.selects "FretSchool" yX5_addNote yX5_addNote ∈ BIG := bigIn 279 (by rfl) (by rfl)
theorem wd280 : Cond.code yX5_addNote cX5_addNote 4 (some .int) ∈ BIG := bigIn 280 (by rfl) (by rfl)
theorem wd281 : Cond.methodLink "FretSchool" 68 yX5_needPiece ∈ BIG := bigIn 281 (by rfl) (by rfl)
theorem wd283 : Cond.instanceMethod yX5_needPiece ∈ BIG := bigIn 283 (by rfl) (by rfl)
theorem wd284 : Cond.code yX5_needPiece cX5_needPiece 2 (none : Option Jvm.ClassFile.FieldType) ∈ BIG := bigIn 284 (by rfl) (by rfl)
theorem wd285 : Cond.classLink "FretSchool" 209 "java/lang/IndexOutOfBoundsException" ∈ BIG := bigIn 285 (by rfl) (by rfl)
theorem wd286 : Cond.instantiable "java/lang/IndexOutOfBoundsException" 6 ∈ BIG := bigIn 286 (by rfl) (by rfl)
theorem wt287 : Cond.castable "java/lang/IndexOutOfBoundsException" "java/lang/IndexOutOfBoundsException" ∈ lw_tbl := List.mem_of_getElem? (i := 287) (by rfl)
theorem wd288 : Cond.selects "java/lang/IndexOutOfBoundsException" (⟨"java/lang/Throwable", "fillInStackTrace", "(I)Ljava/lang/Throwable;"⟩ : MethodName) (⟨"java/lang/Throwable", "fillInStackTrace", "(I)Ljava/lang/Throwable;"⟩ : MethodName) ∈ BIG := bigIn 288 (by rfl) (by rfl)
theorem wd289 : Cond.lays "java/lang/IndexOutOfBoundsException" "java/lang/Throwable" "cause" "Ljava/lang/Throwable;" ∈ BIG := bigIn 289 (by rfl) (by rfl)
theorem wd290 : Cond.lays "java/lang/IndexOutOfBoundsException" "java/lang/Throwable" "stackTrace" "[Ljava/lang/StackTraceElement;" ∈ BIG := bigIn 290 (by rfl) (by rfl)
theorem wd291 : Cond.lays "java/lang/IndexOutOfBoundsException" "java/lang/Throwable" "suppressedExceptions" "Ljava/util/List;" ∈ BIG := bigIn 291 (by rfl) (by rfl)
theorem wd292 : Cond.lays "java/lang/IndexOutOfBoundsException" "java/lang/Throwable" "detailMessage" "Ljava/lang/String;" ∈ BIG := bigIn 292 (by rfl) (by rfl)
theorem wd293 : Cond.lays "java/lang/IndexOutOfBoundsException" "java/lang/Throwable" "backtrace" "Ljava/lang/Object;" ∈ BIG := bigIn 293 (by rfl) (by rfl)
theorem wt294 : Cond.stringRef "FretSchool" 211 "there is no such piece" ∈ lw_tbl := List.mem_of_getElem? (i := 294) (by rfl)
theorem wd295 : Cond.methodLink "FretSchool" 213 (⟨"java/lang/IndexOutOfBoundsException", "<init>", "(Ljava/lang/String;)V"⟩ : MethodName) ∈ BIG := bigIn 295 (by rfl) (by rfl)
theorem wd296 : Cond.instanceMethod (⟨"java/lang/IndexOutOfBoundsException", "<init>", "(Ljava/lang/String;)V"⟩ : MethodName) ∈ BIG := bigIn 296 (by rfl) (by rfl)
theorem wd297 : Cond.code (⟨"java/lang/IndexOutOfBoundsException", "<init>", "(Ljava/lang/String;)V"⟩ : MethodName) prog_12_method_2_code 2 (none : Option Jvm.ClassFile.FieldType) ∈ BIG := bigIn 297 (by rfl) (by rfl)
theorem wd298 : Cond.methodLink "java/lang/IndexOutOfBoundsException" 7 (⟨"java/lang/RuntimeException", "<init>", "(Ljava/lang/String;)V"⟩ : MethodName) ∈ BIG := bigIn 298 (by rfl) (by rfl)
theorem wd299 : Cond.lays "java/lang/IndexOutOfBoundsException" "java/lang/Throwable" "depth" "I" ∈ BIG := bigIn 299 (by rfl) (by rfl)
theorem wd301 : Cond.methodLink "FretSchool" 72 yX5_needRange ∈ BIG := bigIn 301 (by rfl) (by rfl)
theorem wd302 : Cond.static yX5_needRange ∈ BIG := bigIn 302 (by rfl) (by rfl)
theorem wd303 : Cond.code yX5_needRange cX5_needRange 3 (none : Option Jvm.ClassFile.FieldType) ∈ BIG := bigIn 303 (by rfl) (by rfl)
theorem wd304 : Cond.classLink "FretSchool" 220 "java/lang/IllegalArgumentException" ∈ BIG := bigIn 304 (by rfl) (by rfl)
theorem wd305 : Cond.instantiable "java/lang/IllegalArgumentException" 6 ∈ BIG := bigIn 305 (by rfl) (by rfl)
theorem wt306 : Cond.castable "java/lang/IllegalArgumentException" "java/lang/IllegalArgumentException" ∈ lw_tbl := List.mem_of_getElem? (i := 306) (by rfl)
theorem wd307 : Cond.selects "java/lang/IllegalArgumentException" (⟨"java/lang/Throwable", "fillInStackTrace", "(I)Ljava/lang/Throwable;"⟩ : MethodName) (⟨"java/lang/Throwable", "fillInStackTrace", "(I)Ljava/lang/Throwable;"⟩ : MethodName) ∈ BIG := bigIn 307 (by rfl) (by rfl)
theorem wd308 : Cond.lays "java/lang/IllegalArgumentException" "java/lang/Throwable" "cause" "Ljava/lang/Throwable;" ∈ BIG := bigIn 308 (by rfl) (by rfl)
theorem wd309 : Cond.lays "java/lang/IllegalArgumentException" "java/lang/Throwable" "stackTrace" "[Ljava/lang/StackTraceElement;" ∈ BIG := bigIn 309 (by rfl) (by rfl)
theorem wd310 : Cond.lays "java/lang/IllegalArgumentException" "java/lang/Throwable" "suppressedExceptions" "Ljava/util/List;" ∈ BIG := bigIn 310 (by rfl) (by rfl)
theorem wd311 : Cond.lays "java/lang/IllegalArgumentException" "java/lang/Throwable" "detailMessage" "Ljava/lang/String;" ∈ BIG := bigIn 311 (by rfl) (by rfl)
theorem wd312 : Cond.lays "java/lang/IllegalArgumentException" "java/lang/Throwable" "backtrace" "Ljava/lang/Object;" ∈ BIG := bigIn 312 (by rfl) (by rfl)
theorem wt313 : Cond.stringRef "FretSchool" 222 "an argument is out of range" ∈ lw_tbl := List.mem_of_getElem? (i := 313) (by rfl)
theorem wd314 : Cond.methodLink "FretSchool" 224 (⟨"java/lang/IllegalArgumentException", "<init>", "(Ljava/lang/String;)V"⟩ : MethodName) ∈ BIG := bigIn 314 (by rfl) (by rfl)
theorem wd315 : Cond.instanceMethod (⟨"java/lang/IllegalArgumentException", "<init>", "(Ljava/lang/String;)V"⟩ : MethodName) ∈ BIG := bigIn 315 (by rfl) (by rfl)
theorem wd316 : Cond.code (⟨"java/lang/IllegalArgumentException", "<init>", "(Ljava/lang/String;)V"⟩ : MethodName) prog_10_method_2_code 2 (none : Option Jvm.ClassFile.FieldType) ∈ BIG := bigIn 316 (by rfl) (by rfl)
theorem wd317 : Cond.methodLink "java/lang/IllegalArgumentException" 7 (⟨"java/lang/RuntimeException", "<init>", "(Ljava/lang/String;)V"⟩ : MethodName) ∈ BIG := bigIn 317 (by rfl) (by rfl)
theorem wd318 : Cond.lays "java/lang/IllegalArgumentException" "java/lang/Throwable" "depth" "I" ∈ BIG := bigIn 318 (by rfl) (by rfl)
theorem wd320 : Cond.methodLink "FretSchool" 76 yX3_isFull ∈ BIG := bigIn 320 (by rfl) (by rfl)
theorem wd321 : Cond.instanceMethod yX3_isFull ∈ BIG := bigIn 321 (by rfl) (by rfl)
theorem wd322 : Cond.selects "FretSchool$Piece" yX3_isFull yX3_isFull ∈ BIG := bigIn 322 (by rfl) (by rfl)
theorem wd323 : Cond.code yX3_isFull cX3_isFull 1 (some .boolean) ∈ BIG := bigIn 323 (by rfl) (by rfl)
theorem wt324 : Cond.stringRef "FretSchool" 80 "the piece has 16 notes" ∈ lw_tbl := List.mem_of_getElem? (i := 324) (by rfl)
theorem wd325 : Cond.methodLink "FretSchool" 82 yX3_append ∈ BIG := bigIn 325 (by rfl) (by rfl)
theorem wd326 : Cond.instanceMethod yX3_append ∈ BIG := bigIn 326 (by rfl) (by rfl)
theorem wd327 : Cond.selects "FretSchool$Piece" yX3_append yX3_append ∈ BIG := bigIn 327 (by rfl) (by rfl)
theorem wd328 : Cond.code yX3_append cX3_append 2 (none : Option Jvm.ClassFile.FieldType) ∈ BIG := bigIn 328 (by rfl) (by rfl)
theorem wd329 : Cond.methodLink "FretSchool$Piece" 19 yX3_isFull ∈ BIG := bigIn 329 (by rfl) (by rfl)
theorem wd330 : Cond.methodLink "FretSchoolLaw" 98 yL_transpose ∈ BIG := bigIn 330 (by rfl) (by rfl)
theorem wd331 : Cond.static yL_transpose ∈ BIG := bigIn 331 (by rfl) (by rfl)
theorem wd332 : Cond.codeWith yL_transpose cL_transpose 4 (some .int) [(0, 6, 9, 19), (0, 6, 12, 21), (0, 6, 15, 13)] ∈ BIG := bigIn 332 (by rfl) (by rfl)
theorem wd333 : Cond.methodLink "FretSchoolLaw" 23 yX5_transpose ∈ BIG := bigIn 333 (by rfl) (by rfl)
theorem wd334 : Cond.instanceMethod yX5_transpose ∈ BIG := bigIn 334 (by rfl) (by rfl)
theorem wd335 : Cond.selects "FretSchool" yX5_transpose yX5_transpose ∈ BIG := bigIn 335 (by rfl) (by rfl)
theorem wd336 : Cond.code yX5_transpose cX5_transpose 4 (none : Option Jvm.ClassFile.FieldType) ∈ BIG := bigIn 336 (by rfl) (by rfl)
theorem wd337 : Cond.methodLink "FretSchool" 88 yX3_canMove ∈ BIG := bigIn 337 (by rfl) (by rfl)
theorem wd338 : Cond.instanceMethod yX3_canMove ∈ BIG := bigIn 338 (by rfl) (by rfl)
theorem wd339 : Cond.selects "FretSchool$Piece" yX3_canMove yX3_canMove ∈ BIG := bigIn 339 (by rfl) (by rfl)
theorem wd340 : Cond.code yX3_canMove cX3_canMove 4 (some .boolean) ∈ BIG := bigIn 340 (by rfl) (by rfl)
theorem wt341 : Cond.stringRef "FretSchool" 92 "some pitch would not be from 0 to 80" ∈ lw_tbl := List.mem_of_getElem? (i := 341) (by rfl)
theorem wd342 : Cond.methodLink "FretSchool" 94 yX3_move ∈ BIG := bigIn 342 (by rfl) (by rfl)
theorem wd343 : Cond.instanceMethod yX3_move ∈ BIG := bigIn 343 (by rfl) (by rfl)
theorem wd344 : Cond.selects "FretSchool$Piece" yX3_move yX3_move ∈ BIG := bigIn 344 (by rfl) (by rfl)
theorem wd345 : Cond.code yX3_move cX3_move 3 (none : Option Jvm.ClassFile.FieldType) ∈ BIG := bigIn 345 (by rfl) (by rfl)
theorem wd346 : Cond.methodLink "FretSchoolLaw" 102 yL_pitch ∈ BIG := bigIn 346 (by rfl) (by rfl)
theorem wd347 : Cond.static yL_pitch ∈ BIG := bigIn 347 (by rfl) (by rfl)
theorem wd348 : Cond.codeWith yL_pitch cL_pitch 5 (some .int) [(0, 10, 13, 19)] ∈ BIG := bigIn 348 (by rfl) (by rfl)
theorem wd349 : Cond.methodLink "FretSchoolLaw" 27 yX5_pitch ∈ BIG := bigIn 349 (by rfl) (by rfl)
theorem wd350 : Cond.instanceMethod yX5_pitch ∈ BIG := bigIn 350 (by rfl) (by rfl)
theorem wd351 : Cond.selects "FretSchool" yX5_pitch yX5_pitch ∈ BIG := bigIn 351 (by rfl) (by rfl)
theorem wd352 : Cond.code yX5_pitch cX5_pitch 3 (some .int) ∈ BIG := bigIn 352 (by rfl) (by rfl)
theorem wd353 : Cond.methodLink "FretSchool" 97 yX5_needNote ∈ BIG := bigIn 353 (by rfl) (by rfl)
theorem wd355 : Cond.instanceMethod yX5_needNote ∈ BIG := bigIn 355 (by rfl) (by rfl)
theorem wd356 : Cond.code yX5_needNote cX5_needNote 3 (none : Option Jvm.ClassFile.FieldType) ∈ BIG := bigIn 356 (by rfl) (by rfl)
theorem wt357 : Cond.stringRef "FretSchool" 214 "there is no such note" ∈ lw_tbl := List.mem_of_getElem? (i := 357) (by rfl)
theorem wd358 : Cond.methodLink "FretSchoolLaw" 105 yL_tune ∈ BIG := bigIn 358 (by rfl) (by rfl)
theorem wd359 : Cond.static yL_tune ∈ BIG := bigIn 359 (by rfl) (by rfl)
theorem wd360 : Cond.codeWith yL_tune cL_tune 6 (some .int) [(0, 12, 15, 19), (0, 12, 19, 21)] ∈ BIG := bigIn 360 (by rfl) (by rfl)
theorem wd361 : Cond.methodLink "FretSchoolLaw" 30 yX5_tune ∈ BIG := bigIn 361 (by rfl) (by rfl)
theorem wd362 : Cond.instanceMethod yX5_tune ∈ BIG := bigIn 362 (by rfl) (by rfl)
theorem wd363 : Cond.selects "FretSchool" yX5_tune yX5_tune ∈ BIG := bigIn 363 (by rfl) (by rfl)
theorem wd364 : Cond.code yX5_tune cX5_tune 6 (some .int) ∈ BIG := bigIn 364 (by rfl) (by rfl)
theorem wd365 : Cond.methodLink "FretSchool" 104 yX5_needInstrument ∈ BIG := bigIn 365 (by rfl) (by rfl)
theorem wd367 : Cond.instanceMethod yX5_needInstrument ∈ BIG := bigIn 367 (by rfl) (by rfl)
theorem wd368 : Cond.code yX5_needInstrument cX5_needInstrument 2 (none : Option Jvm.ClassFile.FieldType) ∈ BIG := bigIn 368 (by rfl) (by rfl)
theorem wt369 : Cond.stringRef "FretSchool" 216 "there is no such instrument" ∈ lw_tbl := List.mem_of_getElem? (i := 369) (by rfl)
theorem wd370 : Cond.methodLink "FretSchoolLaw" 109 yL_owner ∈ BIG := bigIn 370 (by rfl) (by rfl)
theorem wd371 : Cond.static yL_owner ∈ BIG := bigIn 371 (by rfl) (by rfl)
theorem wd372 : Cond.codeWith yL_owner cL_owner 4 (some .int) [(0, 9, 12, 19)] ∈ BIG := bigIn 372 (by rfl) (by rfl)
theorem wd373 : Cond.methodLink "FretSchoolLaw" 34 yX5_owner ∈ BIG := bigIn 373 (by rfl) (by rfl)
theorem wd374 : Cond.instanceMethod yX5_owner ∈ BIG := bigIn 374 (by rfl) (by rfl)
theorem wd375 : Cond.selects "FretSchool" yX5_owner yX5_owner ∈ BIG := bigIn 375 (by rfl) (by rfl)
theorem wd376 : Cond.code yX5_owner cX5_owner 2 (some .int) ∈ BIG := bigIn 376 (by rfl) (by rfl)
theorem wd377 : Cond.methodLink "FretSchoolLaw" 117 yL_shifts ∈ BIG := bigIn 377 (by rfl) (by rfl)
theorem wd378 : Cond.static yL_shifts ∈ BIG := bigIn 378 (by rfl) (by rfl)
theorem wd379 : Cond.codeWith yL_shifts cL_shifts 5 (some .int) [(0, 10, 13, 19)] ∈ BIG := bigIn 379 (by rfl) (by rfl)
theorem wd380 : Cond.methodLink "FretSchoolLaw" 38 yX5_shifts ∈ BIG := bigIn 380 (by rfl) (by rfl)
theorem wd381 : Cond.instanceMethod yX5_shifts ∈ BIG := bigIn 381 (by rfl) (by rfl)
theorem wd382 : Cond.selects "FretSchool" yX5_shifts yX5_shifts ∈ BIG := bigIn 382 (by rfl) (by rfl)
theorem wd383 : Cond.code yX5_shifts cX5_shifts 3 (some .int) ∈ BIG := bigIn 383 (by rfl) (by rfl)
theorem wd384 : Cond.methodLink "FretSchool" 113 yX5_findBest ∈ BIG := bigIn 384 (by rfl) (by rfl)
theorem wd386 : Cond.instanceMethod yX5_findBest ∈ BIG := bigIn 386 (by rfl) (by rfl)
theorem wd387 : Cond.code yX5_findBest cX5_findBest 3 (some .boolean) ∈ BIG := bigIn 387 (by rfl) (by rfl)
theorem wd388 : Cond.methodLink "FretSchool" 225 yX0_placeBest ∈ BIG := bigIn 388 (by rfl) (by rfl)
theorem wd389 : Cond.instanceMethod yX0_placeBest ∈ BIG := bigIn 389 (by rfl) (by rfl)
theorem wd390 : Cond.selects "FretSchool$Hand" yX0_placeBest yX0_placeBest ∈ BIG := bigIn 390 (by rfl) (by rfl)
theorem wd391 : Cond.code yX0_placeBest cX0_placeBest 4 (some .boolean) ∈ BIG := bigIn 391 (by rfl) (by rfl)
theorem wd392 : Cond.methodLink "FretSchool$Hand" 30 yX0_feelReach ∈ BIG := bigIn 392 (by rfl) (by rfl)
theorem wd394 : Cond.instanceMethod yX0_feelReach ∈ BIG := bigIn 394 (by rfl) (by rfl)
theorem wd395 : Cond.code yX0_feelReach cX0_feelReach 6 (none : Option Jvm.ClassFile.FieldType) ∈ BIG := bigIn 395 (by rfl) (by rfl)
theorem wd396 : Cond.methodLink "FretSchool$Hand" 52 yX1_highestPosition ∈ BIG := bigIn 396 (by rfl) (by rfl)
theorem wd397 : Cond.instanceMethod yX1_highestPosition ∈ BIG := bigIn 397 (by rfl) (by rfl)
theorem wd398 : Cond.selects "FretSchool$Instrument" yX1_highestPosition yX1_highestPosition ∈ BIG := bigIn 398 (by rfl) (by rfl)
theorem wd399 : Cond.code yX1_highestPosition cX1_highestPosition 1 (some .int) ∈ BIG := bigIn 399 (by rfl) (by rfl)
theorem wd400 : Cond.methodLink "FretSchool$Hand" 61 yX1_lowestString ∈ BIG := bigIn 400 (by rfl) (by rfl)
theorem wd401 : Cond.instanceMethod yX1_lowestString ∈ BIG := bigIn 401 (by rfl) (by rfl)
theorem wd402 : Cond.selects "FretSchool$Instrument" yX1_lowestString yX1_lowestString ∈ BIG := bigIn 402 (by rfl) (by rfl)
theorem wd403 : Cond.code yX1_lowestString cX1_lowestString 5 (some .int) ∈ BIG := bigIn 403 (by rfl) (by rfl)
theorem wd404 : Cond.methodLink "FretSchool$Hand" 39 yX0_measureRest ∈ BIG := bigIn 404 (by rfl) (by rfl)
theorem wd406 : Cond.instanceMethod yX0_measureRest ∈ BIG := bigIn 406 (by rfl) (by rfl)
theorem wd407 : Cond.code yX0_measureRest cX0_measureRest 5 (none : Option Jvm.ClassFile.FieldType) ∈ BIG := bigIn 407 (by rfl) (by rfl)
theorem wd408 : Cond.methodLink "FretSchool$Hand" 65 yX0_nearest ∈ BIG := bigIn 408 (by rfl) (by rfl)
theorem wd410 : Cond.instanceMethod yX0_nearest ∈ BIG := bigIn 410 (by rfl) (by rfl)
theorem wd411 : Cond.code yX0_nearest cX0_nearest 7 (some .int) ∈ BIG := bigIn 411 (by rfl) (by rfl)
theorem wd412 : Cond.constant "FretSchool$Hand" 51 (1000000 : Int32) ∈ BIG := bigIn 412 (by rfl) (by rfl)
theorem wd413 : Cond.methodLink "FretSchool$Hand" 72 yX0_shift ∈ BIG := bigIn 413 (by rfl) (by rfl)
theorem wd414 : Cond.static yX0_shift ∈ BIG := bigIn 414 (by rfl) (by rfl)
theorem wd415 : Cond.code yX0_shift cX0_shift 2 (some .int) ∈ BIG := bigIn 415 (by rfl) (by rfl)
theorem wd416 : Cond.methodLink "FretSchool$Hand" 75 yJ9_abs_0f7a4 ∈ BIG := bigIn 416 (by rfl) (by rfl)
theorem wd417 : Cond.static yJ9_abs_0f7a4 ∈ BIG := bigIn 417 (by rfl) (by rfl)
theorem wd418 : Cond.code yJ9_abs_0f7a4 cJ9_abs_0f7a4 1 (some .int) ∈ BIG := bigIn 418 (by rfl) (by rfl)
theorem wd419 : Cond.methodLink "FretSchool$Hand" 68 yX0_canReach ∈ BIG := bigIn 419 (by rfl) (by rfl)
theorem wd420 : Cond.static yX0_canReach ∈ BIG := bigIn 420 (by rfl) (by rfl)
theorem wd421 : Cond.code yX0_canReach cX0_canReach 2 (some .boolean) ∈ BIG := bigIn 421 (by rfl) (by rfl)
theorem wd422 : Cond.methodLink "FretSchool$Hand" 43 yX0_chooseRow ∈ BIG := bigIn 422 (by rfl) (by rfl)
theorem wd424 : Cond.instanceMethod yX0_chooseRow ∈ BIG := bigIn 424 (by rfl) (by rfl)
theorem wd425 : Cond.code yX0_chooseRow cX0_chooseRow 6 (some .boolean) ∈ BIG := bigIn 425 (by rfl) (by rfl)
theorem wd426 : Cond.methodLink "FretSchoolLaw" 120 yL_shiftsByAll ∈ BIG := bigIn 426 (by rfl) (by rfl)
theorem wd427 : Cond.static yL_shiftsByAll ∈ BIG := bigIn 427 (by rfl) (by rfl)
theorem wd428 : Cond.codeWith yL_shiftsByAll cL_shiftsByAll 5 (some .int) [(0, 10, 13, 19), (0, 10, 17, 13)] ∈ BIG := bigIn 428 (by rfl) (by rfl)
theorem wd429 : Cond.methodLink "FretSchoolLaw" 41 yX5_shiftsByAll ∈ BIG := bigIn 429 (by rfl) (by rfl)
theorem wd430 : Cond.instanceMethod yX5_shiftsByAll ∈ BIG := bigIn 430 (by rfl) (by rfl)
theorem wd431 : Cond.selects "FretSchool" yX5_shiftsByAll yX5_shiftsByAll ∈ BIG := bigIn 431 (by rfl) (by rfl)
theorem wd432 : Cond.code yX5_shiftsByAll cX5_shiftsByAll 3 (some .int) ∈ BIG := bigIn 432 (by rfl) (by rfl)
theorem wt433 : Cond.stringRef "FretSchool" 120 "the piece has more than 4 notes" ∈ lw_tbl := List.mem_of_getElem? (i := 433) (by rfl)
theorem wd434 : Cond.methodLink "FretSchool" 122 yX0_leastByAll ∈ BIG := bigIn 434 (by rfl) (by rfl)
theorem wd435 : Cond.instanceMethod yX0_leastByAll ∈ BIG := bigIn 435 (by rfl) (by rfl)
theorem wd436 : Cond.selects "FretSchool$Hand" yX0_leastByAll yX0_leastByAll ∈ BIG := bigIn 436 (by rfl) (by rfl)
theorem wd437 : Cond.code yX0_leastByAll cX0_leastByAll 4 (some .int) ∈ BIG := bigIn 437 (by rfl) (by rfl)
theorem wd438 : Cond.methodLink "FretSchool$Hand" 47 yX0_leastFrom ∈ BIG := bigIn 438 (by rfl) (by rfl)
theorem wd439 : Cond.static yX0_leastFrom ∈ BIG := bigIn 439 (by rfl) (by rfl)
set_option maxRecDepth 20000 in
theorem wd440 : Cond.code yX0_leastFrom cX0_leastFrom 7 (some .int) ∈ BIG := bigIn 440 (by rfl) (by rfl)
set_option maxRecDepth 20000 in
theorem wd441 : Cond.methodLink "FretSchoolLaw" 123 yL_hardest ∈ BIG := bigIn 441 (by rfl) (by rfl)
set_option maxRecDepth 20000 in
theorem wd442 : Cond.static yL_hardest ∈ BIG := bigIn 442 (by rfl) (by rfl)
set_option maxRecDepth 20000 in
theorem wd443 : Cond.codeWith yL_hardest cL_hardest 5 (some .int) [(0, 10, 13, 19)] ∈ BIG := bigIn 443 (by rfl) (by rfl)
set_option maxRecDepth 20000 in
theorem wd444 : Cond.methodLink "FretSchoolLaw" 44 yX5_hardest ∈ BIG := bigIn 444 (by rfl) (by rfl)
set_option maxRecDepth 20000 in
theorem wd445 : Cond.instanceMethod yX5_hardest ∈ BIG := bigIn 445 (by rfl) (by rfl)
set_option maxRecDepth 20000 in
theorem wd446 : Cond.selects "FretSchool" yX5_hardest yX5_hardest ∈ BIG := bigIn 446 (by rfl) (by rfl)
set_option maxRecDepth 20000 in
theorem wd447 : Cond.code yX5_hardest cX5_hardest 3 (some .int) ∈ BIG := bigIn 447 (by rfl) (by rfl)
set_option maxRecDepth 20000 in
theorem wd448 : Cond.methodLink "FretSchoolLaw" 126 yL_position ∈ BIG := bigIn 448 (by rfl) (by rfl)
set_option maxRecDepth 20000 in
theorem wd449 : Cond.static yL_position ∈ BIG := bigIn 449 (by rfl) (by rfl)
set_option maxRecDepth 20000 in
theorem wd450 : Cond.codeWith yL_position cL_position 6 (some .int) [(0, 12, 15, 19)] ∈ BIG := bigIn 450 (by rfl) (by rfl)
set_option maxRecDepth 20000 in
theorem wd451 : Cond.methodLink "FretSchoolLaw" 47 yX5_position ∈ BIG := bigIn 451 (by rfl) (by rfl)
set_option maxRecDepth 20000 in
theorem wd452 : Cond.instanceMethod yX5_position ∈ BIG := bigIn 452 (by rfl) (by rfl)
set_option maxRecDepth 20000 in
theorem wd453 : Cond.selects "FretSchool" yX5_position yX5_position ∈ BIG := bigIn 453 (by rfl) (by rfl)
set_option maxRecDepth 20000 in
theorem wd454 : Cond.code yX5_position cX5_position 4 (some .int) ∈ BIG := bigIn 454 (by rfl) (by rfl)
set_option maxRecDepth 20000 in
theorem wd455 : Cond.methodLink "FretSchoolLaw" 129 yL_string ∈ BIG := bigIn 455 (by rfl) (by rfl)
set_option maxRecDepth 20000 in
theorem wd456 : Cond.static yL_string ∈ BIG := bigIn 456 (by rfl) (by rfl)
set_option maxRecDepth 20000 in
theorem wd457 : Cond.codeWith yL_string cL_string 6 (some .int) [(0, 12, 15, 19)] ∈ BIG := bigIn 457 (by rfl) (by rfl)
set_option maxRecDepth 20000 in
theorem wd458 : Cond.methodLink "FretSchoolLaw" 50 yX5_string ∈ BIG := bigIn 458 (by rfl) (by rfl)
set_option maxRecDepth 20000 in
theorem wd459 : Cond.instanceMethod yX5_string ∈ BIG := bigIn 459 (by rfl) (by rfl)
set_option maxRecDepth 20000 in
theorem wd460 : Cond.selects "FretSchool" yX5_string yX5_string ∈ BIG := bigIn 460 (by rfl) (by rfl)
set_option maxRecDepth 20000 in
theorem wd461 : Cond.code yX5_string cX5_string 4 (some .int) ∈ BIG := bigIn 461 (by rfl) (by rfl)
set_option maxRecDepth 20000 in
theorem wd462 : Cond.methodLink "FretSchool" 132 yX1_lowestString ∈ BIG := bigIn 462 (by rfl) (by rfl)
set_option maxRecDepth 20000 in
theorem wd463 : Cond.methodLink "FretSchoolLaw" 132 yL_learn ∈ BIG := bigIn 463 (by rfl) (by rfl)
set_option maxRecDepth 20000 in
theorem wd464 : Cond.static yL_learn ∈ BIG := bigIn 464 (by rfl) (by rfl)
set_option maxRecDepth 20000 in
theorem wd465 : Cond.codeWith yL_learn cL_learn 6 (some .int) [(0, 12, 15, 19), (0, 12, 19, 21), (0, 12, 23, 13)] ∈ BIG := bigIn 465 (by rfl) (by rfl)
set_option maxRecDepth 20000 in
theorem wd466 : Cond.methodLink "FretSchoolLaw" 53 yX5_learn ∈ BIG := bigIn 466 (by rfl) (by rfl)
set_option maxRecDepth 20000 in
theorem wd467 : Cond.instanceMethod yX5_learn ∈ BIG := bigIn 467 (by rfl) (by rfl)
set_option maxRecDepth 20000 in
theorem wd468 : Cond.selects "FretSchool" yX5_learn yX5_learn ∈ BIG := bigIn 468 (by rfl) (by rfl)
set_option maxRecDepth 20000 in
theorem wd469 : Cond.code yX5_learn cX5_learn 6 (some .int) ∈ BIG := bigIn 469 (by rfl) (by rfl)
set_option maxRecDepth 20000 in
theorem wd470 : Cond.methodLink "FretSchool" 136 yX5_needPupil ∈ BIG := bigIn 470 (by rfl) (by rfl)
set_option maxRecDepth 20000 in
theorem wd471 : Cond.static yX5_needPupil ∈ BIG := bigIn 471 (by rfl) (by rfl)
set_option maxRecDepth 20000 in
theorem wd472 : Cond.code yX5_needPupil cX5_needPupil 1 (none : Option Jvm.ClassFile.FieldType) ∈ BIG := bigIn 472 (by rfl) (by rfl)
set_option maxRecDepth 20000 in
theorem wd473 : Cond.methodLink "FretSchool" 139 yX4_knows ∈ BIG := bigIn 473 (by rfl) (by rfl)
set_option maxRecDepth 20000 in
theorem wd474 : Cond.instanceMethod yX4_knows ∈ BIG := bigIn 474 (by rfl) (by rfl)
set_option maxRecDepth 20000 in
theorem wd475 : Cond.selects "FretSchool$Pupil" yX4_knows yX4_knows ∈ BIG := bigIn 475 (by rfl) (by rfl)
set_option maxRecDepth 20000 in
theorem wd476 : Cond.code yX4_knows cX4_knows 2 (some .boolean) ∈ BIG := bigIn 476 (by rfl) (by rfl)
set_option maxRecDepth 20000 in
theorem wt477 : Cond.stringRef "FretSchool" 142 "the pupil knows the piece" ∈ lw_tbl := List.mem_of_getElem? (i := 477) (by rfl)
set_option maxRecDepth 20000 in
theorem wd478 : Cond.methodLink "FretSchool" 144 yX5_learnableShift ∈ BIG := bigIn 478 (by rfl) (by rfl)
set_option maxRecDepth 20000 in
theorem wd480 : Cond.instanceMethod yX5_learnableShift ∈ BIG := bigIn 480 (by rfl) (by rfl)
set_option maxRecDepth 20000 in
theorem wd481 : Cond.code yX5_learnableShift cX5_learnableShift 5 (some .int) ∈ BIG := bigIn 481 (by rfl) (by rfl)
set_option maxRecDepth 20000 in
theorem wt482 : Cond.stringRef "FretSchool" 148 "the pupil cannot learn the piece there" ∈ lw_tbl := List.mem_of_getElem? (i := 482) (by rfl)
set_option maxRecDepth 20000 in
theorem wd483 : Cond.methodLink "FretSchool" 150 yX4_takeIn ∈ BIG := bigIn 483 (by rfl) (by rfl)
set_option maxRecDepth 20000 in
theorem wd484 : Cond.instanceMethod yX4_takeIn ∈ BIG := bigIn 484 (by rfl) (by rfl)
set_option maxRecDepth 20000 in
theorem wd485 : Cond.selects "FretSchool$Pupil" yX4_takeIn yX4_takeIn ∈ BIG := bigIn 485 (by rfl) (by rfl)
set_option maxRecDepth 20000 in
theorem wd486 : Cond.code yX4_takeIn cX4_takeIn 3 (none : Option Jvm.ClassFile.FieldType) ∈ BIG := bigIn 486 (by rfl) (by rfl)
set_option maxRecDepth 20000 in
theorem wd487 : Cond.methodLink "FretSchoolLaw" 135 yL_level ∈ BIG := bigIn 487 (by rfl) (by rfl)
set_option maxRecDepth 20000 in
theorem wd488 : Cond.static yL_level ∈ BIG := bigIn 488 (by rfl) (by rfl)
set_option maxRecDepth 20000 in
theorem wd489 : Cond.codeWith yL_level cL_level 4 (some .int) [(0, 9, 12, 21)] ∈ BIG := bigIn 489 (by rfl) (by rfl)
set_option maxRecDepth 20000 in
theorem wd490 : Cond.methodLink "FretSchoolLaw" 56 yX5_level ∈ BIG := bigIn 490 (by rfl) (by rfl)
set_option maxRecDepth 20000 in
theorem wd491 : Cond.instanceMethod yX5_level ∈ BIG := bigIn 491 (by rfl) (by rfl)
set_option maxRecDepth 20000 in
theorem wd492 : Cond.selects "FretSchool" yX5_level yX5_level ∈ BIG := bigIn 492 (by rfl) (by rfl)
set_option maxRecDepth 20000 in
theorem wd493 : Cond.code yX5_level cX5_level 2 (some .int) ∈ BIG := bigIn 493 (by rfl) (by rfl)
set_option maxRecDepth 20000 in
theorem wd494 : Cond.methodLink "FretSchoolLaw" 138 yL_known ∈ BIG := bigIn 494 (by rfl) (by rfl)
set_option maxRecDepth 20000 in
theorem wd495 : Cond.static yL_known ∈ BIG := bigIn 495 (by rfl) (by rfl)
set_option maxRecDepth 20000 in
theorem wd496 : Cond.codeWith yL_known cL_known 4 (some .int) [(0, 9, 12, 21)] ∈ BIG := bigIn 496 (by rfl) (by rfl)
set_option maxRecDepth 20000 in
theorem wd497 : Cond.methodLink "FretSchoolLaw" 59 yX5_known ∈ BIG := bigIn 497 (by rfl) (by rfl)
set_option maxRecDepth 20000 in
theorem wd498 : Cond.instanceMethod yX5_known ∈ BIG := bigIn 498 (by rfl) (by rfl)
set_option maxRecDepth 20000 in
theorem wd499 : Cond.selects "FretSchool" yX5_known yX5_known ∈ BIG := bigIn 499 (by rfl) (by rfl)
set_option maxRecDepth 20000 in
theorem wd500 : Cond.code yX5_known cX5_known 2 (some .int) ∈ BIG := bigIn 500 (by rfl) (by rfl)
set_option maxRecDepth 20000 in
theorem wd501 : Cond.methodLink "FretSchoolLaw" 141 yL_next ∈ BIG := bigIn 501 (by rfl) (by rfl)
set_option maxRecDepth 20000 in
theorem wd502 : Cond.static yL_next ∈ BIG := bigIn 502 (by rfl) (by rfl)
set_option maxRecDepth 20000 in
theorem wd503 : Cond.codeWith yL_next cL_next 4 (some .int) [(0, 9, 12, 21)] ∈ BIG := bigIn 503 (by rfl) (by rfl)
set_option maxRecDepth 20000 in
theorem wd504 : Cond.methodLink "FretSchoolLaw" 62 yX5_next ∈ BIG := bigIn 504 (by rfl) (by rfl)
set_option maxRecDepth 20000 in
theorem wd505 : Cond.instanceMethod yX5_next ∈ BIG := bigIn 505 (by rfl) (by rfl)
set_option maxRecDepth 20000 in
theorem wd506 : Cond.selects "FretSchool" yX5_next yX5_next ∈ BIG := bigIn 506 (by rfl) (by rfl)
set_option maxRecDepth 20000 in
theorem wd507 : Cond.code yX5_next cX5_next 6 (some .int) ∈ BIG := bigIn 507 (by rfl) (by rfl)
set_option maxRecDepth 20000 in
theorem wd508 : Cond.methodLink "FretSchool" 159 yX5_easiestShift ∈ BIG := bigIn 508 (by rfl) (by rfl)
set_option maxRecDepth 20000 in
theorem wd510 : Cond.instanceMethod yX5_easiestShift ∈ BIG := bigIn 510 (by rfl) (by rfl)
set_option maxRecDepth 20000 in
theorem wd511 : Cond.code yX5_easiestShift cX5_easiestShift 6 (some .int) ∈ BIG := bigIn 511 (by rfl) (by rfl)
set_option maxRecDepth 20000 in
theorem wd512 : Cond.methodLink "FretSchoolLaw" 144 yL_addWood ∈ BIG := bigIn 512 (by rfl) (by rfl)
set_option maxRecDepth 20000 in
theorem wd513 : Cond.static yL_addWood ∈ BIG := bigIn 513 (by rfl) (by rfl)
set_option maxRecDepth 20000 in
theorem wd514 : Cond.codeWith yL_addWood cL_addWood 5 (some .int) [(0, 10, 13, 21)] ∈ BIG := bigIn 514 (by rfl) (by rfl)
set_option maxRecDepth 20000 in
theorem wd515 : Cond.methodLink "FretSchoolLaw" 65 yX5_addWood ∈ BIG := bigIn 515 (by rfl) (by rfl)
set_option maxRecDepth 20000 in
theorem wd516 : Cond.instanceMethod yX5_addWood ∈ BIG := bigIn 516 (by rfl) (by rfl)
set_option maxRecDepth 20000 in
theorem wd517 : Cond.selects "FretSchool" yX5_addWood yX5_addWood ∈ BIG := bigIn 517 (by rfl) (by rfl)
set_option maxRecDepth 20000 in
theorem wd518 : Cond.code yX5_addWood cX5_addWood 3 (some .int) ∈ BIG := bigIn 518 (by rfl) (by rfl)
set_option maxRecDepth 20000 in
theorem wd519 : Cond.methodLink "FretSchoolLaw" 147 yL_order ∈ BIG := bigIn 519 (by rfl) (by rfl)
set_option maxRecDepth 20000 in
theorem wd520 : Cond.static yL_order ∈ BIG := bigIn 520 (by rfl) (by rfl)
set_option maxRecDepth 20000 in
theorem wd521 : Cond.codeWith yL_order cL_order 6 (some .int) [(0, 12, 15, 21), (0, 12, 19, 13)] ∈ BIG := bigIn 521 (by rfl) (by rfl)
set_option maxRecDepth 20000 in
theorem wd522 : Cond.methodLink "FretSchoolLaw" 68 yX5_order ∈ BIG := bigIn 522 (by rfl) (by rfl)
set_option maxRecDepth 20000 in
theorem wd523 : Cond.instanceMethod yX5_order ∈ BIG := bigIn 523 (by rfl) (by rfl)
set_option maxRecDepth 20000 in
theorem wd524 : Cond.selects "FretSchool" yX5_order yX5_order ∈ BIG := bigIn 524 (by rfl) (by rfl)
set_option maxRecDepth 20000 in
theorem wd525 : Cond.code yX5_order cX5_order 5 (some .int) ∈ BIG := bigIn 525 (by rfl) (by rfl)
set_option maxRecDepth 20000 in
theorem wt526 : Cond.stringRef "FretSchool" 162 "there is too little of the wood" ∈ lw_tbl := List.mem_of_getElem? (i := 526) (by rfl)
set_option maxRecDepth 20000 in
theorem wd527 : Cond.methodLink "FretSchool" 164 yX5_ordersAtWork ∈ BIG := bigIn 527 (by rfl) (by rfl)
set_option maxRecDepth 20000 in
theorem wd529 : Cond.instanceMethod yX5_ordersAtWork ∈ BIG := bigIn 529 (by rfl) (by rfl)
set_option maxRecDepth 20000 in
theorem wd530 : Cond.code yX5_ordersAtWork cX5_ordersAtWork 3 (some .int) ∈ BIG := bigIn 530 (by rfl) (by rfl)
set_option maxRecDepth 20000 in
theorem wd531 : Cond.methodLink "FretSchool" 181 yX2_isReady ∈ BIG := bigIn 531 (by rfl) (by rfl)
set_option maxRecDepth 20000 in
theorem wd532 : Cond.instanceMethod yX2_isReady ∈ BIG := bigIn 532 (by rfl) (by rfl)
set_option maxRecDepth 20000 in
theorem wd533 : Cond.selects "FretSchool$Order" yX2_isReady yX2_isReady ∈ BIG := bigIn 533 (by rfl) (by rfl)
set_option maxRecDepth 20000 in
theorem wd534 : Cond.code yX2_isReady cX2_isReady 2 (some .boolean) ∈ BIG := bigIn 534 (by rfl) (by rfl)
set_option maxRecDepth 20000 in
theorem wt535 : Cond.stringRef "FretSchool" 168 "two orders are at work" ∈ lw_tbl := List.mem_of_getElem? (i := 535) (by rfl)
set_option maxRecDepth 20000 in
theorem wt536 : Cond.stringRef "FretSchool" 170 "there are 20 orders" ∈ lw_tbl := List.mem_of_getElem? (i := 536) (by rfl)
set_option maxRecDepth 20000 in
theorem wd537 : Cond.methodLink "FretSchool" 172 yX2_place ∈ BIG := bigIn 537 (by rfl) (by rfl)
set_option maxRecDepth 20000 in
theorem wd538 : Cond.instanceMethod yX2_place ∈ BIG := bigIn 538 (by rfl) (by rfl)
set_option maxRecDepth 20000 in
theorem wd539 : Cond.selects "FretSchool$Order" yX2_place yX2_place ∈ BIG := bigIn 539 (by rfl) (by rfl)
set_option maxRecDepth 20000 in
theorem wd540 : Cond.code yX2_place cX2_place 4 (none : Option Jvm.ClassFile.FieldType) ∈ BIG := bigIn 540 (by rfl) (by rfl)
set_option maxRecDepth 20000 in
theorem wd541 : Cond.methodLink "FretSchoolLaw" 150 yL_ready ∈ BIG := bigIn 541 (by rfl) (by rfl)
set_option maxRecDepth 20000 in
theorem wd542 : Cond.static yL_ready ∈ BIG := bigIn 542 (by rfl) (by rfl)
set_option maxRecDepth 20000 in
theorem wd543 : Cond.codeWith yL_ready cL_ready 4 (some .int) [(0, 9, 12, 19)] ∈ BIG := bigIn 543 (by rfl) (by rfl)
set_option maxRecDepth 20000 in
theorem wd544 : Cond.methodLink "FretSchoolLaw" 71 yX5_ready ∈ BIG := bigIn 544 (by rfl) (by rfl)
set_option maxRecDepth 20000 in
theorem wd545 : Cond.instanceMethod yX5_ready ∈ BIG := bigIn 545 (by rfl) (by rfl)
set_option maxRecDepth 20000 in
theorem wd546 : Cond.selects "FretSchool" yX5_ready yX5_ready ∈ BIG := bigIn 546 (by rfl) (by rfl)
set_option maxRecDepth 20000 in
theorem wd547 : Cond.code yX5_ready cX5_ready 2 (some .int) ∈ BIG := bigIn 547 (by rfl) (by rfl)
set_option maxRecDepth 20000 in
theorem wd548 : Cond.methodLink "FretSchool" 175 yX5_needOrder ∈ BIG := bigIn 548 (by rfl) (by rfl)
set_option maxRecDepth 20000 in
theorem wd550 : Cond.instanceMethod yX5_needOrder ∈ BIG := bigIn 550 (by rfl) (by rfl)
set_option maxRecDepth 20000 in
theorem wd551 : Cond.code yX5_needOrder cX5_needOrder 2 (none : Option Jvm.ClassFile.FieldType) ∈ BIG := bigIn 551 (by rfl) (by rfl)
set_option maxRecDepth 20000 in
theorem wt552 : Cond.stringRef "FretSchool" 218 "there is no such order" ∈ lw_tbl := List.mem_of_getElem? (i := 552) (by rfl)
set_option maxRecDepth 20000 in
theorem wd553 : Cond.methodLink "FretSchoolLaw" 153 yL_fetch ∈ BIG := bigIn 553 (by rfl) (by rfl)
set_option maxRecDepth 20000 in
theorem wd554 : Cond.static yL_fetch ∈ BIG := bigIn 554 (by rfl) (by rfl)
set_option maxRecDepth 20000 in
theorem wd555 : Cond.codeWith yL_fetch cL_fetch 8 (some .int) [(0, 16, 19, 19), (0, 16, 23, 21), (0, 16, 27, 13)] ∈ BIG := bigIn 555 (by rfl) (by rfl)
set_option maxRecDepth 20000 in
theorem wd556 : Cond.methodLink "FretSchoolLaw" 74 yX5_fetch ∈ BIG := bigIn 556 (by rfl) (by rfl)
set_option maxRecDepth 20000 in
theorem wd557 : Cond.instanceMethod yX5_fetch ∈ BIG := bigIn 557 (by rfl) (by rfl)
set_option maxRecDepth 20000 in
theorem wd558 : Cond.selects "FretSchool" yX5_fetch yX5_fetch ∈ BIG := bigIn 558 (by rfl) (by rfl)
set_option maxRecDepth 20000 in
theorem wd559 : Cond.code yX5_fetch cX5_fetch 8 (some .int) ∈ BIG := bigIn 559 (by rfl) (by rfl)
set_option maxRecDepth 20000 in
theorem wt560 : Cond.stringRef "FretSchool" 184 "the order is not ready" ∈ lw_tbl := List.mem_of_getElem? (i := 560) (by rfl)
set_option maxRecDepth 20000 in
theorem wt561 : Cond.stringRef "FretSchool" 190 "the order was fetched" ∈ lw_tbl := List.mem_of_getElem? (i := 561) (by rfl)
set_option maxRecDepth 20000 in
theorem wt562 : Cond.stringRef "FretSchool" 192 "there are 8 instruments" ∈ lw_tbl := List.mem_of_getElem? (i := 562) (by rfl)
set_option maxRecDepth 20000 in
theorem wd563 : Cond.methodLink "FretSchool" 200 yX1_build ∈ BIG := bigIn 563 (by rfl) (by rfl)
set_option maxRecDepth 20000 in
theorem wd564 : Cond.instanceMethod yX1_build ∈ BIG := bigIn 564 (by rfl) (by rfl)
set_option maxRecDepth 20000 in
theorem wd565 : Cond.selects "FretSchool$Instrument" yX1_build yX1_build ∈ BIG := bigIn 565 (by rfl) (by rfl)
set_option maxRecDepth 20000 in
theorem wd566 : Cond.code yX1_build cX1_build 3 (none : Option Jvm.ClassFile.FieldType) ∈ BIG := bigIn 566 (by rfl) (by rfl)
set_option maxRecDepth 20000 in
theorem wd567 : Cond.methodLink "FretSchool" 203 yX1_tuneAll ∈ BIG := bigIn 567 (by rfl) (by rfl)
set_option maxRecDepth 20000 in
theorem wd568 : Cond.instanceMethod yX1_tuneAll ∈ BIG := bigIn 568 (by rfl) (by rfl)
set_option maxRecDepth 20000 in
theorem wd569 : Cond.selects "FretSchool$Instrument" yX1_tuneAll yX1_tuneAll ∈ BIG := bigIn 569 (by rfl) (by rfl)
set_option maxRecDepth 20000 in
theorem wd570 : Cond.code yX1_tuneAll cX1_tuneAll 5 (none : Option Jvm.ClassFile.FieldType) ∈ BIG := bigIn 570 (by rfl) (by rfl)
set_option maxRecDepth 20000 in
theorem wd571 : Cond.methodLink "FretSchoolLaw" 157 yL_pass ∈ BIG := bigIn 571 (by rfl) (by rfl)
set_option maxRecDepth 20000 in
theorem wd572 : Cond.static yL_pass ∈ BIG := bigIn 572 (by rfl) (by rfl)
set_option maxRecDepth 20000 in
theorem wd573 : Cond.codeWith yL_pass cL_pass 4 (some .int) [(0, 9, 12, 21), (0, 9, 15, 13)] ∈ BIG := bigIn 573 (by rfl) (by rfl)
set_option maxRecDepth 20000 in
theorem wd574 : Cond.methodLink "FretSchoolLaw" 78 yX5_pass ∈ BIG := bigIn 574 (by rfl) (by rfl)
set_option maxRecDepth 20000 in
theorem wd575 : Cond.instanceMethod yX5_pass ∈ BIG := bigIn 575 (by rfl) (by rfl)
set_option maxRecDepth 20000 in
theorem wd576 : Cond.selects "FretSchool" yX5_pass yX5_pass ∈ BIG := bigIn 576 (by rfl) (by rfl)
set_option maxRecDepth 20000 in
theorem wd577 : Cond.code yX5_pass cX5_pass 2 (some .int) ∈ BIG := bigIn 577 (by rfl) (by rfl)
set_option maxRecDepth 20000 in
theorem wt578 : Cond.stringRef "FretSchool" 207 "today would be above 5000" ∈ lw_tbl := List.mem_of_getElem? (i := 578) (by rfl)
set_option maxRecDepth 20000 in
theorem wd579 : Cond.classLink "FretSchoolLaw" 82 "FretSchoolModel" ∈ BIG := bigIn 579 (by rfl) (by rfl)
set_option maxRecDepth 20000 in
theorem wd580 : Cond.instantiable "FretSchoolModel" 19 ∈ BIG := bigIn 580 (by rfl) (by rfl)
set_option maxRecDepth 20000 in
theorem wd581 : Cond.methodLink "FretSchoolLaw" 84 yX6_init ∈ BIG := bigIn 581 (by rfl) (by rfl)
set_option maxRecDepth 20000 in
theorem wd582 : Cond.instanceMethod yX6_init ∈ BIG := bigIn 582 (by rfl) (by rfl)
set_option maxRecDepth 20000 in
theorem wd583 : Cond.code yX6_init cX6_init 2 (none : Option Jvm.ClassFile.FieldType) ∈ BIG := bigIn 583 (by rfl) (by rfl)
set_option maxRecDepth 20000 in
theorem wd584 : Cond.methodLink "FretSchoolModel" 1 (⟨"java/lang/Object", "<init>", "()V"⟩ : MethodName) ∈ BIG := bigIn 584 (by rfl) (by rfl)
set_option maxRecDepth 20000 in
theorem wd585 : Cond.fieldLink "FretSchoolModel" 127 "FretSchoolModel" "today" "I" ∈ BIG := bigIn 585 (by rfl) (by rfl)
set_option maxRecDepth 20000 in
theorem wd586 : Cond.fieldLink "FretSchoolModel" 57 "FretSchoolModel" "pieces" "I" ∈ BIG := bigIn 586 (by rfl) (by rfl)
set_option maxRecDepth 20000 in
theorem wd587 : Cond.fieldLink "FretSchoolModel" 7 "FretSchoolModel" "many" "[I" ∈ BIG := bigIn 587 (by rfl) (by rfl)
set_option maxRecDepth 20000 in
theorem wd588 : Cond.fieldLink "FretSchoolModel" 13 "FretSchoolModel" "pitch" "[I" ∈ BIG := bigIn 588 (by rfl) (by rfl)
set_option maxRecDepth 20000 in
theorem wd589 : Cond.fieldLink "FretSchoolModel" 68 "FretSchoolModel" "instruments" "I" ∈ BIG := bigIn 589 (by rfl) (by rfl)
set_option maxRecDepth 20000 in
theorem wd590 : Cond.fieldLink "FretSchoolModel" 16 "FretSchoolModel" "owner" "[I" ∈ BIG := bigIn 590 (by rfl) (by rfl)
set_option maxRecDepth 20000 in
theorem wd591 : Cond.fieldLink "FretSchoolModel" 19 "FretSchoolModel" "frets" "[I" ∈ BIG := bigIn 591 (by rfl) (by rfl)
set_option maxRecDepth 20000 in
theorem wd592 : Cond.fieldLink "FretSchoolModel" 22 "FretSchoolModel" "open" "[I" ∈ BIG := bigIn 592 (by rfl) (by rfl)
set_option maxRecDepth 20000 in
theorem wd593 : Cond.fieldLink "FretSchoolModel" 25 "FretSchoolModel" "level" "[I" ∈ BIG := bigIn 593 (by rfl) (by rfl)
set_option maxRecDepth 20000 in
theorem wd594 : Cond.fieldLink "FretSchoolModel" 28 "FretSchoolModel" "known" "[I" ∈ BIG := bigIn 594 (by rfl) (by rfl)
set_option maxRecDepth 20000 in
theorem wd595 : Cond.fieldLink "FretSchoolModel" 31 "FretSchoolModel" "stock" "[I" ∈ BIG := bigIn 595 (by rfl) (by rfl)
set_option maxRecDepth 20000 in
theorem wd596 : Cond.fieldLink "FretSchoolModel" 71 "FretSchoolModel" "orders" "I" ∈ BIG := bigIn 596 (by rfl) (by rfl)
set_option maxRecDepth 20000 in
theorem wd597 : Cond.fieldLink "FretSchoolModel" 34 "FretSchoolModel" "buyer" "[I" ∈ BIG := bigIn 597 (by rfl) (by rfl)
set_option maxRecDepth 20000 in
theorem wd598 : Cond.fieldLink "FretSchoolModel" 37 "FretSchoolModel" "ordered" "[I" ∈ BIG := bigIn 598 (by rfl) (by rfl)
set_option maxRecDepth 20000 in
theorem wd599 : Cond.fieldLink "FretSchoolModel" 40 "FretSchoolModel" "readyOn" "[I" ∈ BIG := bigIn 599 (by rfl) (by rfl)
set_option maxRecDepth 20000 in
theorem wd600 : Cond.fieldLink "FretSchoolModel" 43 "FretSchoolModel" "fetched" "[Z" ∈ BIG := bigIn 600 (by rfl) (by rfl)
set_option maxRecDepth 20000 in
theorem wd601 : Cond.fieldLink "FretSchoolModel" 47 "FretSchoolModel" "least" "[I" ∈ BIG := bigIn 601 (by rfl) (by rfl)
set_option maxRecDepth 20000 in
theorem wd602 : Cond.fieldLink "FretSchoolModel" 50 "FretSchoolModel" "best" "[I" ∈ BIG := bigIn 602 (by rfl) (by rfl)
set_option maxRecDepth 20000 in
theorem wd603 : Cond.fieldLink "FretSchoolModel" 53 "FretSchoolModel" "thrown" "I" ∈ BIG := bigIn 603 (by rfl) (by rfl)
set_option maxRecDepth 20000 in
theorem wd604 : Cond.lays "FretSchoolModel" "FretSchoolModel" "today" "I" ∈ BIG := bigIn 604 (by rfl) (by rfl)
set_option maxRecDepth 20000 in
theorem wd606 : Cond.lays "FretSchoolModel" "FretSchoolModel" "pieces" "I" ∈ BIG := bigIn 606 (by rfl) (by rfl)
set_option maxRecDepth 20000 in
theorem wd608 : Cond.laysFinal "FretSchoolModel" "FretSchoolModel" "many" "[I" ∈ BIG := bigIn 608 (by rfl) (by rfl)
set_option maxRecDepth 20000 in
theorem wd610 : Cond.laysFinal "FretSchoolModel" "FretSchoolModel" "pitch" "[I" ∈ BIG := bigIn 610 (by rfl) (by rfl)
set_option maxRecDepth 20000 in
theorem wd612 : Cond.lays "FretSchoolModel" "FretSchoolModel" "instruments" "I" ∈ BIG := bigIn 612 (by rfl) (by rfl)
set_option maxRecDepth 20000 in
theorem wd614 : Cond.laysFinal "FretSchoolModel" "FretSchoolModel" "owner" "[I" ∈ BIG := bigIn 614 (by rfl) (by rfl)
set_option maxRecDepth 20000 in
theorem wd616 : Cond.laysFinal "FretSchoolModel" "FretSchoolModel" "frets" "[I" ∈ BIG := bigIn 616 (by rfl) (by rfl)
set_option maxRecDepth 20000 in
theorem wd618 : Cond.laysFinal "FretSchoolModel" "FretSchoolModel" "open" "[I" ∈ BIG := bigIn 618 (by rfl) (by rfl)
set_option maxRecDepth 20000 in
theorem wd620 : Cond.laysFinal "FretSchoolModel" "FretSchoolModel" "level" "[I" ∈ BIG := bigIn 620 (by rfl) (by rfl)
set_option maxRecDepth 20000 in
theorem wd622 : Cond.laysFinal "FretSchoolModel" "FretSchoolModel" "known" "[I" ∈ BIG := bigIn 622 (by rfl) (by rfl)
set_option maxRecDepth 20000 in
theorem wd624 : Cond.laysFinal "FretSchoolModel" "FretSchoolModel" "stock" "[I" ∈ BIG := bigIn 624 (by rfl) (by rfl)
set_option maxRecDepth 20000 in
theorem wd626 : Cond.lays "FretSchoolModel" "FretSchoolModel" "orders" "I" ∈ BIG := bigIn 626 (by rfl) (by rfl)
set_option maxRecDepth 20000 in
theorem wd628 : Cond.laysFinal "FretSchoolModel" "FretSchoolModel" "buyer" "[I" ∈ BIG := bigIn 628 (by rfl) (by rfl)
set_option maxRecDepth 20000 in
theorem wd630 : Cond.laysFinal "FretSchoolModel" "FretSchoolModel" "ordered" "[I" ∈ BIG := bigIn 630 (by rfl) (by rfl)
set_option maxRecDepth 20000 in
theorem wd632 : Cond.laysFinal "FretSchoolModel" "FretSchoolModel" "readyOn" "[I" ∈ BIG := bigIn 632 (by rfl) (by rfl)
set_option maxRecDepth 20000 in
theorem wd634 : Cond.laysFinal "FretSchoolModel" "FretSchoolModel" "fetched" "[Z" ∈ BIG := bigIn 634 (by rfl) (by rfl)
set_option maxRecDepth 20000 in
theorem wd636 : Cond.laysFinal "FretSchoolModel" "FretSchoolModel" "least" "[I" ∈ BIG := bigIn 636 (by rfl) (by rfl)
set_option maxRecDepth 20000 in
theorem wd638 : Cond.laysFinal "FretSchoolModel" "FretSchoolModel" "best" "[I" ∈ BIG := bigIn 638 (by rfl) (by rfl)
set_option maxRecDepth 20000 in
theorem wd640 : Cond.lays "FretSchoolModel" "FretSchoolModel" "thrown" "I" ∈ BIG := bigIn 640 (by rfl) (by rfl)
set_option maxRecDepth 20000 in
theorem wd643 : Cond.arrayClass .boolean ∈ BIG := bigIn 643 (by rfl) (by rfl)
set_option maxRecDepth 20000 in
theorem wd644 : Cond.methodLink "FretSchoolLaw" 91 yX6_thrown ∈ BIG := bigIn 644 (by rfl) (by rfl)
set_option maxRecDepth 20000 in
theorem wd645 : Cond.instanceMethod yX6_thrown ∈ BIG := bigIn 645 (by rfl) (by rfl)
set_option maxRecDepth 20000 in
theorem wd646 : Cond.selects "FretSchoolModel" yX6_thrown yX6_thrown ∈ BIG := bigIn 646 (by rfl) (by rfl)
set_option maxRecDepth 20000 in
theorem wd647 : Cond.code yX6_thrown cX6_thrown 1 (some .int) ∈ BIG := bigIn 647 (by rfl) (by rfl)
set_option maxRecDepth 20000 in
theorem wd648 : Cond.methodLink "FretSchoolLaw" 90 yX6_begin ∈ BIG := bigIn 648 (by rfl) (by rfl)
set_option maxRecDepth 20000 in
theorem wd649 : Cond.instanceMethod yX6_begin ∈ BIG := bigIn 649 (by rfl) (by rfl)
set_option maxRecDepth 20000 in
theorem wd650 : Cond.selects "FretSchoolModel" yX6_begin yX6_begin ∈ BIG := bigIn 650 (by rfl) (by rfl)
set_option maxRecDepth 20000 in
theorem wd651 : Cond.code yX6_begin cX6_begin 1 (some .int) ∈ BIG := bigIn 651 (by rfl) (by rfl)
set_option maxRecDepth 20000 in
theorem wd652 : Cond.methodLink "FretSchoolModel" 74 yX6_goes ∈ BIG := bigIn 652 (by rfl) (by rfl)
set_option maxRecDepth 20000 in
theorem wd654 : Cond.instanceMethod yX6_goes ∈ BIG := bigIn 654 (by rfl) (by rfl)
set_option maxRecDepth 20000 in
theorem wd655 : Cond.code yX6_goes cX6_goes 4 (some .boolean) ∈ BIG := bigIn 655 (by rfl) (by rfl)
set_option maxRecDepth 20000 in
theorem wd656 : Cond.methodLink "FretSchoolLaw" 97 yX6_addNote ∈ BIG := bigIn 656 (by rfl) (by rfl)
set_option maxRecDepth 20000 in
theorem wd657 : Cond.instanceMethod yX6_addNote ∈ BIG := bigIn 657 (by rfl) (by rfl)
set_option maxRecDepth 20000 in
theorem wd658 : Cond.selects "FretSchoolModel" yX6_addNote yX6_addNote ∈ BIG := bigIn 658 (by rfl) (by rfl)
set_option maxRecDepth 20000 in
theorem wd659 : Cond.code yX6_addNote cX6_addNote 4 (some .int) ∈ BIG := bigIn 659 (by rfl) (by rfl)
set_option maxRecDepth 20000 in
theorem wd660 : Cond.methodLink "FretSchoolModel" 64 yX6_isPiece ∈ BIG := bigIn 660 (by rfl) (by rfl)
set_option maxRecDepth 20000 in
theorem wd662 : Cond.instanceMethod yX6_isPiece ∈ BIG := bigIn 662 (by rfl) (by rfl)
set_option maxRecDepth 20000 in
theorem wd663 : Cond.code yX6_isPiece cX6_isPiece 2 (some .boolean) ∈ BIG := bigIn 663 (by rfl) (by rfl)
set_option maxRecDepth 20000 in
theorem wd664 : Cond.methodLink "FretSchoolModel" 60 yX6_in ∈ BIG := bigIn 664 (by rfl) (by rfl)
set_option maxRecDepth 20000 in
theorem wd665 : Cond.static yX6_in ∈ BIG := bigIn 665 (by rfl) (by rfl)
set_option maxRecDepth 20000 in
theorem wd666 : Cond.code yX6_in cX6_in 3 (some .boolean) ∈ BIG := bigIn 666 (by rfl) (by rfl)
set_option maxRecDepth 20000 in
theorem wd667 : Cond.methodLink "FretSchoolLaw" 101 yX6_transpose ∈ BIG := bigIn 667 (by rfl) (by rfl)
set_option maxRecDepth 20000 in
theorem wd668 : Cond.instanceMethod yX6_transpose ∈ BIG := bigIn 668 (by rfl) (by rfl)
set_option maxRecDepth 20000 in
theorem wd669 : Cond.selects "FretSchoolModel" yX6_transpose yX6_transpose ∈ BIG := bigIn 669 (by rfl) (by rfl)
set_option maxRecDepth 20000 in
theorem wd670 : Cond.code yX6_transpose cX6_transpose 7 (none : Option Jvm.ClassFile.FieldType) ∈ BIG := bigIn 670 (by rfl) (by rfl)
set_option maxRecDepth 20000 in
theorem wd671 : Cond.methodLink "FretSchoolLaw" 104 yX6_pitch ∈ BIG := bigIn 671 (by rfl) (by rfl)
set_option maxRecDepth 20000 in
theorem wd672 : Cond.instanceMethod yX6_pitch ∈ BIG := bigIn 672 (by rfl) (by rfl)
set_option maxRecDepth 20000 in
theorem wd673 : Cond.selects "FretSchoolModel" yX6_pitch yX6_pitch ∈ BIG := bigIn 673 (by rfl) (by rfl)
set_option maxRecDepth 20000 in
theorem wd674 : Cond.code yX6_pitch cX6_pitch 3 (some .int) ∈ BIG := bigIn 674 (by rfl) (by rfl)
set_option maxRecDepth 20000 in
theorem wd675 : Cond.methodLink "FretSchoolModel" 78 yX6_isNote ∈ BIG := bigIn 675 (by rfl) (by rfl)
set_option maxRecDepth 20000 in
theorem wd677 : Cond.instanceMethod yX6_isNote ∈ BIG := bigIn 677 (by rfl) (by rfl)
set_option maxRecDepth 20000 in
theorem wd678 : Cond.code yX6_isNote cX6_isNote 3 (some .boolean) ∈ BIG := bigIn 678 (by rfl) (by rfl)
set_option maxRecDepth 20000 in
theorem wd679 : Cond.methodLink "FretSchoolLaw" 108 yX6_tune ∈ BIG := bigIn 679 (by rfl) (by rfl)
set_option maxRecDepth 20000 in
theorem wd680 : Cond.instanceMethod yX6_tune ∈ BIG := bigIn 680 (by rfl) (by rfl)
set_option maxRecDepth 20000 in
theorem wd681 : Cond.selects "FretSchoolModel" yX6_tune yX6_tune ∈ BIG := bigIn 681 (by rfl) (by rfl)
set_option maxRecDepth 20000 in
theorem wd682 : Cond.code yX6_tune cX6_tune 6 (some .int) ∈ BIG := bigIn 682 (by rfl) (by rfl)
set_option maxRecDepth 20000 in
theorem wd683 : Cond.methodLink "FretSchoolModel" 82 yX6_isInstrument ∈ BIG := bigIn 683 (by rfl) (by rfl)
set_option maxRecDepth 20000 in
theorem wd685 : Cond.instanceMethod yX6_isInstrument ∈ BIG := bigIn 685 (by rfl) (by rfl)
set_option maxRecDepth 20000 in
theorem wd686 : Cond.code yX6_isInstrument cX6_isInstrument 2 (some .boolean) ∈ BIG := bigIn 686 (by rfl) (by rfl)
set_option maxRecDepth 20000 in
theorem wd687 : Cond.methodLink "FretSchoolLaw" 112 yX6_owner ∈ BIG := bigIn 687 (by rfl) (by rfl)
set_option maxRecDepth 20000 in
theorem wd688 : Cond.instanceMethod yX6_owner ∈ BIG := bigIn 688 (by rfl) (by rfl)
set_option maxRecDepth 20000 in
theorem wd689 : Cond.selects "FretSchoolModel" yX6_owner yX6_owner ∈ BIG := bigIn 689 (by rfl) (by rfl)
set_option maxRecDepth 20000 in
theorem wd690 : Cond.code yX6_owner cX6_owner 2 (some .int) ∈ BIG := bigIn 690 (by rfl) (by rfl)
set_option maxRecDepth 20000 in
theorem wd691 : Cond.methodLink "FretSchoolLaw" 116 yX6_instruments ∈ BIG := bigIn 691 (by rfl) (by rfl)
set_option maxRecDepth 20000 in
theorem wd692 : Cond.instanceMethod yX6_instruments ∈ BIG := bigIn 692 (by rfl) (by rfl)
set_option maxRecDepth 20000 in
theorem wd693 : Cond.selects "FretSchoolModel" yX6_instruments yX6_instruments ∈ BIG := bigIn 693 (by rfl) (by rfl)
set_option maxRecDepth 20000 in
theorem wd694 : Cond.code yX6_instruments cX6_instruments 1 (some .int) ∈ BIG := bigIn 694 (by rfl) (by rfl)
set_option maxRecDepth 20000 in
theorem wd695 : Cond.methodLink "FretSchoolModel" 85 yX6_told ∈ BIG := bigIn 695 (by rfl) (by rfl)
set_option maxRecDepth 20000 in
theorem wd697 : Cond.instanceMethod yX6_told ∈ BIG := bigIn 697 (by rfl) (by rfl)
set_option maxRecDepth 20000 in
theorem wd698 : Cond.code yX6_told cX6_told 2 (some .int) ∈ BIG := bigIn 698 (by rfl) (by rfl)
set_option maxRecDepth 20000 in
theorem wd699 : Cond.methodLink "FretSchoolLaw" 119 yX6_shifts ∈ BIG := bigIn 699 (by rfl) (by rfl)
set_option maxRecDepth 20000 in
theorem wd700 : Cond.instanceMethod yX6_shifts ∈ BIG := bigIn 700 (by rfl) (by rfl)
set_option maxRecDepth 20000 in
theorem wd701 : Cond.selects "FretSchoolModel" yX6_shifts yX6_shifts ∈ BIG := bigIn 701 (by rfl) (by rfl)
set_option maxRecDepth 20000 in
theorem wd702 : Cond.code yX6_shifts cX6_shifts 3 (some .int) ∈ BIG := bigIn 702 (by rfl) (by rfl)
set_option maxRecDepth 20000 in
theorem wd703 : Cond.methodLink "FretSchoolModel" 106 yX6_asks ∈ BIG := bigIn 703 (by rfl) (by rfl)
set_option maxRecDepth 20000 in
theorem wd705 : Cond.instanceMethod yX6_asks ∈ BIG := bigIn 705 (by rfl) (by rfl)
set_option maxRecDepth 20000 in
theorem wd706 : Cond.code yX6_asks cX6_asks 3 (some .boolean) ∈ BIG := bigIn 706 (by rfl) (by rfl)
set_option maxRecDepth 20000 in
theorem wd707 : Cond.methodLink "FretSchoolModel" 109 yX6_finds ∈ BIG := bigIn 707 (by rfl) (by rfl)
set_option maxRecDepth 20000 in
theorem wd709 : Cond.instanceMethod yX6_finds ∈ BIG := bigIn 709 (by rfl) (by rfl)
set_option maxRecDepth 20000 in
theorem wd710 : Cond.code yX6_finds cX6_finds 7 (some .int) ∈ BIG := bigIn 710 (by rfl) (by rfl)
set_option maxRecDepth 20000 in
theorem wd711 : Cond.methodLink "FretSchoolModel" 102 yX6_from ∈ BIG := bigIn 711 (by rfl) (by rfl)
set_option maxRecDepth 20000 in
theorem wd713 : Cond.instanceMethod yX6_from ∈ BIG := bigIn 713 (by rfl) (by rfl)
set_option maxRecDepth 20000 in
theorem wd714 : Cond.code yX6_from cX6_from 8 (some .int) ∈ BIG := bigIn 714 (by rfl) (by rfl)
set_option maxRecDepth 20000 in
theorem wd715 : Cond.methodLink "FretSchoolModel" 93 yX6_plays ∈ BIG := bigIn 715 (by rfl) (by rfl)
set_option maxRecDepth 20000 in
theorem wd717 : Cond.instanceMethod yX6_plays ∈ BIG := bigIn 717 (by rfl) (by rfl)
set_option maxRecDepth 20000 in
theorem wd718 : Cond.code yX6_plays cX6_plays 7 (some .boolean) ∈ BIG := bigIn 718 (by rfl) (by rfl)
set_option maxRecDepth 20000 in
theorem wd719 : Cond.methodLink "FretSchoolModel" 89 yX6_lies ∈ BIG := bigIn 719 (by rfl) (by rfl)
set_option maxRecDepth 20000 in
theorem wd721 : Cond.instanceMethod yX6_lies ∈ BIG := bigIn 721 (by rfl) (by rfl)
set_option maxRecDepth 20000 in
theorem wd722 : Cond.code yX6_lies cX6_lies 7 (some .boolean) ∈ BIG := bigIn 722 (by rfl) (by rfl)
set_option maxRecDepth 20000 in
theorem wd723 : Cond.constant "FretSchoolModel" 97 (1000000 : Int32) ∈ BIG := bigIn 723 (by rfl) (by rfl)
set_option maxRecDepth 20000 in
theorem wd724 : Cond.methodLink "FretSchoolModel" 98 yX6_apart ∈ BIG := bigIn 724 (by rfl) (by rfl)
set_option maxRecDepth 20000 in
theorem wd725 : Cond.static yX6_apart ∈ BIG := bigIn 725 (by rfl) (by rfl)
set_option maxRecDepth 20000 in
theorem wd726 : Cond.code yX6_apart cX6_apart 2 (some .int) ∈ BIG := bigIn 726 (by rfl) (by rfl)
set_option maxRecDepth 20000 in
theorem wd727 : Cond.methodLink "FretSchoolLaw" 122 yX6_shiftsByAll ∈ BIG := bigIn 727 (by rfl) (by rfl)
set_option maxRecDepth 20000 in
theorem wd728 : Cond.instanceMethod yX6_shiftsByAll ∈ BIG := bigIn 728 (by rfl) (by rfl)
set_option maxRecDepth 20000 in
theorem wd729 : Cond.selects "FretSchoolModel" yX6_shiftsByAll yX6_shiftsByAll ∈ BIG := bigIn 729 (by rfl) (by rfl)
set_option maxRecDepth 20000 in
theorem wd730 : Cond.code yX6_shiftsByAll cX6_shiftsByAll 4 (some .int) ∈ BIG := bigIn 730 (by rfl) (by rfl)
set_option maxRecDepth 20000 in
theorem wd731 : Cond.methodLink "FretSchoolLaw" 125 yX6_hardest ∈ BIG := bigIn 731 (by rfl) (by rfl)
set_option maxRecDepth 20000 in
theorem wd732 : Cond.instanceMethod yX6_hardest ∈ BIG := bigIn 732 (by rfl) (by rfl)
set_option maxRecDepth 20000 in
theorem wd733 : Cond.selects "FretSchoolModel" yX6_hardest yX6_hardest ∈ BIG := bigIn 733 (by rfl) (by rfl)
set_option maxRecDepth 20000 in
theorem wd734 : Cond.code yX6_hardest cX6_hardest 3 (some .int) ∈ BIG := bigIn 734 (by rfl) (by rfl)
set_option maxRecDepth 20000 in
theorem wd735 : Cond.methodLink "FretSchoolModel" 112 yX6_hardestOf ∈ BIG := bigIn 735 (by rfl) (by rfl)
set_option maxRecDepth 20000 in
theorem wd737 : Cond.instanceMethod yX6_hardestOf ∈ BIG := bigIn 737 (by rfl) (by rfl)
set_option maxRecDepth 20000 in
theorem wd738 : Cond.code yX6_hardestOf cX6_hardestOf 6 (some .int) ∈ BIG := bigIn 738 (by rfl) (by rfl)
set_option maxRecDepth 20000 in
theorem wd739 : Cond.methodLink "FretSchoolLaw" 128 yX6_position ∈ BIG := bigIn 739 (by rfl) (by rfl)
set_option maxRecDepth 20000 in
theorem wd740 : Cond.instanceMethod yX6_position ∈ BIG := bigIn 740 (by rfl) (by rfl)
set_option maxRecDepth 20000 in
theorem wd741 : Cond.selects "FretSchoolModel" yX6_position yX6_position ∈ BIG := bigIn 741 (by rfl) (by rfl)
set_option maxRecDepth 20000 in
theorem wd742 : Cond.code yX6_position cX6_position 4 (some .int) ∈ BIG := bigIn 742 (by rfl) (by rfl)
set_option maxRecDepth 20000 in
theorem wd743 : Cond.methodLink "FretSchoolModel" 115 yX6_asksNote ∈ BIG := bigIn 743 (by rfl) (by rfl)
set_option maxRecDepth 20000 in
theorem wd745 : Cond.instanceMethod yX6_asksNote ∈ BIG := bigIn 745 (by rfl) (by rfl)
set_option maxRecDepth 20000 in
theorem wd746 : Cond.code yX6_asksNote cX6_asksNote 4 (some .boolean) ∈ BIG := bigIn 746 (by rfl) (by rfl)
set_option maxRecDepth 20000 in
theorem wd747 : Cond.methodLink "FretSchoolLaw" 131 yX6_string ∈ BIG := bigIn 747 (by rfl) (by rfl)
set_option maxRecDepth 20000 in
theorem wd748 : Cond.instanceMethod yX6_string ∈ BIG := bigIn 748 (by rfl) (by rfl)
set_option maxRecDepth 20000 in
theorem wd749 : Cond.selects "FretSchoolModel" yX6_string yX6_string ∈ BIG := bigIn 749 (by rfl) (by rfl)
set_option maxRecDepth 20000 in
theorem wd750 : Cond.code yX6_string cX6_string 6 (some .int) ∈ BIG := bigIn 750 (by rfl) (by rfl)
set_option maxRecDepth 20000 in
theorem wd751 : Cond.methodLink "FretSchoolLaw" 134 yX6_learn ∈ BIG := bigIn 751 (by rfl) (by rfl)
set_option maxRecDepth 20000 in
theorem wd752 : Cond.instanceMethod yX6_learn ∈ BIG := bigIn 752 (by rfl) (by rfl)
set_option maxRecDepth 20000 in
theorem wd753 : Cond.selects "FretSchoolModel" yX6_learn yX6_learn ∈ BIG := bigIn 753 (by rfl) (by rfl)
set_option maxRecDepth 20000 in
theorem wd754 : Cond.code yX6_learn cX6_learn 6 (some .int) ∈ BIG := bigIn 754 (by rfl) (by rfl)
set_option maxRecDepth 20000 in
theorem wd755 : Cond.methodLink "FretSchoolModel" 121 yX6_isPupil ∈ BIG := bigIn 755 (by rfl) (by rfl)
set_option maxRecDepth 20000 in
theorem wd756 : Cond.static yX6_isPupil ∈ BIG := bigIn 756 (by rfl) (by rfl)
set_option maxRecDepth 20000 in
theorem wd757 : Cond.code yX6_isPupil cX6_isPupil 1 (some .boolean) ∈ BIG := bigIn 757 (by rfl) (by rfl)
set_option maxRecDepth 20000 in
theorem wd758 : Cond.methodLink "FretSchoolModel" 124 yX6_canLearn ∈ BIG := bigIn 758 (by rfl) (by rfl)
set_option maxRecDepth 20000 in
theorem wd760 : Cond.instanceMethod yX6_canLearn ∈ BIG := bigIn 760 (by rfl) (by rfl)
set_option maxRecDepth 20000 in
theorem wd761 : Cond.code yX6_canLearn cX6_canLearn 5 (some .boolean) ∈ BIG := bigIn 761 (by rfl) (by rfl)
set_option maxRecDepth 20000 in
theorem wd762 : Cond.methodLink "FretSchoolModel" 118 yX6_isKnown ∈ BIG := bigIn 762 (by rfl) (by rfl)
set_option maxRecDepth 20000 in
theorem wd764 : Cond.instanceMethod yX6_isKnown ∈ BIG := bigIn 764 (by rfl) (by rfl)
set_option maxRecDepth 20000 in
theorem wd765 : Cond.code yX6_isKnown cX6_isKnown 3 (some .boolean) ∈ BIG := bigIn 765 (by rfl) (by rfl)
set_option maxRecDepth 20000 in
theorem wd766 : Cond.methodLink "FretSchoolLaw" 137 yX6_level ∈ BIG := bigIn 766 (by rfl) (by rfl)
set_option maxRecDepth 20000 in
theorem wd767 : Cond.instanceMethod yX6_level ∈ BIG := bigIn 767 (by rfl) (by rfl)
set_option maxRecDepth 20000 in
theorem wd768 : Cond.selects "FretSchoolModel" yX6_level yX6_level ∈ BIG := bigIn 768 (by rfl) (by rfl)
set_option maxRecDepth 20000 in
theorem wd769 : Cond.code yX6_level cX6_level 2 (some .int) ∈ BIG := bigIn 769 (by rfl) (by rfl)
set_option maxRecDepth 20000 in
theorem wd770 : Cond.methodLink "FretSchoolLaw" 140 yX6_known ∈ BIG := bigIn 770 (by rfl) (by rfl)
set_option maxRecDepth 20000 in
theorem wd771 : Cond.instanceMethod yX6_known ∈ BIG := bigIn 771 (by rfl) (by rfl)
set_option maxRecDepth 20000 in
theorem wd772 : Cond.selects "FretSchoolModel" yX6_known yX6_known ∈ BIG := bigIn 772 (by rfl) (by rfl)
set_option maxRecDepth 20000 in
theorem wd773 : Cond.code yX6_known cX6_known 2 (some .int) ∈ BIG := bigIn 773 (by rfl) (by rfl)
set_option maxRecDepth 20000 in
theorem wd774 : Cond.methodLink "FretSchoolLaw" 143 yX6_next ∈ BIG := bigIn 774 (by rfl) (by rfl)
set_option maxRecDepth 20000 in
theorem wd775 : Cond.instanceMethod yX6_next ∈ BIG := bigIn 775 (by rfl) (by rfl)
set_option maxRecDepth 20000 in
theorem wd776 : Cond.selects "FretSchoolModel" yX6_next yX6_next ∈ BIG := bigIn 776 (by rfl) (by rfl)
set_option maxRecDepth 20000 in
theorem wd777 : Cond.code yX6_next cX6_next 6 (some .int) ∈ BIG := bigIn 777 (by rfl) (by rfl)
set_option maxRecDepth 20000 in
theorem wd778 : Cond.methodLink "FretSchoolLaw" 146 yX6_addWood ∈ BIG := bigIn 778 (by rfl) (by rfl)
set_option maxRecDepth 20000 in
theorem wd779 : Cond.instanceMethod yX6_addWood ∈ BIG := bigIn 779 (by rfl) (by rfl)
set_option maxRecDepth 20000 in
theorem wd780 : Cond.selects "FretSchoolModel" yX6_addWood yX6_addWood ∈ BIG := bigIn 780 (by rfl) (by rfl)
set_option maxRecDepth 20000 in
theorem wd781 : Cond.code yX6_addWood cX6_addWood 3 (some .int) ∈ BIG := bigIn 781 (by rfl) (by rfl)
set_option maxRecDepth 20000 in
theorem wd782 : Cond.methodLink "FretSchoolLaw" 149 yX6_order ∈ BIG := bigIn 782 (by rfl) (by rfl)
set_option maxRecDepth 20000 in
theorem wd783 : Cond.instanceMethod yX6_order ∈ BIG := bigIn 783 (by rfl) (by rfl)
set_option maxRecDepth 20000 in
theorem wd784 : Cond.selects "FretSchoolModel" yX6_order yX6_order ∈ BIG := bigIn 784 (by rfl) (by rfl)
set_option maxRecDepth 20000 in
theorem wd785 : Cond.code yX6_order cX6_order 5 (some .int) ∈ BIG := bigIn 785 (by rfl) (by rfl)
set_option maxRecDepth 20000 in
theorem wd786 : Cond.methodLink "FretSchoolModel" 130 yX6_atWork ∈ BIG := bigIn 786 (by rfl) (by rfl)
set_option maxRecDepth 20000 in
theorem wd788 : Cond.instanceMethod yX6_atWork ∈ BIG := bigIn 788 (by rfl) (by rfl)
set_option maxRecDepth 20000 in
theorem wd789 : Cond.code yX6_atWork cX6_atWork 3 (some .int) ∈ BIG := bigIn 789 (by rfl) (by rfl)
set_option maxRecDepth 20000 in
theorem wd790 : Cond.methodLink "FretSchoolLaw" 152 yX6_ready ∈ BIG := bigIn 790 (by rfl) (by rfl)
set_option maxRecDepth 20000 in
theorem wd791 : Cond.instanceMethod yX6_ready ∈ BIG := bigIn 791 (by rfl) (by rfl)
set_option maxRecDepth 20000 in
theorem wd792 : Cond.selects "FretSchoolModel" yX6_ready yX6_ready ∈ BIG := bigIn 792 (by rfl) (by rfl)
set_option maxRecDepth 20000 in
theorem wd793 : Cond.code yX6_ready cX6_ready 2 (some .int) ∈ BIG := bigIn 793 (by rfl) (by rfl)
set_option maxRecDepth 20000 in
theorem wd794 : Cond.methodLink "FretSchoolModel" 134 yX6_isOrder ∈ BIG := bigIn 794 (by rfl) (by rfl)
set_option maxRecDepth 20000 in
theorem wd796 : Cond.instanceMethod yX6_isOrder ∈ BIG := bigIn 796 (by rfl) (by rfl)
set_option maxRecDepth 20000 in
theorem wd797 : Cond.code yX6_isOrder cX6_isOrder 2 (some .boolean) ∈ BIG := bigIn 797 (by rfl) (by rfl)
set_option maxRecDepth 20000 in
theorem wd798 : Cond.methodLink "FretSchoolLaw" 156 yX6_fetch ∈ BIG := bigIn 798 (by rfl) (by rfl)
set_option maxRecDepth 20000 in
theorem wd799 : Cond.instanceMethod yX6_fetch ∈ BIG := bigIn 799 (by rfl) (by rfl)
set_option maxRecDepth 20000 in
theorem wd800 : Cond.selects "FretSchoolModel" yX6_fetch yX6_fetch ∈ BIG := bigIn 800 (by rfl) (by rfl)
set_option maxRecDepth 20000 in
theorem wd801 : Cond.code yX6_fetch cX6_fetch 8 (some .int) ∈ BIG := bigIn 801 (by rfl) (by rfl)
set_option maxRecDepth 20000 in
theorem wd802 : Cond.methodLink "FretSchoolModel" 137 yX6_isOpen ∈ BIG := bigIn 802 (by rfl) (by rfl)
set_option maxRecDepth 20000 in
theorem wd803 : Cond.static yX6_isOpen ∈ BIG := bigIn 803 (by rfl) (by rfl)
set_option maxRecDepth 20000 in
theorem wd804 : Cond.code yX6_isOpen cX6_isOpen 1 (some .boolean) ∈ BIG := bigIn 804 (by rfl) (by rfl)
set_option maxRecDepth 20000 in
theorem wd805 : Cond.methodLink "FretSchoolLaw" 159 yX6_pass ∈ BIG := bigIn 805 (by rfl) (by rfl)
set_option maxRecDepth 20000 in
theorem wd806 : Cond.instanceMethod yX6_pass ∈ BIG := bigIn 806 (by rfl) (by rfl)
set_option maxRecDepth 20000 in
theorem wd807 : Cond.selects "FretSchoolModel" yX6_pass yX6_pass ∈ BIG := bigIn 807 (by rfl) (by rfl)
set_option maxRecDepth 20000 in
theorem wd808 : Cond.code yX6_pass cX6_pass 3 (some .int) ∈ BIG := bigIn 808 (by rfl) (by rfl)
set_option maxRecDepth 20000 in
theorem wd809 : Cond.methodLink "FretSchoolLaw" 163 yX6_today ∈ BIG := bigIn 809 (by rfl) (by rfl)
set_option maxRecDepth 20000 in
theorem wd810 : Cond.instanceMethod yX6_today ∈ BIG := bigIn 810 (by rfl) (by rfl)
set_option maxRecDepth 20000 in
theorem wd811 : Cond.selects "FretSchoolModel" yX6_today yX6_today ∈ BIG := bigIn 811 (by rfl) (by rfl)
set_option maxRecDepth 20000 in
theorem wd812 : Cond.code yX6_today cX6_today 1 (some .int) ∈ BIG := bigIn 812 (by rfl) (by rfl)
set_option maxRecDepth 20000 in
theorem wd813 : Cond.arrayClass .long ∈ BIG := bigIn 813 (by rfl) (by rfl)
set_option maxRecDepth 20000 in
theorem wd814 : Cond.sameMethod "java/lang/Throwable" "java/lang/Throwable" "fillInStackTrace" "(I)Ljava/lang/Throwable;" ∈ BIG := bigIn 814 (by rfl) (by rfl)
