/-- the good words of the tables -/
def BIG : List Cond := lw_tbl.filter goodWord
theorem bigAll : BIG.all goodWord = true := List.all_eq_true.mpr (fun w h => (List.mem_filter.mp h).2)
theorem bigIn {w : Cond} (i : Nat) (h : lw_tbl[i]? = some w) (hg : goodWord w = true) : w ∈ BIG := List.mem_filter.mpr ⟨List.mem_of_getElem? h, hg⟩
theorem bigT {w : Cond} (h : w ∈ BIG) : w ∈ lw_tbl := (List.mem_filter.mp h).1
theorem wd0 : Cond.selects "java/lang/Throwable" (⟨"java/lang/Throwable", "fillInStackTrace", "(I)Ljava/lang/Throwable;"⟩ : MethodName) (⟨"java/lang/Throwable", "fillInStackTrace", "(I)Ljava/lang/Throwable;"⟩ : MethodName) ∈ BIG := bigIn 0 (by rfl) (by rfl)
theorem wd1 : Cond.selects "FretSchool" yX5_easiestShift yX5_easiestShift ∈ BIG := bigIn 1 (by rfl) (by rfl)
theorem wd2 : Cond.selects "FretSchool" yX5_learnableShift yX5_learnableShift ∈ BIG := bigIn 2 (by rfl) (by rfl)
theorem wd3 : Cond.selects "FretSchool$Hand" yX0_feelReach yX0_feelReach ∈ BIG := bigIn 3 (by rfl) (by rfl)
theorem wd4 : Cond.selects "FretSchool$Hand" yX0_measureRest yX0_measureRest ∈ BIG := bigIn 4 (by rfl) (by rfl)
theorem wd5 : Cond.selects "FretSchool$Hand" yX0_nearest yX0_nearest ∈ BIG := bigIn 5 (by rfl) (by rfl)
theorem wd6 : Cond.selects "FretSchool$Hand" yX0_chooseRow yX0_chooseRow ∈ BIG := bigIn 6 (by rfl) (by rfl)
theorem wd7 : Cond.selects "FretSchool" yX5_needNote yX5_needNote ∈ BIG := bigIn 7 (by rfl) (by rfl)
theorem wd8 : Cond.selects "FretSchool" yX5_needPiece yX5_needPiece ∈ BIG := bigIn 8 (by rfl) (by rfl)
theorem wd9 : Cond.selects "FretSchool" yX5_findBest yX5_findBest ∈ BIG := bigIn 9 (by rfl) (by rfl)
theorem wd10 : Cond.selects "FretSchool" yX5_needInstrument yX5_needInstrument ∈ BIG := bigIn 10 (by rfl) (by rfl)
theorem wd11 : Cond.selects "FretSchool" yX5_needOrder yX5_needOrder ∈ BIG := bigIn 11 (by rfl) (by rfl)
theorem wd12 : Cond.selects "FretSchool" yX5_ordersAtWork yX5_ordersAtWork ∈ BIG := bigIn 12 (by rfl) (by rfl)
theorem wd13 : Cond.initialized "FretSchoolLaw" ∈ BIG := bigIn 13 (by rfl) (by rfl)
theorem wd14 : Cond.initialized "FretSchool" ∈ BIG := bigIn 14 (by rfl) (by rfl)
theorem wd15 : Cond.initialized "FretSchool$Piece" ∈ BIG := bigIn 15 (by rfl) (by rfl)
theorem wd16 : Cond.initialized "FretSchool$Instrument" ∈ BIG := bigIn 16 (by rfl) (by rfl)
theorem wd17 : Cond.initialized "FretSchool$Pupil" ∈ BIG := bigIn 17 (by rfl) (by rfl)
theorem wd18 : Cond.initialized "FretSchool$Order" ∈ BIG := bigIn 18 (by rfl) (by rfl)
theorem wd19 : Cond.initialized "FretSchool$Hand" ∈ BIG := bigIn 19 (by rfl) (by rfl)
theorem wd20 : Cond.initialized "java/lang/Throwable" ∈ BIG := bigIn 20 (by rfl) (by rfl)
theorem wd21 : Cond.initialized "java/lang/Exception" ∈ BIG := bigIn 21 (by rfl) (by rfl)
theorem wd22 : Cond.initialized "java/lang/RuntimeException" ∈ BIG := bigIn 22 (by rfl) (by rfl)
theorem wd23 : Cond.initialized "java/lang/IllegalArgumentException" ∈ BIG := bigIn 23 (by rfl) (by rfl)
theorem wd24 : Cond.initialized "java/lang/Math" ∈ BIG := bigIn 24 (by rfl) (by rfl)
theorem wd25 : Cond.initialized "java/lang/IllegalStateException" ∈ BIG := bigIn 25 (by rfl) (by rfl)
theorem wd26 : Cond.initialized "java/lang/IndexOutOfBoundsException" ∈ BIG := bigIn 26 (by rfl) (by rfl)
theorem wd27 : Cond.classLink "FretSchoolLaw" 11 "FretSchool" ∈ BIG := bigIn 27 (by rfl) (by rfl)
theorem wd28 : Cond.instantiable "FretSchool" 10 ∈ BIG := bigIn 28 (by rfl) (by rfl)
theorem wd29 : Cond.methodLink "FretSchoolLaw" 173 yX5_init ∈ BIG := bigIn 29 (by rfl) (by rfl)
theorem wd30 : Cond.instanceMethod yX5_init ∈ BIG := bigIn 30 (by rfl) (by rfl)
theorem wd31 : Cond.code yX5_init cX5_init 2 (none : Option Jvm.ClassFile.FieldType) ∈ BIG := bigIn 31 (by rfl) (by rfl)
theorem wd32 : Cond.methodLink "FretSchool" 3 (⟨"java/lang/Object", "<init>", "()V"⟩ : MethodName) ∈ BIG := bigIn 32 (by rfl) (by rfl)
theorem wd33 : Cond.instanceMethod (⟨"java/lang/Object", "<init>", "()V"⟩ : MethodName) ∈ BIG := bigIn 33 (by rfl) (by rfl)
theorem wd34 : Cond.code (⟨"java/lang/Object", "<init>", "()V"⟩ : MethodName) object_method_1_code 1 (none : Option Jvm.ClassFile.FieldType) ∈ BIG := bigIn 34 (by rfl) (by rfl)
theorem wd35 : Cond.classLink "FretSchool" 9 "FretSchool$Piece" ∈ BIG := bigIn 35 (by rfl) (by rfl)
theorem wt36 : Cond.arrayOver (.object "FretSchool$Piece") ∈ lw_tbl := List.mem_of_getElem? (i := 36) (by rfl)
theorem wd37 : Cond.instantiable "FretSchool$Piece" 2 ∈ BIG := bigIn 37 (by rfl) (by rfl)
theorem wt38 : Cond.methodLinkNest "FretSchool" 15 yX3_init "FretSchool" ∈ lw_tbl := List.mem_of_getElem? (i := 38) (by rfl)
theorem wd39 : Cond.instanceMethod yX3_init ∈ BIG := bigIn 39 (by rfl) (by rfl)
theorem wd40 : Cond.code yX3_init cX3_init 1 (none : Option Jvm.ClassFile.FieldType) ∈ BIG := bigIn 40 (by rfl) (by rfl)
theorem wd41 : Cond.methodLink "FretSchool$Piece" 3 (⟨"java/lang/Object", "<init>", "()V"⟩ : MethodName) ∈ BIG := bigIn 41 (by rfl) (by rfl)
theorem wd42 : Cond.fieldLink "FretSchool$Piece" 9 "FretSchool$Piece" "pitches" "[I" ∈ BIG := bigIn 42 (by rfl) (by rfl)
theorem wd43 : Cond.fieldLink "FretSchool$Hand" 58 "FretSchool$Piece" "pitches" "[I" ∈ BIG := bigIn 43 (by rfl) (by rfl)
theorem wd44 : Cond.fieldLink "FretSchool" 101 "FretSchool$Piece" "pitches" "[I" ∈ BIG := bigIn 44 (by rfl) (by rfl)
theorem wd45 : Cond.fieldLink "FretSchool$Piece" 15 "FretSchool$Piece" "count" "I" ∈ BIG := bigIn 45 (by rfl) (by rfl)
theorem wd46 : Cond.fieldLink "FretSchool$Hand" 34 "FretSchool$Piece" "count" "I" ∈ BIG := bigIn 46 (by rfl) (by rfl)
theorem wd47 : Cond.fieldLink "FretSchool" 85 "FretSchool$Piece" "count" "I" ∈ BIG := bigIn 47 (by rfl) (by rfl)
theorem wd48 : Cond.laysFinal "FretSchool$Piece" "FretSchool$Piece" "pitches" "[I" ∈ BIG := bigIn 48 (by rfl) (by rfl)
theorem wd50 : Cond.lays "FretSchool$Piece" "FretSchool$Piece" "count" "I" ∈ BIG := bigIn 50 (by rfl) (by rfl)
theorem wd53 : Cond.arrayClass .int ∈ BIG := bigIn 53 (by rfl) (by rfl)
theorem wd54 : Cond.classLink "FretSchool" 16 "FretSchool$Instrument" ∈ BIG := bigIn 54 (by rfl) (by rfl)
theorem wt55 : Cond.arrayOver (.object "FretSchool$Instrument") ∈ lw_tbl := List.mem_of_getElem? (i := 55) (by rfl)
theorem wd56 : Cond.instantiable "FretSchool$Instrument" 3 ∈ BIG := bigIn 56 (by rfl) (by rfl)
theorem wt57 : Cond.methodLinkNest "FretSchool" 22 yX1_init "FretSchool" ∈ lw_tbl := List.mem_of_getElem? (i := 57) (by rfl)
theorem wd58 : Cond.instanceMethod yX1_init ∈ BIG := bigIn 58 (by rfl) (by rfl)
theorem wd59 : Cond.code yX1_init cX1_init 1 (none : Option Jvm.ClassFile.FieldType) ∈ BIG := bigIn 59 (by rfl) (by rfl)
theorem wd60 : Cond.methodLink "FretSchool$Instrument" 3 (⟨"java/lang/Object", "<init>", "()V"⟩ : MethodName) ∈ BIG := bigIn 60 (by rfl) (by rfl)
theorem wd61 : Cond.fieldLink "FretSchool$Instrument" 9 "FretSchool$Instrument" "open" "[I" ∈ BIG := bigIn 61 (by rfl) (by rfl)
theorem wd62 : Cond.fieldLink "FretSchool" 107 "FretSchool$Instrument" "open" "[I" ∈ BIG := bigIn 62 (by rfl) (by rfl)
theorem wd63 : Cond.fieldLink "FretSchool$Instrument" 15 "FretSchool$Instrument" "keeper" "I" ∈ BIG := bigIn 63 (by rfl) (by rfl)
theorem wd64 : Cond.fieldLink "FretSchool" 110 "FretSchool$Instrument" "keeper" "I" ∈ BIG := bigIn 64 (by rfl) (by rfl)
theorem wd65 : Cond.fieldLink "FretSchool$Instrument" 19 "FretSchool$Instrument" "fretCount" "I" ∈ BIG := bigIn 65 (by rfl) (by rfl)
theorem wd66 : Cond.laysFinal "FretSchool$Instrument" "FretSchool$Instrument" "open" "[I" ∈ BIG := bigIn 66 (by rfl) (by rfl)
theorem wd68 : Cond.lays "FretSchool$Instrument" "FretSchool$Instrument" "keeper" "I" ∈ BIG := bigIn 68 (by rfl) (by rfl)
theorem wd70 : Cond.lays "FretSchool$Instrument" "FretSchool$Instrument" "fretCount" "I" ∈ BIG := bigIn 70 (by rfl) (by rfl)
theorem wd73 : Cond.classLink "FretSchool" 23 "FretSchool$Pupil" ∈ BIG := bigIn 73 (by rfl) (by rfl)
theorem wt74 : Cond.arrayOver (.object "FretSchool$Pupil") ∈ lw_tbl := List.mem_of_getElem? (i := 74) (by rfl)
theorem wd75 : Cond.instantiable "FretSchool$Pupil" 2 ∈ BIG := bigIn 75 (by rfl) (by rfl)
theorem wt76 : Cond.methodLinkNest "FretSchool" 29 yX4_init "FretSchool" ∈ lw_tbl := List.mem_of_getElem? (i := 76) (by rfl)
theorem wd77 : Cond.instanceMethod yX4_init ∈ BIG := bigIn 77 (by rfl) (by rfl)
theorem wd78 : Cond.code yX4_init cX4_init 1 (none : Option Jvm.ClassFile.FieldType) ∈ BIG := bigIn 78 (by rfl) (by rfl)
theorem wd79 : Cond.methodLink "FretSchool$Pupil" 3 (⟨"java/lang/Object", "<init>", "()V"⟩ : MethodName) ∈ BIG := bigIn 79 (by rfl) (by rfl)
theorem wd80 : Cond.fieldLink "FretSchool$Pupil" 9 "FretSchool$Pupil" "grade" "I" ∈ BIG := bigIn 80 (by rfl) (by rfl)
theorem wd81 : Cond.fieldLink "FretSchool" 153 "FretSchool$Pupil" "grade" "I" ∈ BIG := bigIn 81 (by rfl) (by rfl)
theorem wd82 : Cond.fieldLink "FretSchool$Pupil" 15 "FretSchool$Pupil" "repertoire" "I" ∈ BIG := bigIn 82 (by rfl) (by rfl)
theorem wd83 : Cond.fieldLink "FretSchool" 156 "FretSchool$Pupil" "repertoire" "I" ∈ BIG := bigIn 83 (by rfl) (by rfl)
theorem wd84 : Cond.lays "FretSchool$Pupil" "FretSchool$Pupil" "grade" "I" ∈ BIG := bigIn 84 (by rfl) (by rfl)
theorem wd86 : Cond.lays "FretSchool$Pupil" "FretSchool$Pupil" "repertoire" "I" ∈ BIG := bigIn 86 (by rfl) (by rfl)
theorem wd89 : Cond.classLink "FretSchool" 30 "FretSchool$Order" ∈ BIG := bigIn 89 (by rfl) (by rfl)
theorem wt90 : Cond.arrayOver (.object "FretSchool$Order") ∈ lw_tbl := List.mem_of_getElem? (i := 90) (by rfl)
theorem wd91 : Cond.instantiable "FretSchool$Order" 4 ∈ BIG := bigIn 91 (by rfl) (by rfl)
theorem wt92 : Cond.methodLinkNest "FretSchool" 36 yX2_init "FretSchool" ∈ lw_tbl := List.mem_of_getElem? (i := 92) (by rfl)
theorem wd93 : Cond.instanceMethod yX2_init ∈ BIG := bigIn 93 (by rfl) (by rfl)
theorem wd94 : Cond.code yX2_init cX2_init 1 (none : Option Jvm.ClassFile.FieldType) ∈ BIG := bigIn 94 (by rfl) (by rfl)
theorem wd95 : Cond.methodLink "FretSchool$Order" 3 (⟨"java/lang/Object", "<init>", "()V"⟩ : MethodName) ∈ BIG := bigIn 95 (by rfl) (by rfl)
theorem wd96 : Cond.fieldLink "FretSchool$Order" 9 "FretSchool$Order" "buyer" "I" ∈ BIG := bigIn 96 (by rfl) (by rfl)
theorem wd97 : Cond.fieldLink "FretSchool" 194 "FretSchool$Order" "buyer" "I" ∈ BIG := bigIn 97 (by rfl) (by rfl)
theorem wd98 : Cond.fieldLink "FretSchool$Order" 15 "FretSchool$Order" "fretCount" "I" ∈ BIG := bigIn 98 (by rfl) (by rfl)
theorem wd99 : Cond.fieldLink "FretSchool" 197 "FretSchool$Order" "fretCount" "I" ∈ BIG := bigIn 99 (by rfl) (by rfl)
theorem wd100 : Cond.fieldLink "FretSchool$Order" 18 "FretSchool$Order" "readyDay" "I" ∈ BIG := bigIn 100 (by rfl) (by rfl)
theorem wd101 : Cond.fieldLink "FretSchool" 178 "FretSchool$Order" "readyDay" "I" ∈ BIG := bigIn 101 (by rfl) (by rfl)
theorem wd102 : Cond.fieldLink "FretSchool$Order" 21 "FretSchool$Order" "isFetched" "Z" ∈ BIG := bigIn 102 (by rfl) (by rfl)
theorem wd103 : Cond.fieldLink "FretSchool" 186 "FretSchool$Order" "isFetched" "Z" ∈ BIG := bigIn 103 (by rfl) (by rfl)
theorem wd104 : Cond.lays "FretSchool$Order" "FretSchool$Order" "buyer" "I" ∈ BIG := bigIn 104 (by rfl) (by rfl)
theorem wd106 : Cond.lays "FretSchool$Order" "FretSchool$Order" "fretCount" "I" ∈ BIG := bigIn 106 (by rfl) (by rfl)
theorem wd108 : Cond.lays "FretSchool$Order" "FretSchool$Order" "readyDay" "I" ∈ BIG := bigIn 108 (by rfl) (by rfl)
theorem wd110 : Cond.lays "FretSchool$Order" "FretSchool$Order" "isFetched" "Z" ∈ BIG := bigIn 110 (by rfl) (by rfl)
theorem wd113 : Cond.classLink "FretSchool" 41 "FretSchool$Hand" ∈ BIG := bigIn 113 (by rfl) (by rfl)
theorem wd114 : Cond.instantiable "FretSchool$Hand" 5 ∈ BIG := bigIn 114 (by rfl) (by rfl)
theorem wt115 : Cond.methodLinkNest "FretSchool" 43 yX0_init "FretSchool" ∈ lw_tbl := List.mem_of_getElem? (i := 115) (by rfl)
theorem wd116 : Cond.instanceMethod yX0_init ∈ BIG := bigIn 116 (by rfl) (by rfl)
theorem wd117 : Cond.code yX0_init cX0_init 1 (none : Option Jvm.ClassFile.FieldType) ∈ BIG := bigIn 117 (by rfl) (by rfl)
theorem wd118 : Cond.methodLink "FretSchool$Hand" 3 (⟨"java/lang/Object", "<init>", "()V"⟩ : MethodName) ∈ BIG := bigIn 118 (by rfl) (by rfl)
theorem wd119 : Cond.classLink "FretSchool$Hand" 15 "[[I" ∈ BIG := bigIn 119 (by rfl) (by rfl)
theorem wt120 : Cond.arrayOver (.array .int) ∈ lw_tbl := List.mem_of_getElem? (i := 120) (by rfl)
theorem wd121 : Cond.fieldLink "FretSchool$Hand" 9 "FretSchool$Hand" "reach" "[I" ∈ BIG := bigIn 121 (by rfl) (by rfl)
theorem wd122 : Cond.fieldLink "FretSchool$Hand" 17 "FretSchool$Hand" "rest" "[[I" ∈ BIG := bigIn 122 (by rfl) (by rfl)
theorem wd123 : Cond.fieldLink "FretSchool$Hand" 20 "FretSchool$Hand" "row" "[I" ∈ BIG := bigIn 123 (by rfl) (by rfl)
theorem wd124 : Cond.fieldLink "FretSchool" 129 "FretSchool$Hand" "row" "[I" ∈ BIG := bigIn 124 (by rfl) (by rfl)
theorem wd125 : Cond.fieldLink "FretSchool$Hand" 23 "FretSchool$Hand" "sum" "I" ∈ BIG := bigIn 125 (by rfl) (by rfl)
theorem wd126 : Cond.fieldLink "FretSchool" 117 "FretSchool$Hand" "sum" "I" ∈ BIG := bigIn 126 (by rfl) (by rfl)
theorem wd127 : Cond.fieldLink "FretSchool$Hand" 27 "FretSchool$Hand" "greatest" "I" ∈ BIG := bigIn 127 (by rfl) (by rfl)
theorem wd128 : Cond.fieldLink "FretSchool" 126 "FretSchool$Hand" "greatest" "I" ∈ BIG := bigIn 128 (by rfl) (by rfl)
theorem wd129 : Cond.laysFinal "FretSchool$Hand" "FretSchool$Hand" "reach" "[I" ∈ BIG := bigIn 129 (by rfl) (by rfl)
theorem wd131 : Cond.laysFinal "FretSchool$Hand" "FretSchool$Hand" "rest" "[[I" ∈ BIG := bigIn 131 (by rfl) (by rfl)
theorem wd133 : Cond.laysFinal "FretSchool$Hand" "FretSchool$Hand" "row" "[I" ∈ BIG := bigIn 133 (by rfl) (by rfl)
theorem wd135 : Cond.lays "FretSchool$Hand" "FretSchool$Hand" "sum" "I" ∈ BIG := bigIn 135 (by rfl) (by rfl)
theorem wd137 : Cond.lays "FretSchool$Hand" "FretSchool$Hand" "greatest" "I" ∈ BIG := bigIn 137 (by rfl) (by rfl)
theorem wd140 : Cond.fieldLink "FretSchool" 11 "FretSchool" "pieces" "[LFretSchool$Piece;" ∈ BIG := bigIn 140 (by rfl) (by rfl)
theorem wd141 : Cond.fieldLink "FretSchool" 18 "FretSchool" "builds" "[LFretSchool$Instrument;" ∈ BIG := bigIn 141 (by rfl) (by rfl)
theorem wd142 : Cond.fieldLink "FretSchool" 25 "FretSchool" "pupils" "[LFretSchool$Pupil;" ∈ BIG := bigIn 142 (by rfl) (by rfl)
theorem wd143 : Cond.fieldLink "FretSchool" 32 "FretSchool" "orders" "[LFretSchool$Order;" ∈ BIG := bigIn 143 (by rfl) (by rfl)
theorem wd144 : Cond.fieldLink "FretSchool" 37 "FretSchool" "stock" "[I" ∈ BIG := bigIn 144 (by rfl) (by rfl)
theorem wd145 : Cond.fieldLink "FretSchool" 44 "FretSchool" "hand" "LFretSchool$Hand;" ∈ BIG := bigIn 145 (by rfl) (by rfl)
theorem wd146 : Cond.fieldLink "FretSchool" 48 "FretSchool" "pieceCount" "I" ∈ BIG := bigIn 146 (by rfl) (by rfl)
theorem wd147 : Cond.fieldLink "FretSchool" 52 "FretSchool" "buildCount" "I" ∈ BIG := bigIn 147 (by rfl) (by rfl)
theorem wd148 : Cond.fieldLink "FretSchool" 55 "FretSchool" "orderCount" "I" ∈ BIG := bigIn 148 (by rfl) (by rfl)
theorem wd149 : Cond.fieldLink "FretSchool" 58 "FretSchool" "day" "I" ∈ BIG := bigIn 149 (by rfl) (by rfl)
theorem wd150 : Cond.laysFinal "FretSchool" "FretSchool" "pieces" "[LFretSchool$Piece;" ∈ BIG := bigIn 150 (by rfl) (by rfl)
theorem wd152 : Cond.laysFinal "FretSchool" "FretSchool" "builds" "[LFretSchool$Instrument;" ∈ BIG := bigIn 152 (by rfl) (by rfl)
theorem wd154 : Cond.laysFinal "FretSchool" "FretSchool" "pupils" "[LFretSchool$Pupil;" ∈ BIG := bigIn 154 (by rfl) (by rfl)
theorem wd156 : Cond.laysFinal "FretSchool" "FretSchool" "orders" "[LFretSchool$Order;" ∈ BIG := bigIn 156 (by rfl) (by rfl)
theorem wd158 : Cond.laysFinal "FretSchool" "FretSchool" "stock" "[I" ∈ BIG := bigIn 158 (by rfl) (by rfl)
theorem wd160 : Cond.laysFinal "FretSchool" "FretSchool" "hand" "LFretSchool$Hand;" ∈ BIG := bigIn 160 (by rfl) (by rfl)
theorem wd162 : Cond.lays "FretSchool" "FretSchool" "pieceCount" "I" ∈ BIG := bigIn 162 (by rfl) (by rfl)
theorem wd164 : Cond.lays "FretSchool" "FretSchool" "buildCount" "I" ∈ BIG := bigIn 164 (by rfl) (by rfl)
theorem wd166 : Cond.lays "FretSchool" "FretSchool" "orderCount" "I" ∈ BIG := bigIn 166 (by rfl) (by rfl)
theorem wd168 : Cond.lays "FretSchool" "FretSchool" "day" "I" ∈ BIG := bigIn 168 (by rfl) (by rfl)
theorem wd171 : Cond.methodLink "FretSchoolLaw" 138 yX5_instruments ∈ BIG := bigIn 171 (by rfl) (by rfl)
theorem wd172 : Cond.instanceMethod yX5_instruments ∈ BIG := bigIn 172 (by rfl) (by rfl)
theorem wd173 : Cond.selects "FretSchool" yX5_instruments yX5_instruments ∈ BIG := bigIn 173 (by rfl) (by rfl)
theorem wd174 : Cond.code yX5_instruments cX5_instruments 1 (some .int) ∈ BIG := bigIn 174 (by rfl) (by rfl)
theorem wd175 : Cond.methodLink "FretSchoolLaw" 153 yX5_today ∈ BIG := bigIn 175 (by rfl) (by rfl)
theorem wd176 : Cond.instanceMethod yX5_today ∈ BIG := bigIn 176 (by rfl) (by rfl)
theorem wd177 : Cond.selects "FretSchool" yX5_today yX5_today ∈ BIG := bigIn 177 (by rfl) (by rfl)
theorem wd178 : Cond.code yX5_today cX5_today 1 (some .int) ∈ BIG := bigIn 178 (by rfl) (by rfl)
theorem wd179 : Cond.methodLink "FretSchoolLaw" 174 yL_at ∈ BIG := bigIn 179 (by rfl) (by rfl)
theorem wd180 : Cond.static yL_at ∈ BIG := bigIn 180 (by rfl) (by rfl)
theorem wd181 : Cond.code yL_at cL_at 2 (some .int) ∈ BIG := bigIn 181 (by rfl) (by rfl)
theorem wd182 : Cond.constant "FretSchoolLaw" 7 (937025989 : Int32) ∈ BIG := bigIn 182 (by rfl) (by rfl)
theorem wd183 : Cond.constant "FretSchoolLaw" 8 (1550557855 : Int32) ∈ BIG := bigIn 183 (by rfl) (by rfl)
theorem wd184 : Cond.methodLink "FretSchoolLaw" 113 yL_level ∈ BIG := bigIn 184 (by rfl) (by rfl)
theorem wd185 : Cond.static yL_level ∈ BIG := bigIn 185 (by rfl) (by rfl)
theorem wd186 : Cond.codeWith yL_level cL_level 3 (some .int) [(0, 5, 6, 26)] ∈ BIG := bigIn 186 (by rfl) (by rfl)
theorem wd187 : Cond.classLink "FretSchoolLaw" 26 "java/lang/IllegalArgumentException" ∈ BIG := bigIn 187 (by rfl) (by rfl)
theorem wd188 : Cond.methodLink "FretSchoolLaw" 62 yX5_level ∈ BIG := bigIn 188 (by rfl) (by rfl)
theorem wd189 : Cond.instanceMethod yX5_level ∈ BIG := bigIn 189 (by rfl) (by rfl)
theorem wd190 : Cond.selects "FretSchool" yX5_level yX5_level ∈ BIG := bigIn 190 (by rfl) (by rfl)
theorem wd191 : Cond.code yX5_level cX5_level 2 (some .int) ∈ BIG := bigIn 191 (by rfl) (by rfl)
theorem wd192 : Cond.methodLink "FretSchool" 136 yX5_needPupil ∈ BIG := bigIn 192 (by rfl) (by rfl)
theorem wd193 : Cond.static yX5_needPupil ∈ BIG := bigIn 193 (by rfl) (by rfl)
theorem wd194 : Cond.code yX5_needPupil cX5_needPupil 1 (none : Option Jvm.ClassFile.FieldType) ∈ BIG := bigIn 194 (by rfl) (by rfl)
theorem wd195 : Cond.methodLink "FretSchool" 72 yX5_needRange ∈ BIG := bigIn 195 (by rfl) (by rfl)
theorem wd196 : Cond.static yX5_needRange ∈ BIG := bigIn 196 (by rfl) (by rfl)
theorem wd197 : Cond.code yX5_needRange cX5_needRange 3 (none : Option Jvm.ClassFile.FieldType) ∈ BIG := bigIn 197 (by rfl) (by rfl)
theorem wd198 : Cond.classLink "FretSchool" 220 "java/lang/IllegalArgumentException" ∈ BIG := bigIn 198 (by rfl) (by rfl)
theorem wd199 : Cond.instantiable "java/lang/IllegalArgumentException" 6 ∈ BIG := bigIn 199 (by rfl) (by rfl)
theorem wt200 : Cond.castable "java/lang/IllegalArgumentException" "java/lang/IllegalArgumentException" ∈ lw_tbl := List.mem_of_getElem? (i := 200) (by rfl)
theorem wd207 : Cond.selects "java/lang/IllegalArgumentException" (⟨"java/lang/Throwable", "fillInStackTrace", "(I)Ljava/lang/Throwable;"⟩ : MethodName) (⟨"java/lang/Throwable", "fillInStackTrace", "(I)Ljava/lang/Throwable;"⟩ : MethodName) ∈ BIG := bigIn 207 (by rfl) (by rfl)
theorem wd208 : Cond.selects "java/lang/IllegalArgumentException" (⟨"java/lang/Throwable", "fillInStackTrace", "()Ljava/lang/Throwable;"⟩ : MethodName) (⟨"java/lang/Throwable", "fillInStackTrace", "()Ljava/lang/Throwable;"⟩ : MethodName) ∈ BIG := bigIn 208 (by rfl) (by rfl)
theorem wd209 : Cond.lays "java/lang/IllegalArgumentException" "java/lang/Throwable" "cause" "Ljava/lang/Throwable;" ∈ BIG := bigIn 209 (by rfl) (by rfl)
theorem wd210 : Cond.lays "java/lang/Throwable" "java/lang/Throwable" "cause" "Ljava/lang/Throwable;" ∈ BIG := bigIn 210 (by rfl) (by rfl)
theorem wd211 : Cond.lays "java/lang/IllegalArgumentException" "java/lang/Throwable" "stackTrace" "[Ljava/lang/StackTraceElement;" ∈ BIG := bigIn 211 (by rfl) (by rfl)
theorem wd212 : Cond.lays "java/lang/Throwable" "java/lang/Throwable" "stackTrace" "[Ljava/lang/StackTraceElement;" ∈ BIG := bigIn 212 (by rfl) (by rfl)
theorem wd213 : Cond.lays "java/lang/IllegalArgumentException" "java/lang/Throwable" "suppressedExceptions" "Ljava/util/List;" ∈ BIG := bigIn 213 (by rfl) (by rfl)
theorem wd214 : Cond.lays "java/lang/Throwable" "java/lang/Throwable" "suppressedExceptions" "Ljava/util/List;" ∈ BIG := bigIn 214 (by rfl) (by rfl)
theorem wd215 : Cond.lays "java/lang/IllegalArgumentException" "java/lang/Throwable" "detailMessage" "Ljava/lang/String;" ∈ BIG := bigIn 215 (by rfl) (by rfl)
theorem wd216 : Cond.lays "java/lang/Throwable" "java/lang/Throwable" "detailMessage" "Ljava/lang/String;" ∈ BIG := bigIn 216 (by rfl) (by rfl)
theorem wd217 : Cond.lays "java/lang/IllegalArgumentException" "java/lang/Throwable" "backtrace" "Ljava/lang/Object;" ∈ BIG := bigIn 217 (by rfl) (by rfl)
theorem wd218 : Cond.lays "java/lang/Throwable" "java/lang/Throwable" "backtrace" "Ljava/lang/Object;" ∈ BIG := bigIn 218 (by rfl) (by rfl)
theorem wd219 : Cond.fieldLink "java/lang/Throwable" 198 "java/lang/Throwable" "backtrace" "Ljava/lang/Object;" ∈ BIG := bigIn 219 (by rfl) (by rfl)
theorem wd221 : Cond.instanceMethod (⟨"java/lang/Throwable", "<init>", "()V"⟩ : MethodName) ∈ BIG := bigIn 221 (by rfl) (by rfl)
theorem wd222 : Cond.code (⟨"java/lang/Throwable", "<init>", "()V"⟩ : MethodName) prog_16_method_1_code 1 (none : Option Jvm.ClassFile.FieldType) ∈ BIG := bigIn 222 (by rfl) (by rfl)
theorem wd223 : Cond.methodLink "java/lang/Throwable" 1 (⟨"java/lang/Object", "<init>", "()V"⟩ : MethodName) ∈ BIG := bigIn 223 (by rfl) (by rfl)
theorem wd224 : Cond.fieldLink "java/lang/Throwable" 13 "java/lang/Throwable" "UNASSIGNED_STACK" "[Ljava/lang/StackTraceElement;" ∈ BIG := bigIn 224 (by rfl) (by rfl)
theorem wt225 : Cond.laysStatic "java/lang/Throwable" "UNASSIGNED_STACK" "[Ljava/lang/StackTraceElement;" ∈ lw_tbl := List.mem_of_getElem? (i := 225) (by rfl)
theorem wd226 : Cond.fieldLink "java/lang/Throwable" 20 "java/lang/Throwable" "SUPPRESSED_SENTINEL" "Ljava/util/List;" ∈ BIG := bigIn 226 (by rfl) (by rfl)
theorem wt227 : Cond.laysStatic "java/lang/Throwable" "SUPPRESSED_SENTINEL" "Ljava/util/List;" ∈ lw_tbl := List.mem_of_getElem? (i := 227) (by rfl)
theorem wd228 : Cond.methodLink "java/lang/Throwable" 27 (⟨"java/lang/Throwable", "fillInStackTrace", "()Ljava/lang/Throwable;"⟩ : MethodName) ∈ BIG := bigIn 228 (by rfl) (by rfl)
theorem wd229 : Cond.instanceMethod (⟨"java/lang/Throwable", "fillInStackTrace", "()Ljava/lang/Throwable;"⟩ : MethodName) ∈ BIG := bigIn 229 (by rfl) (by rfl)
theorem wd230 : Cond.sameMethod "java/lang/Throwable" "java/lang/Throwable" "fillInStackTrace" "()Ljava/lang/Throwable;" ∈ BIG := bigIn 230 (by rfl) (by rfl)
theorem wd231 : Cond.selects "java/lang/IllegalStateException" (⟨"java/lang/Throwable", "fillInStackTrace", "()Ljava/lang/Throwable;"⟩ : MethodName) (⟨"java/lang/Throwable", "fillInStackTrace", "()Ljava/lang/Throwable;"⟩ : MethodName) ∈ BIG := bigIn 231 (by rfl) (by rfl)
theorem wd232 : Cond.selects "java/lang/IndexOutOfBoundsException" (⟨"java/lang/Throwable", "fillInStackTrace", "()Ljava/lang/Throwable;"⟩ : MethodName) (⟨"java/lang/Throwable", "fillInStackTrace", "()Ljava/lang/Throwable;"⟩ : MethodName) ∈ BIG := bigIn 232 (by rfl) (by rfl)
theorem wd234 : Cond.methodLink "java/lang/Throwable" 202 (⟨"java/lang/Throwable", "fillInStackTrace", "(I)Ljava/lang/Throwable;"⟩ : MethodName) ∈ BIG := bigIn 234 (by rfl) (by rfl)
theorem wd236 : Cond.instanceMethod (⟨"java/lang/Throwable", "fillInStackTrace", "(I)Ljava/lang/Throwable;"⟩ : MethodName) ∈ BIG := bigIn 236 (by rfl) (by rfl)
theorem wd237 : Cond.instantiable "java/lang/Throwable" 6 ∈ BIG := bigIn 237 (by rfl) (by rfl)
theorem wt239 : Cond.stringRef "FretSchool" 222 "an argument is out of range" ∈ lw_tbl := List.mem_of_getElem? (i := 239) (by rfl)
theorem wd240 : Cond.methodLink "FretSchool" 224 (⟨"java/lang/IllegalArgumentException", "<init>", "(Ljava/lang/String;)V"⟩ : MethodName) ∈ BIG := bigIn 240 (by rfl) (by rfl)
theorem wd241 : Cond.instanceMethod (⟨"java/lang/IllegalArgumentException", "<init>", "(Ljava/lang/String;)V"⟩ : MethodName) ∈ BIG := bigIn 241 (by rfl) (by rfl)
theorem wd242 : Cond.code (⟨"java/lang/IllegalArgumentException", "<init>", "(Ljava/lang/String;)V"⟩ : MethodName) prog_10_method_2_code 2 (none : Option Jvm.ClassFile.FieldType) ∈ BIG := bigIn 242 (by rfl) (by rfl)
theorem wd243 : Cond.methodLink "java/lang/IllegalArgumentException" 7 (⟨"java/lang/RuntimeException", "<init>", "(Ljava/lang/String;)V"⟩ : MethodName) ∈ BIG := bigIn 243 (by rfl) (by rfl)
theorem wd244 : Cond.instanceMethod (⟨"java/lang/RuntimeException", "<init>", "(Ljava/lang/String;)V"⟩ : MethodName) ∈ BIG := bigIn 244 (by rfl) (by rfl)
theorem wd245 : Cond.code (⟨"java/lang/RuntimeException", "<init>", "(Ljava/lang/String;)V"⟩ : MethodName) prog_14_method_2_code 2 (none : Option Jvm.ClassFile.FieldType) ∈ BIG := bigIn 245 (by rfl) (by rfl)
theorem wd246 : Cond.methodLink "java/lang/RuntimeException" 7 (⟨"java/lang/Exception", "<init>", "(Ljava/lang/String;)V"⟩ : MethodName) ∈ BIG := bigIn 246 (by rfl) (by rfl)
theorem wd247 : Cond.instanceMethod (⟨"java/lang/Exception", "<init>", "(Ljava/lang/String;)V"⟩ : MethodName) ∈ BIG := bigIn 247 (by rfl) (by rfl)
theorem wd248 : Cond.code (⟨"java/lang/Exception", "<init>", "(Ljava/lang/String;)V"⟩ : MethodName) prog_9_method_2_code 2 (none : Option Jvm.ClassFile.FieldType) ∈ BIG := bigIn 248 (by rfl) (by rfl)
theorem wd249 : Cond.methodLink "java/lang/Exception" 7 (⟨"java/lang/Throwable", "<init>", "(Ljava/lang/String;)V"⟩ : MethodName) ∈ BIG := bigIn 249 (by rfl) (by rfl)
theorem wd250 : Cond.instanceMethod (⟨"java/lang/Throwable", "<init>", "(Ljava/lang/String;)V"⟩ : MethodName) ∈ BIG := bigIn 250 (by rfl) (by rfl)
theorem wd251 : Cond.code (⟨"java/lang/Throwable", "<init>", "(Ljava/lang/String;)V"⟩ : MethodName) prog_16_method_2_code 2 (none : Option Jvm.ClassFile.FieldType) ∈ BIG := bigIn 251 (by rfl) (by rfl)
theorem wd252 : Cond.fieldLink "java/lang/Throwable" 198 "java/lang/Throwable" "backtrace" "Ljava/lang/Object;" ∈ BIG := bigIn 252 (by rfl) (by rfl)
theorem wd253 : Cond.fieldLink "java/lang/Throwable" 31 "java/lang/Throwable" "detailMessage" "Ljava/lang/String;" ∈ BIG := bigIn 253 (by rfl) (by rfl)
theorem wd254 : Cond.fieldLink "java/lang/Throwable" 7 "java/lang/Throwable" "cause" "Ljava/lang/Throwable;" ∈ BIG := bigIn 254 (by rfl) (by rfl)
theorem wd255 : Cond.fieldLink "java/lang/Throwable" 17 "java/lang/Throwable" "stackTrace" "[Ljava/lang/StackTraceElement;" ∈ BIG := bigIn 255 (by rfl) (by rfl)
theorem wd256 : Cond.fieldLink "java/lang/Throwable" 24 "java/lang/Throwable" "suppressedExceptions" "Ljava/util/List;" ∈ BIG := bigIn 256 (by rfl) (by rfl)
theorem wd261 : Cond.lays "java/lang/IllegalArgumentException" "java/lang/Throwable" "depth" "I" ∈ BIG := bigIn 261 (by rfl) (by rfl)
theorem wd265 : Cond.arrayClass .byte ∈ BIG := bigIn 265 (by rfl) (by rfl)
theorem wd266 : Cond.constant "FretSchoolLaw" 28 (-1000002 : Int32) ∈ BIG := bigIn 266 (by rfl) (by rfl)
theorem wd267 : Cond.methodLink "FretSchoolLaw" 110 yL_known ∈ BIG := bigIn 267 (by rfl) (by rfl)
theorem wd268 : Cond.static yL_known ∈ BIG := bigIn 268 (by rfl) (by rfl)
theorem wd269 : Cond.codeWith yL_known cL_known 3 (some .int) [(0, 5, 6, 26)] ∈ BIG := bigIn 269 (by rfl) (by rfl)
theorem wd270 : Cond.methodLink "FretSchoolLaw" 65 yX5_known ∈ BIG := bigIn 270 (by rfl) (by rfl)
theorem wd271 : Cond.instanceMethod yX5_known ∈ BIG := bigIn 271 (by rfl) (by rfl)
theorem wd272 : Cond.selects "FretSchool" yX5_known yX5_known ∈ BIG := bigIn 272 (by rfl) (by rfl)
theorem wd273 : Cond.code yX5_known cX5_known 2 (some .int) ∈ BIG := bigIn 273 (by rfl) (by rfl)
theorem wd274 : Cond.methodLink "FretSchoolLaw" 115 yL_next ∈ BIG := bigIn 274 (by rfl) (by rfl)
theorem wd275 : Cond.static yL_next ∈ BIG := bigIn 275 (by rfl) (by rfl)
theorem wd276 : Cond.codeWith yL_next cL_next 3 (some .int) [(0, 5, 6, 26)] ∈ BIG := bigIn 276 (by rfl) (by rfl)
theorem wd277 : Cond.methodLink "FretSchoolLaw" 68 yX5_next ∈ BIG := bigIn 277 (by rfl) (by rfl)
theorem wd278 : Cond.instanceMethod yX5_next ∈ BIG := bigIn 278 (by rfl) (by rfl)
theorem wd279 : Cond.selects "FretSchool" yX5_next yX5_next ∈ BIG := bigIn 279 (by rfl) (by rfl)
theorem wd280 : Cond.code yX5_next cX5_next 6 (some .int) ∈ BIG := bigIn 280 (by rfl) (by rfl)
theorem wd281 : Cond.methodLink "FretSchool" 139 yX4_knows ∈ BIG := bigIn 281 (by rfl) (by rfl)
theorem wd282 : Cond.instanceMethod yX4_knows ∈ BIG := bigIn 282 (by rfl) (by rfl)
theorem wd283 : Cond.selects "FretSchool$Pupil" yX4_knows yX4_knows ∈ BIG := bigIn 283 (by rfl) (by rfl)
theorem wd284 : Cond.code yX4_knows cX4_knows 2 (some .boolean) ∈ BIG := bigIn 284 (by rfl) (by rfl)
theorem wd285 : Cond.methodLink "FretSchool" 159 yX5_easiestShift ∈ BIG := bigIn 285 (by rfl) (by rfl)
theorem wd287 : Cond.instanceMethod yX5_easiestShift ∈ BIG := bigIn 287 (by rfl) (by rfl)
theorem wd288 : Cond.code yX5_easiestShift cX5_easiestShift 6 (some .int) ∈ BIG := bigIn 288 (by rfl) (by rfl)
theorem wd289 : Cond.methodLink "FretSchool" 144 yX5_learnableShift ∈ BIG := bigIn 289 (by rfl) (by rfl)
theorem wd291 : Cond.instanceMethod yX5_learnableShift ∈ BIG := bigIn 291 (by rfl) (by rfl)
theorem wd292 : Cond.code yX5_learnableShift cX5_learnableShift 5 (some .int) ∈ BIG := bigIn 292 (by rfl) (by rfl)
theorem wd293 : Cond.methodLink "FretSchool" 225 yX0_placeBest ∈ BIG := bigIn 293 (by rfl) (by rfl)
theorem wd294 : Cond.instanceMethod yX0_placeBest ∈ BIG := bigIn 294 (by rfl) (by rfl)
theorem wd295 : Cond.selects "FretSchool$Hand" yX0_placeBest yX0_placeBest ∈ BIG := bigIn 295 (by rfl) (by rfl)
theorem wd296 : Cond.code yX0_placeBest cX0_placeBest 4 (some .boolean) ∈ BIG := bigIn 296 (by rfl) (by rfl)
theorem wd297 : Cond.methodLink "FretSchool$Hand" 30 yX0_feelReach ∈ BIG := bigIn 297 (by rfl) (by rfl)
theorem wd299 : Cond.instanceMethod yX0_feelReach ∈ BIG := bigIn 299 (by rfl) (by rfl)
theorem wd300 : Cond.code yX0_feelReach cX0_feelReach 6 (none : Option Jvm.ClassFile.FieldType) ∈ BIG := bigIn 300 (by rfl) (by rfl)
theorem wd301 : Cond.methodLink "FretSchool$Hand" 52 yX1_highestPosition ∈ BIG := bigIn 301 (by rfl) (by rfl)
theorem wd302 : Cond.instanceMethod yX1_highestPosition ∈ BIG := bigIn 302 (by rfl) (by rfl)
theorem wd303 : Cond.selects "FretSchool$Instrument" yX1_highestPosition yX1_highestPosition ∈ BIG := bigIn 303 (by rfl) (by rfl)
theorem wd304 : Cond.code yX1_highestPosition cX1_highestPosition 1 (some .int) ∈ BIG := bigIn 304 (by rfl) (by rfl)
theorem wd305 : Cond.methodLink "FretSchool$Hand" 61 yX1_lowestString ∈ BIG := bigIn 305 (by rfl) (by rfl)
theorem wd306 : Cond.instanceMethod yX1_lowestString ∈ BIG := bigIn 306 (by rfl) (by rfl)
theorem wd307 : Cond.selects "FretSchool$Instrument" yX1_lowestString yX1_lowestString ∈ BIG := bigIn 307 (by rfl) (by rfl)
theorem wd308 : Cond.code yX1_lowestString cX1_lowestString 5 (some .int) ∈ BIG := bigIn 308 (by rfl) (by rfl)
theorem wd309 : Cond.methodLink "FretSchool$Hand" 39 yX0_measureRest ∈ BIG := bigIn 309 (by rfl) (by rfl)
theorem wd311 : Cond.instanceMethod yX0_measureRest ∈ BIG := bigIn 311 (by rfl) (by rfl)
theorem wd312 : Cond.code yX0_measureRest cX0_measureRest 5 (none : Option Jvm.ClassFile.FieldType) ∈ BIG := bigIn 312 (by rfl) (by rfl)
theorem wd313 : Cond.methodLink "FretSchool$Hand" 65 yX0_nearest ∈ BIG := bigIn 313 (by rfl) (by rfl)
theorem wd315 : Cond.instanceMethod yX0_nearest ∈ BIG := bigIn 315 (by rfl) (by rfl)
theorem wd316 : Cond.code yX0_nearest cX0_nearest 7 (some .int) ∈ BIG := bigIn 316 (by rfl) (by rfl)
theorem wd317 : Cond.constant "FretSchool$Hand" 51 (1000000 : Int32) ∈ BIG := bigIn 317 (by rfl) (by rfl)
theorem wd318 : Cond.methodLink "FretSchool$Hand" 72 yX0_shift ∈ BIG := bigIn 318 (by rfl) (by rfl)
theorem wd319 : Cond.static yX0_shift ∈ BIG := bigIn 319 (by rfl) (by rfl)
theorem wd320 : Cond.code yX0_shift cX0_shift 2 (some .int) ∈ BIG := bigIn 320 (by rfl) (by rfl)
theorem wd321 : Cond.methodLink "FretSchool$Hand" 75 yJ9_abs_0f7a4 ∈ BIG := bigIn 321 (by rfl) (by rfl)
theorem wd322 : Cond.static yJ9_abs_0f7a4 ∈ BIG := bigIn 322 (by rfl) (by rfl)
theorem wd323 : Cond.code yJ9_abs_0f7a4 cJ9_abs_0f7a4 1 (some .int) ∈ BIG := bigIn 323 (by rfl) (by rfl)
theorem wd324 : Cond.methodLink "FretSchool$Hand" 68 yX0_canReach ∈ BIG := bigIn 324 (by rfl) (by rfl)
theorem wd325 : Cond.static yX0_canReach ∈ BIG := bigIn 325 (by rfl) (by rfl)
theorem wd326 : Cond.code yX0_canReach cX0_canReach 2 (some .boolean) ∈ BIG := bigIn 326 (by rfl) (by rfl)
theorem wd327 : Cond.methodLink "FretSchool$Hand" 43 yX0_chooseRow ∈ BIG := bigIn 327 (by rfl) (by rfl)
theorem wd329 : Cond.instanceMethod yX0_chooseRow ∈ BIG := bigIn 329 (by rfl) (by rfl)
theorem wd330 : Cond.code yX0_chooseRow cX0_chooseRow 6 (some .boolean) ∈ BIG := bigIn 330 (by rfl) (by rfl)
theorem wd331 : Cond.methodLink "FretSchoolLaw" 170 yL_fingers ∈ BIG := bigIn 331 (by rfl) (by rfl)
theorem wd332 : Cond.static yL_fingers ∈ BIG := bigIn 332 (by rfl) (by rfl)
theorem wd333 : Cond.code yL_fingers cL_fingers 18 (some .boolean) ∈ BIG := bigIn 333 (by rfl) (by rfl)
theorem wd334 : Cond.methodLink "FretSchoolLaw" 87 yL_pitch ∈ BIG := bigIn 334 (by rfl) (by rfl)
theorem wd335 : Cond.static yL_pitch ∈ BIG := bigIn 335 (by rfl) (by rfl)
theorem wd336 : Cond.codeWith yL_pitch cL_pitch 4 (some .int) [(0, 6, 7, 23)] ∈ BIG := bigIn 336 (by rfl) (by rfl)
theorem wd337 : Cond.classLink "FretSchoolLaw" 23 "java/lang/IndexOutOfBoundsException" ∈ BIG := bigIn 337 (by rfl) (by rfl)
theorem wd338 : Cond.methodLink "FretSchoolLaw" 33 yX5_pitch ∈ BIG := bigIn 338 (by rfl) (by rfl)
theorem wd339 : Cond.instanceMethod yX5_pitch ∈ BIG := bigIn 339 (by rfl) (by rfl)
theorem wd340 : Cond.selects "FretSchool" yX5_pitch yX5_pitch ∈ BIG := bigIn 340 (by rfl) (by rfl)
theorem wd341 : Cond.code yX5_pitch cX5_pitch 3 (some .int) ∈ BIG := bigIn 341 (by rfl) (by rfl)
theorem wd342 : Cond.methodLink "FretSchool" 97 yX5_needNote ∈ BIG := bigIn 342 (by rfl) (by rfl)
theorem wd344 : Cond.instanceMethod yX5_needNote ∈ BIG := bigIn 344 (by rfl) (by rfl)
theorem wd345 : Cond.code yX5_needNote cX5_needNote 3 (none : Option Jvm.ClassFile.FieldType) ∈ BIG := bigIn 345 (by rfl) (by rfl)
theorem wd346 : Cond.methodLink "FretSchool" 68 yX5_needPiece ∈ BIG := bigIn 346 (by rfl) (by rfl)
theorem wd348 : Cond.instanceMethod yX5_needPiece ∈ BIG := bigIn 348 (by rfl) (by rfl)
theorem wd349 : Cond.code yX5_needPiece cX5_needPiece 2 (none : Option Jvm.ClassFile.FieldType) ∈ BIG := bigIn 349 (by rfl) (by rfl)
theorem wd350 : Cond.classLink "FretSchool" 209 "java/lang/IndexOutOfBoundsException" ∈ BIG := bigIn 350 (by rfl) (by rfl)
theorem wd351 : Cond.instantiable "java/lang/IndexOutOfBoundsException" 6 ∈ BIG := bigIn 351 (by rfl) (by rfl)
theorem wt352 : Cond.castable "java/lang/IndexOutOfBoundsException" "java/lang/IndexOutOfBoundsException" ∈ lw_tbl := List.mem_of_getElem? (i := 352) (by rfl)
theorem wd353 : Cond.selects "java/lang/IndexOutOfBoundsException" (⟨"java/lang/Throwable", "fillInStackTrace", "(I)Ljava/lang/Throwable;"⟩ : MethodName) (⟨"java/lang/Throwable", "fillInStackTrace", "(I)Ljava/lang/Throwable;"⟩ : MethodName) ∈ BIG := bigIn 353 (by rfl) (by rfl)
theorem wd354 : Cond.lays "java/lang/IndexOutOfBoundsException" "java/lang/Throwable" "cause" "Ljava/lang/Throwable;" ∈ BIG := bigIn 354 (by rfl) (by rfl)
theorem wd355 : Cond.lays "java/lang/IndexOutOfBoundsException" "java/lang/Throwable" "stackTrace" "[Ljava/lang/StackTraceElement;" ∈ BIG := bigIn 355 (by rfl) (by rfl)
theorem wd356 : Cond.lays "java/lang/IndexOutOfBoundsException" "java/lang/Throwable" "suppressedExceptions" "Ljava/util/List;" ∈ BIG := bigIn 356 (by rfl) (by rfl)
theorem wd357 : Cond.lays "java/lang/IndexOutOfBoundsException" "java/lang/Throwable" "detailMessage" "Ljava/lang/String;" ∈ BIG := bigIn 357 (by rfl) (by rfl)
theorem wd358 : Cond.lays "java/lang/IndexOutOfBoundsException" "java/lang/Throwable" "backtrace" "Ljava/lang/Object;" ∈ BIG := bigIn 358 (by rfl) (by rfl)
theorem wt359 : Cond.stringRef "FretSchool" 211 "there is no such piece" ∈ lw_tbl := List.mem_of_getElem? (i := 359) (by rfl)
theorem wd360 : Cond.methodLink "FretSchool" 213 (⟨"java/lang/IndexOutOfBoundsException", "<init>", "(Ljava/lang/String;)V"⟩ : MethodName) ∈ BIG := bigIn 360 (by rfl) (by rfl)
theorem wd361 : Cond.instanceMethod (⟨"java/lang/IndexOutOfBoundsException", "<init>", "(Ljava/lang/String;)V"⟩ : MethodName) ∈ BIG := bigIn 361 (by rfl) (by rfl)
theorem wd362 : Cond.code (⟨"java/lang/IndexOutOfBoundsException", "<init>", "(Ljava/lang/String;)V"⟩ : MethodName) prog_12_method_2_code 2 (none : Option Jvm.ClassFile.FieldType) ∈ BIG := bigIn 362 (by rfl) (by rfl)
theorem wd363 : Cond.methodLink "java/lang/IndexOutOfBoundsException" 7 (⟨"java/lang/RuntimeException", "<init>", "(Ljava/lang/String;)V"⟩ : MethodName) ∈ BIG := bigIn 363 (by rfl) (by rfl)
theorem wd364 : Cond.lays "java/lang/IndexOutOfBoundsException" "java/lang/Throwable" "depth" "I" ∈ BIG := bigIn 364 (by rfl) (by rfl)
theorem wt366 : Cond.stringRef "FretSchool" 214 "there is no such note" ∈ lw_tbl := List.mem_of_getElem? (i := 366) (by rfl)
theorem wd367 : Cond.constant "FretSchoolLaw" 25 (-1000001 : Int32) ∈ BIG := bigIn 367 (by rfl) (by rfl)
theorem wd368 : Cond.methodLink "FretSchoolLaw" 92 yL_apart ∈ BIG := bigIn 368 (by rfl) (by rfl)
theorem wd369 : Cond.static yL_apart ∈ BIG := bigIn 369 (by rfl) (by rfl)
theorem wd370 : Cond.code yL_apart cL_apart 2 (some .int) ∈ BIG := bigIn 370 (by rfl) (by rfl)
theorem wd371 : Cond.methodLink "FretSchoolLaw" 95 yL_stringOf ∈ BIG := bigIn 371 (by rfl) (by rfl)
theorem wd372 : Cond.static yL_stringOf ∈ BIG := bigIn 372 (by rfl) (by rfl)
theorem wd373 : Cond.code yL_stringOf cL_stringOf 7 (some .int) ∈ BIG := bigIn 373 (by rfl) (by rfl)
theorem wd374 : Cond.methodLink "FretSchoolLaw" 99 yL_shifts ∈ BIG := bigIn 374 (by rfl) (by rfl)
theorem wd375 : Cond.static yL_shifts ∈ BIG := bigIn 375 (by rfl) (by rfl)
theorem wd376 : Cond.codeWith yL_shifts cL_shifts 4 (some .int) [(0, 6, 7, 23)] ∈ BIG := bigIn 376 (by rfl) (by rfl)
theorem wd377 : Cond.methodLink "FretSchoolLaw" 44 yX5_shifts ∈ BIG := bigIn 377 (by rfl) (by rfl)
theorem wd378 : Cond.instanceMethod yX5_shifts ∈ BIG := bigIn 378 (by rfl) (by rfl)
theorem wd379 : Cond.selects "FretSchool" yX5_shifts yX5_shifts ∈ BIG := bigIn 379 (by rfl) (by rfl)
theorem wd380 : Cond.code yX5_shifts cX5_shifts 3 (some .int) ∈ BIG := bigIn 380 (by rfl) (by rfl)
theorem wd381 : Cond.methodLink "FretSchool" 113 yX5_findBest ∈ BIG := bigIn 381 (by rfl) (by rfl)
theorem wd383 : Cond.instanceMethod yX5_findBest ∈ BIG := bigIn 383 (by rfl) (by rfl)
theorem wd384 : Cond.code yX5_findBest cX5_findBest 3 (some .boolean) ∈ BIG := bigIn 384 (by rfl) (by rfl)
theorem wd385 : Cond.methodLink "FretSchool" 104 yX5_needInstrument ∈ BIG := bigIn 385 (by rfl) (by rfl)
theorem wd387 : Cond.instanceMethod yX5_needInstrument ∈ BIG := bigIn 387 (by rfl) (by rfl)
theorem wd388 : Cond.code yX5_needInstrument cX5_needInstrument 2 (none : Option Jvm.ClassFile.FieldType) ∈ BIG := bigIn 388 (by rfl) (by rfl)
theorem wt389 : Cond.stringRef "FretSchool" 216 "there is no such instrument" ∈ lw_tbl := List.mem_of_getElem? (i := 389) (by rfl)
theorem wd390 : Cond.methodLink "FretSchoolLaw" 101 yL_hardest ∈ BIG := bigIn 390 (by rfl) (by rfl)
theorem wd391 : Cond.static yL_hardest ∈ BIG := bigIn 391 (by rfl) (by rfl)
theorem wd392 : Cond.codeWith yL_hardest cL_hardest 4 (some .int) [(0, 6, 7, 23)] ∈ BIG := bigIn 392 (by rfl) (by rfl)
theorem wd393 : Cond.methodLink "FretSchoolLaw" 50 yX5_hardest ∈ BIG := bigIn 393 (by rfl) (by rfl)
theorem wd394 : Cond.instanceMethod yX5_hardest ∈ BIG := bigIn 394 (by rfl) (by rfl)
theorem wd395 : Cond.selects "FretSchool" yX5_hardest yX5_hardest ∈ BIG := bigIn 395 (by rfl) (by rfl)
theorem wd396 : Cond.code yX5_hardest cX5_hardest 3 (some .int) ∈ BIG := bigIn 396 (by rfl) (by rfl)
theorem wd397 : Cond.methodLink "FretSchoolLaw" 103 yL_position ∈ BIG := bigIn 397 (by rfl) (by rfl)
theorem wd398 : Cond.static yL_position ∈ BIG := bigIn 398 (by rfl) (by rfl)
theorem wd399 : Cond.codeWith yL_position cL_position 5 (some .int) [(0, 7, 8, 23)] ∈ BIG := bigIn 399 (by rfl) (by rfl)
theorem wd400 : Cond.methodLink "FretSchoolLaw" 53 yX5_position ∈ BIG := bigIn 400 (by rfl) (by rfl)
theorem wd401 : Cond.instanceMethod yX5_position ∈ BIG := bigIn 401 (by rfl) (by rfl)
theorem wd402 : Cond.selects "FretSchool" yX5_position yX5_position ∈ BIG := bigIn 402 (by rfl) (by rfl)
theorem wd403 : Cond.code yX5_position cX5_position 4 (some .int) ∈ BIG := bigIn 403 (by rfl) (by rfl)
theorem wd404 : Cond.methodLink "FretSchoolLaw" 106 yL_string ∈ BIG := bigIn 404 (by rfl) (by rfl)
theorem wd405 : Cond.static yL_string ∈ BIG := bigIn 405 (by rfl) (by rfl)
theorem wd406 : Cond.codeWith yL_string cL_string 5 (some .int) [(0, 7, 8, 23)] ∈ BIG := bigIn 406 (by rfl) (by rfl)
theorem wd407 : Cond.methodLink "FretSchoolLaw" 56 yX5_string ∈ BIG := bigIn 407 (by rfl) (by rfl)
theorem wd408 : Cond.instanceMethod yX5_string ∈ BIG := bigIn 408 (by rfl) (by rfl)
theorem wd409 : Cond.selects "FretSchool" yX5_string yX5_string ∈ BIG := bigIn 409 (by rfl) (by rfl)
theorem wd410 : Cond.code yX5_string cX5_string 4 (some .int) ∈ BIG := bigIn 410 (by rfl) (by rfl)
theorem wd411 : Cond.methodLink "FretSchool" 132 yX1_lowestString ∈ BIG := bigIn 411 (by rfl) (by rfl)
theorem wd412 : Cond.methodLink "FretSchoolLaw" 108 yL_shiftsByAll ∈ BIG := bigIn 412 (by rfl) (by rfl)
theorem wd413 : Cond.static yL_shiftsByAll ∈ BIG := bigIn 413 (by rfl) (by rfl)
theorem wd414 : Cond.codeWith yL_shiftsByAll cL_shiftsByAll 4 (some .int) [(0, 6, 7, 23), (0, 6, 11, 16)] ∈ BIG := bigIn 414 (by rfl) (by rfl)
theorem wd415 : Cond.classLink "FretSchoolLaw" 16 "java/lang/IllegalStateException" ∈ BIG := bigIn 415 (by rfl) (by rfl)
theorem wd416 : Cond.methodLink "FretSchoolLaw" 47 yX5_shiftsByAll ∈ BIG := bigIn 416 (by rfl) (by rfl)
theorem wd417 : Cond.instanceMethod yX5_shiftsByAll ∈ BIG := bigIn 417 (by rfl) (by rfl)
theorem wd418 : Cond.selects "FretSchool" yX5_shiftsByAll yX5_shiftsByAll ∈ BIG := bigIn 418 (by rfl) (by rfl)
theorem wd419 : Cond.code yX5_shiftsByAll cX5_shiftsByAll 3 (some .int) ∈ BIG := bigIn 419 (by rfl) (by rfl)
theorem wd420 : Cond.classLink "FretSchool" 61 "java/lang/IllegalStateException" ∈ BIG := bigIn 420 (by rfl) (by rfl)
theorem wd421 : Cond.instantiable "java/lang/IllegalStateException" 6 ∈ BIG := bigIn 421 (by rfl) (by rfl)
theorem wt422 : Cond.castable "java/lang/IllegalStateException" "java/lang/IllegalStateException" ∈ lw_tbl := List.mem_of_getElem? (i := 422) (by rfl)
theorem wd423 : Cond.selects "java/lang/IllegalStateException" (⟨"java/lang/Throwable", "fillInStackTrace", "(I)Ljava/lang/Throwable;"⟩ : MethodName) (⟨"java/lang/Throwable", "fillInStackTrace", "(I)Ljava/lang/Throwable;"⟩ : MethodName) ∈ BIG := bigIn 423 (by rfl) (by rfl)
theorem wd424 : Cond.lays "java/lang/IllegalStateException" "java/lang/Throwable" "cause" "Ljava/lang/Throwable;" ∈ BIG := bigIn 424 (by rfl) (by rfl)
theorem wd425 : Cond.lays "java/lang/IllegalStateException" "java/lang/Throwable" "stackTrace" "[Ljava/lang/StackTraceElement;" ∈ BIG := bigIn 425 (by rfl) (by rfl)
theorem wd426 : Cond.lays "java/lang/IllegalStateException" "java/lang/Throwable" "suppressedExceptions" "Ljava/util/List;" ∈ BIG := bigIn 426 (by rfl) (by rfl)
theorem wd427 : Cond.lays "java/lang/IllegalStateException" "java/lang/Throwable" "detailMessage" "Ljava/lang/String;" ∈ BIG := bigIn 427 (by rfl) (by rfl)
theorem wd428 : Cond.lays "java/lang/IllegalStateException" "java/lang/Throwable" "backtrace" "Ljava/lang/Object;" ∈ BIG := bigIn 428 (by rfl) (by rfl)
theorem wt429 : Cond.stringRef "FretSchool" 120 "the piece has more than 4 notes" ∈ lw_tbl := List.mem_of_getElem? (i := 429) (by rfl)
theorem wd430 : Cond.methodLink "FretSchool" 65 (⟨"java/lang/IllegalStateException", "<init>", "(Ljava/lang/String;)V"⟩ : MethodName) ∈ BIG := bigIn 430 (by rfl) (by rfl)
theorem wd431 : Cond.instanceMethod (⟨"java/lang/IllegalStateException", "<init>", "(Ljava/lang/String;)V"⟩ : MethodName) ∈ BIG := bigIn 431 (by rfl) (by rfl)
theorem wd432 : Cond.code (⟨"java/lang/IllegalStateException", "<init>", "(Ljava/lang/String;)V"⟩ : MethodName) prog_11_method_2_code 2 (none : Option Jvm.ClassFile.FieldType) ∈ BIG := bigIn 432 (by rfl) (by rfl)
theorem wd433 : Cond.methodLink "java/lang/IllegalStateException" 7 (⟨"java/lang/RuntimeException", "<init>", "(Ljava/lang/String;)V"⟩ : MethodName) ∈ BIG := bigIn 433 (by rfl) (by rfl)
theorem wd434 : Cond.lays "java/lang/IllegalStateException" "java/lang/Throwable" "depth" "I" ∈ BIG := bigIn 434 (by rfl) (by rfl)
theorem wd436 : Cond.methodLink "FretSchool" 122 yX0_leastByAll ∈ BIG := bigIn 436 (by rfl) (by rfl)
theorem wd437 : Cond.instanceMethod yX0_leastByAll ∈ BIG := bigIn 437 (by rfl) (by rfl)
theorem wd438 : Cond.selects "FretSchool$Hand" yX0_leastByAll yX0_leastByAll ∈ BIG := bigIn 438 (by rfl) (by rfl)
theorem wd439 : Cond.code yX0_leastByAll cX0_leastByAll 4 (some .int) ∈ BIG := bigIn 439 (by rfl) (by rfl)
set_option maxRecDepth 20000 in
theorem wd440 : Cond.methodLink "FretSchool$Hand" 47 yX0_leastFrom ∈ BIG := bigIn 440 (by rfl) (by rfl)
set_option maxRecDepth 20000 in
theorem wd441 : Cond.static yX0_leastFrom ∈ BIG := bigIn 441 (by rfl) (by rfl)
set_option maxRecDepth 20000 in
theorem wd442 : Cond.code yX0_leastFrom cX0_leastFrom 7 (some .int) ∈ BIG := bigIn 442 (by rfl) (by rfl)
set_option maxRecDepth 20000 in
theorem wd443 : Cond.constant "FretSchoolLaw" 18 (-1000003 : Int32) ∈ BIG := bigIn 443 (by rfl) (by rfl)
set_option maxRecDepth 20000 in
theorem wd444 : Cond.methodLink "FretSchoolLaw" 178 yL_acts ∈ BIG := bigIn 444 (by rfl) (by rfl)
set_option maxRecDepth 20000 in
theorem wd445 : Cond.static yL_acts ∈ BIG := bigIn 445 (by rfl) (by rfl)
set_option maxRecDepth 20000 in
theorem wd446 : Cond.code yL_acts cL_acts 15 (some .boolean) ∈ BIG := bigIn 446 (by rfl) (by rfl)
set_option maxRecDepth 20000 in
theorem wd447 : Cond.methodLink "FretSchoolLaw" 121 yL_low ∈ BIG := bigIn 447 (by rfl) (by rfl)
set_option maxRecDepth 20000 in
theorem wd448 : Cond.static yL_low ∈ BIG := bigIn 448 (by rfl) (by rfl)
set_option maxRecDepth 20000 in
theorem wd449 : Cond.code yL_low cL_low 2 (some .int) ∈ BIG := bigIn 449 (by rfl) (by rfl)
set_option maxRecDepth 20000 in
theorem wd450 : Cond.constant "FretSchoolLaw" 9 (2147483647 : Int32) ∈ BIG := bigIn 450 (by rfl) (by rfl)
set_option maxRecDepth 20000 in
theorem wd451 : Cond.methodLink "FretSchoolLaw" 141 yL_pieces ∈ BIG := bigIn 451 (by rfl) (by rfl)
set_option maxRecDepth 20000 in
theorem wd452 : Cond.static yL_pieces ∈ BIG := bigIn 452 (by rfl) (by rfl)
set_option maxRecDepth 20000 in
theorem wd453 : Cond.code yL_pieces cL_pieces 10 (some .boolean) ∈ BIG := bigIn 453 (by rfl) (by rfl)
set_option maxRecDepth 20000 in
theorem wd454 : Cond.methodLink "FretSchoolLaw" 124 yL_begin ∈ BIG := bigIn 454 (by rfl) (by rfl)
set_option maxRecDepth 20000 in
theorem wd455 : Cond.static yL_begin ∈ BIG := bigIn 455 (by rfl) (by rfl)
set_option maxRecDepth 20000 in
theorem wd456 : Cond.codeWith yL_begin cL_begin 2 (some .int) [(0, 4, 5, 16)] ∈ BIG := bigIn 456 (by rfl) (by rfl)
set_option maxRecDepth 20000 in
theorem wd457 : Cond.methodLink "FretSchoolLaw" 10 yX5_begin ∈ BIG := bigIn 457 (by rfl) (by rfl)
set_option maxRecDepth 20000 in
theorem wd458 : Cond.instanceMethod yX5_begin ∈ BIG := bigIn 458 (by rfl) (by rfl)
set_option maxRecDepth 20000 in
theorem wd459 : Cond.selects "FretSchool" yX5_begin yX5_begin ∈ BIG := bigIn 459 (by rfl) (by rfl)
set_option maxRecDepth 20000 in
theorem wd460 : Cond.code yX5_begin cX5_begin 2 (some .int) ∈ BIG := bigIn 460 (by rfl) (by rfl)
set_option maxRecDepth 20000 in
theorem wt461 : Cond.stringRef "FretSchool" 63 "there are 8 pieces" ∈ lw_tbl := List.mem_of_getElem? (i := 461) (by rfl)
set_option maxRecDepth 20000 in
theorem wd462 : Cond.methodLink "FretSchoolLaw" 127 yL_addNote ∈ BIG := bigIn 462 (by rfl) (by rfl)
set_option maxRecDepth 20000 in
theorem wd463 : Cond.static yL_addNote ∈ BIG := bigIn 463 (by rfl) (by rfl)
set_option maxRecDepth 20000 in
theorem wd464 : Cond.codeWith yL_addNote cL_addNote 4 (some .int) [(0, 6, 7, 23), (0, 6, 11, 26), (0, 6, 15, 16)] ∈ BIG := bigIn 464 (by rfl) (by rfl)
set_option maxRecDepth 20000 in
theorem wd465 : Cond.methodLink "FretSchoolLaw" 19 yX5_addNote ∈ BIG := bigIn 465 (by rfl) (by rfl)
set_option maxRecDepth 20000 in
theorem wd466 : Cond.instanceMethod yX5_addNote ∈ BIG := bigIn 466 (by rfl) (by rfl)
set_option maxRecDepth 20000 in
theorem wd467 : Cond.selects "FretSchool" yX5_addNote yX5_addNote ∈ BIG := bigIn 467 (by rfl) (by rfl)
set_option maxRecDepth 20000 in
theorem wd468 : Cond.code yX5_addNote cX5_addNote 4 (some .int) ∈ BIG := bigIn 468 (by rfl) (by rfl)
set_option maxRecDepth 20000 in
theorem wd469 : Cond.methodLink "FretSchool" 76 yX3_isFull ∈ BIG := bigIn 469 (by rfl) (by rfl)
set_option maxRecDepth 20000 in
theorem wd470 : Cond.instanceMethod yX3_isFull ∈ BIG := bigIn 470 (by rfl) (by rfl)
set_option maxRecDepth 20000 in
theorem wd471 : Cond.selects "FretSchool$Piece" yX3_isFull yX3_isFull ∈ BIG := bigIn 471 (by rfl) (by rfl)
set_option maxRecDepth 20000 in
theorem wd472 : Cond.code yX3_isFull cX3_isFull 1 (some .boolean) ∈ BIG := bigIn 472 (by rfl) (by rfl)
set_option maxRecDepth 20000 in
theorem wt473 : Cond.stringRef "FretSchool" 80 "the piece has 16 notes" ∈ lw_tbl := List.mem_of_getElem? (i := 473) (by rfl)
set_option maxRecDepth 20000 in
theorem wd474 : Cond.methodLink "FretSchool" 82 yX3_append ∈ BIG := bigIn 474 (by rfl) (by rfl)
set_option maxRecDepth 20000 in
theorem wd475 : Cond.instanceMethod yX3_append ∈ BIG := bigIn 475 (by rfl) (by rfl)
set_option maxRecDepth 20000 in
theorem wd476 : Cond.selects "FretSchool$Piece" yX3_append yX3_append ∈ BIG := bigIn 476 (by rfl) (by rfl)
set_option maxRecDepth 20000 in
theorem wd477 : Cond.code yX3_append cX3_append 2 (none : Option Jvm.ClassFile.FieldType) ∈ BIG := bigIn 477 (by rfl) (by rfl)
set_option maxRecDepth 20000 in
theorem wd478 : Cond.methodLink "FretSchool$Piece" 19 yX3_isFull ∈ BIG := bigIn 478 (by rfl) (by rfl)
set_option maxRecDepth 20000 in
theorem wd479 : Cond.methodLink "FretSchoolLaw" 129 yL_transpose ∈ BIG := bigIn 479 (by rfl) (by rfl)
set_option maxRecDepth 20000 in
theorem wd480 : Cond.static yL_transpose ∈ BIG := bigIn 480 (by rfl) (by rfl)
set_option maxRecDepth 20000 in
theorem wd481 : Cond.codeWith yL_transpose cL_transpose 4 (some .int) [(0, 7, 8, 23), (0, 7, 12, 26), (0, 7, 16, 16)] ∈ BIG := bigIn 481 (by rfl) (by rfl)
set_option maxRecDepth 20000 in
theorem wd482 : Cond.methodLink "FretSchoolLaw" 29 yX5_transpose ∈ BIG := bigIn 482 (by rfl) (by rfl)
set_option maxRecDepth 20000 in
theorem wd483 : Cond.instanceMethod yX5_transpose ∈ BIG := bigIn 483 (by rfl) (by rfl)
set_option maxRecDepth 20000 in
theorem wd484 : Cond.selects "FretSchool" yX5_transpose yX5_transpose ∈ BIG := bigIn 484 (by rfl) (by rfl)
set_option maxRecDepth 20000 in
theorem wd485 : Cond.code yX5_transpose cX5_transpose 4 (none : Option Jvm.ClassFile.FieldType) ∈ BIG := bigIn 485 (by rfl) (by rfl)
set_option maxRecDepth 20000 in
theorem wd486 : Cond.methodLink "FretSchool" 88 yX3_canMove ∈ BIG := bigIn 486 (by rfl) (by rfl)
set_option maxRecDepth 20000 in
theorem wd487 : Cond.instanceMethod yX3_canMove ∈ BIG := bigIn 487 (by rfl) (by rfl)
set_option maxRecDepth 20000 in
theorem wd488 : Cond.selects "FretSchool$Piece" yX3_canMove yX3_canMove ∈ BIG := bigIn 488 (by rfl) (by rfl)
set_option maxRecDepth 20000 in
theorem wd489 : Cond.code yX3_canMove cX3_canMove 4 (some .boolean) ∈ BIG := bigIn 489 (by rfl) (by rfl)
set_option maxRecDepth 20000 in
theorem wt490 : Cond.stringRef "FretSchool" 92 "some pitch would not be from 0 to 80" ∈ lw_tbl := List.mem_of_getElem? (i := 490) (by rfl)
set_option maxRecDepth 20000 in
theorem wd491 : Cond.methodLink "FretSchool" 94 yX3_move ∈ BIG := bigIn 491 (by rfl) (by rfl)
set_option maxRecDepth 20000 in
theorem wd492 : Cond.instanceMethod yX3_move ∈ BIG := bigIn 492 (by rfl) (by rfl)
set_option maxRecDepth 20000 in
theorem wd493 : Cond.selects "FretSchool$Piece" yX3_move yX3_move ∈ BIG := bigIn 493 (by rfl) (by rfl)
set_option maxRecDepth 20000 in
theorem wd494 : Cond.code yX3_move cX3_move 3 (none : Option Jvm.ClassFile.FieldType) ∈ BIG := bigIn 494 (by rfl) (by rfl)
set_option maxRecDepth 20000 in
theorem wd495 : Cond.methodLink "FretSchoolLaw" 145 yL_addWood ∈ BIG := bigIn 495 (by rfl) (by rfl)
set_option maxRecDepth 20000 in
theorem wd496 : Cond.static yL_addWood ∈ BIG := bigIn 496 (by rfl) (by rfl)
set_option maxRecDepth 20000 in
theorem wd497 : Cond.codeWith yL_addWood cL_addWood 4 (some .int) [(0, 6, 7, 26)] ∈ BIG := bigIn 497 (by rfl) (by rfl)
set_option maxRecDepth 20000 in
theorem wd498 : Cond.methodLink "FretSchoolLaw" 71 yX5_addWood ∈ BIG := bigIn 498 (by rfl) (by rfl)
set_option maxRecDepth 20000 in
theorem wd499 : Cond.instanceMethod yX5_addWood ∈ BIG := bigIn 499 (by rfl) (by rfl)
set_option maxRecDepth 20000 in
theorem wd500 : Cond.selects "FretSchool" yX5_addWood yX5_addWood ∈ BIG := bigIn 500 (by rfl) (by rfl)
set_option maxRecDepth 20000 in
theorem wd501 : Cond.code yX5_addWood cX5_addWood 3 (some .int) ∈ BIG := bigIn 501 (by rfl) (by rfl)
set_option maxRecDepth 20000 in
theorem wd502 : Cond.methodLink "FretSchoolLaw" 147 yL_orders ∈ BIG := bigIn 502 (by rfl) (by rfl)
set_option maxRecDepth 20000 in
theorem wd503 : Cond.static yL_orders ∈ BIG := bigIn 503 (by rfl) (by rfl)
set_option maxRecDepth 20000 in
theorem wd504 : Cond.code yL_orders cL_orders 12 (some .boolean) ∈ BIG := bigIn 504 (by rfl) (by rfl)
set_option maxRecDepth 20000 in
theorem wd505 : Cond.methodLink "FretSchoolLaw" 131 yL_ready ∈ BIG := bigIn 505 (by rfl) (by rfl)
set_option maxRecDepth 20000 in
theorem wd506 : Cond.static yL_ready ∈ BIG := bigIn 506 (by rfl) (by rfl)
set_option maxRecDepth 20000 in
theorem wd507 : Cond.codeWith yL_ready cL_ready 3 (some .int) [(0, 5, 6, 23)] ∈ BIG := bigIn 507 (by rfl) (by rfl)
set_option maxRecDepth 20000 in
theorem wd508 : Cond.methodLink "FretSchoolLaw" 77 yX5_ready ∈ BIG := bigIn 508 (by rfl) (by rfl)
set_option maxRecDepth 20000 in
theorem wd509 : Cond.instanceMethod yX5_ready ∈ BIG := bigIn 509 (by rfl) (by rfl)
set_option maxRecDepth 20000 in
theorem wd510 : Cond.selects "FretSchool" yX5_ready yX5_ready ∈ BIG := bigIn 510 (by rfl) (by rfl)
set_option maxRecDepth 20000 in
theorem wd511 : Cond.code yX5_ready cX5_ready 2 (some .int) ∈ BIG := bigIn 511 (by rfl) (by rfl)
set_option maxRecDepth 20000 in
theorem wd512 : Cond.methodLink "FretSchool" 175 yX5_needOrder ∈ BIG := bigIn 512 (by rfl) (by rfl)
set_option maxRecDepth 20000 in
theorem wd514 : Cond.instanceMethod yX5_needOrder ∈ BIG := bigIn 514 (by rfl) (by rfl)
set_option maxRecDepth 20000 in
theorem wd515 : Cond.code yX5_needOrder cX5_needOrder 2 (none : Option Jvm.ClassFile.FieldType) ∈ BIG := bigIn 515 (by rfl) (by rfl)
set_option maxRecDepth 20000 in
theorem wt516 : Cond.stringRef "FretSchool" 218 "there is no such order" ∈ lw_tbl := List.mem_of_getElem? (i := 516) (by rfl)
set_option maxRecDepth 20000 in
theorem wd517 : Cond.methodLink "FretSchoolLaw" 133 yL_order ∈ BIG := bigIn 517 (by rfl) (by rfl)
set_option maxRecDepth 20000 in
theorem wd518 : Cond.static yL_order ∈ BIG := bigIn 518 (by rfl) (by rfl)
set_option maxRecDepth 20000 in
theorem wd519 : Cond.codeWith yL_order cL_order 5 (some .int) [(0, 7, 8, 26), (0, 7, 13, 16)] ∈ BIG := bigIn 519 (by rfl) (by rfl)
set_option maxRecDepth 20000 in
theorem wd520 : Cond.methodLink "FretSchoolLaw" 74 yX5_order ∈ BIG := bigIn 520 (by rfl) (by rfl)
set_option maxRecDepth 20000 in
theorem wd521 : Cond.instanceMethod yX5_order ∈ BIG := bigIn 521 (by rfl) (by rfl)
set_option maxRecDepth 20000 in
theorem wd522 : Cond.selects "FretSchool" yX5_order yX5_order ∈ BIG := bigIn 522 (by rfl) (by rfl)
set_option maxRecDepth 20000 in
theorem wd523 : Cond.code yX5_order cX5_order 5 (some .int) ∈ BIG := bigIn 523 (by rfl) (by rfl)
set_option maxRecDepth 20000 in
theorem wt524 : Cond.stringRef "FretSchool" 162 "there is too little of the wood" ∈ lw_tbl := List.mem_of_getElem? (i := 524) (by rfl)
set_option maxRecDepth 20000 in
theorem wd525 : Cond.methodLink "FretSchool" 164 yX5_ordersAtWork ∈ BIG := bigIn 525 (by rfl) (by rfl)
set_option maxRecDepth 20000 in
theorem wd527 : Cond.instanceMethod yX5_ordersAtWork ∈ BIG := bigIn 527 (by rfl) (by rfl)
set_option maxRecDepth 20000 in
theorem wd528 : Cond.code yX5_ordersAtWork cX5_ordersAtWork 3 (some .int) ∈ BIG := bigIn 528 (by rfl) (by rfl)
set_option maxRecDepth 20000 in
theorem wd529 : Cond.methodLink "FretSchool" 181 yX2_isReady ∈ BIG := bigIn 529 (by rfl) (by rfl)
set_option maxRecDepth 20000 in
theorem wd530 : Cond.instanceMethod yX2_isReady ∈ BIG := bigIn 530 (by rfl) (by rfl)
set_option maxRecDepth 20000 in
theorem wd531 : Cond.selects "FretSchool$Order" yX2_isReady yX2_isReady ∈ BIG := bigIn 531 (by rfl) (by rfl)
set_option maxRecDepth 20000 in
theorem wd532 : Cond.code yX2_isReady cX2_isReady 2 (some .boolean) ∈ BIG := bigIn 532 (by rfl) (by rfl)
set_option maxRecDepth 20000 in
theorem wt533 : Cond.stringRef "FretSchool" 168 "two orders are at work" ∈ lw_tbl := List.mem_of_getElem? (i := 533) (by rfl)
set_option maxRecDepth 20000 in
theorem wt534 : Cond.stringRef "FretSchool" 170 "there are 20 orders" ∈ lw_tbl := List.mem_of_getElem? (i := 534) (by rfl)
set_option maxRecDepth 20000 in
theorem wd535 : Cond.methodLink "FretSchool" 172 yX2_place ∈ BIG := bigIn 535 (by rfl) (by rfl)
set_option maxRecDepth 20000 in
theorem wd536 : Cond.instanceMethod yX2_place ∈ BIG := bigIn 536 (by rfl) (by rfl)
set_option maxRecDepth 20000 in
theorem wd537 : Cond.selects "FretSchool$Order" yX2_place yX2_place ∈ BIG := bigIn 537 (by rfl) (by rfl)
set_option maxRecDepth 20000 in
theorem wd538 : Cond.code yX2_place cX2_place 4 (none : Option Jvm.ClassFile.FieldType) ∈ BIG := bigIn 538 (by rfl) (by rfl)
set_option maxRecDepth 20000 in
theorem wd539 : Cond.methodLink "FretSchoolLaw" 151 yL_pass ∈ BIG := bigIn 539 (by rfl) (by rfl)
set_option maxRecDepth 20000 in
theorem wd540 : Cond.static yL_pass ∈ BIG := bigIn 540 (by rfl) (by rfl)
set_option maxRecDepth 20000 in
theorem wd541 : Cond.codeWith yL_pass cL_pass 3 (some .int) [(0, 5, 6, 26), (0, 5, 10, 16)] ∈ BIG := bigIn 541 (by rfl) (by rfl)
set_option maxRecDepth 20000 in
theorem wd542 : Cond.methodLink "FretSchoolLaw" 84 yX5_pass ∈ BIG := bigIn 542 (by rfl) (by rfl)
set_option maxRecDepth 20000 in
theorem wd543 : Cond.instanceMethod yX5_pass ∈ BIG := bigIn 543 (by rfl) (by rfl)
set_option maxRecDepth 20000 in
theorem wd544 : Cond.selects "FretSchool" yX5_pass yX5_pass ∈ BIG := bigIn 544 (by rfl) (by rfl)
set_option maxRecDepth 20000 in
theorem wd545 : Cond.code yX5_pass cX5_pass 2 (some .int) ∈ BIG := bigIn 545 (by rfl) (by rfl)
set_option maxRecDepth 20000 in
theorem wt546 : Cond.stringRef "FretSchool" 207 "today would be above 5000" ∈ lw_tbl := List.mem_of_getElem? (i := 546) (by rfl)
set_option maxRecDepth 20000 in
theorem wd547 : Cond.methodLink "FretSchoolLaw" 156 yL_fetches ∈ BIG := bigIn 547 (by rfl) (by rfl)
set_option maxRecDepth 20000 in
theorem wd548 : Cond.static yL_fetches ∈ BIG := bigIn 548 (by rfl) (by rfl)
set_option maxRecDepth 20000 in
theorem wd549 : Cond.code yL_fetches cL_fetches 13 (some .boolean) ∈ BIG := bigIn 549 (by rfl) (by rfl)
set_option maxRecDepth 20000 in
theorem wd550 : Cond.methodLink "FretSchoolLaw" 135 yL_fetch ∈ BIG := bigIn 550 (by rfl) (by rfl)
set_option maxRecDepth 20000 in
theorem wd551 : Cond.static yL_fetch ∈ BIG := bigIn 551 (by rfl) (by rfl)
set_option maxRecDepth 20000 in
theorem wd552 : Cond.codeWith yL_fetch cL_fetch 7 (some .int) [(0, 11, 12, 23), (0, 11, 17, 26), (0, 11, 22, 16)] ∈ BIG := bigIn 552 (by rfl) (by rfl)
set_option maxRecDepth 20000 in
theorem wd553 : Cond.methodLink "FretSchoolLaw" 80 yX5_fetch ∈ BIG := bigIn 553 (by rfl) (by rfl)
set_option maxRecDepth 20000 in
theorem wd554 : Cond.instanceMethod yX5_fetch ∈ BIG := bigIn 554 (by rfl) (by rfl)
set_option maxRecDepth 20000 in
theorem wd555 : Cond.selects "FretSchool" yX5_fetch yX5_fetch ∈ BIG := bigIn 555 (by rfl) (by rfl)
set_option maxRecDepth 20000 in
theorem wd556 : Cond.code yX5_fetch cX5_fetch 8 (some .int) ∈ BIG := bigIn 556 (by rfl) (by rfl)
set_option maxRecDepth 20000 in
theorem wt557 : Cond.stringRef "FretSchool" 184 "the order is not ready" ∈ lw_tbl := List.mem_of_getElem? (i := 557) (by rfl)
set_option maxRecDepth 20000 in
theorem wt558 : Cond.stringRef "FretSchool" 190 "the order was fetched" ∈ lw_tbl := List.mem_of_getElem? (i := 558) (by rfl)
set_option maxRecDepth 20000 in
theorem wt559 : Cond.stringRef "FretSchool" 192 "there are 8 instruments" ∈ lw_tbl := List.mem_of_getElem? (i := 559) (by rfl)
set_option maxRecDepth 20000 in
theorem wd560 : Cond.methodLink "FretSchool" 200 yX1_build ∈ BIG := bigIn 560 (by rfl) (by rfl)
set_option maxRecDepth 20000 in
theorem wd561 : Cond.instanceMethod yX1_build ∈ BIG := bigIn 561 (by rfl) (by rfl)
set_option maxRecDepth 20000 in
theorem wd562 : Cond.selects "FretSchool$Instrument" yX1_build yX1_build ∈ BIG := bigIn 562 (by rfl) (by rfl)
set_option maxRecDepth 20000 in
theorem wd563 : Cond.code yX1_build cX1_build 3 (none : Option Jvm.ClassFile.FieldType) ∈ BIG := bigIn 563 (by rfl) (by rfl)
set_option maxRecDepth 20000 in
theorem wd564 : Cond.methodLink "FretSchool" 203 yX1_tuneAll ∈ BIG := bigIn 564 (by rfl) (by rfl)
set_option maxRecDepth 20000 in
theorem wd565 : Cond.instanceMethod yX1_tuneAll ∈ BIG := bigIn 565 (by rfl) (by rfl)
set_option maxRecDepth 20000 in
theorem wd566 : Cond.selects "FretSchool$Instrument" yX1_tuneAll yX1_tuneAll ∈ BIG := bigIn 566 (by rfl) (by rfl)
set_option maxRecDepth 20000 in
theorem wd567 : Cond.code yX1_tuneAll cX1_tuneAll 5 (none : Option Jvm.ClassFile.FieldType) ∈ BIG := bigIn 567 (by rfl) (by rfl)
set_option maxRecDepth 20000 in
theorem wd568 : Cond.methodLink "FretSchoolLaw" 117 yL_owner ∈ BIG := bigIn 568 (by rfl) (by rfl)
set_option maxRecDepth 20000 in
theorem wd569 : Cond.static yL_owner ∈ BIG := bigIn 569 (by rfl) (by rfl)
set_option maxRecDepth 20000 in
theorem wd570 : Cond.codeWith yL_owner cL_owner 3 (some .int) [(0, 5, 6, 23)] ∈ BIG := bigIn 570 (by rfl) (by rfl)
set_option maxRecDepth 20000 in
theorem wd571 : Cond.methodLink "FretSchoolLaw" 40 yX5_owner ∈ BIG := bigIn 571 (by rfl) (by rfl)
set_option maxRecDepth 20000 in
theorem wd572 : Cond.instanceMethod yX5_owner ∈ BIG := bigIn 572 (by rfl) (by rfl)
set_option maxRecDepth 20000 in
theorem wd573 : Cond.selects "FretSchool" yX5_owner yX5_owner ∈ BIG := bigIn 573 (by rfl) (by rfl)
set_option maxRecDepth 20000 in
theorem wd574 : Cond.code yX5_owner cX5_owner 2 (some .int) ∈ BIG := bigIn 574 (by rfl) (by rfl)
set_option maxRecDepth 20000 in
theorem wd575 : Cond.methodLink "FretSchoolLaw" 160 yL_tune ∈ BIG := bigIn 575 (by rfl) (by rfl)
set_option maxRecDepth 20000 in
theorem wd576 : Cond.static yL_tune ∈ BIG := bigIn 576 (by rfl) (by rfl)
set_option maxRecDepth 20000 in
theorem wd577 : Cond.codeWith yL_tune cL_tune 5 (some .int) [(0, 7, 8, 23), (0, 7, 13, 26)] ∈ BIG := bigIn 577 (by rfl) (by rfl)
set_option maxRecDepth 20000 in
theorem wd578 : Cond.methodLink "FretSchoolLaw" 36 yX5_tune ∈ BIG := bigIn 578 (by rfl) (by rfl)
set_option maxRecDepth 20000 in
theorem wd579 : Cond.instanceMethod yX5_tune ∈ BIG := bigIn 579 (by rfl) (by rfl)
set_option maxRecDepth 20000 in
theorem wd580 : Cond.selects "FretSchool" yX5_tune yX5_tune ∈ BIG := bigIn 580 (by rfl) (by rfl)
set_option maxRecDepth 20000 in
theorem wd581 : Cond.code yX5_tune cX5_tune 6 (some .int) ∈ BIG := bigIn 581 (by rfl) (by rfl)
set_option maxRecDepth 20000 in
theorem wd582 : Cond.methodLink "FretSchoolLaw" 119 yL_learn ∈ BIG := bigIn 582 (by rfl) (by rfl)
set_option maxRecDepth 20000 in
theorem wd583 : Cond.static yL_learn ∈ BIG := bigIn 583 (by rfl) (by rfl)
set_option maxRecDepth 20000 in
theorem wd584 : Cond.codeWith yL_learn cL_learn 5 (some .int) [(0, 7, 8, 23), (0, 7, 13, 26), (0, 7, 18, 16)] ∈ BIG := bigIn 584 (by rfl) (by rfl)
set_option maxRecDepth 20000 in
theorem wd585 : Cond.methodLink "FretSchoolLaw" 59 yX5_learn ∈ BIG := bigIn 585 (by rfl) (by rfl)
set_option maxRecDepth 20000 in
theorem wd586 : Cond.instanceMethod yX5_learn ∈ BIG := bigIn 586 (by rfl) (by rfl)
set_option maxRecDepth 20000 in
theorem wd587 : Cond.selects "FretSchool" yX5_learn yX5_learn ∈ BIG := bigIn 587 (by rfl) (by rfl)
set_option maxRecDepth 20000 in
theorem wd588 : Cond.code yX5_learn cX5_learn 6 (some .int) ∈ BIG := bigIn 588 (by rfl) (by rfl)
set_option maxRecDepth 20000 in
theorem wt589 : Cond.stringRef "FretSchool" 142 "the pupil knows the piece" ∈ lw_tbl := List.mem_of_getElem? (i := 589) (by rfl)
set_option maxRecDepth 20000 in
theorem wt590 : Cond.stringRef "FretSchool" 148 "the pupil cannot learn the piece there" ∈ lw_tbl := List.mem_of_getElem? (i := 590) (by rfl)
set_option maxRecDepth 20000 in
theorem wd591 : Cond.methodLink "FretSchool" 150 yX4_takeIn ∈ BIG := bigIn 591 (by rfl) (by rfl)
set_option maxRecDepth 20000 in
theorem wd592 : Cond.instanceMethod yX4_takeIn ∈ BIG := bigIn 592 (by rfl) (by rfl)
set_option maxRecDepth 20000 in
theorem wd593 : Cond.selects "FretSchool$Pupil" yX4_takeIn yX4_takeIn ∈ BIG := bigIn 593 (by rfl) (by rfl)
set_option maxRecDepth 20000 in
theorem wd594 : Cond.code yX4_takeIn cX4_takeIn 3 (none : Option Jvm.ClassFile.FieldType) ∈ BIG := bigIn 594 (by rfl) (by rfl)
set_option maxRecDepth 20000 in
theorem wd595 : Cond.methodLink "FretSchoolLaw" 162 yL_nexts ∈ BIG := bigIn 595 (by rfl) (by rfl)
set_option maxRecDepth 20000 in
theorem wd596 : Cond.static yL_nexts ∈ BIG := bigIn 596 (by rfl) (by rfl)
set_option maxRecDepth 20000 in
theorem wd597 : Cond.code yL_nexts cL_nexts 9 (some .boolean) ∈ BIG := bigIn 597 (by rfl) (by rfl)
set_option maxRecDepth 20000 in
theorem wd598 : Cond.methodLink "FretSchoolLaw" 166 yL_learns ∈ BIG := bigIn 598 (by rfl) (by rfl)
set_option maxRecDepth 20000 in
theorem wd599 : Cond.static yL_learns ∈ BIG := bigIn 599 (by rfl) (by rfl)
set_option maxRecDepth 20000 in
theorem wd600 : Cond.code yL_learns cL_learns 12 (some .boolean) ∈ BIG := bigIn 600 (by rfl) (by rfl)
set_option maxRecDepth 20000 in
theorem wd601 : Cond.sameMethod "java/lang/Throwable" "java/lang/Throwable" "fillInStackTrace" "(I)Ljava/lang/Throwable;" ∈ BIG := bigIn 601 (by rfl) (by rfl)
