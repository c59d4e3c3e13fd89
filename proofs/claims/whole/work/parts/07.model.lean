/-! the reference's methods: code, name, words, decode rows (laid by wip/gen/mdnames.py) -/
abbrev cX1_thrown : ByteArray := prog_3_method_2_code
def yX1_thrown : MethodName := ⟨RX1, "thrown", "()I"⟩
abbrev cX1_in_ : ByteArray := prog_3_method_3_code
def yX1_in_ : MethodName := ⟨RX1, "in", "(III)Z"⟩
abbrev cX1_load : ByteArray := prog_3_method_4_code
def yX1_load : MethodName := ⟨RX1, "load", "(III)V"⟩
abbrev cX1_look : ByteArray := prog_3_method_5_code
def yX1_look : MethodName := ⟨RX1, "look", "(I)V"⟩
abbrev cX1_isBest : ByteArray := prog_3_method_6_code
def yX1_isBest : MethodName := ⟨RX1, "isBest", "(I)Z"⟩
abbrev cX1_best : ByteArray := prog_3_method_7_code
def yX1_best : MethodName := ⟨RX1, "best", "(I)I"⟩
abbrev cX1_part : ByteArray := prog_3_method_8_code
def yX1_part : MethodName := ⟨RX1, "part", "(II)I"⟩
abbrev cX1_ways : ByteArray := prog_3_method_9_code
def yX1_ways : MethodName := ⟨RX1, "ways", "(I)I"⟩
abbrev cX1_pay : ByteArray := prog_3_method_10_code
def yX1_pay : MethodName := ⟨RX1, "pay", "(II)I"⟩
abbrev cX1_all : ByteArray := prog_3_method_11_code
def yX1_all : MethodName := ⟨RX1, "all", "()V"⟩
abbrev cX1_next : ByteArray := prog_3_method_12_code
def yX1_next : MethodName := ⟨RX1, "next", "(I)I"⟩
abbrev cX1_reach : ByteArray := prog_3_method_13_code
def yX1_reach : MethodName := ⟨RX1, "reach", "()I"⟩
abbrev cX1_cassette : ByteArray := prog_3_method_14_code
def yX1_cassette : MethodName := ⟨RX1, "cassette", "(IZ)I"⟩
abbrev cX1_value : ByteArray := prog_3_method_15_code
def yX1_value : MethodName := ⟨RX1, "value", "()I"⟩
def wsX1_thrown : List Cond := .code yX1_thrown cX1_thrown 1 (some .int) :: ([.fieldLink RX1 23 "NoteMixModel" "thrown" "I"] ++ wsX10)
def wsX1_in_ : List Cond := .code yX1_in_ cX1_in_ 3 (some .boolean) :: ([])
def wsX1_load : List Cond := .code yX1_load cX1_load 4 none :: ([.methodLink RX1 27 yX1_in_, .static yX1_in_, .initialized RX1, .code yX1_in_ cX1_in_ 3 (some .boolean), .fieldLink RX1 23 "NoteMixModel" "thrown" "I", .fieldLink RX1 7 "NoteMixModel" "worth" "[I", .fieldLink RX1 13 "NoteMixModel" "notes" "[I"] ++ wsX10)
def wsX1_look : List Cond := .code yX1_look cX1_look 7 none :: ([.fieldLink RX1 31 "NoteMixModel" "mixes" "I", .fieldLink RX1 34 "NoteMixModel" "fewest" "I", .fieldLink RX1 13 "NoteMixModel" "notes" "[I", .methodLink RX1 37 Lib.Math.min.name, .static Lib.Math.min.name, .initialized "java/lang/Math", .code Lib.Math.min.name Lib.Math.min.code 2 (some .int), .fieldLink RX1 7 "NoteMixModel" "worth" "[I", .fieldLink RX1 16 "NoteMixModel" "chosen" "[I"] ++ wsX10)
def wsX1_isBest : List Cond := .code yX1_isBest cX1_isBest 2 (some .boolean) :: ([.methodLink RX1 27 yX1_in_, .static yX1_in_, .initialized RX1, .code yX1_in_ cX1_in_ 3 (some .boolean), .fieldLink RX1 23 "NoteMixModel" "thrown" "I", .methodLink RX1 43 yX1_look, .instanceMethod yX1_look, .selects RX1 yX1_look yX1_look, .code yX1_look cX1_look 7 none, .fieldLink RX1 31 "NoteMixModel" "mixes" "I", .fieldLink RX1 34 "NoteMixModel" "fewest" "I", .fieldLink RX1 13 "NoteMixModel" "notes" "[I", .methodLink RX1 37 Lib.Math.min.name, .static Lib.Math.min.name, .initialized "java/lang/Math", .code Lib.Math.min.name Lib.Math.min.code 2 (some .int), .fieldLink RX1 7 "NoteMixModel" "worth" "[I", .fieldLink RX1 16 "NoteMixModel" "chosen" "[I"] ++ wsX10)
def wsX1_best : List Cond := .code yX1_best cX1_best 2 (some .int) :: ([.methodLink RX1 47 yX1_isBest, .instanceMethod yX1_isBest, .selects RX1 yX1_isBest yX1_isBest, .initialized RX1, .code yX1_isBest cX1_isBest 2 (some .boolean), .methodLink RX1 27 yX1_in_, .static yX1_in_, .code yX1_in_ cX1_in_ 3 (some .boolean), .fieldLink RX1 23 "NoteMixModel" "thrown" "I", .methodLink RX1 43 yX1_look, .instanceMethod yX1_look, .selects RX1 yX1_look yX1_look, .code yX1_look cX1_look 7 none, .fieldLink RX1 31 "NoteMixModel" "mixes" "I", .fieldLink RX1 34 "NoteMixModel" "fewest" "I", .fieldLink RX1 13 "NoteMixModel" "notes" "[I", .methodLink RX1 37 Lib.Math.min.name, .static Lib.Math.min.name, .initialized "java/lang/Math", .code Lib.Math.min.name Lib.Math.min.code 2 (some .int), .fieldLink RX1 7 "NoteMixModel" "worth" "[I", .fieldLink RX1 16 "NoteMixModel" "chosen" "[I"] ++ wsX10)
def wsX1_part : List Cond := .code yX1_part cX1_part 3 (some .int) :: ([.methodLink RX1 27 yX1_in_, .static yX1_in_, .initialized RX1, .code yX1_in_ cX1_in_ 3 (some .boolean), .fieldLink RX1 23 "NoteMixModel" "thrown" "I", .methodLink RX1 47 yX1_isBest, .instanceMethod yX1_isBest, .selects RX1 yX1_isBest yX1_isBest, .code yX1_isBest cX1_isBest 2 (some .boolean), .methodLink RX1 43 yX1_look, .instanceMethod yX1_look, .selects RX1 yX1_look yX1_look, .code yX1_look cX1_look 7 none, .fieldLink RX1 31 "NoteMixModel" "mixes" "I", .fieldLink RX1 34 "NoteMixModel" "fewest" "I", .fieldLink RX1 13 "NoteMixModel" "notes" "[I", .methodLink RX1 37 Lib.Math.min.name, .static Lib.Math.min.name, .initialized "java/lang/Math", .code Lib.Math.min.name Lib.Math.min.code 2 (some .int), .fieldLink RX1 7 "NoteMixModel" "worth" "[I", .fieldLink RX1 16 "NoteMixModel" "chosen" "[I"] ++ wsX10)
def wsX1_ways : List Cond := .code yX1_ways cX1_ways 2 (some .int) :: ([.methodLink RX1 27 yX1_in_, .static yX1_in_, .initialized RX1, .code yX1_in_ cX1_in_ 3 (some .boolean), .fieldLink RX1 23 "NoteMixModel" "thrown" "I", .methodLink RX1 43 yX1_look, .instanceMethod yX1_look, .selects RX1 yX1_look yX1_look, .code yX1_look cX1_look 7 none, .fieldLink RX1 31 "NoteMixModel" "mixes" "I", .fieldLink RX1 34 "NoteMixModel" "fewest" "I", .fieldLink RX1 13 "NoteMixModel" "notes" "[I", .methodLink RX1 37 Lib.Math.min.name, .static Lib.Math.min.name, .initialized "java/lang/Math", .code Lib.Math.min.name Lib.Math.min.code 2 (some .int), .fieldLink RX1 7 "NoteMixModel" "worth" "[I", .fieldLink RX1 16 "NoteMixModel" "chosen" "[I"] ++ wsX10)
def wsX1_pay : List Cond := .code yX1_pay cX1_pay 7 (some .int) :: ([.methodLink RX1 27 yX1_in_, .static yX1_in_, .initialized RX1, .code yX1_in_ cX1_in_ 3 (some .boolean), .fieldLink RX1 23 "NoteMixModel" "thrown" "I", .methodLink RX1 47 yX1_isBest, .instanceMethod yX1_isBest, .selects RX1 yX1_isBest yX1_isBest, .code yX1_isBest cX1_isBest 2 (some .boolean), .methodLink RX1 43 yX1_look, .instanceMethod yX1_look, .selects RX1 yX1_look yX1_look, .code yX1_look cX1_look 7 none, .fieldLink RX1 31 "NoteMixModel" "mixes" "I", .fieldLink RX1 34 "NoteMixModel" "fewest" "I", .fieldLink RX1 13 "NoteMixModel" "notes" "[I", .methodLink RX1 37 Lib.Math.min.name, .static Lib.Math.min.name, .initialized "java/lang/Math", .code Lib.Math.min.name Lib.Math.min.code 2 (some .int), .fieldLink RX1 7 "NoteMixModel" "worth" "[I", .fieldLink RX1 16 "NoteMixModel" "chosen" "[I"] ++ wsX10)
def wsX1_all : List Cond := .code yX1_all cX1_all 6 none :: ([.fieldLink RX1 19 "NoteMixModel" "can" "[Z", .fieldLink RX1 13 "NoteMixModel" "notes" "[I", .methodLink RX1 37 Lib.Math.min.name, .static Lib.Math.min.name, .initialized "java/lang/Math", .code Lib.Math.min.name Lib.Math.min.code 2 (some .int), .fieldLink RX1 7 "NoteMixModel" "worth" "[I"] ++ wsX10)
def wsX1_next : List Cond := .code yX1_next cX1_next 3 (some .int) :: ([.methodLink RX1 27 yX1_in_, .static yX1_in_, .initialized RX1, .code yX1_in_ cX1_in_ 3 (some .boolean), .fieldLink RX1 23 "NoteMixModel" "thrown" "I", .methodLink RX1 51 yX1_all, .instanceMethod yX1_all, .selects RX1 yX1_all yX1_all, .code yX1_all cX1_all 6 none, .fieldLink RX1 19 "NoteMixModel" "can" "[Z", .fieldLink RX1 13 "NoteMixModel" "notes" "[I", .methodLink RX1 37 Lib.Math.min.name, .static Lib.Math.min.name, .initialized "java/lang/Math", .code Lib.Math.min.name Lib.Math.min.code 2 (some .int), .fieldLink RX1 7 "NoteMixModel" "worth" "[I"] ++ wsX10)
def wsX1_reach : List Cond := .code yX1_reach cX1_reach 3 (some .int) :: ([.fieldLink RX1 23 "NoteMixModel" "thrown" "I", .methodLink RX1 51 yX1_all, .instanceMethod yX1_all, .selects RX1 yX1_all yX1_all, .initialized RX1, .code yX1_all cX1_all 6 none, .fieldLink RX1 19 "NoteMixModel" "can" "[Z", .fieldLink RX1 13 "NoteMixModel" "notes" "[I", .methodLink RX1 37 Lib.Math.min.name, .static Lib.Math.min.name, .initialized "java/lang/Math", .code Lib.Math.min.name Lib.Math.min.code 2 (some .int), .fieldLink RX1 7 "NoteMixModel" "worth" "[I"] ++ wsX10)
def wsX1_cassette : List Cond := .code yX1_cassette cX1_cassette 3 (some .int) :: ([.methodLink RX1 27 yX1_in_, .static yX1_in_, .initialized RX1, .code yX1_in_ cX1_in_ 3 (some .boolean), .fieldLink RX1 23 "NoteMixModel" "thrown" "I", .fieldLink RX1 7 "NoteMixModel" "worth" "[I", .fieldLink RX1 13 "NoteMixModel" "notes" "[I"] ++ wsX10)
def wsX1_value : List Cond := .code yX1_value cX1_value 3 (some .int) :: ([.fieldLink RX1 23 "NoteMixModel" "thrown" "I", .fieldLink RX1 13 "NoteMixModel" "notes" "[I", .fieldLink RX1 7 "NoteMixModel" "worth" "[I"] ++ wsX10)
theorem dX1_thrown_0 : decode cX1_thrown 0 = .ok (.aload_n 0, 1) := by decide +kernel
theorem dX1_thrown_1 : decode cX1_thrown 1 = .ok (.getfield 23, 3) := by decide +kernel
theorem dX1_thrown_4 : decode cX1_thrown 4 = .ok (.ireturn, 1) := by decide +kernel
theorem dX1_in__0 : decode cX1_in_ 0 = .ok (.iload_n 0, 1) := by decide +kernel
theorem dX1_in__1 : decode cX1_in_ 1 = .ok (.iload_n 1, 1) := by decide +kernel
theorem dX1_in__2 : decode cX1_in_ 2 = .ok (.if_icmp .lt 12, 3) := by decide +kernel
theorem dX1_in__5 : decode cX1_in_ 5 = .ok (.iload_n 0, 1) := by decide +kernel
theorem dX1_in__6 : decode cX1_in_ 6 = .ok (.iload_n 2, 1) := by decide +kernel
theorem dX1_in__7 : decode cX1_in_ 7 = .ok (.if_icmp .gt 7, 3) := by decide +kernel
theorem dX1_in__10 : decode cX1_in_ 10 = .ok (.iconst 1, 1) := by decide +kernel
theorem dX1_in__11 : decode cX1_in_ 11 = .ok (.goto 4, 3) := by decide +kernel
theorem dX1_in__14 : decode cX1_in_ 14 = .ok (.iconst 0, 1) := by decide +kernel
theorem dX1_in__15 : decode cX1_in_ 15 = .ok (.ireturn, 1) := by decide +kernel
theorem dX1_load_0 : decode cX1_load 0 = .ok (.aload_n 0, 1) := by decide +kernel
theorem dX1_load_1 : decode cX1_load 1 = .ok (.iload_n 1, 1) := by decide +kernel
theorem dX1_load_2 : decode cX1_load 2 = .ok (.iconst 0, 1) := by decide +kernel
theorem dX1_load_3 : decode cX1_load 3 = .ok (.iconst 3, 1) := by decide +kernel
theorem dX1_load_4 : decode cX1_load 4 = .ok (.invokestatic 27, 3) := by decide +kernel
theorem dX1_load_7 : decode cX1_load 7 = .ok (.ifCond .eq 29, 3) := by decide +kernel
theorem dX1_load_10 : decode cX1_load 10 = .ok (.iload_n 2, 1) := by decide +kernel
theorem dX1_load_11 : decode cX1_load 11 = .ok (.iconst 1, 1) := by decide +kernel
theorem dX1_load_12 : decode cX1_load 12 = .ok (.sipush 500, 3) := by decide +kernel
theorem dX1_load_15 : decode cX1_load 15 = .ok (.invokestatic 27, 3) := by decide +kernel
theorem dX1_load_18 : decode cX1_load 18 = .ok (.ifCond .eq 18, 3) := by decide +kernel
theorem dX1_load_21 : decode cX1_load 21 = .ok (.iload_n 3, 1) := by decide +kernel
theorem dX1_load_22 : decode cX1_load 22 = .ok (.iconst 0, 1) := by decide +kernel
theorem dX1_load_23 : decode cX1_load 23 = .ok (.sipush 500, 3) := by decide +kernel
theorem dX1_load_26 : decode cX1_load 26 = .ok (.invokestatic 27, 3) := by decide +kernel
theorem dX1_load_29 : decode cX1_load 29 = .ok (.ifCond .eq 7, 3) := by decide +kernel
theorem dX1_load_32 : decode cX1_load 32 = .ok (.iconst 0, 1) := by decide +kernel
theorem dX1_load_33 : decode cX1_load 33 = .ok (.goto 4, 3) := by decide +kernel
theorem dX1_load_36 : decode cX1_load 36 = .ok (.iconst 1, 1) := by decide +kernel
theorem dX1_load_37 : decode cX1_load 37 = .ok (.putfield 23, 3) := by decide +kernel
theorem dX1_load_40 : decode cX1_load 40 = .ok (.aload_n 0, 1) := by decide +kernel
theorem dX1_load_41 : decode cX1_load 41 = .ok (.getfield 23, 3) := by decide +kernel
theorem dX1_load_44 : decode cX1_load 44 = .ok (.ifCond .le 4, 3) := by decide +kernel
theorem dX1_load_47 : decode cX1_load 47 = .ok (.return_, 1) := by decide +kernel
theorem dX1_load_48 : decode cX1_load 48 = .ok (.aload_n 0, 1) := by decide +kernel
theorem dX1_load_49 : decode cX1_load 49 = .ok (.getfield 7, 3) := by decide +kernel
theorem dX1_load_52 : decode cX1_load 52 = .ok (.iload_n 1, 1) := by decide +kernel
theorem dX1_load_53 : decode cX1_load 53 = .ok (.iload_n 2, 1) := by decide +kernel
theorem dX1_load_54 : decode cX1_load 54 = .ok (.iastore, 1) := by decide +kernel
theorem dX1_load_55 : decode cX1_load 55 = .ok (.aload_n 0, 1) := by decide +kernel
theorem dX1_load_56 : decode cX1_load 56 = .ok (.getfield 13, 3) := by decide +kernel
theorem dX1_load_59 : decode cX1_load 59 = .ok (.iload_n 1, 1) := by decide +kernel
theorem dX1_load_60 : decode cX1_load 60 = .ok (.iload_n 3, 1) := by decide +kernel
theorem dX1_load_61 : decode cX1_load 61 = .ok (.iastore, 1) := by decide +kernel
theorem dX1_load_62 : decode cX1_load 62 = .ok (.return_, 1) := by decide +kernel
theorem dX1_look_0 : decode cX1_look 0 = .ok (.aload_n 0, 1) := by decide +kernel
theorem dX1_look_1 : decode cX1_look 1 = .ok (.iconst 0, 1) := by decide +kernel
theorem dX1_look_2 : decode cX1_look 2 = .ok (.putfield 31, 3) := by decide +kernel
theorem dX1_look_5 : decode cX1_look 5 = .ok (.aload_n 0, 1) := by decide +kernel
theorem dX1_look_6 : decode cX1_look 6 = .ok (.bipush 41, 2) := by decide +kernel
theorem dX1_look_8 : decode cX1_look 8 = .ok (.putfield 34, 3) := by decide +kernel
theorem dX1_look_11 : decode cX1_look 11 = .ok (.aload_n 0, 1) := by decide +kernel
theorem dX1_look_12 : decode cX1_look 12 = .ok (.getfield 13, 3) := by decide +kernel
theorem dX1_look_15 : decode cX1_look 15 = .ok (.iconst 3, 1) := by decide +kernel
theorem dX1_look_16 : decode cX1_look 16 = .ok (.iaload, 1) := by decide +kernel
theorem dX1_look_17 : decode cX1_look 17 = .ok (.bipush 40, 2) := by decide +kernel
theorem dX1_look_19 : decode cX1_look 19 = .ok (.invokestatic 37, 3) := by decide +kernel
theorem dX1_look_22 : decode cX1_look 22 = .ok (.istore_n 2, 1) := by decide +kernel
theorem dX1_look_23 : decode cX1_look 23 = .ok (.iload_n 2, 1) := by decide +kernel
theorem dX1_look_24 : decode cX1_look 24 = .ok (.ifCond .lt 223, 3) := by decide +kernel
theorem dX1_look_27 : decode cX1_look 27 = .ok (.aload_n 0, 1) := by decide +kernel
theorem dX1_look_28 : decode cX1_look 28 = .ok (.getfield 13, 3) := by decide +kernel
theorem dX1_look_31 : decode cX1_look 31 = .ok (.iconst 2, 1) := by decide +kernel
theorem dX1_look_32 : decode cX1_look 32 = .ok (.iaload, 1) := by decide +kernel
theorem dX1_look_33 : decode cX1_look 33 = .ok (.bipush 40, 2) := by decide +kernel
theorem dX1_look_35 : decode cX1_look 35 = .ok (.iload_n 2, 1) := by decide +kernel
theorem dX1_look_36 : decode cX1_look 36 = .ok (.isub, 1) := by decide +kernel
theorem dX1_look_37 : decode cX1_look 37 = .ok (.invokestatic 37, 3) := by decide +kernel
theorem dX1_look_40 : decode cX1_look 40 = .ok (.istore_n 3, 1) := by decide +kernel
theorem dX1_look_41 : decode cX1_look 41 = .ok (.iload_n 3, 1) := by decide +kernel
theorem dX1_look_42 : decode cX1_look 42 = .ok (.ifCond .lt 199, 3) := by decide +kernel
theorem dX1_look_45 : decode cX1_look 45 = .ok (.aload_n 0, 1) := by decide +kernel
theorem dX1_look_46 : decode cX1_look 46 = .ok (.getfield 13, 3) := by decide +kernel
theorem dX1_look_49 : decode cX1_look 49 = .ok (.iconst 1, 1) := by decide +kernel
theorem dX1_look_50 : decode cX1_look 50 = .ok (.iaload, 1) := by decide +kernel
theorem dX1_look_51 : decode cX1_look 51 = .ok (.bipush 40, 2) := by decide +kernel
theorem dX1_look_53 : decode cX1_look 53 = .ok (.iload_n 2, 1) := by decide +kernel
theorem dX1_look_54 : decode cX1_look 54 = .ok (.isub, 1) := by decide +kernel
theorem dX1_look_55 : decode cX1_look 55 = .ok (.iload_n 3, 1) := by decide +kernel
theorem dX1_look_56 : decode cX1_look 56 = .ok (.isub, 1) := by decide +kernel
theorem dX1_look_57 : decode cX1_look 57 = .ok (.invokestatic 37, 3) := by decide +kernel
theorem dX1_look_60 : decode cX1_look 60 = .ok (.istore 4, 2) := by decide +kernel
theorem dX1_look_62 : decode cX1_look 62 = .ok (.iload 4, 2) := by decide +kernel
theorem dX1_look_64 : decode cX1_look 64 = .ok (.ifCond .lt 171, 3) := by decide +kernel
theorem dX1_look_67 : decode cX1_look 67 = .ok (.iload_n 1, 1) := by decide +kernel
theorem dX1_look_68 : decode cX1_look 68 = .ok (.iload_n 2, 1) := by decide +kernel
theorem dX1_look_69 : decode cX1_look 69 = .ok (.aload_n 0, 1) := by decide +kernel
theorem dX1_look_70 : decode cX1_look 70 = .ok (.getfield 7, 3) := by decide +kernel
theorem dX1_look_73 : decode cX1_look 73 = .ok (.iconst 3, 1) := by decide +kernel
theorem dX1_look_74 : decode cX1_look 74 = .ok (.iaload, 1) := by decide +kernel
theorem dX1_look_75 : decode cX1_look 75 = .ok (.imul, 1) := by decide +kernel
theorem dX1_look_76 : decode cX1_look 76 = .ok (.isub, 1) := by decide +kernel
theorem dX1_look_77 : decode cX1_look 77 = .ok (.iload_n 3, 1) := by decide +kernel
theorem dX1_look_78 : decode cX1_look 78 = .ok (.aload_n 0, 1) := by decide +kernel
theorem dX1_look_79 : decode cX1_look 79 = .ok (.getfield 7, 3) := by decide +kernel
theorem dX1_look_82 : decode cX1_look 82 = .ok (.iconst 2, 1) := by decide +kernel
theorem dX1_look_83 : decode cX1_look 83 = .ok (.iaload, 1) := by decide +kernel
theorem dX1_look_84 : decode cX1_look 84 = .ok (.imul, 1) := by decide +kernel
theorem dX1_look_85 : decode cX1_look 85 = .ok (.isub, 1) := by decide +kernel
theorem dX1_look_86 : decode cX1_look 86 = .ok (.iload 4, 2) := by decide +kernel
theorem dX1_look_88 : decode cX1_look 88 = .ok (.aload_n 0, 1) := by decide +kernel
theorem dX1_look_89 : decode cX1_look 89 = .ok (.getfield 7, 3) := by decide +kernel
theorem dX1_look_92 : decode cX1_look 92 = .ok (.iconst 1, 1) := by decide +kernel
theorem dX1_look_93 : decode cX1_look 93 = .ok (.iaload, 1) := by decide +kernel
theorem dX1_look_94 : decode cX1_look 94 = .ok (.imul, 1) := by decide +kernel
theorem dX1_look_95 : decode cX1_look 95 = .ok (.isub, 1) := by decide +kernel
theorem dX1_look_96 : decode cX1_look 96 = .ok (.istore 5, 2) := by decide +kernel
theorem dX1_look_98 : decode cX1_look 98 = .ok (.iload 5, 2) := by decide +kernel
theorem dX1_look_100 : decode cX1_look 100 = .ok (.ifCond .lt 129, 3) := by decide +kernel
theorem dX1_look_103 : decode cX1_look 103 = .ok (.iload 5, 2) := by decide +kernel
theorem dX1_look_105 : decode cX1_look 105 = .ok (.aload_n 0, 1) := by decide +kernel
theorem dX1_look_106 : decode cX1_look 106 = .ok (.getfield 7, 3) := by decide +kernel
theorem dX1_look_109 : decode cX1_look 109 = .ok (.iconst 0, 1) := by decide +kernel
theorem dX1_look_110 : decode cX1_look 110 = .ok (.iaload, 1) := by decide +kernel
theorem dX1_look_111 : decode cX1_look 111 = .ok (.irem, 1) := by decide +kernel
theorem dX1_look_112 : decode cX1_look 112 = .ok (.ifCond .eq 6, 3) := by decide +kernel
theorem dX1_look_115 : decode cX1_look 115 = .ok (.goto 114, 3) := by decide +kernel
theorem dX1_look_118 : decode cX1_look 118 = .ok (.iload 5, 2) := by decide +kernel
theorem dX1_look_120 : decode cX1_look 120 = .ok (.aload_n 0, 1) := by decide +kernel
theorem dX1_look_121 : decode cX1_look 121 = .ok (.getfield 7, 3) := by decide +kernel
theorem dX1_look_124 : decode cX1_look 124 = .ok (.iconst 0, 1) := by decide +kernel
theorem dX1_look_125 : decode cX1_look 125 = .ok (.iaload, 1) := by decide +kernel
theorem dX1_look_126 : decode cX1_look 126 = .ok (.idiv, 1) := by decide +kernel
theorem dX1_look_127 : decode cX1_look 127 = .ok (.istore 6, 2) := by decide +kernel
theorem dX1_look_129 : decode cX1_look 129 = .ok (.iload 6, 2) := by decide +kernel
theorem dX1_look_131 : decode cX1_look 131 = .ok (.aload_n 0, 1) := by decide +kernel
theorem dX1_look_132 : decode cX1_look 132 = .ok (.getfield 13, 3) := by decide +kernel
theorem dX1_look_135 : decode cX1_look 135 = .ok (.iconst 0, 1) := by decide +kernel
theorem dX1_look_136 : decode cX1_look 136 = .ok (.iaload, 1) := by decide +kernel
theorem dX1_look_137 : decode cX1_look 137 = .ok (.if_icmp .gt 92, 3) := by decide +kernel
theorem dX1_look_140 : decode cX1_look 140 = .ok (.iload_n 2, 1) := by decide +kernel
theorem dX1_look_141 : decode cX1_look 141 = .ok (.iload_n 3, 1) := by decide +kernel
theorem dX1_look_142 : decode cX1_look 142 = .ok (.iadd, 1) := by decide +kernel
theorem dX1_look_143 : decode cX1_look 143 = .ok (.iload 4, 2) := by decide +kernel
theorem dX1_look_145 : decode cX1_look 145 = .ok (.iadd, 1) := by decide +kernel
theorem dX1_look_146 : decode cX1_look 146 = .ok (.iload 6, 2) := by decide +kernel
theorem dX1_look_148 : decode cX1_look 148 = .ok (.iadd, 1) := by decide +kernel
theorem dX1_look_149 : decode cX1_look 149 = .ok (.bipush 40, 2) := by decide +kernel
theorem dX1_look_151 : decode cX1_look 151 = .ok (.if_icmp .le 6, 3) := by decide +kernel
theorem dX1_look_154 : decode cX1_look 154 = .ok (.goto 75, 3) := by decide +kernel
theorem dX1_look_157 : decode cX1_look 157 = .ok (.aload_n 0, 1) := by decide +kernel
theorem dX1_look_158 : decode cX1_look 158 = .ok (.dup, 1) := by decide +kernel
theorem dX1_look_159 : decode cX1_look 159 = .ok (.getfield 31, 3) := by decide +kernel
theorem dX1_look_162 : decode cX1_look 162 = .ok (.iconst 1, 1) := by decide +kernel
theorem dX1_look_163 : decode cX1_look 163 = .ok (.iadd, 1) := by decide +kernel
theorem dX1_look_164 : decode cX1_look 164 = .ok (.putfield 31, 3) := by decide +kernel
theorem dX1_look_167 : decode cX1_look 167 = .ok (.iload_n 2, 1) := by decide +kernel
theorem dX1_look_168 : decode cX1_look 168 = .ok (.iload_n 3, 1) := by decide +kernel
theorem dX1_look_169 : decode cX1_look 169 = .ok (.iadd, 1) := by decide +kernel
theorem dX1_look_170 : decode cX1_look 170 = .ok (.iload 4, 2) := by decide +kernel
theorem dX1_look_172 : decode cX1_look 172 = .ok (.iadd, 1) := by decide +kernel
theorem dX1_look_173 : decode cX1_look 173 = .ok (.iload 6, 2) := by decide +kernel
theorem dX1_look_175 : decode cX1_look 175 = .ok (.iadd, 1) := by decide +kernel
theorem dX1_look_176 : decode cX1_look 176 = .ok (.aload_n 0, 1) := by decide +kernel
theorem dX1_look_177 : decode cX1_look 177 = .ok (.getfield 34, 3) := by decide +kernel
theorem dX1_look_180 : decode cX1_look 180 = .ok (.if_icmp .lt 6, 3) := by decide +kernel
theorem dX1_look_183 : decode cX1_look 183 = .ok (.goto 46, 3) := by decide +kernel
theorem dX1_look_186 : decode cX1_look 186 = .ok (.aload_n 0, 1) := by decide +kernel
theorem dX1_look_187 : decode cX1_look 187 = .ok (.iload_n 2, 1) := by decide +kernel
theorem dX1_look_188 : decode cX1_look 188 = .ok (.iload_n 3, 1) := by decide +kernel
theorem dX1_look_189 : decode cX1_look 189 = .ok (.iadd, 1) := by decide +kernel
theorem dX1_look_190 : decode cX1_look 190 = .ok (.iload 4, 2) := by decide +kernel
theorem dX1_look_192 : decode cX1_look 192 = .ok (.iadd, 1) := by decide +kernel
theorem dX1_look_193 : decode cX1_look 193 = .ok (.iload 6, 2) := by decide +kernel
theorem dX1_look_195 : decode cX1_look 195 = .ok (.iadd, 1) := by decide +kernel
theorem dX1_look_196 : decode cX1_look 196 = .ok (.putfield 34, 3) := by decide +kernel
theorem dX1_look_199 : decode cX1_look 199 = .ok (.aload_n 0, 1) := by decide +kernel
theorem dX1_look_200 : decode cX1_look 200 = .ok (.getfield 16, 3) := by decide +kernel
theorem dX1_look_203 : decode cX1_look 203 = .ok (.iconst 0, 1) := by decide +kernel
theorem dX1_look_204 : decode cX1_look 204 = .ok (.iload 6, 2) := by decide +kernel
theorem dX1_look_206 : decode cX1_look 206 = .ok (.iastore, 1) := by decide +kernel
theorem dX1_look_207 : decode cX1_look 207 = .ok (.aload_n 0, 1) := by decide +kernel
theorem dX1_look_208 : decode cX1_look 208 = .ok (.getfield 16, 3) := by decide +kernel
theorem dX1_look_211 : decode cX1_look 211 = .ok (.iconst 1, 1) := by decide +kernel
theorem dX1_look_212 : decode cX1_look 212 = .ok (.iload 4, 2) := by decide +kernel
theorem dX1_look_214 : decode cX1_look 214 = .ok (.iastore, 1) := by decide +kernel
theorem dX1_look_215 : decode cX1_look 215 = .ok (.aload_n 0, 1) := by decide +kernel
theorem dX1_look_216 : decode cX1_look 216 = .ok (.getfield 16, 3) := by decide +kernel
theorem dX1_look_219 : decode cX1_look 219 = .ok (.iconst 2, 1) := by decide +kernel
theorem dX1_look_220 : decode cX1_look 220 = .ok (.iload_n 3, 1) := by decide +kernel
theorem dX1_look_221 : decode cX1_look 221 = .ok (.iastore, 1) := by decide +kernel
theorem dX1_look_222 : decode cX1_look 222 = .ok (.aload_n 0, 1) := by decide +kernel
theorem dX1_look_223 : decode cX1_look 223 = .ok (.getfield 16, 3) := by decide +kernel
theorem dX1_look_226 : decode cX1_look 226 = .ok (.iconst 3, 1) := by decide +kernel
theorem dX1_look_227 : decode cX1_look 227 = .ok (.iload_n 2, 1) := by decide +kernel
theorem dX1_look_228 : decode cX1_look 228 = .ok (.iastore, 1) := by decide +kernel
theorem dX1_look_229 : decode cX1_look 229 = .ok (.iinc 4 (-1), 3) := by decide +kernel
theorem dX1_look_232 : decode cX1_look 232 = .ok (.goto (-170), 3) := by decide +kernel
theorem dX1_look_235 : decode cX1_look 235 = .ok (.iinc 3 (-1), 3) := by decide +kernel
theorem dX1_look_238 : decode cX1_look 238 = .ok (.goto (-197), 3) := by decide +kernel
theorem dX1_look_241 : decode cX1_look 241 = .ok (.iinc 2 (-1), 3) := by decide +kernel
theorem dX1_look_244 : decode cX1_look 244 = .ok (.goto (-221), 3) := by decide +kernel
theorem dX1_look_247 : decode cX1_look 247 = .ok (.return_, 1) := by decide +kernel
theorem dX1_isBest_0 : decode cX1_isBest 0 = .ok (.aload_n 0, 1) := by decide +kernel
theorem dX1_isBest_1 : decode cX1_isBest 1 = .ok (.iload_n 1, 1) := by decide +kernel
theorem dX1_isBest_2 : decode cX1_isBest 2 = .ok (.iconst 0, 1) := by decide +kernel
theorem dX1_isBest_3 : decode cX1_isBest 3 = .ok (.sipush 2000, 3) := by decide +kernel
theorem dX1_isBest_6 : decode cX1_isBest 6 = .ok (.invokestatic 27, 3) := by decide +kernel
theorem dX1_isBest_9 : decode cX1_isBest 9 = .ok (.ifCond .eq 7, 3) := by decide +kernel
theorem dX1_isBest_12 : decode cX1_isBest 12 = .ok (.iconst 0, 1) := by decide +kernel
theorem dX1_isBest_13 : decode cX1_isBest 13 = .ok (.goto 4, 3) := by decide +kernel
theorem dX1_isBest_16 : decode cX1_isBest 16 = .ok (.iconst 1, 1) := by decide +kernel
theorem dX1_isBest_17 : decode cX1_isBest 17 = .ok (.putfield 23, 3) := by decide +kernel
theorem dX1_isBest_20 : decode cX1_isBest 20 = .ok (.aload_n 0, 1) := by decide +kernel
theorem dX1_isBest_21 : decode cX1_isBest 21 = .ok (.getfield 23, 3) := by decide +kernel
theorem dX1_isBest_24 : decode cX1_isBest 24 = .ok (.ifCond .le 5, 3) := by decide +kernel
theorem dX1_isBest_27 : decode cX1_isBest 27 = .ok (.iconst 0, 1) := by decide +kernel
theorem dX1_isBest_28 : decode cX1_isBest 28 = .ok (.ireturn, 1) := by decide +kernel
theorem dX1_isBest_29 : decode cX1_isBest 29 = .ok (.aload_n 0, 1) := by decide +kernel
theorem dX1_isBest_30 : decode cX1_isBest 30 = .ok (.iload_n 1, 1) := by decide +kernel
theorem dX1_isBest_31 : decode cX1_isBest 31 = .ok (.invokevirtual 43, 3) := by decide +kernel
theorem dX1_isBest_34 : decode cX1_isBest 34 = .ok (.aload_n 0, 1) := by decide +kernel
theorem dX1_isBest_35 : decode cX1_isBest 35 = .ok (.aload_n 0, 1) := by decide +kernel
theorem dX1_isBest_36 : decode cX1_isBest 36 = .ok (.getfield 31, 3) := by decide +kernel
theorem dX1_isBest_39 : decode cX1_isBest 39 = .ok (.ifCond .ne 7, 3) := by decide +kernel
theorem dX1_isBest_42 : decode cX1_isBest 42 = .ok (.iconst 2, 1) := by decide +kernel
theorem dX1_isBest_43 : decode cX1_isBest 43 = .ok (.goto 4, 3) := by decide +kernel
theorem dX1_isBest_46 : decode cX1_isBest 46 = .ok (.iconst 0, 1) := by decide +kernel
theorem dX1_isBest_47 : decode cX1_isBest 47 = .ok (.putfield 23, 3) := by decide +kernel
theorem dX1_isBest_50 : decode cX1_isBest 50 = .ok (.aload_n 0, 1) := by decide +kernel
theorem dX1_isBest_51 : decode cX1_isBest 51 = .ok (.getfield 23, 3) := by decide +kernel
theorem dX1_isBest_54 : decode cX1_isBest 54 = .ok (.ifCond .ne 7, 3) := by decide +kernel
theorem dX1_isBest_57 : decode cX1_isBest 57 = .ok (.iconst 1, 1) := by decide +kernel
theorem dX1_isBest_58 : decode cX1_isBest 58 = .ok (.goto 4, 3) := by decide +kernel
theorem dX1_isBest_61 : decode cX1_isBest 61 = .ok (.iconst 0, 1) := by decide +kernel
theorem dX1_isBest_62 : decode cX1_isBest 62 = .ok (.ireturn, 1) := by decide +kernel
theorem dX1_best_0 : decode cX1_best 0 = .ok (.aload_n 0, 1) := by decide +kernel
theorem dX1_best_1 : decode cX1_best 1 = .ok (.iload_n 1, 1) := by decide +kernel
theorem dX1_best_2 : decode cX1_best 2 = .ok (.invokevirtual 47, 3) := by decide +kernel
theorem dX1_best_5 : decode cX1_best 5 = .ok (.ifCond .eq 10, 3) := by decide +kernel
theorem dX1_best_8 : decode cX1_best 8 = .ok (.aload_n 0, 1) := by decide +kernel
theorem dX1_best_9 : decode cX1_best 9 = .ok (.getfield 34, 3) := by decide +kernel
theorem dX1_best_12 : decode cX1_best 12 = .ok (.goto 4, 3) := by decide +kernel
theorem dX1_best_15 : decode cX1_best 15 = .ok (.iconst 0, 1) := by decide +kernel
theorem dX1_best_16 : decode cX1_best 16 = .ok (.ireturn, 1) := by decide +kernel
theorem dX1_part_0 : decode cX1_part 0 = .ok (.aload_n 0, 1) := by decide +kernel
theorem dX1_part_1 : decode cX1_part 1 = .ok (.iload_n 2, 1) := by decide +kernel
theorem dX1_part_2 : decode cX1_part 2 = .ok (.iconst 0, 1) := by decide +kernel
theorem dX1_part_3 : decode cX1_part 3 = .ok (.iconst 3, 1) := by decide +kernel
theorem dX1_part_4 : decode cX1_part 4 = .ok (.invokestatic 27, 3) := by decide +kernel
theorem dX1_part_7 : decode cX1_part 7 = .ok (.ifCond .eq 7, 3) := by decide +kernel
theorem dX1_part_10 : decode cX1_part 10 = .ok (.iconst 0, 1) := by decide +kernel
theorem dX1_part_11 : decode cX1_part 11 = .ok (.goto 4, 3) := by decide +kernel
theorem dX1_part_14 : decode cX1_part 14 = .ok (.iconst 1, 1) := by decide +kernel
theorem dX1_part_15 : decode cX1_part 15 = .ok (.putfield 23, 3) := by decide +kernel
theorem dX1_part_18 : decode cX1_part 18 = .ok (.aload_n 0, 1) := by decide +kernel
theorem dX1_part_19 : decode cX1_part 19 = .ok (.getfield 23, 3) := by decide +kernel
theorem dX1_part_22 : decode cX1_part 22 = .ok (.ifCond .ne 20, 3) := by decide +kernel
theorem dX1_part_25 : decode cX1_part 25 = .ok (.aload_n 0, 1) := by decide +kernel
theorem dX1_part_26 : decode cX1_part 26 = .ok (.iload_n 1, 1) := by decide +kernel
theorem dX1_part_27 : decode cX1_part 27 = .ok (.invokevirtual 47, 3) := by decide +kernel
theorem dX1_part_30 : decode cX1_part 30 = .ok (.ifCond .eq 12, 3) := by decide +kernel
theorem dX1_part_33 : decode cX1_part 33 = .ok (.aload_n 0, 1) := by decide +kernel
theorem dX1_part_34 : decode cX1_part 34 = .ok (.getfield 16, 3) := by decide +kernel
theorem dX1_part_37 : decode cX1_part 37 = .ok (.iload_n 2, 1) := by decide +kernel
theorem dX1_part_38 : decode cX1_part 38 = .ok (.iaload, 1) := by decide +kernel
theorem dX1_part_39 : decode cX1_part 39 = .ok (.goto 4, 3) := by decide +kernel
theorem dX1_part_42 : decode cX1_part 42 = .ok (.iconst 0, 1) := by decide +kernel
theorem dX1_part_43 : decode cX1_part 43 = .ok (.ireturn, 1) := by decide +kernel
theorem dX1_ways_0 : decode cX1_ways 0 = .ok (.aload_n 0, 1) := by decide +kernel
theorem dX1_ways_1 : decode cX1_ways 1 = .ok (.iload_n 1, 1) := by decide +kernel
theorem dX1_ways_2 : decode cX1_ways 2 = .ok (.iconst 0, 1) := by decide +kernel
theorem dX1_ways_3 : decode cX1_ways 3 = .ok (.sipush 2000, 3) := by decide +kernel
theorem dX1_ways_6 : decode cX1_ways 6 = .ok (.invokestatic 27, 3) := by decide +kernel
theorem dX1_ways_9 : decode cX1_ways 9 = .ok (.ifCond .eq 7, 3) := by decide +kernel
theorem dX1_ways_12 : decode cX1_ways 12 = .ok (.iconst 0, 1) := by decide +kernel
theorem dX1_ways_13 : decode cX1_ways 13 = .ok (.goto 4, 3) := by decide +kernel
theorem dX1_ways_16 : decode cX1_ways 16 = .ok (.iconst 1, 1) := by decide +kernel
theorem dX1_ways_17 : decode cX1_ways 17 = .ok (.putfield 23, 3) := by decide +kernel
theorem dX1_ways_20 : decode cX1_ways 20 = .ok (.aload_n 0, 1) := by decide +kernel
theorem dX1_ways_21 : decode cX1_ways 21 = .ok (.getfield 23, 3) := by decide +kernel
theorem dX1_ways_24 : decode cX1_ways 24 = .ok (.ifCond .le 5, 3) := by decide +kernel
theorem dX1_ways_27 : decode cX1_ways 27 = .ok (.iconst 0, 1) := by decide +kernel
theorem dX1_ways_28 : decode cX1_ways 28 = .ok (.ireturn, 1) := by decide +kernel
theorem dX1_ways_29 : decode cX1_ways 29 = .ok (.aload_n 0, 1) := by decide +kernel
theorem dX1_ways_30 : decode cX1_ways 30 = .ok (.iload_n 1, 1) := by decide +kernel
theorem dX1_ways_31 : decode cX1_ways 31 = .ok (.invokevirtual 43, 3) := by decide +kernel
theorem dX1_ways_34 : decode cX1_ways 34 = .ok (.aload_n 0, 1) := by decide +kernel
theorem dX1_ways_35 : decode cX1_ways 35 = .ok (.getfield 31, 3) := by decide +kernel
theorem dX1_ways_38 : decode cX1_ways 38 = .ok (.ireturn, 1) := by decide +kernel
theorem dX1_pay_0 : decode cX1_pay 0 = .ok (.aload_n 0, 1) := by decide +kernel
theorem dX1_pay_1 : decode cX1_pay 1 = .ok (.iload_n 2, 1) := by decide +kernel
theorem dX1_pay_2 : decode cX1_pay 2 = .ok (.iconst 0, 1) := by decide +kernel
theorem dX1_pay_3 : decode cX1_pay 3 = .ok (.bipush 40, 2) := by decide +kernel
theorem dX1_pay_5 : decode cX1_pay 5 = .ok (.invokestatic 27, 3) := by decide +kernel
theorem dX1_pay_8 : decode cX1_pay 8 = .ok (.ifCond .eq 7, 3) := by decide +kernel
theorem dX1_pay_11 : decode cX1_pay 11 = .ok (.iconst 0, 1) := by decide +kernel
theorem dX1_pay_12 : decode cX1_pay 12 = .ok (.goto 4, 3) := by decide +kernel
theorem dX1_pay_15 : decode cX1_pay 15 = .ok (.iconst 1, 1) := by decide +kernel
theorem dX1_pay_16 : decode cX1_pay 16 = .ok (.putfield 23, 3) := by decide +kernel
theorem dX1_pay_19 : decode cX1_pay 19 = .ok (.aload_n 0, 1) := by decide +kernel
theorem dX1_pay_20 : decode cX1_pay 20 = .ok (.getfield 23, 3) := by decide +kernel
theorem dX1_pay_23 : decode cX1_pay 23 = .ok (.ifCond .gt 11, 3) := by decide +kernel
theorem dX1_pay_26 : decode cX1_pay 26 = .ok (.aload_n 0, 1) := by decide +kernel
theorem dX1_pay_27 : decode cX1_pay 27 = .ok (.iload_n 1, 1) := by decide +kernel
theorem dX1_pay_28 : decode cX1_pay 28 = .ok (.invokevirtual 47, 3) := by decide +kernel
theorem dX1_pay_31 : decode cX1_pay 31 = .ok (.ifCond .ne 5, 3) := by decide +kernel
theorem dX1_pay_34 : decode cX1_pay 34 = .ok (.iconst 0, 1) := by decide +kernel
theorem dX1_pay_35 : decode cX1_pay 35 = .ok (.ireturn, 1) := by decide +kernel
theorem dX1_pay_36 : decode cX1_pay 36 = .ok (.iload_n 2, 1) := by decide +kernel
theorem dX1_pay_37 : decode cX1_pay 37 = .ok (.istore_n 3, 1) := by decide +kernel
theorem dX1_pay_38 : decode cX1_pay 38 = .ok (.iconst 0, 1) := by decide +kernel
theorem dX1_pay_39 : decode cX1_pay 39 = .ok (.istore 4, 2) := by decide +kernel
theorem dX1_pay_41 : decode cX1_pay 41 = .ok (.iconst 3, 1) := by decide +kernel
theorem dX1_pay_42 : decode cX1_pay 42 = .ok (.istore 5, 2) := by decide +kernel
theorem dX1_pay_44 : decode cX1_pay 44 = .ok (.iload 5, 2) := by decide +kernel
theorem dX1_pay_46 : decode cX1_pay 46 = .ok (.ifCond .lt 54, 3) := by decide +kernel
theorem dX1_pay_49 : decode cX1_pay 49 = .ok (.iload_n 3, 1) := by decide +kernel
theorem dX1_pay_50 : decode cX1_pay 50 = .ok (.aload_n 0, 1) := by decide +kernel
theorem dX1_pay_51 : decode cX1_pay 51 = .ok (.getfield 16, 3) := by decide +kernel
theorem dX1_pay_54 : decode cX1_pay 54 = .ok (.iload 5, 2) := by decide +kernel
theorem dX1_pay_56 : decode cX1_pay 56 = .ok (.iaload, 1) := by decide +kernel
theorem dX1_pay_57 : decode cX1_pay 57 = .ok (.invokestatic 37, 3) := by decide +kernel
theorem dX1_pay_60 : decode cX1_pay 60 = .ok (.istore 6, 2) := by decide +kernel
theorem dX1_pay_62 : decode cX1_pay 62 = .ok (.aload_n 0, 1) := by decide +kernel
theorem dX1_pay_63 : decode cX1_pay 63 = .ok (.getfield 13, 3) := by decide +kernel
theorem dX1_pay_66 : decode cX1_pay 66 = .ok (.iload 5, 2) := by decide +kernel
theorem dX1_pay_68 : decode cX1_pay 68 = .ok (.dup2, 1) := by decide +kernel
theorem dX1_pay_69 : decode cX1_pay 69 = .ok (.iaload, 1) := by decide +kernel
theorem dX1_pay_70 : decode cX1_pay 70 = .ok (.iload 6, 2) := by decide +kernel
theorem dX1_pay_72 : decode cX1_pay 72 = .ok (.isub, 1) := by decide +kernel
theorem dX1_pay_73 : decode cX1_pay 73 = .ok (.iastore, 1) := by decide +kernel
theorem dX1_pay_74 : decode cX1_pay 74 = .ok (.iload_n 3, 1) := by decide +kernel
theorem dX1_pay_75 : decode cX1_pay 75 = .ok (.iload 6, 2) := by decide +kernel
theorem dX1_pay_77 : decode cX1_pay 77 = .ok (.isub, 1) := by decide +kernel
theorem dX1_pay_78 : decode cX1_pay 78 = .ok (.istore_n 3, 1) := by decide +kernel
theorem dX1_pay_79 : decode cX1_pay 79 = .ok (.iload 4, 2) := by decide +kernel
theorem dX1_pay_81 : decode cX1_pay 81 = .ok (.iload 6, 2) := by decide +kernel
theorem dX1_pay_83 : decode cX1_pay 83 = .ok (.aload_n 0, 1) := by decide +kernel
theorem dX1_pay_84 : decode cX1_pay 84 = .ok (.getfield 7, 3) := by decide +kernel
theorem dX1_pay_87 : decode cX1_pay 87 = .ok (.iload 5, 2) := by decide +kernel
theorem dX1_pay_89 : decode cX1_pay 89 = .ok (.iaload, 1) := by decide +kernel
theorem dX1_pay_90 : decode cX1_pay 90 = .ok (.imul, 1) := by decide +kernel
theorem dX1_pay_91 : decode cX1_pay 91 = .ok (.iadd, 1) := by decide +kernel
theorem dX1_pay_92 : decode cX1_pay 92 = .ok (.istore 4, 2) := by decide +kernel
theorem dX1_pay_94 : decode cX1_pay 94 = .ok (.iinc 5 (-1), 3) := by decide +kernel
theorem dX1_pay_97 : decode cX1_pay 97 = .ok (.goto (-53), 3) := by decide +kernel
theorem dX1_pay_100 : decode cX1_pay 100 = .ok (.iload 4, 2) := by decide +kernel
theorem dX1_pay_102 : decode cX1_pay 102 = .ok (.ireturn, 1) := by decide +kernel
theorem dX1_all_0 : decode cX1_all 0 = .ok (.iconst 0, 1) := by decide +kernel
theorem dX1_all_1 : decode cX1_all 1 = .ok (.istore_n 1, 1) := by decide +kernel
theorem dX1_all_2 : decode cX1_all 2 = .ok (.iload_n 1, 1) := by decide +kernel
theorem dX1_all_3 : decode cX1_all 3 = .ok (.sipush 2000, 3) := by decide +kernel
theorem dX1_all_6 : decode cX1_all 6 = .ok (.if_icmp .gt 16, 3) := by decide +kernel
theorem dX1_all_9 : decode cX1_all 9 = .ok (.aload_n 0, 1) := by decide +kernel
theorem dX1_all_10 : decode cX1_all 10 = .ok (.getfield 19, 3) := by decide +kernel
theorem dX1_all_13 : decode cX1_all 13 = .ok (.iload_n 1, 1) := by decide +kernel
theorem dX1_all_14 : decode cX1_all 14 = .ok (.iconst 0, 1) := by decide +kernel
theorem dX1_all_15 : decode cX1_all 15 = .ok (.bastore, 1) := by decide +kernel
theorem dX1_all_16 : decode cX1_all 16 = .ok (.iinc 1 1, 3) := by decide +kernel
theorem dX1_all_19 : decode cX1_all 19 = .ok (.goto (-17), 3) := by decide +kernel
theorem dX1_all_22 : decode cX1_all 22 = .ok (.iconst 0, 1) := by decide +kernel
theorem dX1_all_23 : decode cX1_all 23 = .ok (.istore_n 1, 1) := by decide +kernel
theorem dX1_all_24 : decode cX1_all 24 = .ok (.iload_n 1, 1) := by decide +kernel
theorem dX1_all_25 : decode cX1_all 25 = .ok (.aload_n 0, 1) := by decide +kernel
theorem dX1_all_26 : decode cX1_all 26 = .ok (.getfield 13, 3) := by decide +kernel
theorem dX1_all_29 : decode cX1_all 29 = .ok (.iconst 3, 1) := by decide +kernel
theorem dX1_all_30 : decode cX1_all 30 = .ok (.iaload, 1) := by decide +kernel
theorem dX1_all_31 : decode cX1_all 31 = .ok (.bipush 40, 2) := by decide +kernel
theorem dX1_all_33 : decode cX1_all 33 = .ok (.invokestatic 37, 3) := by decide +kernel
theorem dX1_all_36 : decode cX1_all 36 = .ok (.if_icmp .gt 147, 3) := by decide +kernel
theorem dX1_all_39 : decode cX1_all 39 = .ok (.iconst 0, 1) := by decide +kernel
theorem dX1_all_40 : decode cX1_all 40 = .ok (.istore_n 2, 1) := by decide +kernel
theorem dX1_all_41 : decode cX1_all 41 = .ok (.iload_n 2, 1) := by decide +kernel
theorem dX1_all_42 : decode cX1_all 42 = .ok (.aload_n 0, 1) := by decide +kernel
theorem dX1_all_43 : decode cX1_all 43 = .ok (.getfield 13, 3) := by decide +kernel
theorem dX1_all_46 : decode cX1_all 46 = .ok (.iconst 2, 1) := by decide +kernel
theorem dX1_all_47 : decode cX1_all 47 = .ok (.iaload, 1) := by decide +kernel
theorem dX1_all_48 : decode cX1_all 48 = .ok (.bipush 40, 2) := by decide +kernel
theorem dX1_all_50 : decode cX1_all 50 = .ok (.iload_n 1, 1) := by decide +kernel
theorem dX1_all_51 : decode cX1_all 51 = .ok (.isub, 1) := by decide +kernel
theorem dX1_all_52 : decode cX1_all 52 = .ok (.invokestatic 37, 3) := by decide +kernel
theorem dX1_all_55 : decode cX1_all 55 = .ok (.if_icmp .gt 122, 3) := by decide +kernel
theorem dX1_all_58 : decode cX1_all 58 = .ok (.iconst 0, 1) := by decide +kernel
theorem dX1_all_59 : decode cX1_all 59 = .ok (.istore_n 3, 1) := by decide +kernel
theorem dX1_all_60 : decode cX1_all 60 = .ok (.iload_n 3, 1) := by decide +kernel
theorem dX1_all_61 : decode cX1_all 61 = .ok (.aload_n 0, 1) := by decide +kernel
theorem dX1_all_62 : decode cX1_all 62 = .ok (.getfield 13, 3) := by decide +kernel
theorem dX1_all_65 : decode cX1_all 65 = .ok (.iconst 1, 1) := by decide +kernel
theorem dX1_all_66 : decode cX1_all 66 = .ok (.iaload, 1) := by decide +kernel
theorem dX1_all_67 : decode cX1_all 67 = .ok (.bipush 40, 2) := by decide +kernel
theorem dX1_all_69 : decode cX1_all 69 = .ok (.iload_n 1, 1) := by decide +kernel
theorem dX1_all_70 : decode cX1_all 70 = .ok (.isub, 1) := by decide +kernel
theorem dX1_all_71 : decode cX1_all 71 = .ok (.iload_n 2, 1) := by decide +kernel
theorem dX1_all_72 : decode cX1_all 72 = .ok (.isub, 1) := by decide +kernel
theorem dX1_all_73 : decode cX1_all 73 = .ok (.invokestatic 37, 3) := by decide +kernel
theorem dX1_all_76 : decode cX1_all 76 = .ok (.if_icmp .gt 95, 3) := by decide +kernel
theorem dX1_all_79 : decode cX1_all 79 = .ok (.iload_n 1, 1) := by decide +kernel
theorem dX1_all_80 : decode cX1_all 80 = .ok (.aload_n 0, 1) := by decide +kernel
theorem dX1_all_81 : decode cX1_all 81 = .ok (.getfield 7, 3) := by decide +kernel
theorem dX1_all_84 : decode cX1_all 84 = .ok (.iconst 3, 1) := by decide +kernel
theorem dX1_all_85 : decode cX1_all 85 = .ok (.iaload, 1) := by decide +kernel
theorem dX1_all_86 : decode cX1_all 86 = .ok (.imul, 1) := by decide +kernel
theorem dX1_all_87 : decode cX1_all 87 = .ok (.iload_n 2, 1) := by decide +kernel
theorem dX1_all_88 : decode cX1_all 88 = .ok (.aload_n 0, 1) := by decide +kernel
theorem dX1_all_89 : decode cX1_all 89 = .ok (.getfield 7, 3) := by decide +kernel
theorem dX1_all_92 : decode cX1_all 92 = .ok (.iconst 2, 1) := by decide +kernel
theorem dX1_all_93 : decode cX1_all 93 = .ok (.iaload, 1) := by decide +kernel
theorem dX1_all_94 : decode cX1_all 94 = .ok (.imul, 1) := by decide +kernel
theorem dX1_all_95 : decode cX1_all 95 = .ok (.iadd, 1) := by decide +kernel
theorem dX1_all_96 : decode cX1_all 96 = .ok (.iload_n 3, 1) := by decide +kernel
theorem dX1_all_97 : decode cX1_all 97 = .ok (.aload_n 0, 1) := by decide +kernel
theorem dX1_all_98 : decode cX1_all 98 = .ok (.getfield 7, 3) := by decide +kernel
theorem dX1_all_101 : decode cX1_all 101 = .ok (.iconst 1, 1) := by decide +kernel
theorem dX1_all_102 : decode cX1_all 102 = .ok (.iaload, 1) := by decide +kernel
theorem dX1_all_103 : decode cX1_all 103 = .ok (.imul, 1) := by decide +kernel
theorem dX1_all_104 : decode cX1_all 104 = .ok (.iadd, 1) := by decide +kernel
theorem dX1_all_105 : decode cX1_all 105 = .ok (.istore 4, 2) := by decide +kernel
theorem dX1_all_107 : decode cX1_all 107 = .ok (.iconst 0, 1) := by decide +kernel
theorem dX1_all_108 : decode cX1_all 108 = .ok (.istore 5, 2) := by decide +kernel
theorem dX1_all_110 : decode cX1_all 110 = .ok (.iload 5, 2) := by decide +kernel
theorem dX1_all_112 : decode cX1_all 112 = .ok (.aload_n 0, 1) := by decide +kernel
theorem dX1_all_113 : decode cX1_all 113 = .ok (.getfield 13, 3) := by decide +kernel
theorem dX1_all_116 : decode cX1_all 116 = .ok (.iconst 0, 1) := by decide +kernel
theorem dX1_all_117 : decode cX1_all 117 = .ok (.iaload, 1) := by decide +kernel
theorem dX1_all_118 : decode cX1_all 118 = .ok (.bipush 40, 2) := by decide +kernel
theorem dX1_all_120 : decode cX1_all 120 = .ok (.iload_n 1, 1) := by decide +kernel
theorem dX1_all_121 : decode cX1_all 121 = .ok (.isub, 1) := by decide +kernel
theorem dX1_all_122 : decode cX1_all 122 = .ok (.iload_n 2, 1) := by decide +kernel
theorem dX1_all_123 : decode cX1_all 123 = .ok (.isub, 1) := by decide +kernel
theorem dX1_all_124 : decode cX1_all 124 = .ok (.iload_n 3, 1) := by decide +kernel
theorem dX1_all_125 : decode cX1_all 125 = .ok (.isub, 1) := by decide +kernel
theorem dX1_all_126 : decode cX1_all 126 = .ok (.invokestatic 37, 3) := by decide +kernel
theorem dX1_all_129 : decode cX1_all 129 = .ok (.if_icmp .gt 36, 3) := by decide +kernel
theorem dX1_all_132 : decode cX1_all 132 = .ok (.iload 4, 2) := by decide +kernel
theorem dX1_all_134 : decode cX1_all 134 = .ok (.sipush 2000, 3) := by decide +kernel
theorem dX1_all_137 : decode cX1_all 137 = .ok (.if_icmp .gt 28, 3) := by decide +kernel
theorem dX1_all_140 : decode cX1_all 140 = .ok (.aload_n 0, 1) := by decide +kernel
theorem dX1_all_141 : decode cX1_all 141 = .ok (.getfield 19, 3) := by decide +kernel
theorem dX1_all_144 : decode cX1_all 144 = .ok (.iload 4, 2) := by decide +kernel
theorem dX1_all_146 : decode cX1_all 146 = .ok (.iconst 1, 1) := by decide +kernel
theorem dX1_all_147 : decode cX1_all 147 = .ok (.bastore, 1) := by decide +kernel
theorem dX1_all_148 : decode cX1_all 148 = .ok (.iload 4, 2) := by decide +kernel
theorem dX1_all_150 : decode cX1_all 150 = .ok (.aload_n 0, 1) := by decide +kernel
theorem dX1_all_151 : decode cX1_all 151 = .ok (.getfield 7, 3) := by decide +kernel
theorem dX1_all_154 : decode cX1_all 154 = .ok (.iconst 0, 1) := by decide +kernel
theorem dX1_all_155 : decode cX1_all 155 = .ok (.iaload, 1) := by decide +kernel
theorem dX1_all_156 : decode cX1_all 156 = .ok (.iadd, 1) := by decide +kernel
theorem dX1_all_157 : decode cX1_all 157 = .ok (.istore 4, 2) := by decide +kernel
theorem dX1_all_159 : decode cX1_all 159 = .ok (.iinc 5 1, 3) := by decide +kernel
theorem dX1_all_162 : decode cX1_all 162 = .ok (.goto (-52), 3) := by decide +kernel
theorem dX1_all_165 : decode cX1_all 165 = .ok (.iinc 3 1, 3) := by decide +kernel
theorem dX1_all_168 : decode cX1_all 168 = .ok (.goto (-108), 3) := by decide +kernel
theorem dX1_all_171 : decode cX1_all 171 = .ok (.iinc 2 1, 3) := by decide +kernel
theorem dX1_all_174 : decode cX1_all 174 = .ok (.goto (-133), 3) := by decide +kernel
theorem dX1_all_177 : decode cX1_all 177 = .ok (.iinc 1 1, 3) := by decide +kernel
theorem dX1_all_180 : decode cX1_all 180 = .ok (.goto (-156), 3) := by decide +kernel
theorem dX1_all_183 : decode cX1_all 183 = .ok (.return_, 1) := by decide +kernel
theorem dX1_next_0 : decode cX1_next 0 = .ok (.aload_n 0, 1) := by decide +kernel
theorem dX1_next_1 : decode cX1_next 1 = .ok (.iload_n 1, 1) := by decide +kernel
theorem dX1_next_2 : decode cX1_next 2 = .ok (.iconst 0, 1) := by decide +kernel
theorem dX1_next_3 : decode cX1_next 3 = .ok (.sipush 2000, 3) := by decide +kernel
theorem dX1_next_6 : decode cX1_next 6 = .ok (.invokestatic 27, 3) := by decide +kernel
theorem dX1_next_9 : decode cX1_next 9 = .ok (.ifCond .eq 7, 3) := by decide +kernel
theorem dX1_next_12 : decode cX1_next 12 = .ok (.iconst 0, 1) := by decide +kernel
theorem dX1_next_13 : decode cX1_next 13 = .ok (.goto 4, 3) := by decide +kernel
theorem dX1_next_16 : decode cX1_next 16 = .ok (.iconst 1, 1) := by decide +kernel
theorem dX1_next_17 : decode cX1_next 17 = .ok (.putfield 23, 3) := by decide +kernel
theorem dX1_next_20 : decode cX1_next 20 = .ok (.aload_n 0, 1) := by decide +kernel
theorem dX1_next_21 : decode cX1_next 21 = .ok (.getfield 23, 3) := by decide +kernel
theorem dX1_next_24 : decode cX1_next 24 = .ok (.ifCond .le 5, 3) := by decide +kernel
theorem dX1_next_27 : decode cX1_next 27 = .ok (.iconst 0, 1) := by decide +kernel
theorem dX1_next_28 : decode cX1_next 28 = .ok (.ireturn, 1) := by decide +kernel
theorem dX1_next_29 : decode cX1_next 29 = .ok (.aload_n 0, 1) := by decide +kernel
theorem dX1_next_30 : decode cX1_next 30 = .ok (.invokevirtual 51, 3) := by decide +kernel
theorem dX1_next_33 : decode cX1_next 33 = .ok (.iload_n 1, 1) := by decide +kernel
theorem dX1_next_34 : decode cX1_next 34 = .ok (.istore_n 2, 1) := by decide +kernel
theorem dX1_next_35 : decode cX1_next 35 = .ok (.iload_n 2, 1) := by decide +kernel
theorem dX1_next_36 : decode cX1_next 36 = .ok (.sipush 2000, 3) := by decide +kernel
theorem dX1_next_39 : decode cX1_next 39 = .ok (.if_icmp .gt 20, 3) := by decide +kernel
theorem dX1_next_42 : decode cX1_next 42 = .ok (.aload_n 0, 1) := by decide +kernel
theorem dX1_next_43 : decode cX1_next 43 = .ok (.getfield 19, 3) := by decide +kernel
theorem dX1_next_46 : decode cX1_next 46 = .ok (.iload_n 2, 1) := by decide +kernel
theorem dX1_next_47 : decode cX1_next 47 = .ok (.baload, 1) := by decide +kernel
theorem dX1_next_48 : decode cX1_next 48 = .ok (.ifCond .eq 5, 3) := by decide +kernel
theorem dX1_next_51 : decode cX1_next 51 = .ok (.iload_n 2, 1) := by decide +kernel
theorem dX1_next_52 : decode cX1_next 52 = .ok (.ireturn, 1) := by decide +kernel
theorem dX1_next_53 : decode cX1_next 53 = .ok (.iinc 2 1, 3) := by decide +kernel
theorem dX1_next_56 : decode cX1_next 56 = .ok (.goto (-21), 3) := by decide +kernel
theorem dX1_next_59 : decode cX1_next 59 = .ok (.iconst (-1), 1) := by decide +kernel
theorem dX1_next_60 : decode cX1_next 60 = .ok (.ireturn, 1) := by decide +kernel
theorem dX1_reach_0 : decode cX1_reach 0 = .ok (.aload_n 0, 1) := by decide +kernel
theorem dX1_reach_1 : decode cX1_reach 1 = .ok (.iconst 0, 1) := by decide +kernel
theorem dX1_reach_2 : decode cX1_reach 2 = .ok (.putfield 23, 3) := by decide +kernel
theorem dX1_reach_5 : decode cX1_reach 5 = .ok (.aload_n 0, 1) := by decide +kernel
theorem dX1_reach_6 : decode cX1_reach 6 = .ok (.invokevirtual 51, 3) := by decide +kernel
theorem dX1_reach_9 : decode cX1_reach 9 = .ok (.iconst 0, 1) := by decide +kernel
theorem dX1_reach_10 : decode cX1_reach 10 = .ok (.istore_n 1, 1) := by decide +kernel
theorem dX1_reach_11 : decode cX1_reach 11 = .ok (.iconst 0, 1) := by decide +kernel
theorem dX1_reach_12 : decode cX1_reach 12 = .ok (.istore_n 2, 1) := by decide +kernel
theorem dX1_reach_13 : decode cX1_reach 13 = .ok (.iload_n 2, 1) := by decide +kernel
theorem dX1_reach_14 : decode cX1_reach 14 = .ok (.sipush 2000, 3) := by decide +kernel
theorem dX1_reach_17 : decode cX1_reach 17 = .ok (.if_icmp .gt 21, 3) := by decide +kernel
theorem dX1_reach_20 : decode cX1_reach 20 = .ok (.aload_n 0, 1) := by decide +kernel
theorem dX1_reach_21 : decode cX1_reach 21 = .ok (.getfield 19, 3) := by decide +kernel
theorem dX1_reach_24 : decode cX1_reach 24 = .ok (.iload_n 2, 1) := by decide +kernel
theorem dX1_reach_25 : decode cX1_reach 25 = .ok (.baload, 1) := by decide +kernel
theorem dX1_reach_26 : decode cX1_reach 26 = .ok (.ifCond .eq 6, 3) := by decide +kernel
theorem dX1_reach_29 : decode cX1_reach 29 = .ok (.iinc 1 1, 3) := by decide +kernel
theorem dX1_reach_32 : decode cX1_reach 32 = .ok (.iinc 2 1, 3) := by decide +kernel
theorem dX1_reach_35 : decode cX1_reach 35 = .ok (.goto (-22), 3) := by decide +kernel
theorem dX1_reach_38 : decode cX1_reach 38 = .ok (.iload_n 1, 1) := by decide +kernel
theorem dX1_reach_39 : decode cX1_reach 39 = .ok (.ireturn, 1) := by decide +kernel
theorem dX1_cassette_0 : decode cX1_cassette 0 = .ok (.aload_n 0, 1) := by decide +kernel
theorem dX1_cassette_1 : decode cX1_cassette 1 = .ok (.iload_n 1, 1) := by decide +kernel
theorem dX1_cassette_2 : decode cX1_cassette 2 = .ok (.iconst 0, 1) := by decide +kernel
theorem dX1_cassette_3 : decode cX1_cassette 3 = .ok (.iconst 3, 1) := by decide +kernel
theorem dX1_cassette_4 : decode cX1_cassette 4 = .ok (.invokestatic 27, 3) := by decide +kernel
theorem dX1_cassette_7 : decode cX1_cassette 7 = .ok (.ifCond .eq 7, 3) := by decide +kernel
theorem dX1_cassette_10 : decode cX1_cassette 10 = .ok (.iconst 0, 1) := by decide +kernel
theorem dX1_cassette_11 : decode cX1_cassette 11 = .ok (.goto 4, 3) := by decide +kernel
theorem dX1_cassette_14 : decode cX1_cassette 14 = .ok (.iconst 1, 1) := by decide +kernel
theorem dX1_cassette_15 : decode cX1_cassette 15 = .ok (.putfield 23, 3) := by decide +kernel
theorem dX1_cassette_18 : decode cX1_cassette 18 = .ok (.aload_n 0, 1) := by decide +kernel
theorem dX1_cassette_19 : decode cX1_cassette 19 = .ok (.getfield 23, 3) := by decide +kernel
theorem dX1_cassette_22 : decode cX1_cassette 22 = .ok (.ifCond .le 5, 3) := by decide +kernel
theorem dX1_cassette_25 : decode cX1_cassette 25 = .ok (.iconst 0, 1) := by decide +kernel
theorem dX1_cassette_26 : decode cX1_cassette 26 = .ok (.ireturn, 1) := by decide +kernel
theorem dX1_cassette_27 : decode cX1_cassette 27 = .ok (.iload_n 2, 1) := by decide +kernel
theorem dX1_cassette_28 : decode cX1_cassette 28 = .ok (.ifCond .eq 12, 3) := by decide +kernel
theorem dX1_cassette_31 : decode cX1_cassette 31 = .ok (.aload_n 0, 1) := by decide +kernel
theorem dX1_cassette_32 : decode cX1_cassette 32 = .ok (.getfield 7, 3) := by decide +kernel
theorem dX1_cassette_35 : decode cX1_cassette 35 = .ok (.iload_n 1, 1) := by decide +kernel
theorem dX1_cassette_36 : decode cX1_cassette 36 = .ok (.iaload, 1) := by decide +kernel
theorem dX1_cassette_37 : decode cX1_cassette 37 = .ok (.goto 9, 3) := by decide +kernel
theorem dX1_cassette_40 : decode cX1_cassette 40 = .ok (.aload_n 0, 1) := by decide +kernel
theorem dX1_cassette_41 : decode cX1_cassette 41 = .ok (.getfield 13, 3) := by decide +kernel
theorem dX1_cassette_44 : decode cX1_cassette 44 = .ok (.iload_n 1, 1) := by decide +kernel
theorem dX1_cassette_45 : decode cX1_cassette 45 = .ok (.iaload, 1) := by decide +kernel
theorem dX1_cassette_46 : decode cX1_cassette 46 = .ok (.ireturn, 1) := by decide +kernel
theorem dX1_value_0 : decode cX1_value 0 = .ok (.aload_n 0, 1) := by decide +kernel
theorem dX1_value_1 : decode cX1_value 1 = .ok (.iconst 0, 1) := by decide +kernel
theorem dX1_value_2 : decode cX1_value 2 = .ok (.putfield 23, 3) := by decide +kernel
theorem dX1_value_5 : decode cX1_value 5 = .ok (.iconst 0, 1) := by decide +kernel
theorem dX1_value_6 : decode cX1_value 6 = .ok (.istore_n 1, 1) := by decide +kernel
theorem dX1_value_7 : decode cX1_value 7 = .ok (.iconst 0, 1) := by decide +kernel
theorem dX1_value_8 : decode cX1_value 8 = .ok (.istore_n 2, 1) := by decide +kernel
theorem dX1_value_9 : decode cX1_value 9 = .ok (.iload_n 2, 1) := by decide +kernel
theorem dX1_value_10 : decode cX1_value 10 = .ok (.iconst 4, 1) := by decide +kernel
theorem dX1_value_11 : decode cX1_value 11 = .ok (.if_icmp .ge 25, 3) := by decide +kernel
theorem dX1_value_14 : decode cX1_value 14 = .ok (.iload_n 1, 1) := by decide +kernel
theorem dX1_value_15 : decode cX1_value 15 = .ok (.aload_n 0, 1) := by decide +kernel
theorem dX1_value_16 : decode cX1_value 16 = .ok (.getfield 13, 3) := by decide +kernel
theorem dX1_value_19 : decode cX1_value 19 = .ok (.iload_n 2, 1) := by decide +kernel
theorem dX1_value_20 : decode cX1_value 20 = .ok (.iaload, 1) := by decide +kernel
theorem dX1_value_21 : decode cX1_value 21 = .ok (.aload_n 0, 1) := by decide +kernel
theorem dX1_value_22 : decode cX1_value 22 = .ok (.getfield 7, 3) := by decide +kernel
theorem dX1_value_25 : decode cX1_value 25 = .ok (.iload_n 2, 1) := by decide +kernel
theorem dX1_value_26 : decode cX1_value 26 = .ok (.iaload, 1) := by decide +kernel
theorem dX1_value_27 : decode cX1_value 27 = .ok (.imul, 1) := by decide +kernel
theorem dX1_value_28 : decode cX1_value 28 = .ok (.iadd, 1) := by decide +kernel
theorem dX1_value_29 : decode cX1_value 29 = .ok (.istore_n 1, 1) := by decide +kernel
theorem dX1_value_30 : decode cX1_value 30 = .ok (.iinc 2 1, 3) := by decide +kernel
theorem dX1_value_33 : decode cX1_value 33 = .ok (.goto (-24), 3) := by decide +kernel
theorem dX1_value_36 : decode cX1_value 36 = .ok (.iload_n 1, 1) := by decide +kernel
theorem dX1_value_37 : decode cX1_value 37 = .ok (.ireturn, 1) := by decide +kernel
set_option maxRecDepth 20000 in
theorem inX1_thrown : ∀ w ∈ u_ws RX1 TX1 7, w ∈ wsX1_thrown := by decide +kernel
set_option maxRecDepth 20000 in
theorem ggX1_load_X1_in_ : GoodIn wsX1_load wsX1_in_ := goodIn_r _ [4] (by decide +kernel) (by decide +kernel)
set_option maxRecDepth 20000 in
theorem gX1_load_X1_in_ : GoodIn wsX1_load (va_wsS RX1 27 yX1_in_ wsX1_in_) := goodIn_app (goodIn_of _ (by decide +kernel)) ggX1_load_X1_in_
set_option maxRecDepth 20000 in
theorem inX1_load : ∀ w ∈ u_ws RX1 TX1 7, w ∈ wsX1_load := by decide +kernel
set_option maxRecDepth 20000 in
theorem inX1_look : ∀ w ∈ u_ws RX1 TX1 7, w ∈ wsX1_look := by decide +kernel
set_option maxRecDepth 20000 in
theorem ggX1_isBest_X1_in_ : GoodIn wsX1_isBest wsX1_in_ := goodIn_r _ [4] (by decide +kernel) (by decide +kernel)
set_option maxRecDepth 20000 in
theorem gX1_isBest_X1_in_ : GoodIn wsX1_isBest (va_wsS RX1 27 yX1_in_ wsX1_in_) := goodIn_app (goodIn_of _ (by decide +kernel)) ggX1_isBest_X1_in_
set_option maxRecDepth 20000 in
theorem ggX1_isBest_X1_look : GoodIn wsX1_isBest wsX1_look := goodIn_r _ [9, 10, 11, 12, 13, 14, 15, 16, 17, 18, 19, 20, 21, 22, 23, 24, 25] (by decide +kernel) (by decide +kernel)
set_option maxRecDepth 20000 in
theorem gX1_isBest_X1_look : GoodIn wsX1_isBest (wsV RX1 43 RX1 yX1_look wsX1_look) := goodIn_app (goodIn_of _ (by decide +kernel)) ggX1_isBest_X1_look
set_option maxRecDepth 20000 in
theorem inX1_isBest : ∀ w ∈ u_ws RX1 TX1 7, w ∈ wsX1_isBest := by decide +kernel
set_option maxRecDepth 20000 in
theorem ggX1_best_X1_isBest : GoodIn wsX1_best wsX1_isBest := goodIn_r _ [5, 6, 7, 4, 8, 9, 10, 11, 12, 13, 14, 15, 16, 17, 18, 19, 20, 21, 22, 23, 24, 25, 26, 27, 28, 29] (by decide +kernel) (by decide +kernel)
set_option maxRecDepth 20000 in
theorem gX1_best_X1_isBest : GoodIn wsX1_best (wsV RX1 47 RX1 yX1_isBest wsX1_isBest) := goodIn_app (goodIn_of _ (by decide +kernel)) ggX1_best_X1_isBest
set_option maxRecDepth 20000 in
theorem inX1_best : ∀ w ∈ u_ws RX1 TX1 7, w ∈ wsX1_best := by decide +kernel
set_option maxRecDepth 20000 in
theorem ggX1_part_X1_in_ : GoodIn wsX1_part wsX1_in_ := goodIn_r _ [4] (by decide +kernel) (by decide +kernel)
set_option maxRecDepth 20000 in
theorem gX1_part_X1_in_ : GoodIn wsX1_part (va_wsS RX1 27 yX1_in_ wsX1_in_) := goodIn_app (goodIn_of _ (by decide +kernel)) ggX1_part_X1_in_
set_option maxRecDepth 20000 in
theorem ggX1_part_X1_isBest : GoodIn wsX1_part wsX1_isBest := goodIn_r _ [9, 1, 2, 3, 4, 5, 10, 11, 12, 13, 14, 15, 16, 17, 18, 19, 20, 21, 22, 23, 24, 25, 26, 27, 28, 29] (by decide +kernel) (by decide +kernel)
set_option maxRecDepth 20000 in
theorem gX1_part_X1_isBest : GoodIn wsX1_part (wsV RX1 47 RX1 yX1_isBest wsX1_isBest) := goodIn_app (goodIn_of _ (by decide +kernel)) ggX1_part_X1_isBest
set_option maxRecDepth 20000 in
theorem inX1_part : ∀ w ∈ u_ws RX1 TX1 7, w ∈ wsX1_part := by decide +kernel
set_option maxRecDepth 20000 in
theorem ggX1_ways_X1_in_ : GoodIn wsX1_ways wsX1_in_ := goodIn_r _ [4] (by decide +kernel) (by decide +kernel)
set_option maxRecDepth 20000 in
theorem gX1_ways_X1_in_ : GoodIn wsX1_ways (va_wsS RX1 27 yX1_in_ wsX1_in_) := goodIn_app (goodIn_of _ (by decide +kernel)) ggX1_ways_X1_in_
set_option maxRecDepth 20000 in
theorem ggX1_ways_X1_look : GoodIn wsX1_ways wsX1_look := goodIn_r _ [9, 10, 11, 12, 13, 14, 15, 16, 17, 18, 19, 20, 21, 22, 23, 24, 25] (by decide +kernel) (by decide +kernel)
set_option maxRecDepth 20000 in
theorem gX1_ways_X1_look : GoodIn wsX1_ways (wsV RX1 43 RX1 yX1_look wsX1_look) := goodIn_app (goodIn_of _ (by decide +kernel)) ggX1_ways_X1_look
set_option maxRecDepth 20000 in
theorem inX1_ways : ∀ w ∈ u_ws RX1 TX1 7, w ∈ wsX1_ways := by decide +kernel
set_option maxRecDepth 20000 in
theorem ggX1_pay_X1_in_ : GoodIn wsX1_pay wsX1_in_ := goodIn_r _ [4] (by decide +kernel) (by decide +kernel)
set_option maxRecDepth 20000 in
theorem gX1_pay_X1_in_ : GoodIn wsX1_pay (va_wsS RX1 27 yX1_in_ wsX1_in_) := goodIn_app (goodIn_of _ (by decide +kernel)) ggX1_pay_X1_in_
set_option maxRecDepth 20000 in
theorem ggX1_pay_X1_isBest : GoodIn wsX1_pay wsX1_isBest := goodIn_r _ [9, 1, 2, 3, 4, 5, 10, 11, 12, 13, 14, 15, 16, 17, 18, 19, 20, 21, 22, 23, 24, 25, 26, 27, 28, 29] (by decide +kernel) (by decide +kernel)
set_option maxRecDepth 20000 in
theorem gX1_pay_X1_isBest : GoodIn wsX1_pay (wsV RX1 47 RX1 yX1_isBest wsX1_isBest) := goodIn_app (goodIn_of _ (by decide +kernel)) ggX1_pay_X1_isBest
set_option maxRecDepth 20000 in
theorem inX1_pay : ∀ w ∈ u_ws RX1 TX1 7, w ∈ wsX1_pay := by decide +kernel
set_option maxRecDepth 20000 in
theorem inX1_all : ∀ w ∈ u_ws RX1 TX1 7, w ∈ wsX1_all := by decide +kernel
set_option maxRecDepth 20000 in
theorem ggX1_next_X1_in_ : GoodIn wsX1_next wsX1_in_ := goodIn_r _ [4] (by decide +kernel) (by decide +kernel)
set_option maxRecDepth 20000 in
theorem gX1_next_X1_in_ : GoodIn wsX1_next (va_wsS RX1 27 yX1_in_ wsX1_in_) := goodIn_app (goodIn_of _ (by decide +kernel)) ggX1_next_X1_in_
set_option maxRecDepth 20000 in
theorem ggX1_next_X1_all : GoodIn wsX1_next wsX1_all := goodIn_r _ [9, 10, 11, 12, 13, 14, 15, 16, 17, 18, 19, 20, 21, 22, 23] (by decide +kernel) (by decide +kernel)
set_option maxRecDepth 20000 in
theorem gX1_next_X1_all : GoodIn wsX1_next (wsV RX1 51 RX1 yX1_all wsX1_all) := goodIn_app (goodIn_of _ (by decide +kernel)) ggX1_next_X1_all
set_option maxRecDepth 20000 in
theorem inX1_next : ∀ w ∈ u_ws RX1 TX1 7, w ∈ wsX1_next := by decide +kernel
set_option maxRecDepth 20000 in
theorem ggX1_reach_X1_all : GoodIn wsX1_reach wsX1_all := goodIn_r _ [6, 7, 8, 9, 10, 11, 12, 13, 14, 15, 16, 17, 18, 19, 20] (by decide +kernel) (by decide +kernel)
set_option maxRecDepth 20000 in
theorem gX1_reach_X1_all : GoodIn wsX1_reach (wsV RX1 51 RX1 yX1_all wsX1_all) := goodIn_app (goodIn_of _ (by decide +kernel)) ggX1_reach_X1_all
set_option maxRecDepth 20000 in
theorem inX1_reach : ∀ w ∈ u_ws RX1 TX1 7, w ∈ wsX1_reach := by decide +kernel
set_option maxRecDepth 20000 in
theorem ggX1_cassette_X1_in_ : GoodIn wsX1_cassette wsX1_in_ := goodIn_r _ [4] (by decide +kernel) (by decide +kernel)
set_option maxRecDepth 20000 in
theorem gX1_cassette_X1_in_ : GoodIn wsX1_cassette (va_wsS RX1 27 yX1_in_ wsX1_in_) := goodIn_app (goodIn_of _ (by decide +kernel)) ggX1_cassette_X1_in_
set_option maxRecDepth 20000 in
theorem inX1_cassette : ∀ w ∈ u_ws RX1 TX1 7, w ∈ wsX1_cassette := by decide +kernel
set_option maxRecDepth 20000 in
theorem inX1_value : ∀ w ∈ u_ws RX1 TX1 7, w ∈ wsX1_value := by decide +kernel
