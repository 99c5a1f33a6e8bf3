theorem t_0 : Cond.selects "LayoutTokens$Source" (⟨"LayoutTokens$Source", "columnBehind", "(II)I"⟩ : MethodName) (⟨"LayoutTokens$Source", "columnBehind", "(II)I"⟩ : MethodName) ∈ kw := kw_of (i := 0) (by decide +kernel) rfl
theorem t_1 : Cond.selects "LayoutTokens" (⟨"LayoutTokens", "forget", "()V"⟩ : MethodName) (⟨"LayoutTokens", "forget", "()V"⟩ : MethodName) ∈ kw := kw_of (i := 1) (by decide +kernel) rfl
theorem t_32 : Cond.selects "LayoutTokens$Layout" (⟨"LayoutTokens$Layout", "putIn", "(IZ)V"⟩ : MethodName) (⟨"LayoutTokens$Layout", "putIn", "(IZ)V"⟩ : MethodName) ∈ kw := kw_of (i := 32) (by decide +kernel) rfl
theorem t_35 : Cond.selects "LayoutTokens$Layout" (⟨"LayoutTokens$Layout", "closeEmpty", "()V"⟩ : MethodName) (⟨"LayoutTokens$Layout", "closeEmpty", "()V"⟩ : MethodName) ∈ kw := kw_of (i := 35) (by decide +kernel) rfl
theorem t_37 : Cond.selects "LayoutTokens$Layout" (⟨"LayoutTokens$Layout", "topColumn", "()I"⟩ : MethodName) (⟨"LayoutTokens$Layout", "topColumn", "()I"⟩ : MethodName) ∈ kw := kw_of (i := 37) (by decide +kernel) rfl
theorem t_46 : Cond.selects "LayoutTokens$Layout" (⟨"LayoutTokens$Layout", "finish", "()V"⟩ : MethodName) (⟨"LayoutTokens$Layout", "finish", "()V"⟩ : MethodName) ∈ kw := kw_of (i := 46) (by decide +kernel) rfl
theorem t_53 : Cond.selects "LayoutTokensModel" (⟨"LayoutTokensModel", "unread", "()V"⟩ : MethodName) (⟨"LayoutTokensModel", "unread", "()V"⟩ : MethodName) ∈ kw := kw_of (i := 53) (by decide +kernel) rfl
theorem t_54 : Cond.selects "LayoutTokensModel" (⟨"LayoutTokensModel", "layLines", "()V"⟩ : MethodName) (⟨"LayoutTokensModel", "layLines", "()V"⟩ : MethodName) ∈ kw := kw_of (i := 54) (by decide +kernel) rfl
theorem t_55 : Cond.selects "LayoutTokensModel" (⟨"LayoutTokensModel", "literate", "()V"⟩ : MethodName) (⟨"LayoutTokensModel", "literate", "()V"⟩ : MethodName) ∈ kw := kw_of (i := 55) (by decide +kernel) rfl
theorem t_56 : Cond.selects "LayoutTokensModel" (⟨"LayoutTokensModel", "stop", "(I)V"⟩ : MethodName) (⟨"LayoutTokensModel", "stop", "(I)V"⟩ : MethodName) ∈ kw := kw_of (i := 56) (by decide +kernel) rfl
theorem t_57 : Cond.selects "LayoutTokensModel" (⟨"LayoutTokensModel", "readAll", "()V"⟩ : MethodName) (⟨"LayoutTokensModel", "readAll", "()V"⟩ : MethodName) ∈ kw := kw_of (i := 57) (by decide +kernel) rfl
theorem t_77 : Cond.selects "LayoutTokensModel" (⟨"LayoutTokensModel", "layout", "()V"⟩ : MethodName) (⟨"LayoutTokensModel", "layout", "()V"⟩ : MethodName) ∈ kw := kw_of (i := 77) (by decide +kernel) rfl
theorem t_80 : Cond.selects "LayoutTokensModel" (⟨"LayoutTokensModel", "putIn", "(I)V"⟩ : MethodName) (⟨"LayoutTokensModel", "putIn", "(I)V"⟩ : MethodName) ∈ kw := kw_of (i := 80) (by decide +kernel) rfl
theorem t_81 : Cond.selects "LayoutTokensModel" (⟨"LayoutTokensModel", "addToken", "(IIZ)V"⟩ : MethodName) (⟨"LayoutTokensModel", "addToken", "(IIZ)V"⟩ : MethodName) ∈ kw := kw_of (i := 81) (by decide +kernel) rfl
theorem t_84 : Cond.selects "LayoutTokensModel" (⟨"LayoutTokensModel", "room", "()V"⟩ : MethodName) (⟨"LayoutTokensModel", "room", "()V"⟩ : MethodName) ∈ kw := kw_of (i := 84) (by decide +kernel) rfl
theorem t_86 : Cond.selects "LayoutTokensModel" (⟨"LayoutTokensModel", "isTop", "(II)Z"⟩ : MethodName) (⟨"LayoutTokensModel", "isTop", "(II)Z"⟩ : MethodName) ∈ kw := kw_of (i := 86) (by decide +kernel) rfl
theorem t_92 : Cond.selects "LayoutTokensModel" (⟨"LayoutTokensModel", "noToken", "(I)Z"⟩ : MethodName) (⟨"LayoutTokensModel", "noToken", "(I)Z"⟩ : MethodName) ∈ kw := kw_of (i := 92) (by decide +kernel) rfl
theorem t_97 : Cond.initialized "LayoutTokens" ∈ kw := kw_of (i := 97) (by decide +kernel) rfl
theorem t_98 : Cond.initialized "LayoutTokens$Source" ∈ kw := kw_of (i := 98) (by decide +kernel) rfl
theorem t_99 : Cond.initialized "LayoutTokens$LiterateLines" ∈ kw := kw_of (i := 99) (by decide +kernel) rfl
theorem t_100 : Cond.initialized "LayoutTokens$Lexemes" ∈ kw := kw_of (i := 100) (by decide +kernel) rfl
theorem t_101 : Cond.initialized "LayoutTokens$Comments" ∈ kw := kw_of (i := 101) (by decide +kernel) rfl
theorem t_102 : Cond.initialized "LayoutTokens$Reader" ∈ kw := kw_of (i := 102) (by decide +kernel) rfl
theorem t_103 : Cond.initialized "LayoutTokens$Quotes" ∈ kw := kw_of (i := 103) (by decide +kernel) rfl
theorem t_104 : Cond.initialized "LayoutTokens$Laid" ∈ kw := kw_of (i := 104) (by decide +kernel) rfl
theorem t_105 : Cond.initialized "LayoutTokens$Layout" ∈ kw := kw_of (i := 105) (by decide +kernel) rfl
theorem t_106 : Cond.initialized "LayoutTokens$Printer" ∈ kw := kw_of (i := 106) (by decide +kernel) rfl
theorem t_107 : Cond.initialized "LayoutTokensModel" ∈ kw := kw_of (i := 107) (by decide +kernel) rfl
theorem t_113 : Cond.classLink "LayoutTokensLaw" (7 : Nat) "LayoutTokens" ∈ kw := kw_of (i := 113) (by decide +kernel) rfl
theorem t_114 : Cond.instantiable "LayoutTokens" (9 : Nat) ∈ kw := kw_of (i := 114) (by decide +kernel) rfl
theorem t_115 : Cond.methodLink "LayoutTokensLaw" (9 : Nat) (⟨"LayoutTokens", "<init>", "()V"⟩ : MethodName) ∈ kw := kw_of (i := 115) (by decide +kernel) rfl
theorem t_116 : Cond.instanceMethod (⟨"LayoutTokens", "<init>", "()V"⟩ : MethodName) ∈ kw := kw_of (i := 116) (by decide +kernel) rfl
theorem t_117 : Cond.code (⟨"LayoutTokens", "<init>", "()V"⟩ : MethodName) prog_1_method_1_code (1 : Nat) (Option.none : Option FieldType) ∈ kw := kw_of (i := 117) (by decide +kernel) rfl
theorem t_118 : Cond.methodLink "LayoutTokens" 1 objectInit ∈ kw := kw_of (i := 118) (by decide +kernel) rfl
theorem t_119 : Cond.instanceMethod objectInit ∈ kw := kw_of (i := 119) (by decide +kernel) rfl
theorem t_120 : Cond.code objectInit ⟨#[0xb1]⟩ 1 none ∈ kw := kw_of (i := 120) (by decide +kernel) rfl
theorem t_121 : Cond.classLink "LayoutTokens" (7 : Nat) "LayoutTokens$Source" ∈ kw := kw_of (i := 121) (by decide +kernel) rfl
theorem t_122 : Cond.instantiable "LayoutTokens$Source" (5 : Nat) ∈ kw := kw_of (i := 122) (by decide +kernel) rfl
theorem t_123 : Cond.methodLink "LayoutTokens" (9 : Nat) (⟨"LayoutTokens$Source", "<init>", "()V"⟩ : MethodName) ∈ kw := kw_of (i := 123) (by decide +kernel) rfl
theorem t_124 : Cond.instanceMethod (⟨"LayoutTokens$Source", "<init>", "()V"⟩ : MethodName) ∈ kw := kw_of (i := 124) (by decide +kernel) rfl
theorem t_125 : Cond.code (⟨"LayoutTokens$Source", "<init>", "()V"⟩ : MethodName) prog_10_method_1_code (1 : Nat) (Option.none : Option FieldType) ∈ kw := kw_of (i := 125) (by decide +kernel) rfl
theorem t_126 : Cond.methodLink "LayoutTokens$Source" 3 objectInit ∈ kw := kw_of (i := 126) (by decide +kernel) rfl
theorem t_127 : Cond.fieldLink "LayoutTokens$Source" (9 : Nat) "LayoutTokens$Source" "octets" "[I" ∈ kw := kw_of (i := 127) (by decide +kernel) rfl
theorem t_128 : Cond.fieldLink "LayoutTokens$Source" (15 : Nat) "LayoutTokens$Source" "lines" "[I" ∈ kw := kw_of (i := 128) (by decide +kernel) rfl
theorem t_129 : Cond.fieldLink "LayoutTokens$Source" (18 : Nat) "LayoutTokens$Source" "columns" "[I" ∈ kw := kw_of (i := 129) (by decide +kernel) rfl
theorem t_130 : Cond.fieldLink "LayoutTokens$Source" (21 : Nat) "LayoutTokens$Source" "counted" "[I" ∈ kw := kw_of (i := 130) (by decide +kernel) rfl
theorem t_131 : Cond.fieldLink "LayoutTokens$Source" (24 : Nat) "LayoutTokens$Source" "size" "I" ∈ kw := kw_of (i := 131) (by decide +kernel) rfl
theorem t_143 : Cond.arrayClass FieldType.int ∈ kw := kw_of (i := 143) (by decide +kernel) rfl
theorem t_144 : Cond.classLink "LayoutTokens" (16 : Nat) "LayoutTokens$LiterateLines" ∈ kw := kw_of (i := 144) (by decide +kernel) rfl
theorem t_145 : Cond.instantiable "LayoutTokens$LiterateLines" (1 : Nat) ∈ kw := kw_of (i := 145) (by decide +kernel) rfl
theorem t_146 : Cond.methodLink "LayoutTokens" (18 : Nat) (⟨"LayoutTokens$LiterateLines", "<init>", "(LLayoutTokens$Source;)V"⟩ : MethodName) ∈ kw := kw_of (i := 146) (by decide +kernel) rfl
theorem t_147 : Cond.instanceMethod (⟨"LayoutTokens$LiterateLines", "<init>", "(LLayoutTokens$Source;)V"⟩ : MethodName) ∈ kw := kw_of (i := 147) (by decide +kernel) rfl
theorem t_148 : Cond.code (⟨"LayoutTokens$LiterateLines", "<init>", "(LLayoutTokens$Source;)V"⟩ : MethodName) prog_6_method_1_code (2 : Nat) (Option.none : Option FieldType) ∈ kw := kw_of (i := 148) (by decide +kernel) rfl
theorem t_149 : Cond.methodLink "LayoutTokens$LiterateLines" 3 objectInit ∈ kw := kw_of (i := 149) (by decide +kernel) rfl
theorem t_150 : Cond.fieldLink "LayoutTokens$LiterateLines" (9 : Nat) "LayoutTokens$LiterateLines" "source" "LLayoutTokens$Source;" ∈ kw := kw_of (i := 150) (by decide +kernel) rfl
theorem t_154 : Cond.classLink "LayoutTokens" (25 : Nat) "LayoutTokens$Lexemes" ∈ kw := kw_of (i := 154) (by decide +kernel) rfl
theorem t_155 : Cond.instantiable "LayoutTokens$Lexemes" (11 : Nat) ∈ kw := kw_of (i := 155) (by decide +kernel) rfl
theorem t_156 : Cond.methodLink "LayoutTokens" (27 : Nat) (⟨"LayoutTokens$Lexemes", "<init>", "(LLayoutTokens$Source;)V"⟩ : MethodName) ∈ kw := kw_of (i := 156) (by decide +kernel) rfl
theorem t_157 : Cond.instanceMethod (⟨"LayoutTokens$Lexemes", "<init>", "(LLayoutTokens$Source;)V"⟩ : MethodName) ∈ kw := kw_of (i := 157) (by decide +kernel) rfl
theorem t_158 : Cond.code (⟨"LayoutTokens$Lexemes", "<init>", "(LLayoutTokens$Source;)V"⟩ : MethodName) prog_5_method_1_code (2 : Nat) (Option.none : Option FieldType) ∈ kw := kw_of (i := 158) (by decide +kernel) rfl
theorem t_159 : Cond.methodLink "LayoutTokens$Lexemes" 3 objectInit ∈ kw := kw_of (i := 159) (by decide +kernel) rfl
theorem t_160 : Cond.fieldLink "LayoutTokens$Lexemes" (9 : Nat) "LayoutTokens$Lexemes" "source" "LLayoutTokens$Source;" ∈ kw := kw_of (i := 160) (by decide +kernel) rfl
theorem t_161 : Cond.fieldLink "LayoutTokens$Lexemes" (15 : Nat) "LayoutTokens$Lexemes" "kinds" "[I" ∈ kw := kw_of (i := 161) (by decide +kernel) rfl
theorem t_162 : Cond.fieldLink "LayoutTokens$Lexemes" (19 : Nat) "LayoutTokens$Lexemes" "places" "[I" ∈ kw := kw_of (i := 162) (by decide +kernel) rfl
theorem t_163 : Cond.fieldLink "LayoutTokens$Lexemes" (22 : Nat) "LayoutTokens$Lexemes" "sizes" "[I" ∈ kw := kw_of (i := 163) (by decide +kernel) rfl
theorem t_164 : Cond.fieldLink "LayoutTokens$Lexemes" (25 : Nat) "LayoutTokens$Lexemes" "marks" "[I" ∈ kw := kw_of (i := 164) (by decide +kernel) rfl
theorem t_165 : Cond.fieldLink "LayoutTokens$Lexemes" (28 : Nat) "LayoutTokens$Lexemes" "values" "[J" ∈ kw := kw_of (i := 165) (by decide +kernel) rfl
theorem t_166 : Cond.fieldLink "LayoutTokens$Lexemes" (32 : Nat) "LayoutTokens$Lexemes" "firstSigns" "[I" ∈ kw := kw_of (i := 166) (by decide +kernel) rfl
theorem t_167 : Cond.fieldLink "LayoutTokens$Lexemes" (35 : Nat) "LayoutTokens$Lexemes" "signCounts" "[I" ∈ kw := kw_of (i := 167) (by decide +kernel) rfl
theorem t_168 : Cond.fieldLink "LayoutTokens$Lexemes" (38 : Nat) "LayoutTokens$Lexemes" "signs" "[I" ∈ kw := kw_of (i := 168) (by decide +kernel) rfl
theorem t_169 : Cond.fieldLink "LayoutTokens$Lexemes" (41 : Nat) "LayoutTokens$Lexemes" "count" "I" ∈ kw := kw_of (i := 169) (by decide +kernel) rfl
theorem t_170 : Cond.fieldLink "LayoutTokens$Lexemes" (45 : Nat) "LayoutTokens$Lexemes" "signsKept" "I" ∈ kw := kw_of (i := 170) (by decide +kernel) rfl
theorem t_194 : Cond.arrayClass FieldType.long ∈ kw := kw_of (i := 194) (by decide +kernel) rfl
theorem t_195 : Cond.classLink "LayoutTokens" (32 : Nat) "LayoutTokens$Comments" ∈ kw := kw_of (i := 195) (by decide +kernel) rfl
theorem t_196 : Cond.instantiable "LayoutTokens$Comments" (5 : Nat) ∈ kw := kw_of (i := 196) (by decide +kernel) rfl
theorem t_197 : Cond.methodLink "LayoutTokens" (34 : Nat) (⟨"LayoutTokens$Comments", "<init>", "()V"⟩ : MethodName) ∈ kw := kw_of (i := 197) (by decide +kernel) rfl
theorem t_198 : Cond.instanceMethod (⟨"LayoutTokens$Comments", "<init>", "()V"⟩ : MethodName) ∈ kw := kw_of (i := 198) (by decide +kernel) rfl
theorem t_199 : Cond.code (⟨"LayoutTokens$Comments", "<init>", "()V"⟩ : MethodName) prog_2_method_1_code (1 : Nat) (Option.none : Option FieldType) ∈ kw := kw_of (i := 199) (by decide +kernel) rfl
theorem t_200 : Cond.methodLink "LayoutTokens$Comments" 3 objectInit ∈ kw := kw_of (i := 200) (by decide +kernel) rfl
theorem t_201 : Cond.fieldLink "LayoutTokens$Comments" (9 : Nat) "LayoutTokens$Comments" "places" "[I" ∈ kw := kw_of (i := 201) (by decide +kernel) rfl
theorem t_202 : Cond.fieldLink "LayoutTokens$Comments" (15 : Nat) "LayoutTokens$Comments" "sizes" "[I" ∈ kw := kw_of (i := 202) (by decide +kernel) rfl
theorem t_203 : Cond.fieldLink "LayoutTokens$Comments" (18 : Nat) "LayoutTokens$Comments" "nested" "[I" ∈ kw := kw_of (i := 203) (by decide +kernel) rfl
theorem t_204 : Cond.fieldLink "LayoutTokens$Comments" (21 : Nat) "LayoutTokens$Comments" "count" "I" ∈ kw := kw_of (i := 204) (by decide +kernel) rfl
theorem t_205 : Cond.fieldLink "LayoutTokens$Comments" (25 : Nat) "LayoutTokens$Comments" "deepest" "I" ∈ kw := kw_of (i := 205) (by decide +kernel) rfl
theorem t_217 : Cond.classLink "LayoutTokens" (39 : Nat) "LayoutTokens$Reader" ∈ kw := kw_of (i := 217) (by decide +kernel) rfl
theorem t_218 : Cond.instantiable "LayoutTokens$Reader" (4 : Nat) ∈ kw := kw_of (i := 218) (by decide +kernel) rfl
theorem t_219 : Cond.methodLink "LayoutTokens" (41 : Nat) (⟨"LayoutTokens$Reader", "<init>", "(LLayoutTokens$Source;LLayoutTokens$Lexemes;LLayoutTokens$Comments;)V"⟩ : MethodName) ∈ kw := kw_of (i := 219) (by decide +kernel) rfl
theorem t_220 : Cond.instanceMethod (⟨"LayoutTokens$Reader", "<init>", "(LLayoutTokens$Source;LLayoutTokens$Lexemes;LLayoutTokens$Comments;)V"⟩ : MethodName) ∈ kw := kw_of (i := 220) (by decide +kernel) rfl
theorem t_221 : Cond.code (⟨"LayoutTokens$Reader", "<init>", "(LLayoutTokens$Source;LLayoutTokens$Lexemes;LLayoutTokens$Comments;)V"⟩ : MethodName) prog_9_method_1_code (4 : Nat) (Option.none : Option FieldType) ∈ kw := kw_of (i := 221) (by decide +kernel) rfl
theorem t_222 : Cond.methodLink "LayoutTokens$Reader" 3 objectInit ∈ kw := kw_of (i := 222) (by decide +kernel) rfl
theorem t_223 : Cond.classLink "LayoutTokens$Reader" (23 : Nat) "LayoutTokens$Quotes" ∈ kw := kw_of (i := 223) (by decide +kernel) rfl
theorem t_224 : Cond.instantiable "LayoutTokens$Quotes" (2 : Nat) ∈ kw := kw_of (i := 224) (by decide +kernel) rfl
theorem t_225 : Cond.methodLink "LayoutTokens$Reader" (25 : Nat) (⟨"LayoutTokens$Quotes", "<init>", "(LLayoutTokens$Source;LLayoutTokens$Lexemes;)V"⟩ : MethodName) ∈ kw := kw_of (i := 225) (by decide +kernel) rfl
theorem t_226 : Cond.instanceMethod (⟨"LayoutTokens$Quotes", "<init>", "(LLayoutTokens$Source;LLayoutTokens$Lexemes;)V"⟩ : MethodName) ∈ kw := kw_of (i := 226) (by decide +kernel) rfl
theorem t_227 : Cond.code (⟨"LayoutTokens$Quotes", "<init>", "(LLayoutTokens$Source;LLayoutTokens$Lexemes;)V"⟩ : MethodName) prog_8_method_1_code (3 : Nat) (Option.none : Option FieldType) ∈ kw := kw_of (i := 227) (by decide +kernel) rfl
theorem t_228 : Cond.methodLink "LayoutTokens$Quotes" 3 objectInit ∈ kw := kw_of (i := 228) (by decide +kernel) rfl
theorem t_229 : Cond.fieldLink "LayoutTokens$Quotes" (9 : Nat) "LayoutTokens$Quotes" "source" "LLayoutTokens$Source;" ∈ kw := kw_of (i := 229) (by decide +kernel) rfl
theorem t_230 : Cond.fieldLink "LayoutTokens$Quotes" (15 : Nat) "LayoutTokens$Quotes" "lexemes" "LLayoutTokens$Lexemes;" ∈ kw := kw_of (i := 230) (by decide +kernel) rfl
theorem t_236 : Cond.fieldLink "LayoutTokens$Reader" (9 : Nat) "LayoutTokens$Reader" "source" "LLayoutTokens$Source;" ∈ kw := kw_of (i := 236) (by decide +kernel) rfl
theorem t_237 : Cond.fieldLink "LayoutTokens$Reader" (15 : Nat) "LayoutTokens$Reader" "lexemes" "LLayoutTokens$Lexemes;" ∈ kw := kw_of (i := 237) (by decide +kernel) rfl
theorem t_238 : Cond.fieldLink "LayoutTokens$Reader" (19 : Nat) "LayoutTokens$Reader" "comments" "LLayoutTokens$Comments;" ∈ kw := kw_of (i := 238) (by decide +kernel) rfl
theorem t_239 : Cond.fieldLink "LayoutTokens$Reader" (28 : Nat) "LayoutTokens$Reader" "quotes" "LLayoutTokens$Quotes;" ∈ kw := kw_of (i := 239) (by decide +kernel) rfl
theorem t_249 : Cond.classLink "LayoutTokens" (48 : Nat) "LayoutTokens$Laid" ∈ kw := kw_of (i := 249) (by decide +kernel) rfl
theorem t_250 : Cond.instantiable "LayoutTokens$Laid" (10 : Nat) ∈ kw := kw_of (i := 250) (by decide +kernel) rfl
theorem t_251 : Cond.methodLink "LayoutTokens" (50 : Nat) (⟨"LayoutTokens$Laid", "<init>", "(LLayoutTokens$Source;)V"⟩ : MethodName) ∈ kw := kw_of (i := 251) (by decide +kernel) rfl
theorem t_252 : Cond.instanceMethod (⟨"LayoutTokens$Laid", "<init>", "(LLayoutTokens$Source;)V"⟩ : MethodName) ∈ kw := kw_of (i := 252) (by decide +kernel) rfl
theorem t_253 : Cond.code (⟨"LayoutTokens$Laid", "<init>", "(LLayoutTokens$Source;)V"⟩ : MethodName) prog_3_method_1_code (2 : Nat) (Option.none : Option FieldType) ∈ kw := kw_of (i := 253) (by decide +kernel) rfl
theorem t_254 : Cond.methodLink "LayoutTokens$Laid" 3 objectInit ∈ kw := kw_of (i := 254) (by decide +kernel) rfl
theorem t_255 : Cond.fieldLink "LayoutTokens$Laid" (9 : Nat) "LayoutTokens$Laid" "source" "LLayoutTokens$Source;" ∈ kw := kw_of (i := 255) (by decide +kernel) rfl
theorem t_256 : Cond.fieldLink "LayoutTokens$Laid" (15 : Nat) "LayoutTokens$Laid" "lexemes" "[I" ∈ kw := kw_of (i := 256) (by decide +kernel) rfl
theorem t_257 : Cond.fieldLink "LayoutTokens$Laid" (19 : Nat) "LayoutTokens$Laid" "kinds" "[I" ∈ kw := kw_of (i := 257) (by decide +kernel) rfl
theorem t_258 : Cond.fieldLink "LayoutTokens$Laid" (22 : Nat) "LayoutTokens$Laid" "places" "[I" ∈ kw := kw_of (i := 258) (by decide +kernel) rfl
theorem t_259 : Cond.fieldLink "LayoutTokens$Laid" (25 : Nat) "LayoutTokens$Laid" "askedOnes" "[Z" ∈ kw := kw_of (i := 259) (by decide +kernel) rfl
theorem t_260 : Cond.fieldLink "LayoutTokens$Laid" (29 : Nat) "LayoutTokens$Laid" "count" "I" ∈ kw := kw_of (i := 260) (by decide +kernel) rfl
theorem t_261 : Cond.fieldLink "LayoutTokens$Laid" (33 : Nat) "LayoutTokens$Laid" "putInCount" "I" ∈ kw := kw_of (i := 261) (by decide +kernel) rfl
theorem t_262 : Cond.fieldLink "LayoutTokens$Laid" (36 : Nat) "LayoutTokens$Laid" "askedCount" "I" ∈ kw := kw_of (i := 262) (by decide +kernel) rfl
theorem t_263 : Cond.fieldLink "LayoutTokens$Laid" (39 : Nat) "LayoutTokens$Laid" "end" "I" ∈ kw := kw_of (i := 263) (by decide +kernel) rfl
theorem t_264 : Cond.fieldLink "LayoutTokens$Laid" (42 : Nat) "LayoutTokens$Laid" "endLine" "I" ∈ kw := kw_of (i := 264) (by decide +kernel) rfl
theorem t_286 : Cond.arrayClass FieldType.boolean ∈ kw := kw_of (i := 286) (by decide +kernel) rfl
theorem t_287 : Cond.classLink "LayoutTokens" (55 : Nat) "LayoutTokens$Layout" ∈ kw := kw_of (i := 287) (by decide +kernel) rfl
theorem t_288 : Cond.instantiable "LayoutTokens$Layout" (13 : Nat) ∈ kw := kw_of (i := 288) (by decide +kernel) rfl
theorem t_289 : Cond.methodLink "LayoutTokens" (57 : Nat) (⟨"LayoutTokens$Layout", "<init>", "(LLayoutTokens$Source;LLayoutTokens$Lexemes;LLayoutTokens$Laid;)V"⟩ : MethodName) ∈ kw := kw_of (i := 289) (by decide +kernel) rfl
theorem t_290 : Cond.instanceMethod (⟨"LayoutTokens$Layout", "<init>", "(LLayoutTokens$Source;LLayoutTokens$Lexemes;LLayoutTokens$Laid;)V"⟩ : MethodName) ∈ kw := kw_of (i := 290) (by decide +kernel) rfl
theorem t_291 : Cond.code (⟨"LayoutTokens$Layout", "<init>", "(LLayoutTokens$Source;LLayoutTokens$Lexemes;LLayoutTokens$Laid;)V"⟩ : MethodName) prog_4_method_1_code (4 : Nat) (Option.none : Option FieldType) ∈ kw := kw_of (i := 291) (by decide +kernel) rfl
theorem t_292 : Cond.methodLink "LayoutTokens$Layout" 3 objectInit ∈ kw := kw_of (i := 292) (by decide +kernel) rfl
theorem t_293 : Cond.fieldLink "LayoutTokens$Layout" (9 : Nat) "LayoutTokens$Layout" "source" "LLayoutTokens$Source;" ∈ kw := kw_of (i := 293) (by decide +kernel) rfl
theorem t_294 : Cond.fieldLink "LayoutTokens$Layout" (15 : Nat) "LayoutTokens$Layout" "lexemes" "LLayoutTokens$Lexemes;" ∈ kw := kw_of (i := 294) (by decide +kernel) rfl
theorem t_295 : Cond.fieldLink "LayoutTokens$Layout" (19 : Nat) "LayoutTokens$Layout" "laid" "LLayoutTokens$Laid;" ∈ kw := kw_of (i := 295) (by decide +kernel) rfl
theorem t_296 : Cond.fieldLink "LayoutTokens$Layout" (23 : Nat) "LayoutTokens$Layout" "itemSorts" "[I" ∈ kw := kw_of (i := 296) (by decide +kernel) rfl
theorem t_297 : Cond.fieldLink "LayoutTokens$Layout" (27 : Nat) "LayoutTokens$Layout" "itemColumns" "[I" ∈ kw := kw_of (i := 297) (by decide +kernel) rfl
theorem t_298 : Cond.fieldLink "LayoutTokens$Layout" (30 : Nat) "LayoutTokens$Layout" "itemLets" "[Z" ∈ kw := kw_of (i := 298) (by decide +kernel) rfl
theorem t_299 : Cond.fieldLink "LayoutTokens$Layout" (34 : Nat) "LayoutTokens$Layout" "depth" "I" ∈ kw := kw_of (i := 299) (by decide +kernel) rfl
theorem t_300 : Cond.fieldLink "LayoutTokens$Layout" (76 : Nat) "LayoutTokens$Layout" "place" "I" ∈ kw := kw_of (i := 300) (by decide +kernel) rfl
theorem t_303 : Cond.fieldLink "LayoutTokens$Layout" (38 : Nat) "LayoutTokens$Layout" "letBraceEnd" "I" ∈ kw := kw_of (i := 303) (by decide +kernel) rfl
theorem t_305 : Cond.fieldLink "LayoutTokens$Layout" (41 : Nat) "LayoutTokens$Layout" "isFaulty" "Z" ∈ kw := kw_of (i := 305) (by decide +kernel) rfl
theorem t_333 : Cond.classLink "LayoutTokens" (64 : Nat) "LayoutTokens$Printer" ∈ kw := kw_of (i := 333) (by decide +kernel) rfl
theorem t_334 : Cond.instantiable "LayoutTokens$Printer" (6 : Nat) ∈ kw := kw_of (i := 334) (by decide +kernel) rfl
theorem t_335 : Cond.methodLink "LayoutTokens" (66 : Nat) (⟨"LayoutTokens$Printer", "<init>", "(LLayoutTokens$Lexemes;LLayoutTokens$Laid;)V"⟩ : MethodName) ∈ kw := kw_of (i := 335) (by decide +kernel) rfl
theorem t_336 : Cond.instanceMethod (⟨"LayoutTokens$Printer", "<init>", "(LLayoutTokens$Lexemes;LLayoutTokens$Laid;)V"⟩ : MethodName) ∈ kw := kw_of (i := 336) (by decide +kernel) rfl
theorem t_337 : Cond.code (⟨"LayoutTokens$Printer", "<init>", "(LLayoutTokens$Lexemes;LLayoutTokens$Laid;)V"⟩ : MethodName) prog_7_method_1_code (3 : Nat) (Option.none : Option FieldType) ∈ kw := kw_of (i := 337) (by decide +kernel) rfl
theorem t_338 : Cond.methodLink "LayoutTokens$Printer" 3 objectInit ∈ kw := kw_of (i := 338) (by decide +kernel) rfl
theorem t_339 : Cond.fieldLink "LayoutTokens$Printer" (9 : Nat) "LayoutTokens$Printer" "lexemes" "LLayoutTokens$Lexemes;" ∈ kw := kw_of (i := 339) (by decide +kernel) rfl
theorem t_340 : Cond.fieldLink "LayoutTokens$Printer" (15 : Nat) "LayoutTokens$Printer" "laid" "LLayoutTokens$Laid;" ∈ kw := kw_of (i := 340) (by decide +kernel) rfl
theorem t_341 : Cond.fieldLink "LayoutTokens$Printer" (19 : Nat) "LayoutTokens$Printer" "letters" "[I" ∈ kw := kw_of (i := 341) (by decide +kernel) rfl
theorem t_342 : Cond.fieldLink "LayoutTokens$Printer" (23 : Nat) "LayoutTokens$Printer" "count" "I" ∈ kw := kw_of (i := 342) (by decide +kernel) rfl
theorem t_358 : Cond.fieldLink "LayoutTokens" (10 : Nat) "LayoutTokens" "source" "LLayoutTokens$Source;" ∈ kw := kw_of (i := 358) (by decide +kernel) rfl
theorem t_359 : Cond.fieldLink "LayoutTokens" (21 : Nat) "LayoutTokens" "literateLines" "LLayoutTokens$LiterateLines;" ∈ kw := kw_of (i := 359) (by decide +kernel) rfl
theorem t_360 : Cond.fieldLink "LayoutTokens" (28 : Nat) "LayoutTokens" "lexemes" "LLayoutTokens$Lexemes;" ∈ kw := kw_of (i := 360) (by decide +kernel) rfl
theorem t_361 : Cond.fieldLink "LayoutTokens" (35 : Nat) "LayoutTokens" "comments" "LLayoutTokens$Comments;" ∈ kw := kw_of (i := 361) (by decide +kernel) rfl
theorem t_362 : Cond.fieldLink "LayoutTokens" (44 : Nat) "LayoutTokens" "reader" "LLayoutTokens$Reader;" ∈ kw := kw_of (i := 362) (by decide +kernel) rfl
theorem t_363 : Cond.fieldLink "LayoutTokens" (51 : Nat) "LayoutTokens" "laid" "LLayoutTokens$Laid;" ∈ kw := kw_of (i := 363) (by decide +kernel) rfl
theorem t_364 : Cond.fieldLink "LayoutTokens" (60 : Nat) "LayoutTokens" "layout" "LLayoutTokens$Layout;" ∈ kw := kw_of (i := 364) (by decide +kernel) rfl
theorem t_365 : Cond.fieldLink "LayoutTokens" (69 : Nat) "LayoutTokens" "printer" "LLayoutTokens$Printer;" ∈ kw := kw_of (i := 365) (by decide +kernel) rfl
theorem t_366 : Cond.fieldLink "LayoutTokens" (73 : Nat) "LayoutTokens" "isRead" "Z" ∈ kw := kw_of (i := 366) (by decide +kernel) rfl
theorem t_386 : Cond.methodLink "LayoutTokensLaw" (15 : Nat) (⟨"LayoutTokens", "octets", "(IJ)I"⟩ : MethodName) ∈ kw := kw_of (i := 386) (by decide +kernel) rfl
theorem t_387 : Cond.instanceMethod (⟨"LayoutTokens", "octets", "(IJ)I"⟩ : MethodName) ∈ kw := kw_of (i := 387) (by decide +kernel) rfl
theorem t_388 : Cond.selects "LayoutTokens" (⟨"LayoutTokens", "octets", "(IJ)I"⟩ : MethodName) (⟨"LayoutTokens", "octets", "(IJ)I"⟩ : MethodName) ∈ kw := kw_of (i := 388) (by decide +kernel) rfl
theorem t_389 : Cond.code (⟨"LayoutTokens", "octets", "(IJ)I"⟩ : MethodName) prog_1_method_2_code (5 : Nat) (Option.some FieldType.int) ∈ kw := kw_of (i := 389) (by decide +kernel) rfl
theorem t_390 : Cond.methodLink "LayoutTokens" (77 : Nat) (⟨"LayoutTokens$Source", "size", "()I"⟩ : MethodName) ∈ kw := kw_of (i := 390) (by decide +kernel) rfl
theorem t_391 : Cond.instanceMethod (⟨"LayoutTokens$Source", "size", "()I"⟩ : MethodName) ∈ kw := kw_of (i := 391) (by decide +kernel) rfl
theorem t_392 : Cond.selects "LayoutTokens$Source" (⟨"LayoutTokens$Source", "size", "()I"⟩ : MethodName) (⟨"LayoutTokens$Source", "size", "()I"⟩ : MethodName) ∈ kw := kw_of (i := 392) (by decide +kernel) rfl
theorem t_393 : Cond.code (⟨"LayoutTokens$Source", "size", "()I"⟩ : MethodName) prog_10_method_2_code (1 : Nat) (Option.some FieldType.int) ∈ kw := kw_of (i := 393) (by decide +kernel) rfl
theorem t_394 : Cond.methodLink "LayoutTokens" (81 : Nat) (⟨"LayoutTokens$Source", "append", "(I)V"⟩ : MethodName) ∈ kw := kw_of (i := 394) (by decide +kernel) rfl
theorem t_395 : Cond.instanceMethod (⟨"LayoutTokens$Source", "append", "(I)V"⟩ : MethodName) ∈ kw := kw_of (i := 395) (by decide +kernel) rfl
theorem t_396 : Cond.selects "LayoutTokens$Source" (⟨"LayoutTokens$Source", "append", "(I)V"⟩ : MethodName) (⟨"LayoutTokens$Source", "append", "(I)V"⟩ : MethodName) ∈ kw := kw_of (i := 396) (by decide +kernel) rfl
theorem t_397 : Cond.code (⟨"LayoutTokens$Source", "append", "(I)V"⟩ : MethodName) prog_10_method_5_code (6 : Nat) (Option.none : Option FieldType) ∈ kw := kw_of (i := 397) (by decide +kernel) rfl
theorem t_398 : Cond.methodLink "LayoutTokens$Source" (28 : Nat) (⟨"LayoutTokens$Source", "columnBehind", "(II)I"⟩ : MethodName) ∈ kw := kw_of (i := 398) (by decide +kernel) rfl
theorem t_400 : Cond.instanceMethod (⟨"LayoutTokens$Source", "columnBehind", "(II)I"⟩ : MethodName) ∈ kw := kw_of (i := 400) (by decide +kernel) rfl
theorem t_401 : Cond.code (⟨"LayoutTokens$Source", "columnBehind", "(II)I"⟩ : MethodName) prog_10_method_6_code (3 : Nat) (Option.some FieldType.int) ∈ kw := kw_of (i := 401) (by decide +kernel) rfl
theorem t_402 : Cond.methodLink "LayoutTokensLaw" (20 : Nat) (⟨"LayoutTokens", "read", "(Z)I"⟩ : MethodName) ∈ kw := kw_of (i := 402) (by decide +kernel) rfl
theorem t_403 : Cond.instanceMethod (⟨"LayoutTokens", "read", "(Z)I"⟩ : MethodName) ∈ kw := kw_of (i := 403) (by decide +kernel) rfl
theorem t_404 : Cond.selects "LayoutTokens" (⟨"LayoutTokens", "read", "(Z)I"⟩ : MethodName) (⟨"LayoutTokens", "read", "(Z)I"⟩ : MethodName) ∈ kw := kw_of (i := 404) (by decide +kernel) rfl
theorem t_405 : Cond.code (⟨"LayoutTokens", "read", "(Z)I"⟩ : MethodName) prog_1_method_3_code (3 : Nat) (Option.some FieldType.int) ∈ kw := kw_of (i := 405) (by decide +kernel) rfl
theorem t_406 : Cond.methodLink "LayoutTokens" (85 : Nat) (⟨"LayoutTokens", "forget", "()V"⟩ : MethodName) ∈ kw := kw_of (i := 406) (by decide +kernel) rfl
theorem t_408 : Cond.instanceMethod (⟨"LayoutTokens", "forget", "()V"⟩ : MethodName) ∈ kw := kw_of (i := 408) (by decide +kernel) rfl
theorem t_409 : Cond.code (⟨"LayoutTokens", "forget", "()V"⟩ : MethodName) prog_1_method_15_code (1 : Nat) (Option.none : Option FieldType) ∈ kw := kw_of (i := 409) (by decide +kernel) rfl
theorem t_410 : Cond.methodLink "LayoutTokens" (164 : Nat) (⟨"LayoutTokens$Laid", "empty", "()V"⟩ : MethodName) ∈ kw := kw_of (i := 410) (by decide +kernel) rfl
theorem t_411 : Cond.instanceMethod (⟨"LayoutTokens$Laid", "empty", "()V"⟩ : MethodName) ∈ kw := kw_of (i := 411) (by decide +kernel) rfl
theorem t_412 : Cond.selects "LayoutTokens$Laid" (⟨"LayoutTokens$Laid", "empty", "()V"⟩ : MethodName) (⟨"LayoutTokens$Laid", "empty", "()V"⟩ : MethodName) ∈ kw := kw_of (i := 412) (by decide +kernel) rfl
theorem t_413 : Cond.code (⟨"LayoutTokens$Laid", "empty", "()V"⟩ : MethodName) prog_3_method_2_code (1 : Nat) (Option.none : Option FieldType) ∈ kw := kw_of (i := 413) (by decide +kernel) rfl
theorem t_414 : Cond.methodLink "LayoutTokens" (165 : Nat) (⟨"LayoutTokens$Lexemes", "empty", "()V"⟩ : MethodName) ∈ kw := kw_of (i := 414) (by decide +kernel) rfl
theorem t_415 : Cond.instanceMethod (⟨"LayoutTokens$Lexemes", "empty", "()V"⟩ : MethodName) ∈ kw := kw_of (i := 415) (by decide +kernel) rfl
theorem t_416 : Cond.selects "LayoutTokens$Lexemes" (⟨"LayoutTokens$Lexemes", "empty", "()V"⟩ : MethodName) (⟨"LayoutTokens$Lexemes", "empty", "()V"⟩ : MethodName) ∈ kw := kw_of (i := 416) (by decide +kernel) rfl
theorem t_417 : Cond.code (⟨"LayoutTokens$Lexemes", "empty", "()V"⟩ : MethodName) prog_5_method_2_code (1 : Nat) (Option.none : Option FieldType) ∈ kw := kw_of (i := 417) (by decide +kernel) rfl
theorem t_418 : Cond.methodLink "LayoutTokens" (166 : Nat) (⟨"LayoutTokens$Comments", "empty", "()V"⟩ : MethodName) ∈ kw := kw_of (i := 418) (by decide +kernel) rfl
theorem t_419 : Cond.instanceMethod (⟨"LayoutTokens$Comments", "empty", "()V"⟩ : MethodName) ∈ kw := kw_of (i := 419) (by decide +kernel) rfl
theorem t_420 : Cond.selects "LayoutTokens$Comments" (⟨"LayoutTokens$Comments", "empty", "()V"⟩ : MethodName) (⟨"LayoutTokens$Comments", "empty", "()V"⟩ : MethodName) ∈ kw := kw_of (i := 420) (by decide +kernel) rfl
theorem t_421 : Cond.code (⟨"LayoutTokens$Comments", "empty", "()V"⟩ : MethodName) prog_2_method_2_code (1 : Nat) (Option.none : Option FieldType) ∈ kw := kw_of (i := 421) (by decide +kernel) rfl
theorem t_422 : Cond.methodLink "LayoutTokens" (88 : Nat) (⟨"LayoutTokens$LiterateLines", "count", "()I"⟩ : MethodName) ∈ kw := kw_of (i := 422) (by decide +kernel) rfl
theorem t_423 : Cond.instanceMethod (⟨"LayoutTokens$LiterateLines", "count", "()I"⟩ : MethodName) ∈ kw := kw_of (i := 423) (by decide +kernel) rfl
theorem t_424 : Cond.selects "LayoutTokens$LiterateLines" (⟨"LayoutTokens$LiterateLines", "count", "()I"⟩ : MethodName) (⟨"LayoutTokens$LiterateLines", "count", "()I"⟩ : MethodName) ∈ kw := kw_of (i := 424) (by decide +kernel) rfl
theorem t_425 : Cond.code (⟨"LayoutTokens$LiterateLines", "count", "()I"⟩ : MethodName) prog_6_method_2_code (8 : Nat) (Option.some FieldType.int) ∈ kw := kw_of (i := 425) (by decide +kernel) rfl
theorem t_426 : Cond.methodLink "LayoutTokens$LiterateLines" (15 : Nat) (⟨"LayoutTokens$Source", "size", "()I"⟩ : MethodName) ∈ kw := kw_of (i := 426) (by decide +kernel) rfl
theorem t_435 : Cond.methodLink "LayoutTokens$Source" (32 : Nat) (⟨"LayoutTokens$Source", "has", "(I)Z"⟩ : MethodName) ∈ kw := kw_of (i := 435) (by decide +kernel) rfl
theorem t_436 : Cond.instanceMethod (⟨"LayoutTokens$Source", "has", "(I)Z"⟩ : MethodName) ∈ kw := kw_of (i := 436) (by decide +kernel) rfl
theorem t_437 : Cond.selects "LayoutTokens$Source" (⟨"LayoutTokens$Source", "has", "(I)Z"⟩ : MethodName) (⟨"LayoutTokens$Source", "has", "(I)Z"⟩ : MethodName) ∈ kw := kw_of (i := 437) (by decide +kernel) rfl
theorem t_438 : Cond.code (⟨"LayoutTokens$Source", "has", "(I)Z"⟩ : MethodName) prog_10_method_3_code (2 : Nat) (Option.some FieldType.boolean) ∈ kw := kw_of (i := 438) (by decide +kernel) rfl
theorem t_451 : Cond.static (⟨"LayoutTokens", "faultAt", "(I)I"⟩ : MethodName) ∈ kw := kw_of (i := 451) (by decide +kernel) rfl
theorem t_452 : Cond.code (⟨"LayoutTokens", "faultAt", "(I)I"⟩ : MethodName) prog_1_method_16_code (1 : Nat) (Option.some FieldType.int) ∈ kw := kw_of (i := 452) (by decide +kernel) rfl
theorem t_464 : Cond.methodLink "LayoutTokens" (91 : Nat) (⟨"LayoutTokens$Source", "countAll", "()I"⟩ : MethodName) ∈ kw := kw_of (i := 464) (by decide +kernel) rfl
theorem t_465 : Cond.instanceMethod (⟨"LayoutTokens$Source", "countAll", "()I"⟩ : MethodName) ∈ kw := kw_of (i := 465) (by decide +kernel) rfl
theorem t_466 : Cond.selects "LayoutTokens$Source" (⟨"LayoutTokens$Source", "countAll", "()I"⟩ : MethodName) (⟨"LayoutTokens$Source", "countAll", "()I"⟩ : MethodName) ∈ kw := kw_of (i := 466) (by decide +kernel) rfl
theorem t_467 : Cond.code (⟨"LayoutTokens$Source", "countAll", "()I"⟩ : MethodName) prog_10_method_13_code (2 : Nat) (Option.some FieldType.int) ∈ kw := kw_of (i := 467) (by decide +kernel) rfl
theorem t_468 : Cond.methodLink "LayoutTokens" (94 : Nat) (⟨"LayoutTokens$Reader", "readAll", "()I"⟩ : MethodName) ∈ kw := kw_of (i := 468) (by decide +kernel) rfl
theorem t_469 : Cond.instanceMethod (⟨"LayoutTokens$Reader", "readAll", "()I"⟩ : MethodName) ∈ kw := kw_of (i := 469) (by decide +kernel) rfl
theorem t_470 : Cond.selects "LayoutTokens$Reader" (⟨"LayoutTokens$Reader", "readAll", "()I"⟩ : MethodName) (⟨"LayoutTokens$Reader", "readAll", "()I"⟩ : MethodName) ∈ kw := kw_of (i := 470) (by decide +kernel) rfl
theorem t_471 : Cond.code (⟨"LayoutTokens$Reader", "readAll", "()I"⟩ : MethodName) prog_9_method_2_code (3 : Nat) (Option.some FieldType.int) ∈ kw := kw_of (i := 471) (by decide +kernel) rfl
theorem t_472 : Cond.methodLink "LayoutTokens$Reader" (32 : Nat) (⟨"LayoutTokens$Source", "size", "()I"⟩ : MethodName) ∈ kw := kw_of (i := 472) (by decide +kernel) rfl
theorem t_694 : Cond.methodLink "LayoutTokens" (97 : Nat) (⟨"LayoutTokens$Layout", "layAll", "()I"⟩ : MethodName) ∈ kw := kw_of (i := 694) (by decide +kernel) rfl
theorem t_695 : Cond.instanceMethod (⟨"LayoutTokens$Layout", "layAll", "()I"⟩ : MethodName) ∈ kw := kw_of (i := 695) (by decide +kernel) rfl
theorem t_696 : Cond.selects "LayoutTokens$Layout" (⟨"LayoutTokens$Layout", "layAll", "()I"⟩ : MethodName) (⟨"LayoutTokens$Layout", "layAll", "()I"⟩ : MethodName) ∈ kw := kw_of (i := 696) (by decide +kernel) rfl
theorem t_697 : Cond.code (⟨"LayoutTokens$Layout", "layAll", "()I"⟩ : MethodName) prog_4_method_2_code (2 : Nat) (Option.some FieldType.int) ∈ kw := kw_of (i := 697) (by decide +kernel) rfl
theorem t_698 : Cond.methodLink "LayoutTokens$Layout" (45 : Nat) (⟨"LayoutTokens$Lexemes", "count", "()I"⟩ : MethodName) ∈ kw := kw_of (i := 698) (by decide +kernel) rfl
theorem t_699 : Cond.instanceMethod (⟨"LayoutTokens$Lexemes", "count", "()I"⟩ : MethodName) ∈ kw := kw_of (i := 699) (by decide +kernel) rfl
theorem t_700 : Cond.selects "LayoutTokens$Lexemes" (⟨"LayoutTokens$Lexemes", "count", "()I"⟩ : MethodName) (⟨"LayoutTokens$Lexemes", "count", "()I"⟩ : MethodName) ∈ kw := kw_of (i := 700) (by decide +kernel) rfl
theorem t_701 : Cond.code (⟨"LayoutTokens$Lexemes", "count", "()I"⟩ : MethodName) prog_5_method_3_code (1 : Nat) (Option.some FieldType.int) ∈ kw := kw_of (i := 701) (by decide +kernel) rfl
theorem t_710 : Cond.methodLink "LayoutTokens$Lexemes" (62 : Nat) (⟨"LayoutTokens$Lexemes", "has", "(I)Z"⟩ : MethodName) ∈ kw := kw_of (i := 710) (by decide +kernel) rfl
theorem t_711 : Cond.instanceMethod (⟨"LayoutTokens$Lexemes", "has", "(I)Z"⟩ : MethodName) ∈ kw := kw_of (i := 711) (by decide +kernel) rfl
theorem t_712 : Cond.selects "LayoutTokens$Lexemes" (⟨"LayoutTokens$Lexemes", "has", "(I)Z"⟩ : MethodName) (⟨"LayoutTokens$Lexemes", "has", "(I)Z"⟩ : MethodName) ∈ kw := kw_of (i := 712) (by decide +kernel) rfl
theorem t_713 : Cond.code (⟨"LayoutTokens$Lexemes", "has", "(I)Z"⟩ : MethodName) prog_5_method_4_code (2 : Nat) (Option.some FieldType.boolean) ∈ kw := kw_of (i := 713) (by decide +kernel) rfl
theorem t_716 : Cond.instanceMethod (⟨"LayoutTokens$Source", "columnAt", "(I)I"⟩ : MethodName) ∈ kw := kw_of (i := 716) (by decide +kernel) rfl
theorem t_717 : Cond.selects "LayoutTokens$Source" (⟨"LayoutTokens$Source", "columnAt", "(I)I"⟩ : MethodName) (⟨"LayoutTokens$Source", "columnAt", "(I)I"⟩ : MethodName) ∈ kw := kw_of (i := 717) (by decide +kernel) rfl
theorem t_718 : Cond.code (⟨"LayoutTokens$Source", "columnAt", "(I)I"⟩ : MethodName) prog_10_method_9_code (2 : Nat) (Option.some FieldType.int) ∈ kw := kw_of (i := 718) (by decide +kernel) rfl
theorem t_735 : Cond.methodLink "LayoutTokens$Layout" (130 : Nat) (⟨"LayoutTokens$Layout", "putIn", "(IZ)V"⟩ : MethodName) ∈ kw := kw_of (i := 735) (by decide +kernel) rfl
theorem t_737 : Cond.instanceMethod (⟨"LayoutTokens$Layout", "putIn", "(IZ)V"⟩ : MethodName) ∈ kw := kw_of (i := 737) (by decide +kernel) rfl
theorem t_738 : Cond.code (⟨"LayoutTokens$Layout", "putIn", "(IZ)V"⟩ : MethodName) prog_4_method_19_code (4 : Nat) (Option.none : Option FieldType) ∈ kw := kw_of (i := 738) (by decide +kernel) rfl
theorem t_739 : Cond.methodLink "LayoutTokens$Layout" (116 : Nat) (⟨"LayoutTokens$Laid", "add", "(IIIZ)Z"⟩ : MethodName) ∈ kw := kw_of (i := 739) (by decide +kernel) rfl
theorem t_740 : Cond.instanceMethod (⟨"LayoutTokens$Laid", "add", "(IIIZ)Z"⟩ : MethodName) ∈ kw := kw_of (i := 740) (by decide +kernel) rfl
theorem t_741 : Cond.selects "LayoutTokens$Laid" (⟨"LayoutTokens$Laid", "add", "(IIIZ)Z"⟩ : MethodName) (⟨"LayoutTokens$Laid", "add", "(IIIZ)Z"⟩ : MethodName) ∈ kw := kw_of (i := 741) (by decide +kernel) rfl
theorem t_742 : Cond.code (⟨"LayoutTokens$Laid", "add", "(IIIZ)Z"⟩ : MethodName) prog_3_method_4_code (5 : Nat) (Option.some FieldType.boolean) ∈ kw := kw_of (i := 742) (by decide +kernel) rfl
theorem t_751 : Cond.methodLink "LayoutTokens$Layout" (137 : Nat) (⟨"LayoutTokens$Layout", "closeEmpty", "()V"⟩ : MethodName) ∈ kw := kw_of (i := 751) (by decide +kernel) rfl
theorem t_753 : Cond.instanceMethod (⟨"LayoutTokens$Layout", "closeEmpty", "()V"⟩ : MethodName) ∈ kw := kw_of (i := 753) (by decide +kernel) rfl
theorem t_754 : Cond.code (⟨"LayoutTokens$Layout", "closeEmpty", "()V"⟩ : MethodName) prog_4_method_7_code (1 : Nat) (Option.none : Option FieldType) ∈ kw := kw_of (i := 754) (by decide +kernel) rfl
theorem t_759 : Cond.methodLink "LayoutTokens$Layout" (140 : Nat) (⟨"LayoutTokens$Layout", "topColumn", "()I"⟩ : MethodName) ∈ kw := kw_of (i := 759) (by decide +kernel) rfl
theorem t_761 : Cond.instanceMethod (⟨"LayoutTokens$Layout", "topColumn", "()I"⟩ : MethodName) ∈ kw := kw_of (i := 761) (by decide +kernel) rfl
theorem t_762 : Cond.code (⟨"LayoutTokens$Layout", "topColumn", "()I"⟩ : MethodName) prog_4_method_10_code (3 : Nat) (Option.some FieldType.int) ∈ kw := kw_of (i := 762) (by decide +kernel) rfl
theorem t_802 : Cond.methodLink "LayoutTokens$Layout" (62 : Nat) (⟨"LayoutTokens$Layout", "finish", "()V"⟩ : MethodName) ∈ kw := kw_of (i := 802) (by decide +kernel) rfl
theorem t_804 : Cond.instanceMethod (⟨"LayoutTokens$Layout", "finish", "()V"⟩ : MethodName) ∈ kw := kw_of (i := 804) (by decide +kernel) rfl
theorem t_805 : Cond.code (⟨"LayoutTokens$Layout", "finish", "()V"⟩ : MethodName) prog_4_method_21_code (3 : Nat) (Option.none : Option FieldType) ∈ kw := kw_of (i := 805) (by decide +kernel) rfl
theorem t_806 : Cond.methodLink "LayoutTokens$Layout" (65 : Nat) (⟨"LayoutTokens$Source", "size", "()I"⟩ : MethodName) ∈ kw := kw_of (i := 806) (by decide +kernel) rfl
theorem t_807 : Cond.methodLink "LayoutTokens$Layout" (167 : Nat) (⟨"LayoutTokens$Laid", "keepEnd", "()V"⟩ : MethodName) ∈ kw := kw_of (i := 807) (by decide +kernel) rfl
theorem t_808 : Cond.instanceMethod (⟨"LayoutTokens$Laid", "keepEnd", "()V"⟩ : MethodName) ∈ kw := kw_of (i := 808) (by decide +kernel) rfl
theorem t_809 : Cond.selects "LayoutTokens$Laid" (⟨"LayoutTokens$Laid", "keepEnd", "()V"⟩ : MethodName) (⟨"LayoutTokens$Laid", "keepEnd", "()V"⟩ : MethodName) ∈ kw := kw_of (i := 809) (by decide +kernel) rfl
theorem t_810 : Cond.code (⟨"LayoutTokens$Laid", "keepEnd", "()V"⟩ : MethodName) prog_3_method_3_code (1 : Nat) (Option.none : Option FieldType) ∈ kw := kw_of (i := 810) (by decide +kernel) rfl
theorem t_811 : Cond.methodLink "LayoutTokens$Laid" (45 : Nat) (⟨"LayoutTokens$Source", "size", "()I"⟩ : MethodName) ∈ kw := kw_of (i := 811) (by decide +kernel) rfl
theorem t_812 : Cond.methodLink "LayoutTokens$Laid" (51 : Nat) (⟨"LayoutTokens$Source", "lastLine", "()I"⟩ : MethodName) ∈ kw := kw_of (i := 812) (by decide +kernel) rfl
theorem t_813 : Cond.instanceMethod (⟨"LayoutTokens$Source", "lastLine", "()I"⟩ : MethodName) ∈ kw := kw_of (i := 813) (by decide +kernel) rfl
theorem t_814 : Cond.selects "LayoutTokens$Source" (⟨"LayoutTokens$Source", "lastLine", "()I"⟩ : MethodName) (⟨"LayoutTokens$Source", "lastLine", "()I"⟩ : MethodName) ∈ kw := kw_of (i := 814) (by decide +kernel) rfl
theorem t_815 : Cond.code (⟨"LayoutTokens$Source", "lastLine", "()I"⟩ : MethodName) prog_10_method_10_code (1 : Nat) (Option.some FieldType.int) ∈ kw := kw_of (i := 815) (by decide +kernel) rfl
theorem t_817 : Cond.methodLink "LayoutTokens$Layout" (70 : Nat) (⟨"LayoutTokens$Laid", "count", "()I"⟩ : MethodName) ∈ kw := kw_of (i := 817) (by decide +kernel) rfl
theorem t_818 : Cond.instanceMethod (⟨"LayoutTokens$Laid", "count", "()I"⟩ : MethodName) ∈ kw := kw_of (i := 818) (by decide +kernel) rfl
theorem t_819 : Cond.selects "LayoutTokens$Laid" (⟨"LayoutTokens$Laid", "count", "()I"⟩ : MethodName) (⟨"LayoutTokens$Laid", "count", "()I"⟩ : MethodName) ∈ kw := kw_of (i := 819) (by decide +kernel) rfl
theorem t_820 : Cond.code (⟨"LayoutTokens$Laid", "count", "()I"⟩ : MethodName) prog_3_method_6_code (1 : Nat) (Option.some FieldType.int) ∈ kw := kw_of (i := 820) (by decide +kernel) rfl
theorem t_822 : Cond.methodLink "LayoutTokensLaw" (25 : Nat) (⟨"LayoutTokens", "token", "(II)I"⟩ : MethodName) ∈ kw := kw_of (i := 822) (by decide +kernel) rfl
theorem t_823 : Cond.instanceMethod (⟨"LayoutTokens", "token", "(II)I"⟩ : MethodName) ∈ kw := kw_of (i := 823) (by decide +kernel) rfl
theorem t_824 : Cond.selects "LayoutTokens" (⟨"LayoutTokens", "token", "(II)I"⟩ : MethodName) (⟨"LayoutTokens", "token", "(II)I"⟩ : MethodName) ∈ kw := kw_of (i := 824) (by decide +kernel) rfl
theorem t_825 : Cond.code (⟨"LayoutTokens", "token", "(II)I"⟩ : MethodName) prog_1_method_4_code (3 : Nat) (Option.some FieldType.int) ∈ kw := kw_of (i := 825) (by decide +kernel) rfl
theorem t_826 : Cond.methodLink "LayoutTokens" (100 : Nat) (⟨"LayoutTokens$Laid", "has", "(I)Z"⟩ : MethodName) ∈ kw := kw_of (i := 826) (by decide +kernel) rfl
theorem t_827 : Cond.instanceMethod (⟨"LayoutTokens$Laid", "has", "(I)Z"⟩ : MethodName) ∈ kw := kw_of (i := 827) (by decide +kernel) rfl
theorem t_828 : Cond.selects "LayoutTokens$Laid" (⟨"LayoutTokens$Laid", "has", "(I)Z"⟩ : MethodName) (⟨"LayoutTokens$Laid", "has", "(I)Z"⟩ : MethodName) ∈ kw := kw_of (i := 828) (by decide +kernel) rfl
theorem t_829 : Cond.code (⟨"LayoutTokens$Laid", "has", "(I)Z"⟩ : MethodName) prog_3_method_5_code (2 : Nat) (Option.some FieldType.boolean) ∈ kw := kw_of (i := 829) (by decide +kernel) rfl
theorem t_834 : Cond.methodLink "LayoutTokens$Laid" (54 : Nat) (⟨"LayoutTokens$Laid", "has", "(I)Z"⟩ : MethodName) ∈ kw := kw_of (i := 834) (by decide +kernel) rfl
theorem t_839 : Cond.methodLink "LayoutTokens" (111 : Nat) (⟨"LayoutTokens$Laid", "lexemeOf", "(I)I"⟩ : MethodName) ∈ kw := kw_of (i := 839) (by decide +kernel) rfl
theorem t_840 : Cond.instanceMethod (⟨"LayoutTokens$Laid", "lexemeOf", "(I)I"⟩ : MethodName) ∈ kw := kw_of (i := 840) (by decide +kernel) rfl
theorem t_841 : Cond.selects "LayoutTokens$Laid" (⟨"LayoutTokens$Laid", "lexemeOf", "(I)I"⟩ : MethodName) (⟨"LayoutTokens$Laid", "lexemeOf", "(I)I"⟩ : MethodName) ∈ kw := kw_of (i := 841) (by decide +kernel) rfl
theorem t_842 : Cond.code (⟨"LayoutTokens$Laid", "lexemeOf", "(I)I"⟩ : MethodName) prog_3_method_9_code (2 : Nat) (Option.some FieldType.int) ∈ kw := kw_of (i := 842) (by decide +kernel) rfl
theorem t_862 : Cond.methodLink "LayoutTokensLaw" (30 : Nat) (⟨"LayoutTokens", "sign", "(II)I"⟩ : MethodName) ∈ kw := kw_of (i := 862) (by decide +kernel) rfl
theorem t_863 : Cond.instanceMethod (⟨"LayoutTokens", "sign", "(II)I"⟩ : MethodName) ∈ kw := kw_of (i := 863) (by decide +kernel) rfl
theorem t_864 : Cond.selects "LayoutTokens" (⟨"LayoutTokens", "sign", "(II)I"⟩ : MethodName) (⟨"LayoutTokens", "sign", "(II)I"⟩ : MethodName) ∈ kw := kw_of (i := 864) (by decide +kernel) rfl
theorem t_865 : Cond.code (⟨"LayoutTokens", "sign", "(II)I"⟩ : MethodName) prog_1_method_5_code (3 : Nat) (Option.some FieldType.int) ∈ kw := kw_of (i := 865) (by decide +kernel) rfl
theorem t_866 : Cond.methodLink "LayoutTokens" (126 : Nat) (⟨"LayoutTokens$Lexemes", "signOf", "(II)I"⟩ : MethodName) ∈ kw := kw_of (i := 866) (by decide +kernel) rfl
theorem t_867 : Cond.instanceMethod (⟨"LayoutTokens$Lexemes", "signOf", "(II)I"⟩ : MethodName) ∈ kw := kw_of (i := 867) (by decide +kernel) rfl
theorem t_868 : Cond.selects "LayoutTokens$Lexemes" (⟨"LayoutTokens$Lexemes", "signOf", "(II)I"⟩ : MethodName) (⟨"LayoutTokens$Lexemes", "signOf", "(II)I"⟩ : MethodName) ∈ kw := kw_of (i := 868) (by decide +kernel) rfl
theorem t_869 : Cond.code (⟨"LayoutTokens$Lexemes", "signOf", "(II)I"⟩ : MethodName) prog_5_method_15_code (4 : Nat) (Option.some FieldType.int) ∈ kw := kw_of (i := 869) (by decide +kernel) rfl
theorem t_870 : Cond.methodLink "LayoutTokensLaw" (34 : Nat) (⟨"LayoutTokens", "number", "(I)J"⟩ : MethodName) ∈ kw := kw_of (i := 870) (by decide +kernel) rfl
theorem t_871 : Cond.instanceMethod (⟨"LayoutTokens", "number", "(I)J"⟩ : MethodName) ∈ kw := kw_of (i := 871) (by decide +kernel) rfl
theorem t_872 : Cond.selects "LayoutTokens" (⟨"LayoutTokens", "number", "(I)J"⟩ : MethodName) (⟨"LayoutTokens", "number", "(I)J"⟩ : MethodName) ∈ kw := kw_of (i := 872) (by decide +kernel) rfl
theorem t_873 : Cond.code (⟨"LayoutTokens", "number", "(I)J"⟩ : MethodName) prog_1_method_6_code (2 : Nat) (Option.some FieldType.long) ∈ kw := kw_of (i := 873) (by decide +kernel) rfl
theorem t_874 : Cond.methodLink "LayoutTokens" (130 : Nat) (⟨"LayoutTokens$Lexemes", "valueOf", "(I)J"⟩ : MethodName) ∈ kw := kw_of (i := 874) (by decide +kernel) rfl
theorem t_875 : Cond.instanceMethod (⟨"LayoutTokens$Lexemes", "valueOf", "(I)J"⟩ : MethodName) ∈ kw := kw_of (i := 875) (by decide +kernel) rfl
theorem t_876 : Cond.selects "LayoutTokens$Lexemes" (⟨"LayoutTokens$Lexemes", "valueOf", "(I)J"⟩ : MethodName) (⟨"LayoutTokens$Lexemes", "valueOf", "(I)J"⟩ : MethodName) ∈ kw := kw_of (i := 876) (by decide +kernel) rfl
theorem t_877 : Cond.code (⟨"LayoutTokens$Lexemes", "valueOf", "(I)J"⟩ : MethodName) prog_5_method_13_code (2 : Nat) (Option.some FieldType.long) ∈ kw := kw_of (i := 877) (by decide +kernel) rfl
theorem t_878 : Cond.methodLink "LayoutTokensLaw" (39 : Nat) (⟨"LayoutTokens", "asked", "(I)Z"⟩ : MethodName) ∈ kw := kw_of (i := 878) (by decide +kernel) rfl
theorem t_879 : Cond.instanceMethod (⟨"LayoutTokens", "asked", "(I)Z"⟩ : MethodName) ∈ kw := kw_of (i := 879) (by decide +kernel) rfl
theorem t_880 : Cond.selects "LayoutTokens" (⟨"LayoutTokens", "asked", "(I)Z"⟩ : MethodName) (⟨"LayoutTokens", "asked", "(I)Z"⟩ : MethodName) ∈ kw := kw_of (i := 880) (by decide +kernel) rfl
theorem t_881 : Cond.code (⟨"LayoutTokens", "asked", "(I)Z"⟩ : MethodName) prog_1_method_7_code (2 : Nat) (Option.some FieldType.boolean) ∈ kw := kw_of (i := 881) (by decide +kernel) rfl
theorem t_882 : Cond.methodLink "LayoutTokens" (134 : Nat) (⟨"LayoutTokens$Laid", "isAsked", "(I)Z"⟩ : MethodName) ∈ kw := kw_of (i := 882) (by decide +kernel) rfl
theorem t_883 : Cond.instanceMethod (⟨"LayoutTokens$Laid", "isAsked", "(I)Z"⟩ : MethodName) ∈ kw := kw_of (i := 883) (by decide +kernel) rfl
theorem t_884 : Cond.selects "LayoutTokens$Laid" (⟨"LayoutTokens$Laid", "isAsked", "(I)Z"⟩ : MethodName) (⟨"LayoutTokens$Laid", "isAsked", "(I)Z"⟩ : MethodName) ∈ kw := kw_of (i := 884) (by decide +kernel) rfl
theorem t_885 : Cond.code (⟨"LayoutTokens$Laid", "isAsked", "(I)Z"⟩ : MethodName) prog_3_method_14_code (2 : Nat) (Option.some FieldType.boolean) ∈ kw := kw_of (i := 885) (by decide +kernel) rfl
theorem t_886 : Cond.methodLink "LayoutTokensLaw" (44 : Nat) (⟨"LayoutTokens", "column", "(I)I"⟩ : MethodName) ∈ kw := kw_of (i := 886) (by decide +kernel) rfl
theorem t_887 : Cond.instanceMethod (⟨"LayoutTokens", "column", "(I)I"⟩ : MethodName) ∈ kw := kw_of (i := 887) (by decide +kernel) rfl
theorem t_888 : Cond.selects "LayoutTokens" (⟨"LayoutTokens", "column", "(I)I"⟩ : MethodName) (⟨"LayoutTokens", "column", "(I)I"⟩ : MethodName) ∈ kw := kw_of (i := 888) (by decide +kernel) rfl
theorem t_889 : Cond.code (⟨"LayoutTokens", "column", "(I)I"⟩ : MethodName) prog_1_method_8_code (2 : Nat) (Option.some FieldType.int) ∈ kw := kw_of (i := 889) (by decide +kernel) rfl
theorem t_890 : Cond.methodLink "LayoutTokens" (137 : Nat) (⟨"LayoutTokens$Source", "columnAt", "(I)I"⟩ : MethodName) ∈ kw := kw_of (i := 890) (by decide +kernel) rfl
theorem t_891 : Cond.methodLink "LayoutTokensLaw" (49 : Nat) (⟨"LayoutTokens", "comment", "(II)I"⟩ : MethodName) ∈ kw := kw_of (i := 891) (by decide +kernel) rfl
theorem t_892 : Cond.instanceMethod (⟨"LayoutTokens", "comment", "(II)I"⟩ : MethodName) ∈ kw := kw_of (i := 892) (by decide +kernel) rfl
theorem t_893 : Cond.selects "LayoutTokens" (⟨"LayoutTokens", "comment", "(II)I"⟩ : MethodName) (⟨"LayoutTokens", "comment", "(II)I"⟩ : MethodName) ∈ kw := kw_of (i := 893) (by decide +kernel) rfl
theorem t_894 : Cond.code (⟨"LayoutTokens", "comment", "(II)I"⟩ : MethodName) prog_1_method_9_code (3 : Nat) (Option.some FieldType.int) ∈ kw := kw_of (i := 894) (by decide +kernel) rfl
theorem t_895 : Cond.methodLink "LayoutTokens" (140 : Nat) (⟨"LayoutTokens$Comments", "tell", "(II)I"⟩ : MethodName) ∈ kw := kw_of (i := 895) (by decide +kernel) rfl
theorem t_896 : Cond.instanceMethod (⟨"LayoutTokens$Comments", "tell", "(II)I"⟩ : MethodName) ∈ kw := kw_of (i := 896) (by decide +kernel) rfl
theorem t_897 : Cond.selects "LayoutTokens$Comments" (⟨"LayoutTokens$Comments", "tell", "(II)I"⟩ : MethodName) (⟨"LayoutTokens$Comments", "tell", "(II)I"⟩ : MethodName) ∈ kw := kw_of (i := 897) (by decide +kernel) rfl
theorem t_898 : Cond.code (⟨"LayoutTokens$Comments", "tell", "(II)I"⟩ : MethodName) prog_2_method_6_code (3 : Nat) (Option.some FieldType.int) ∈ kw := kw_of (i := 898) (by decide +kernel) rfl
theorem t_899 : Cond.methodLink "LayoutTokensLaw" (53 : Nat) (⟨"LayoutTokens", "print", "()I"⟩ : MethodName) ∈ kw := kw_of (i := 899) (by decide +kernel) rfl
theorem t_900 : Cond.instanceMethod (⟨"LayoutTokens", "print", "()I"⟩ : MethodName) ∈ kw := kw_of (i := 900) (by decide +kernel) rfl
theorem t_901 : Cond.selects "LayoutTokens" (⟨"LayoutTokens", "print", "()I"⟩ : MethodName) (⟨"LayoutTokens", "print", "()I"⟩ : MethodName) ∈ kw := kw_of (i := 901) (by decide +kernel) rfl
theorem t_902 : Cond.code (⟨"LayoutTokens", "print", "()I"⟩ : MethodName) prog_1_method_10_code (1 : Nat) (Option.some FieldType.int) ∈ kw := kw_of (i := 902) (by decide +kernel) rfl
theorem t_937 : Cond.methodLink "LayoutTokensLaw" (58 : Nat) (⟨"LayoutTokens", "letter", "(I)I"⟩ : MethodName) ∈ kw := kw_of (i := 937) (by decide +kernel) rfl
theorem t_938 : Cond.instanceMethod (⟨"LayoutTokens", "letter", "(I)I"⟩ : MethodName) ∈ kw := kw_of (i := 938) (by decide +kernel) rfl
theorem t_939 : Cond.selects "LayoutTokens" (⟨"LayoutTokens", "letter", "(I)I"⟩ : MethodName) (⟨"LayoutTokens", "letter", "(I)I"⟩ : MethodName) ∈ kw := kw_of (i := 939) (by decide +kernel) rfl
theorem t_940 : Cond.code (⟨"LayoutTokens", "letter", "(I)I"⟩ : MethodName) prog_1_method_11_code (2 : Nat) (Option.some FieldType.int) ∈ kw := kw_of (i := 940) (by decide +kernel) rfl
theorem t_941 : Cond.methodLink "LayoutTokens" (146 : Nat) (⟨"LayoutTokens$Printer", "letterAt", "(I)I"⟩ : MethodName) ∈ kw := kw_of (i := 941) (by decide +kernel) rfl
theorem t_942 : Cond.instanceMethod (⟨"LayoutTokens$Printer", "letterAt", "(I)I"⟩ : MethodName) ∈ kw := kw_of (i := 942) (by decide +kernel) rfl
theorem t_943 : Cond.selects "LayoutTokens$Printer" (⟨"LayoutTokens$Printer", "letterAt", "(I)I"⟩ : MethodName) (⟨"LayoutTokens$Printer", "letterAt", "(I)I"⟩ : MethodName) ∈ kw := kw_of (i := 943) (by decide +kernel) rfl
theorem t_944 : Cond.code (⟨"LayoutTokens$Printer", "letterAt", "(I)I"⟩ : MethodName) prog_7_method_3_code (2 : Nat) (Option.some FieldType.int) ∈ kw := kw_of (i := 944) (by decide +kernel) rfl
theorem t_945 : Cond.methodLink "LayoutTokensLaw" (62 : Nat) (⟨"LayoutTokens", "back", "()I"⟩ : MethodName) ∈ kw := kw_of (i := 945) (by decide +kernel) rfl
theorem t_946 : Cond.instanceMethod (⟨"LayoutTokens", "back", "()I"⟩ : MethodName) ∈ kw := kw_of (i := 946) (by decide +kernel) rfl
theorem t_947 : Cond.selects "LayoutTokens" (⟨"LayoutTokens", "back", "()I"⟩ : MethodName) (⟨"LayoutTokens", "back", "()I"⟩ : MethodName) ∈ kw := kw_of (i := 947) (by decide +kernel) rfl
theorem t_948 : Cond.code (⟨"LayoutTokens", "back", "()I"⟩ : MethodName) prog_1_method_12_code (2 : Nat) (Option.some FieldType.int) ∈ kw := kw_of (i := 948) (by decide +kernel) rfl
theorem t_949 : Cond.methodLink "LayoutTokens" (149 : Nat) (⟨"LayoutTokens$Printer", "count", "()I"⟩ : MethodName) ∈ kw := kw_of (i := 949) (by decide +kernel) rfl
theorem t_950 : Cond.instanceMethod (⟨"LayoutTokens$Printer", "count", "()I"⟩ : MethodName) ∈ kw := kw_of (i := 950) (by decide +kernel) rfl
theorem t_951 : Cond.selects "LayoutTokens$Printer" (⟨"LayoutTokens$Printer", "count", "()I"⟩ : MethodName) (⟨"LayoutTokens$Printer", "count", "()I"⟩ : MethodName) ∈ kw := kw_of (i := 951) (by decide +kernel) rfl
theorem t_952 : Cond.code (⟨"LayoutTokens$Printer", "count", "()I"⟩ : MethodName) prog_7_method_2_code (1 : Nat) (Option.some FieldType.int) ∈ kw := kw_of (i := 952) (by decide +kernel) rfl
theorem t_953 : Cond.methodLink "LayoutTokens" (150 : Nat) (⟨"LayoutTokens$Source", "empty", "()V"⟩ : MethodName) ∈ kw := kw_of (i := 953) (by decide +kernel) rfl
theorem t_954 : Cond.instanceMethod (⟨"LayoutTokens$Source", "empty", "()V"⟩ : MethodName) ∈ kw := kw_of (i := 954) (by decide +kernel) rfl
theorem t_955 : Cond.selects "LayoutTokens$Source" (⟨"LayoutTokens$Source", "empty", "()V"⟩ : MethodName) (⟨"LayoutTokens$Source", "empty", "()V"⟩ : MethodName) ∈ kw := kw_of (i := 955) (by decide +kernel) rfl
theorem t_956 : Cond.code (⟨"LayoutTokens$Source", "empty", "()V"⟩ : MethodName) prog_10_method_4_code (1 : Nat) (Option.none : Option FieldType) ∈ kw := kw_of (i := 956) (by decide +kernel) rfl
theorem t_957 : Cond.methodLink "LayoutTokensLaw" (66 : Nat) (⟨"LayoutTokens", "told", "(I)I"⟩ : MethodName) ∈ kw := kw_of (i := 957) (by decide +kernel) rfl
theorem t_958 : Cond.instanceMethod (⟨"LayoutTokens", "told", "(I)I"⟩ : MethodName) ∈ kw := kw_of (i := 958) (by decide +kernel) rfl
theorem t_959 : Cond.selects "LayoutTokens" (⟨"LayoutTokens", "told", "(I)I"⟩ : MethodName) (⟨"LayoutTokens", "told", "(I)I"⟩ : MethodName) ∈ kw := kw_of (i := 959) (by decide +kernel) rfl
theorem t_960 : Cond.code (⟨"LayoutTokens", "told", "(I)I"⟩ : MethodName) prog_1_method_13_code (2 : Nat) (Option.some FieldType.int) ∈ kw := kw_of (i := 960) (by decide +kernel) rfl
theorem t_961 : Cond.methodLink "LayoutTokens" (153 : Nat) (⟨"LayoutTokens$Laid", "count", "()I"⟩ : MethodName) ∈ kw := kw_of (i := 961) (by decide +kernel) rfl
theorem t_962 : Cond.methodLink "LayoutTokens" (154 : Nat) (⟨"LayoutTokens$Laid", "countPutIn", "()I"⟩ : MethodName) ∈ kw := kw_of (i := 962) (by decide +kernel) rfl
theorem t_963 : Cond.instanceMethod (⟨"LayoutTokens$Laid", "countPutIn", "()I"⟩ : MethodName) ∈ kw := kw_of (i := 963) (by decide +kernel) rfl
theorem t_964 : Cond.selects "LayoutTokens$Laid" (⟨"LayoutTokens$Laid", "countPutIn", "()I"⟩ : MethodName) (⟨"LayoutTokens$Laid", "countPutIn", "()I"⟩ : MethodName) ∈ kw := kw_of (i := 964) (by decide +kernel) rfl
theorem t_965 : Cond.code (⟨"LayoutTokens$Laid", "countPutIn", "()I"⟩ : MethodName) prog_3_method_7_code (1 : Nat) (Option.some FieldType.int) ∈ kw := kw_of (i := 965) (by decide +kernel) rfl
theorem t_966 : Cond.methodLink "LayoutTokens" (157 : Nat) (⟨"LayoutTokens$Laid", "countAsked", "()I"⟩ : MethodName) ∈ kw := kw_of (i := 966) (by decide +kernel) rfl
theorem t_967 : Cond.instanceMethod (⟨"LayoutTokens$Laid", "countAsked", "()I"⟩ : MethodName) ∈ kw := kw_of (i := 967) (by decide +kernel) rfl
theorem t_968 : Cond.selects "LayoutTokens$Laid" (⟨"LayoutTokens$Laid", "countAsked", "()I"⟩ : MethodName) (⟨"LayoutTokens$Laid", "countAsked", "()I"⟩ : MethodName) ∈ kw := kw_of (i := 968) (by decide +kernel) rfl
theorem t_969 : Cond.code (⟨"LayoutTokens$Laid", "countAsked", "()I"⟩ : MethodName) prog_3_method_8_code (1 : Nat) (Option.some FieldType.int) ∈ kw := kw_of (i := 969) (by decide +kernel) rfl
theorem t_970 : Cond.methodLink "LayoutTokens" (160 : Nat) (⟨"LayoutTokens$Comments", "count", "()I"⟩ : MethodName) ∈ kw := kw_of (i := 970) (by decide +kernel) rfl
theorem t_971 : Cond.instanceMethod (⟨"LayoutTokens$Comments", "count", "()I"⟩ : MethodName) ∈ kw := kw_of (i := 971) (by decide +kernel) rfl
theorem t_972 : Cond.selects "LayoutTokens$Comments" (⟨"LayoutTokens$Comments", "count", "()I"⟩ : MethodName) (⟨"LayoutTokens$Comments", "count", "()I"⟩ : MethodName) ∈ kw := kw_of (i := 972) (by decide +kernel) rfl
theorem t_973 : Cond.code (⟨"LayoutTokens$Comments", "count", "()I"⟩ : MethodName) prog_2_method_3_code (1 : Nat) (Option.some FieldType.int) ∈ kw := kw_of (i := 973) (by decide +kernel) rfl
theorem t_974 : Cond.methodLink "LayoutTokens" (161 : Nat) (⟨"LayoutTokens$Comments", "deepest", "()I"⟩ : MethodName) ∈ kw := kw_of (i := 974) (by decide +kernel) rfl
theorem t_975 : Cond.instanceMethod (⟨"LayoutTokens$Comments", "deepest", "()I"⟩ : MethodName) ∈ kw := kw_of (i := 975) (by decide +kernel) rfl
theorem t_976 : Cond.selects "LayoutTokens$Comments" (⟨"LayoutTokens$Comments", "deepest", "()I"⟩ : MethodName) (⟨"LayoutTokens$Comments", "deepest", "()I"⟩ : MethodName) ∈ kw := kw_of (i := 976) (by decide +kernel) rfl
theorem t_977 : Cond.code (⟨"LayoutTokens$Comments", "deepest", "()I"⟩ : MethodName) prog_2_method_4_code (1 : Nat) (Option.some FieldType.int) ∈ kw := kw_of (i := 977) (by decide +kernel) rfl
theorem t_978 : Cond.methodLink "LayoutTokensLaw" (70 : Nat) (⟨"LayoutTokens", "clear", "()I"⟩ : MethodName) ∈ kw := kw_of (i := 978) (by decide +kernel) rfl
theorem t_979 : Cond.instanceMethod (⟨"LayoutTokens", "clear", "()I"⟩ : MethodName) ∈ kw := kw_of (i := 979) (by decide +kernel) rfl
theorem t_980 : Cond.selects "LayoutTokens" (⟨"LayoutTokens", "clear", "()I"⟩ : MethodName) (⟨"LayoutTokens", "clear", "()I"⟩ : MethodName) ∈ kw := kw_of (i := 980) (by decide +kernel) rfl
theorem t_981 : Cond.code (⟨"LayoutTokens", "clear", "()I"⟩ : MethodName) prog_1_method_14_code (2 : Nat) (Option.some FieldType.int) ∈ kw := kw_of (i := 981) (by decide +kernel) rfl
theorem t_982 : Cond.classLink "LayoutTokensLaw" (10 : Nat) "LayoutTokensModel" ∈ kw := kw_of (i := 982) (by decide +kernel) rfl
theorem t_983 : Cond.instantiable "LayoutTokensModel" (48 : Nat) ∈ kw := kw_of (i := 983) (by decide +kernel) rfl
theorem t_984 : Cond.methodLink "LayoutTokensLaw" (12 : Nat) (⟨"LayoutTokensModel", "<init>", "()V"⟩ : MethodName) ∈ kw := kw_of (i := 984) (by decide +kernel) rfl
theorem t_985 : Cond.instanceMethod (⟨"LayoutTokensModel", "<init>", "()V"⟩ : MethodName) ∈ kw := kw_of (i := 985) (by decide +kernel) rfl
theorem t_986 : Cond.code (⟨"LayoutTokensModel", "<init>", "()V"⟩ : MethodName) prog_12_method_1_code (1 : Nat) (Option.none : Option FieldType) ∈ kw := kw_of (i := 986) (by decide +kernel) rfl
theorem t_987 : Cond.methodLink "LayoutTokensModel" 1 objectInit ∈ kw := kw_of (i := 987) (by decide +kernel) rfl
theorem t_988 : Cond.fieldLink "LayoutTokensModel" (99 : Nat) "LayoutTokensModel" "thrown" "I" ∈ kw := kw_of (i := 988) (by decide +kernel) rfl
theorem t_989 : Cond.fieldLink "LayoutTokensModel" (7 : Nat) "LayoutTokensModel" "text" "[I" ∈ kw := kw_of (i := 989) (by decide +kernel) rfl
theorem t_990 : Cond.fieldLink "LayoutTokensModel" (118 : Nat) "LayoutTokensModel" "n" "I" ∈ kw := kw_of (i := 990) (by decide +kernel) rfl
theorem t_991 : Cond.fieldLink "LayoutTokensModel" (13 : Nat) "LayoutTokensModel" "eff" "[I" ∈ kw := kw_of (i := 991) (by decide +kernel) rfl
theorem t_992 : Cond.fieldLink "LayoutTokensModel" (16 : Nat) "LayoutTokensModel" "columnOf" "[I" ∈ kw := kw_of (i := 992) (by decide +kernel) rfl
theorem t_993 : Cond.fieldLink "LayoutTokensModel" (19 : Nat) "LayoutTokensModel" "lineOf" "[I" ∈ kw := kw_of (i := 993) (by decide +kernel) rfl
theorem t_994 : Cond.fieldLink "LayoutTokensModel" (102 : Nat) "LayoutTokensModel" "isRead" "Z" ∈ kw := kw_of (i := 994) (by decide +kernel) rfl
theorem t_995 : Cond.fieldLink "LayoutTokensModel" (133 : Nat) "LayoutTokensModel" "fault" "I" ∈ kw := kw_of (i := 995) (by decide +kernel) rfl
theorem t_996 : Cond.fieldLink "LayoutTokensModel" (106 : Nat) "LayoutTokensModel" "raws" "I" ∈ kw := kw_of (i := 996) (by decide +kernel) rfl
theorem t_997 : Cond.fieldLink "LayoutTokensModel" (22 : Nat) "LayoutTokensModel" "rawKind" "[I" ∈ kw := kw_of (i := 997) (by decide +kernel) rfl
theorem t_998 : Cond.fieldLink "LayoutTokensModel" (25 : Nat) "LayoutTokensModel" "rawPlace" "[I" ∈ kw := kw_of (i := 998) (by decide +kernel) rfl
theorem t_999 : Cond.fieldLink "LayoutTokensModel" (28 : Nat) "LayoutTokensModel" "rawSize" "[I" ∈ kw := kw_of (i := 999) (by decide +kernel) rfl
theorem t_1000 : Cond.fieldLink "LayoutTokensModel" (31 : Nat) "LayoutTokensModel" "rawFrom" "[I" ∈ kw := kw_of (i := 1000) (by decide +kernel) rfl
theorem t_1001 : Cond.fieldLink "LayoutTokensModel" (34 : Nat) "LayoutTokensModel" "rawSigns" "[I" ∈ kw := kw_of (i := 1001) (by decide +kernel) rfl
theorem t_1002 : Cond.fieldLink "LayoutTokensModel" (37 : Nat) "LayoutTokensModel" "rawWord" "[I" ∈ kw := kw_of (i := 1002) (by decide +kernel) rfl
theorem t_1003 : Cond.fieldLink "LayoutTokensModel" (40 : Nat) "LayoutTokensModel" "signs" "[I" ∈ kw := kw_of (i := 1003) (by decide +kernel) rfl
theorem t_1004 : Cond.fieldLink "LayoutTokensModel" (260 : Nat) "LayoutTokensModel" "signCount" "I" ∈ kw := kw_of (i := 1004) (by decide +kernel) rfl
theorem t_1005 : Cond.fieldLink "LayoutTokensModel" (112 : Nat) "LayoutTokensModel" "comments" "I" ∈ kw := kw_of (i := 1005) (by decide +kernel) rfl
theorem t_1006 : Cond.fieldLink "LayoutTokensModel" (43 : Nat) "LayoutTokensModel" "commentAt" "[I" ∈ kw := kw_of (i := 1006) (by decide +kernel) rfl
theorem t_1007 : Cond.fieldLink "LayoutTokensModel" (46 : Nat) "LayoutTokensModel" "commentSize" "[I" ∈ kw := kw_of (i := 1007) (by decide +kernel) rfl
theorem t_1008 : Cond.fieldLink "LayoutTokensModel" (49 : Nat) "LayoutTokensModel" "isBlock" "[Z" ∈ kw := kw_of (i := 1008) (by decide +kernel) rfl
theorem t_1009 : Cond.fieldLink "LayoutTokensModel" (115 : Nat) "LayoutTokensModel" "deepest" "I" ∈ kw := kw_of (i := 1009) (by decide +kernel) rfl
theorem t_1010 : Cond.fieldLink "LayoutTokensModel" (109 : Nat) "LayoutTokensModel" "tokens" "I" ∈ kw := kw_of (i := 1010) (by decide +kernel) rfl
theorem t_1011 : Cond.fieldLink "LayoutTokensModel" (53 : Nat) "LayoutTokensModel" "tokenRaw" "[I" ∈ kw := kw_of (i := 1011) (by decide +kernel) rfl
theorem t_1012 : Cond.fieldLink "LayoutTokensModel" (56 : Nat) "LayoutTokensModel" "tokenKind" "[I" ∈ kw := kw_of (i := 1012) (by decide +kernel) rfl
theorem t_1013 : Cond.fieldLink "LayoutTokensModel" (59 : Nat) "LayoutTokensModel" "tokenPlace" "[I" ∈ kw := kw_of (i := 1013) (by decide +kernel) rfl
theorem t_1014 : Cond.fieldLink "LayoutTokensModel" (62 : Nat) "LayoutTokensModel" "tokenLine" "[I" ∈ kw := kw_of (i := 1014) (by decide +kernel) rfl
theorem t_1015 : Cond.fieldLink "LayoutTokensModel" (65 : Nat) "LayoutTokensModel" "tokenColumn" "[I" ∈ kw := kw_of (i := 1015) (by decide +kernel) rfl
theorem t_1016 : Cond.fieldLink "LayoutTokensModel" (68 : Nat) "LayoutTokensModel" "isAsked" "[Z" ∈ kw := kw_of (i := 1016) (by decide +kernel) rfl
theorem t_1017 : Cond.fieldLink "LayoutTokensModel" (95 : Nat) "LayoutTokensModel" "printed" "I" ∈ kw := kw_of (i := 1017) (by decide +kernel) rfl
theorem t_1018 : Cond.fieldLink "LayoutTokensModel" (71 : Nat) "LayoutTokensModel" "letters" "[I" ∈ kw := kw_of (i := 1018) (by decide +kernel) rfl
theorem t_1019 : Cond.fieldLink "LayoutTokensModel" (74 : Nat) "LayoutTokensModel" "made" "[I" ∈ kw := kw_of (i := 1019) (by decide +kernel) rfl
theorem t_1021 : Cond.fieldLink "LayoutTokensModel" (77 : Nat) "LayoutTokensModel" "lineFirst" "[I" ∈ kw := kw_of (i := 1021) (by decide +kernel) rfl
theorem t_1022 : Cond.fieldLink "LayoutTokensModel" (80 : Nat) "LayoutTokensModel" "lineCode" "[Z" ∈ kw := kw_of (i := 1022) (by decide +kernel) rfl
theorem t_1023 : Cond.fieldLink "LayoutTokensModel" (83 : Nat) "LayoutTokensModel" "lineFull" "[Z" ∈ kw := kw_of (i := 1023) (by decide +kernel) rfl
theorem t_1027 : Cond.fieldLink "LayoutTokensModel" (86 : Nat) "LayoutTokensModel" "itemKind" "[I" ∈ kw := kw_of (i := 1027) (by decide +kernel) rfl
theorem t_1028 : Cond.fieldLink "LayoutTokensModel" (89 : Nat) "LayoutTokensModel" "itemColumn" "[I" ∈ kw := kw_of (i := 1028) (by decide +kernel) rfl
theorem t_1029 : Cond.fieldLink "LayoutTokensModel" (92 : Nat) "LayoutTokensModel" "itemLet" "[Z" ∈ kw := kw_of (i := 1029) (by decide +kernel) rfl
theorem t_1030 : Cond.fieldLink "LayoutTokensModel" (301 : Nat) "LayoutTokensModel" "items" "I" ∈ kw := kw_of (i := 1030) (by decide +kernel) rfl
theorem t_1031 : Cond.fieldLink "LayoutTokensModel" (304 : Nat) "LayoutTokensModel" "herePlace" "I" ∈ kw := kw_of (i := 1031) (by decide +kernel) rfl
theorem t_1032 : Cond.fieldLink "LayoutTokensModel" (307 : Nat) "LayoutTokensModel" "hereLine" "I" ∈ kw := kw_of (i := 1032) (by decide +kernel) rfl
theorem t_1033 : Cond.fieldLink "LayoutTokensModel" (310 : Nat) "LayoutTokensModel" "hereColumn" "I" ∈ kw := kw_of (i := 1033) (by decide +kernel) rfl
theorem t_1035 : Cond.fieldLink "LayoutTokensModel" (339 : Nat) "LayoutTokensModel" "braceLet" "Z" ∈ kw := kw_of (i := 1035) (by decide +kernel) rfl
theorem t_1133 : Cond.methodLink "LayoutTokensLaw" (19 : Nat) (⟨"LayoutTokensModel", "octets", "(IJ)I"⟩ : MethodName) ∈ kw := kw_of (i := 1133) (by decide +kernel) rfl
theorem t_1134 : Cond.instanceMethod (⟨"LayoutTokensModel", "octets", "(IJ)I"⟩ : MethodName) ∈ kw := kw_of (i := 1134) (by decide +kernel) rfl
theorem t_1135 : Cond.selects "LayoutTokensModel" (⟨"LayoutTokensModel", "octets", "(IJ)I"⟩ : MethodName) (⟨"LayoutTokensModel", "octets", "(IJ)I"⟩ : MethodName) ∈ kw := kw_of (i := 1135) (by decide +kernel) rfl
theorem t_1136 : Cond.code (⟨"LayoutTokensModel", "octets", "(IJ)I"⟩ : MethodName) prog_12_method_4_code (5 : Nat) (Option.some FieldType.int) ∈ kw := kw_of (i := 1136) (by decide +kernel) rfl
theorem t_1137 : Cond.constantLong "LayoutTokensModel" (121 : Nat) (255 : Int64) ∈ kw := kw_of (i := 1137) (by decide +kernel) rfl
theorem t_1138 : Cond.methodLink "LayoutTokensModel" (123 : Nat) (⟨"LayoutTokensModel", "unread", "()V"⟩ : MethodName) ∈ kw := kw_of (i := 1138) (by decide +kernel) rfl
theorem t_1140 : Cond.instanceMethod (⟨"LayoutTokensModel", "unread", "()V"⟩ : MethodName) ∈ kw := kw_of (i := 1140) (by decide +kernel) rfl
theorem t_1141 : Cond.code (⟨"LayoutTokensModel", "unread", "()V"⟩ : MethodName) prog_12_method_3_code (1 : Nat) (Option.none : Option FieldType) ∈ kw := kw_of (i := 1141) (by decide +kernel) rfl
theorem t_1142 : Cond.methodLink "LayoutTokensLaw" (24 : Nat) (⟨"LayoutTokensModel", "read", "(Z)I"⟩ : MethodName) ∈ kw := kw_of (i := 1142) (by decide +kernel) rfl
theorem t_1143 : Cond.instanceMethod (⟨"LayoutTokensModel", "read", "(Z)I"⟩ : MethodName) ∈ kw := kw_of (i := 1143) (by decide +kernel) rfl
theorem t_1144 : Cond.selects "LayoutTokensModel" (⟨"LayoutTokensModel", "read", "(Z)I"⟩ : MethodName) (⟨"LayoutTokensModel", "read", "(Z)I"⟩ : MethodName) ∈ kw := kw_of (i := 1144) (by decide +kernel) rfl
theorem t_1145 : Cond.code (⟨"LayoutTokensModel", "read", "(Z)I"⟩ : MethodName) prog_12_method_59_code (3 : Nat) (Option.some FieldType.int) ∈ kw := kw_of (i := 1145) (by decide +kernel) rfl
theorem t_1146 : Cond.methodLink "LayoutTokensModel" (366 : Nat) (⟨"LayoutTokensModel", "layLines", "()V"⟩ : MethodName) ∈ kw := kw_of (i := 1146) (by decide +kernel) rfl
theorem t_1148 : Cond.instanceMethod (⟨"LayoutTokensModel", "layLines", "()V"⟩ : MethodName) ∈ kw := kw_of (i := 1148) (by decide +kernel) rfl
theorem t_1149 : Cond.code (⟨"LayoutTokensModel", "layLines", "()V"⟩ : MethodName) prog_12_method_5_code (5 : Nat) (Option.none : Option FieldType) ∈ kw := kw_of (i := 1149) (by decide +kernel) rfl
theorem t_1150 : Cond.methodLink "LayoutTokensModel" (369 : Nat) (⟨"LayoutTokensModel", "literate", "()V"⟩ : MethodName) ∈ kw := kw_of (i := 1150) (by decide +kernel) rfl
theorem t_1152 : Cond.instanceMethod (⟨"LayoutTokensModel", "literate", "()V"⟩ : MethodName) ∈ kw := kw_of (i := 1152) (by decide +kernel) rfl
theorem t_1153 : Cond.code (⟨"LayoutTokensModel", "literate", "()V"⟩ : MethodName) prog_12_method_10_code (5 : Nat) (Option.none : Option FieldType) ∈ kw := kw_of (i := 1153) (by decide +kernel) rfl
theorem t_1163 : Cond.methodLink "LayoutTokensModel" (139 : Nat) (⟨"LayoutTokensModel", "stop", "(I)V"⟩ : MethodName) ∈ kw := kw_of (i := 1163) (by decide +kernel) rfl
theorem t_1165 : Cond.instanceMethod (⟨"LayoutTokensModel", "stop", "(I)V"⟩ : MethodName) ∈ kw := kw_of (i := 1165) (by decide +kernel) rfl
theorem t_1166 : Cond.code (⟨"LayoutTokensModel", "stop", "(I)V"⟩ : MethodName) prog_12_method_9_code (2 : Nat) (Option.none : Option FieldType) ∈ kw := kw_of (i := 1166) (by decide +kernel) rfl
theorem t_1167 : Cond.methodLink "LayoutTokensModel" (372 : Nat) (⟨"LayoutTokensModel", "readAll", "()V"⟩ : MethodName) ∈ kw := kw_of (i := 1167) (by decide +kernel) rfl
theorem t_1169 : Cond.instanceMethod (⟨"LayoutTokensModel", "readAll", "()V"⟩ : MethodName) ∈ kw := kw_of (i := 1169) (by decide +kernel) rfl
theorem t_1170 : Cond.code (⟨"LayoutTokensModel", "readAll", "()V"⟩ : MethodName) prog_12_method_42_code (3 : Nat) (Option.none : Option FieldType) ∈ kw := kw_of (i := 1170) (by decide +kernel) rfl
theorem t_1306 : Cond.methodLink "LayoutTokensModel" (375 : Nat) (⟨"LayoutTokensModel", "layout", "()V"⟩ : MethodName) ∈ kw := kw_of (i := 1306) (by decide +kernel) rfl
theorem t_1308 : Cond.instanceMethod (⟨"LayoutTokensModel", "layout", "()V"⟩ : MethodName) ∈ kw := kw_of (i := 1308) (by decide +kernel) rfl
theorem t_1309 : Cond.code (⟨"LayoutTokensModel", "layout", "()V"⟩ : MethodName) prog_12_method_58_code (2 : Nat) (Option.none : Option FieldType) ∈ kw := kw_of (i := 1309) (by decide +kernel) rfl
theorem t_1321 : Cond.methodLink "LayoutTokensModel" (326 : Nat) (⟨"LayoutTokensModel", "putIn", "(I)V"⟩ : MethodName) ∈ kw := kw_of (i := 1321) (by decide +kernel) rfl
theorem t_1323 : Cond.instanceMethod (⟨"LayoutTokensModel", "putIn", "(I)V"⟩ : MethodName) ∈ kw := kw_of (i := 1323) (by decide +kernel) rfl
theorem t_1324 : Cond.code (⟨"LayoutTokensModel", "putIn", "(I)V"⟩ : MethodName) prog_12_method_46_code (2 : Nat) (Option.none : Option FieldType) ∈ kw := kw_of (i := 1324) (by decide +kernel) rfl
theorem t_1325 : Cond.methodLink "LayoutTokensModel" (313 : Nat) (⟨"LayoutTokensModel", "addToken", "(IIZ)V"⟩ : MethodName) ∈ kw := kw_of (i := 1325) (by decide +kernel) rfl
theorem t_1327 : Cond.instanceMethod (⟨"LayoutTokensModel", "addToken", "(IIZ)V"⟩ : MethodName) ∈ kw := kw_of (i := 1327) (by decide +kernel) rfl
theorem t_1328 : Cond.code (⟨"LayoutTokensModel", "addToken", "(IIZ)V"⟩ : MethodName) prog_12_method_45_code (4 : Nat) (Option.none : Option FieldType) ∈ kw := kw_of (i := 1328) (by decide +kernel) rfl
theorem t_1337 : Cond.methodLink "LayoutTokensModel" (351 : Nat) (⟨"LayoutTokensModel", "room", "()V"⟩ : MethodName) ∈ kw := kw_of (i := 1337) (by decide +kernel) rfl
theorem t_1339 : Cond.instanceMethod (⟨"LayoutTokensModel", "room", "()V"⟩ : MethodName) ∈ kw := kw_of (i := 1339) (by decide +kernel) rfl
theorem t_1340 : Cond.code (⟨"LayoutTokensModel", "room", "()V"⟩ : MethodName) prog_12_method_43_code (1 : Nat) (Option.none : Option FieldType) ∈ kw := kw_of (i := 1340) (by decide +kernel) rfl
theorem t_1345 : Cond.constant "LayoutTokensModel" (319 : Nat) (100000 : Int32) ∈ kw := kw_of (i := 1345) (by decide +kernel) rfl
theorem t_1346 : Cond.methodLink "LayoutTokensModel" (320 : Nat) (⟨"LayoutTokensModel", "isTop", "(II)Z"⟩ : MethodName) ∈ kw := kw_of (i := 1346) (by decide +kernel) rfl
theorem t_1348 : Cond.instanceMethod (⟨"LayoutTokensModel", "isTop", "(II)Z"⟩ : MethodName) ∈ kw := kw_of (i := 1348) (by decide +kernel) rfl
theorem t_1349 : Cond.code (⟨"LayoutTokensModel", "isTop", "(II)Z"⟩ : MethodName) prog_12_method_49_code (3 : Nat) (Option.some FieldType.boolean) ∈ kw := kw_of (i := 1349) (by decide +kernel) rfl
theorem t_1370 : Cond.methodLink "LayoutTokensLaw" (29 : Nat) (⟨"LayoutTokensModel", "token", "(II)I"⟩ : MethodName) ∈ kw := kw_of (i := 1370) (by decide +kernel) rfl
theorem t_1371 : Cond.instanceMethod (⟨"LayoutTokensModel", "token", "(II)I"⟩ : MethodName) ∈ kw := kw_of (i := 1371) (by decide +kernel) rfl
theorem t_1372 : Cond.selects "LayoutTokensModel" (⟨"LayoutTokensModel", "token", "(II)I"⟩ : MethodName) (⟨"LayoutTokensModel", "token", "(II)I"⟩ : MethodName) ∈ kw := kw_of (i := 1372) (by decide +kernel) rfl
theorem t_1373 : Cond.code (⟨"LayoutTokensModel", "token", "(II)I"⟩ : MethodName) prog_12_method_61_code (4 : Nat) (Option.some FieldType.int) ∈ kw := kw_of (i := 1373) (by decide +kernel) rfl
theorem t_1374 : Cond.methodLink "LayoutTokensModel" (378 : Nat) (⟨"LayoutTokensModel", "noToken", "(I)Z"⟩ : MethodName) ∈ kw := kw_of (i := 1374) (by decide +kernel) rfl
theorem t_1376 : Cond.instanceMethod (⟨"LayoutTokensModel", "noToken", "(I)Z"⟩ : MethodName) ∈ kw := kw_of (i := 1376) (by decide +kernel) rfl
theorem t_1377 : Cond.code (⟨"LayoutTokensModel", "noToken", "(I)Z"⟩ : MethodName) prog_12_method_60_code (2 : Nat) (Option.some FieldType.boolean) ∈ kw := kw_of (i := 1377) (by decide +kernel) rfl
theorem t_1378 : Cond.methodLink "LayoutTokensLaw" (33 : Nat) (⟨"LayoutTokensModel", "sign", "(II)I"⟩ : MethodName) ∈ kw := kw_of (i := 1378) (by decide +kernel) rfl
theorem t_1379 : Cond.instanceMethod (⟨"LayoutTokensModel", "sign", "(II)I"⟩ : MethodName) ∈ kw := kw_of (i := 1379) (by decide +kernel) rfl
theorem t_1380 : Cond.selects "LayoutTokensModel" (⟨"LayoutTokensModel", "sign", "(II)I"⟩ : MethodName) (⟨"LayoutTokensModel", "sign", "(II)I"⟩ : MethodName) ∈ kw := kw_of (i := 1380) (by decide +kernel) rfl
theorem t_1381 : Cond.code (⟨"LayoutTokensModel", "sign", "(II)I"⟩ : MethodName) prog_12_method_62_code (3 : Nat) (Option.some FieldType.int) ∈ kw := kw_of (i := 1381) (by decide +kernel) rfl
theorem t_1382 : Cond.methodLink "LayoutTokensLaw" (38 : Nat) (⟨"LayoutTokensModel", "number", "(I)J"⟩ : MethodName) ∈ kw := kw_of (i := 1382) (by decide +kernel) rfl
theorem t_1383 : Cond.instanceMethod (⟨"LayoutTokensModel", "number", "(I)J"⟩ : MethodName) ∈ kw := kw_of (i := 1383) (by decide +kernel) rfl
theorem t_1384 : Cond.selects "LayoutTokensModel" (⟨"LayoutTokensModel", "number", "(I)J"⟩ : MethodName) (⟨"LayoutTokensModel", "number", "(I)J"⟩ : MethodName) ∈ kw := kw_of (i := 1384) (by decide +kernel) rfl
theorem t_1385 : Cond.code (⟨"LayoutTokensModel", "number", "(I)J"⟩ : MethodName) prog_12_method_63_code (10 : Nat) (Option.some FieldType.long) ∈ kw := kw_of (i := 1385) (by decide +kernel) rfl
theorem t_1386 : Cond.methodLink "LayoutTokensLaw" (43 : Nat) (⟨"LayoutTokensModel", "asked", "(I)Z"⟩ : MethodName) ∈ kw := kw_of (i := 1386) (by decide +kernel) rfl
theorem t_1387 : Cond.instanceMethod (⟨"LayoutTokensModel", "asked", "(I)Z"⟩ : MethodName) ∈ kw := kw_of (i := 1387) (by decide +kernel) rfl
theorem t_1388 : Cond.selects "LayoutTokensModel" (⟨"LayoutTokensModel", "asked", "(I)Z"⟩ : MethodName) (⟨"LayoutTokensModel", "asked", "(I)Z"⟩ : MethodName) ∈ kw := kw_of (i := 1388) (by decide +kernel) rfl
theorem t_1389 : Cond.code (⟨"LayoutTokensModel", "asked", "(I)Z"⟩ : MethodName) prog_12_method_64_code (2 : Nat) (Option.some FieldType.boolean) ∈ kw := kw_of (i := 1389) (by decide +kernel) rfl
theorem t_1390 : Cond.methodLink "LayoutTokensLaw" (48 : Nat) (⟨"LayoutTokensModel", "column", "(I)I"⟩ : MethodName) ∈ kw := kw_of (i := 1390) (by decide +kernel) rfl
theorem t_1391 : Cond.instanceMethod (⟨"LayoutTokensModel", "column", "(I)I"⟩ : MethodName) ∈ kw := kw_of (i := 1391) (by decide +kernel) rfl
theorem t_1392 : Cond.selects "LayoutTokensModel" (⟨"LayoutTokensModel", "column", "(I)I"⟩ : MethodName) (⟨"LayoutTokensModel", "column", "(I)I"⟩ : MethodName) ∈ kw := kw_of (i := 1392) (by decide +kernel) rfl
theorem t_1393 : Cond.code (⟨"LayoutTokensModel", "column", "(I)I"⟩ : MethodName) prog_12_method_65_code (2 : Nat) (Option.some FieldType.int) ∈ kw := kw_of (i := 1393) (by decide +kernel) rfl
theorem t_1394 : Cond.methodLink "LayoutTokensLaw" (52 : Nat) (⟨"LayoutTokensModel", "comment", "(II)I"⟩ : MethodName) ∈ kw := kw_of (i := 1394) (by decide +kernel) rfl
theorem t_1395 : Cond.instanceMethod (⟨"LayoutTokensModel", "comment", "(II)I"⟩ : MethodName) ∈ kw := kw_of (i := 1395) (by decide +kernel) rfl
theorem t_1396 : Cond.selects "LayoutTokensModel" (⟨"LayoutTokensModel", "comment", "(II)I"⟩ : MethodName) (⟨"LayoutTokensModel", "comment", "(II)I"⟩ : MethodName) ∈ kw := kw_of (i := 1396) (by decide +kernel) rfl
theorem t_1397 : Cond.code (⟨"LayoutTokensModel", "comment", "(II)I"⟩ : MethodName) prog_12_method_66_code (3 : Nat) (Option.some FieldType.int) ∈ kw := kw_of (i := 1397) (by decide +kernel) rfl
theorem t_1398 : Cond.methodLink "LayoutTokensLaw" (57 : Nat) (⟨"LayoutTokensModel", "print", "()I"⟩ : MethodName) ∈ kw := kw_of (i := 1398) (by decide +kernel) rfl
theorem t_1399 : Cond.instanceMethod (⟨"LayoutTokensModel", "print", "()I"⟩ : MethodName) ∈ kw := kw_of (i := 1399) (by decide +kernel) rfl
theorem t_1400 : Cond.selects "LayoutTokensModel" (⟨"LayoutTokensModel", "print", "()I"⟩ : MethodName) (⟨"LayoutTokensModel", "print", "()I"⟩ : MethodName) ∈ kw := kw_of (i := 1400) (by decide +kernel) rfl
theorem t_1401 : Cond.code (⟨"LayoutTokensModel", "print", "()I"⟩ : MethodName) prog_12_method_70_code (2 : Nat) (Option.some FieldType.int) ∈ kw := kw_of (i := 1401) (by decide +kernel) rfl
theorem t_1415 : Cond.methodLink "LayoutTokensLaw" (61 : Nat) (⟨"LayoutTokensModel", "letter", "(I)I"⟩ : MethodName) ∈ kw := kw_of (i := 1415) (by decide +kernel) rfl
theorem t_1416 : Cond.instanceMethod (⟨"LayoutTokensModel", "letter", "(I)I"⟩ : MethodName) ∈ kw := kw_of (i := 1416) (by decide +kernel) rfl
theorem t_1417 : Cond.selects "LayoutTokensModel" (⟨"LayoutTokensModel", "letter", "(I)I"⟩ : MethodName) (⟨"LayoutTokensModel", "letter", "(I)I"⟩ : MethodName) ∈ kw := kw_of (i := 1417) (by decide +kernel) rfl
theorem t_1418 : Cond.code (⟨"LayoutTokensModel", "letter", "(I)I"⟩ : MethodName) prog_12_method_71_code (2 : Nat) (Option.some FieldType.int) ∈ kw := kw_of (i := 1418) (by decide +kernel) rfl
theorem t_1419 : Cond.methodLink "LayoutTokensLaw" (65 : Nat) (⟨"LayoutTokensModel", "back", "()I"⟩ : MethodName) ∈ kw := kw_of (i := 1419) (by decide +kernel) rfl
theorem t_1420 : Cond.instanceMethod (⟨"LayoutTokensModel", "back", "()I"⟩ : MethodName) ∈ kw := kw_of (i := 1420) (by decide +kernel) rfl
theorem t_1421 : Cond.selects "LayoutTokensModel" (⟨"LayoutTokensModel", "back", "()I"⟩ : MethodName) (⟨"LayoutTokensModel", "back", "()I"⟩ : MethodName) ∈ kw := kw_of (i := 1421) (by decide +kernel) rfl
theorem t_1422 : Cond.code (⟨"LayoutTokensModel", "back", "()I"⟩ : MethodName) prog_12_method_72_code (2 : Nat) (Option.some FieldType.int) ∈ kw := kw_of (i := 1422) (by decide +kernel) rfl
theorem t_1423 : Cond.methodLink "LayoutTokensLaw" (69 : Nat) (⟨"LayoutTokensModel", "told", "(I)I"⟩ : MethodName) ∈ kw := kw_of (i := 1423) (by decide +kernel) rfl
theorem t_1424 : Cond.instanceMethod (⟨"LayoutTokensModel", "told", "(I)I"⟩ : MethodName) ∈ kw := kw_of (i := 1424) (by decide +kernel) rfl
theorem t_1425 : Cond.selects "LayoutTokensModel" (⟨"LayoutTokensModel", "told", "(I)I"⟩ : MethodName) (⟨"LayoutTokensModel", "told", "(I)I"⟩ : MethodName) ∈ kw := kw_of (i := 1425) (by decide +kernel) rfl
theorem t_1426 : Cond.code (⟨"LayoutTokensModel", "told", "(I)I"⟩ : MethodName) prog_12_method_73_code (5 : Nat) (Option.some FieldType.int) ∈ kw := kw_of (i := 1426) (by decide +kernel) rfl
theorem t_1427 : Cond.methodLink "LayoutTokensLaw" (73 : Nat) (⟨"LayoutTokensModel", "clear", "()I"⟩ : MethodName) ∈ kw := kw_of (i := 1427) (by decide +kernel) rfl
theorem t_1428 : Cond.instanceMethod (⟨"LayoutTokensModel", "clear", "()I"⟩ : MethodName) ∈ kw := kw_of (i := 1428) (by decide +kernel) rfl
theorem t_1429 : Cond.selects "LayoutTokensModel" (⟨"LayoutTokensModel", "clear", "()I"⟩ : MethodName) (⟨"LayoutTokensModel", "clear", "()I"⟩ : MethodName) ∈ kw := kw_of (i := 1429) (by decide +kernel) rfl
theorem t_1430 : Cond.code (⟨"LayoutTokensModel", "clear", "()I"⟩ : MethodName) prog_12_method_74_code (2 : Nat) (Option.some FieldType.int) ∈ kw := kw_of (i := 1430) (by decide +kernel) rfl
theorem t_1431 : Cond.constantLong "LayoutTokensLaw" (13 : Nat) (4294967295 : Int64) ∈ kw := kw_of (i := 1431) (by decide +kernel) rfl
