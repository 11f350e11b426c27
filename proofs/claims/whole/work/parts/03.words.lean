theorem wm_1 : (Cond.initialized "PlaneCells") ∈ jx_W := jx_mem 1 (by decide +kernel) rfl
theorem wm_2 : (Cond.initialized "PlaneCells$Sentence") ∈ jx_W := jx_mem 2 (by decide +kernel) rfl
theorem wm_3 : (Cond.initialized "PlaneCells$Reader") ∈ jx_W := jx_mem 3 (by decide +kernel) rfl
theorem wm_4 : (Cond.initialized "PlaneCells$Plane") ∈ jx_W := jx_mem 4 (by decide +kernel) rfl
theorem wm_5 : (Cond.initialized "PlaneCells$CriticalNumbers") ∈ jx_W := jx_mem 5 (by decide +kernel) rfl
theorem wm_6 : (Cond.initialized "PlaneCells$Form") ∈ jx_W := jx_mem 6 (by decide +kernel) rfl
theorem wm_7 : (Cond.initialized "PlaneCellsModel") ∈ jx_W := jx_mem 7 (by decide +kernel) rfl
theorem wm_26 : (Cond.fieldLink "PlaneCells$Sentence" 9 "PlaneCells$Sentence" "numbers" "[I") ∈ jx_W := jx_mem 26 (by decide +kernel) rfl
theorem wm_27 : (Cond.fieldLink "PlaneCells$Sentence" 15 "PlaneCells$Sentence" "relations" "[C") ∈ jx_W := jx_mem 27 (by decide +kernel) rfl
theorem wm_28 : (Cond.fieldLink "PlaneCells$Sentence" 19 "PlaneCells$Sentence" "steps" "[I") ∈ jx_W := jx_mem 28 (by decide +kernel) rfl
theorem wm_29 : (Cond.fieldLinkNest "PlaneCells$Plane" 92 "PlaneCells$Sentence" "steps" "[I" "PlaneCells") ∈ jx_Z := jx_memZ 29 (by decide +kernel) rfl
theorem wm_30 : (Cond.fieldLink "PlaneCells$Sentence" 22 "PlaneCells$Sentence" "stepCount" "I") ∈ jx_W := jx_mem 30 (by decide +kernel) rfl
theorem wm_31 : (Cond.fieldLinkNest "PlaneCells$Plane" 89 "PlaneCells$Sentence" "stepCount" "I" "PlaneCells") ∈ jx_Z := jx_memZ 31 (by decide +kernel) rfl
theorem wm_32 : (Cond.fieldLink "PlaneCells$Sentence" 26 "PlaneCells$Sentence" "atoms" "I") ∈ jx_W := jx_mem 32 (by decide +kernel) rfl
theorem wm_33 : (Cond.fieldLinkNest "PlaneCells$Plane" 42 "PlaneCells$Sentence" "atoms" "I" "PlaneCells") ∈ jx_Z := jx_memZ 33 (by decide +kernel) rfl
theorem wm_34 : (Cond.fieldLinkNest "PlaneCells" 84 "PlaneCells$Sentence" "atoms" "I" "PlaneCells") ∈ jx_Z := jx_memZ 34 (by decide +kernel) rfl
theorem wm_35 : (Cond.fieldLinkNest "PlaneCells" 68 "PlaneCells$Sentence" "allX" "Z" "PlaneCells") ∈ jx_Z := jx_memZ 35 (by decide +kernel) rfl
theorem wm_36 : (Cond.fieldLinkNest "PlaneCells$Reader" 71 "PlaneCells$Sentence" "allX" "Z" "PlaneCells") ∈ jx_Z := jx_memZ 36 (by decide +kernel) rfl
theorem wm_37 : (Cond.fieldLinkNest "PlaneCells$Reader" 82 "PlaneCells$Sentence" "allY" "Z" "PlaneCells") ∈ jx_Z := jx_memZ 37 (by decide +kernel) rfl
theorem wm_38 : (Cond.fieldLinkNest "PlaneCells$Plane" 106 "PlaneCells$Sentence" "allY" "Z" "PlaneCells") ∈ jx_Z := jx_memZ 38 (by decide +kernel) rfl
theorem wm_62 : (Cond.fieldLink "PlaneCells$Reader" 22 "PlaneCells$Reader" "sentence" "LPlaneCells$Sentence;") ∈ jx_W := jx_mem 62 (by decide +kernel) rfl
theorem wm_63 : (Cond.fieldLink "PlaneCells$Reader" 9 "PlaneCells$Reader" "text" "[C") ∈ jx_W := jx_mem 63 (by decide +kernel) rfl
theorem wm_64 : (Cond.fieldLink "PlaneCells$Reader" 15 "PlaneCells$Reader" "waiting" "[I") ∈ jx_W := jx_mem 64 (by decide +kernel) rfl
theorem wm_65 : (Cond.fieldLink "PlaneCells$Reader" 19 "PlaneCells$Reader" "sum" "[I") ∈ jx_W := jx_mem 65 (by decide +kernel) rfl
theorem wm_66 : (Cond.fieldLink "PlaneCells$Reader" 26 "PlaneCells$Reader" "written" "I") ∈ jx_W := jx_mem 66 (by decide +kernel) rfl
theorem wm_67 : (Cond.fieldLink "PlaneCells$Reader" 30 "PlaneCells$Reader" "length" "I") ∈ jx_W := jx_mem 67 (by decide +kernel) rfl
theorem wm_68 : (Cond.fieldLinkNest "PlaneCells" 78 "PlaneCells$Reader" "at" "I" "PlaneCells") ∈ jx_Z := jx_memZ 68 (by decide +kernel) rfl
theorem wm_69 : (Cond.fieldLink "PlaneCells$Reader" 33 "PlaneCells$Reader" "at" "I") ∈ jx_W := jx_mem 69 (by decide +kernel) rfl
theorem wm_70 : (Cond.fieldLink "PlaneCells$Reader" 36 "PlaneCells$Reader" "waitingCount" "I") ∈ jx_W := jx_mem 70 (by decide +kernel) rfl
theorem wm_71 : (Cond.fieldLink "PlaneCells$Reader" 39 "PlaneCells$Reader" "open" "I") ∈ jx_W := jx_mem 71 (by decide +kernel) rfl
theorem wm_103 : (Cond.fieldLink "PlaneCells$CriticalNumbers" 9 "PlaneCells$CriticalNumbers" "top" "[I") ∈ jx_W := jx_mem 103 (by decide +kernel) rfl
theorem wm_104 : (Cond.fieldLink "PlaneCells$CriticalNumbers" 15 "PlaneCells$CriticalNumbers" "radicand" "[I") ∈ jx_W := jx_mem 104 (by decide +kernel) rfl
theorem wm_105 : (Cond.fieldLink "PlaneCells$CriticalNumbers" 18 "PlaneCells$CriticalNumbers" "bottom" "[I") ∈ jx_W := jx_mem 105 (by decide +kernel) rfl
theorem wm_106 : (Cond.fieldLink "PlaneCells$CriticalNumbers" 21 "PlaneCells$CriticalNumbers" "count" "I") ∈ jx_W := jx_mem 106 (by decide +kernel) rfl
theorem wm_107 : (Cond.fieldLinkNest "PlaneCells$Plane" 63 "PlaneCells$CriticalNumbers" "count" "I" "PlaneCells") ∈ jx_Z := jx_memZ 107 (by decide +kernel) rfl
theorem wm_123 : (Cond.fieldLink "PlaneCells$Form" 13 "PlaneCells$Form" "constant" "I") ∈ jx_W := jx_mem 123 (by decide +kernel) rfl
theorem wm_124 : (Cond.fieldLinkNest "PlaneCells$CriticalNumbers" 33 "PlaneCells$Form" "constant" "I" "PlaneCells") ∈ jx_Z := jx_memZ 124 (by decide +kernel) rfl
theorem wm_125 : (Cond.fieldLink "PlaneCells$Form" 19 "PlaneCells$Form" "linear" "I") ∈ jx_W := jx_mem 125 (by decide +kernel) rfl
theorem wm_126 : (Cond.fieldLinkNest "PlaneCells$CriticalNumbers" 30 "PlaneCells$Form" "linear" "I" "PlaneCells") ∈ jx_Z := jx_memZ 126 (by decide +kernel) rfl
theorem wm_127 : (Cond.fieldLink "PlaneCells$Form" 22 "PlaneCells$Form" "square" "I") ∈ jx_W := jx_mem 127 (by decide +kernel) rfl
theorem wm_128 : (Cond.fieldLinkNest "PlaneCells$CriticalNumbers" 25 "PlaneCells$Form" "square" "I" "PlaneCells") ∈ jx_Z := jx_memZ 128 (by decide +kernel) rfl
theorem wm_136 : (Cond.fieldLink "PlaneCells$Plane" 35 "PlaneCells$Plane" "sentence" "LPlaneCells$Sentence;") ∈ jx_W := jx_mem 136 (by decide +kernel) rfl
theorem wm_137 : (Cond.fieldLink "PlaneCells$Plane" 12 "PlaneCells$Plane" "critical" "LPlaneCells$CriticalNumbers;") ∈ jx_W := jx_mem 137 (by decide +kernel) rfl
theorem wm_138 : (Cond.fieldLinkNest "PlaneCells" 113 "PlaneCells$Plane" "critical" "LPlaneCells$CriticalNumbers;" "PlaneCells") ∈ jx_Z := jx_memZ 138 (by decide +kernel) rfl
theorem wm_139 : (Cond.fieldLink "PlaneCells$Plane" 21 "PlaneCells$Plane" "form" "LPlaneCells$Form;") ∈ jx_W := jx_mem 139 (by decide +kernel) rfl
theorem wm_140 : (Cond.fieldLink "PlaneCells$Plane" 25 "PlaneCells$Plane" "signOfA" "[I") ∈ jx_W := jx_mem 140 (by decide +kernel) rfl
theorem wm_141 : (Cond.fieldLink "PlaneCells$Plane" 29 "PlaneCells$Plane" "signOfB" "[I") ∈ jx_W := jx_mem 141 (by decide +kernel) rfl
theorem wm_142 : (Cond.fieldLink "PlaneCells$Plane" 32 "PlaneCells$Plane" "zeroCell" "[I") ∈ jx_W := jx_mem 142 (by decide +kernel) rfl
theorem wm_143 : (Cond.fieldLink "PlaneCells$Plane" 66 "PlaneCells$Plane" "cellCount" "I") ∈ jx_W := jx_mem 143 (by decide +kernel) rfl
theorem wm_144 : (Cond.fieldLinkNest "PlaneCells" 98 "PlaneCells$Plane" "cellCount" "I" "PlaneCells") ∈ jx_Z := jx_memZ 144 (by decide +kernel) rfl
theorem wm_160 : (Cond.fieldLink "PlaneCells" 12 "PlaneCells" "sentence" "LPlaneCells$Sentence;") ∈ jx_W := jx_mem 160 (by decide +kernel) rfl
theorem wm_161 : (Cond.fieldLink "PlaneCells" 21 "PlaneCells" "reader" "LPlaneCells$Reader;") ∈ jx_W := jx_mem 161 (by decide +kernel) rfl
theorem wm_162 : (Cond.fieldLink "PlaneCells" 28 "PlaneCells" "plane" "LPlaneCells$Plane;") ∈ jx_W := jx_mem 162 (by decide +kernel) rfl
theorem wm_163 : (Cond.fieldLink "PlaneCells" 32 "PlaneCells" "illPlace" "I") ∈ jx_W := jx_mem 163 (by decide +kernel) rfl
theorem wm_164 : (Cond.fieldLink "PlaneCells" 36 "PlaneCells" "columnCount" "I") ∈ jx_W := jx_mem 164 (by decide +kernel) rfl
theorem wm_165 : (Cond.fieldLink "PlaneCells" 39 "PlaneCells" "witnessColumn" "I") ∈ jx_W := jx_mem 165 (by decide +kernel) rfl
theorem wm_183 : (Cond.methodLink "PlaneCells" 42 ⟨"PlaneCells$Reader", "append", "(C)Z"⟩) ∈ jx_W := jx_mem 183 (by decide +kernel) rfl
theorem wm_184 : (Cond.instanceMethod ⟨"PlaneCells$Reader", "append", "(C)Z"⟩) ∈ jx_W := jx_mem 184 (by decide +kernel) rfl
theorem wm_185 : (Cond.selects "PlaneCells$Reader" ⟨"PlaneCells$Reader", "append", "(C)Z"⟩ ⟨"PlaneCells$Reader", "append", "(C)Z"⟩) ∈ jx_W := jx_mem 185 (by decide +kernel) rfl
set_option maxRecDepth 20000 in
theorem wm_186 : (Cond.code y_R_append b_R_append 2 (some .boolean)) ∈ jx_W := jx_mem 186 rfl rfl
theorem wm_191 : (Cond.methodLink "PlaneCells" 46 ⟨"PlaneCells", "readText", "()I"⟩) ∈ jx_W := jx_mem 191 (by decide +kernel) rfl
theorem wm_193 : (Cond.instanceMethod ⟨"PlaneCells", "readText", "()I"⟩) ∈ jx_W := jx_mem 193 (by decide +kernel) rfl
set_option maxRecDepth 20000 in
theorem wm_194 : (Cond.code y_P_readText b_P_readText 1 (some .int)) ∈ jx_W := jx_mem 194 rfl rfl
theorem wm_195 : (Cond.methodLink "PlaneCells" 72 ⟨"PlaneCells$Reader", "countOpenings", "()I"⟩) ∈ jx_W := jx_mem 195 (by decide +kernel) rfl
theorem wm_196 : (Cond.instanceMethod ⟨"PlaneCells$Reader", "countOpenings", "()I"⟩) ∈ jx_W := jx_mem 196 (by decide +kernel) rfl
theorem wm_197 : (Cond.selects "PlaneCells$Reader" ⟨"PlaneCells$Reader", "countOpenings", "()I"⟩ ⟨"PlaneCells$Reader", "countOpenings", "()I"⟩) ∈ jx_W := jx_mem 197 (by decide +kernel) rfl
set_option maxRecDepth 20000 in
theorem wm_198 : (Cond.code y_R_countOpenings b_R_countOpenings 3 (some .int)) ∈ jx_W := jx_mem 198 rfl rfl
theorem wm_199 : (Cond.methodLink "PlaneCells" 75 ⟨"PlaneCells$Reader", "readSentence", "()Z"⟩) ∈ jx_W := jx_mem 199 (by decide +kernel) rfl
theorem wm_200 : (Cond.instanceMethod ⟨"PlaneCells$Reader", "readSentence", "()Z"⟩) ∈ jx_W := jx_mem 200 (by decide +kernel) rfl
theorem wm_201 : (Cond.selects "PlaneCells$Reader" ⟨"PlaneCells$Reader", "readSentence", "()Z"⟩ ⟨"PlaneCells$Reader", "readSentence", "()Z"⟩) ∈ jx_W := jx_mem 201 (by decide +kernel) rfl
set_option maxRecDepth 20000 in
theorem wm_202 : (Cond.code y_R_readSentence b_R_readSentence 2 (some .boolean)) ∈ jx_W := jx_mem 202 rfl rfl
theorem wm_203 : (Cond.methodLink "PlaneCells$Reader" 42 ⟨"PlaneCells$Sentence", "clear", "()V"⟩) ∈ jx_W := jx_mem 203 (by decide +kernel) rfl
theorem wm_204 : (Cond.instanceMethod ⟨"PlaneCells$Sentence", "clear", "()V"⟩) ∈ jx_W := jx_mem 204 (by decide +kernel) rfl
theorem wm_205 : (Cond.selects "PlaneCells$Sentence" ⟨"PlaneCells$Sentence", "clear", "()V"⟩ ⟨"PlaneCells$Sentence", "clear", "()V"⟩) ∈ jx_W := jx_mem 205 (by decide +kernel) rfl
set_option maxRecDepth 20000 in
theorem wm_206 : (Cond.code y_S_clear b_S_clear 1 none) ∈ jx_W := jx_mem 206 rfl rfl
theorem wm_207 : (Cond.methodLink "PlaneCells$Reader" 47 ⟨"PlaneCells$Reader", "takeHead", "()Z"⟩) ∈ jx_W := jx_mem 207 (by decide +kernel) rfl
theorem wm_209 : (Cond.instanceMethod ⟨"PlaneCells$Reader", "takeHead", "()Z"⟩) ∈ jx_W := jx_mem 209 (by decide +kernel) rfl
set_option maxRecDepth 20000 in
theorem wm_210 : (Cond.code y_R_takeHead b_R_takeHead 1 (some .boolean)) ∈ jx_W := jx_mem 210 rfl rfl
theorem wm_211 : (Cond.methodLink "PlaneCells$Reader" 67 ⟨"PlaneCells$Reader", "peek", "()C"⟩) ∈ jx_W := jx_mem 211 (by decide +kernel) rfl
theorem wm_213 : (Cond.instanceMethod ⟨"PlaneCells$Reader", "peek", "()C"⟩) ∈ jx_W := jx_mem 213 (by decide +kernel) rfl
set_option maxRecDepth 20000 in
theorem wm_214 : (Cond.code y_R_peek b_R_peek 1 (some .char)) ∈ jx_W := jx_mem 214 rfl rfl
theorem wm_215 : (Cond.methodLink "PlaneCells$Reader" 75 ⟨"PlaneCells$Reader", "takeQuantifier", "()Z"⟩) ∈ jx_W := jx_mem 215 (by decide +kernel) rfl
theorem wm_217 : (Cond.instanceMethod ⟨"PlaneCells$Reader", "takeQuantifier", "()Z"⟩) ∈ jx_W := jx_mem 217 (by decide +kernel) rfl
set_option maxRecDepth 20000 in
theorem wm_218 : (Cond.code y_R_takeQuantifier b_R_takeQuantifier 1 (some .boolean)) ∈ jx_W := jx_mem 218 rfl rfl
theorem wm_219 : (Cond.methodLink "PlaneCells$Reader" 78 ⟨"PlaneCells$Reader", "take", "(C)Z"⟩) ∈ jx_W := jx_mem 219 (by decide +kernel) rfl
theorem wm_221 : (Cond.instanceMethod ⟨"PlaneCells$Reader", "take", "(C)Z"⟩) ∈ jx_W := jx_mem 221 (by decide +kernel) rfl
set_option maxRecDepth 20000 in
theorem wm_222 : (Cond.code y_R_take b_R_take 2 (some .boolean)) ∈ jx_W := jx_mem 222 rfl rfl
theorem wm_223 : (Cond.methodLink "PlaneCells$Reader" 51 ⟨"PlaneCells$Reader", "takeOpenings", "()V"⟩) ∈ jx_W := jx_mem 223 (by decide +kernel) rfl
theorem wm_225 : (Cond.instanceMethod ⟨"PlaneCells$Reader", "takeOpenings", "()V"⟩) ∈ jx_W := jx_mem 225 (by decide +kernel) rfl
set_option maxRecDepth 20000 in
theorem wm_226 : (Cond.code y_R_takeOpenings b_R_takeOpenings 1 none) ∈ jx_W := jx_mem 226 rfl rfl
theorem wm_227 : (Cond.methodLink "PlaneCells$Reader" 85 ⟨"PlaneCells$Reader", "hold", "(I)V"⟩) ∈ jx_W := jx_mem 227 (by decide +kernel) rfl
theorem wm_229 : (Cond.instanceMethod ⟨"PlaneCells$Reader", "hold", "(I)V"⟩) ∈ jx_W := jx_mem 229 (by decide +kernel) rfl
set_option maxRecDepth 20000 in
theorem wm_230 : (Cond.code y_R_hold b_R_hold 2 none) ∈ jx_W := jx_mem 230 rfl rfl
theorem wm_231 : (Cond.methodLink "PlaneCells$Reader" 54 ⟨"PlaneCells$Reader", "takeAtom", "()Z"⟩) ∈ jx_W := jx_mem 231 (by decide +kernel) rfl
theorem wm_233 : (Cond.instanceMethod ⟨"PlaneCells$Reader", "takeAtom", "()Z"⟩) ∈ jx_W := jx_mem 233 (by decide +kernel) rfl
set_option maxRecDepth 20000 in
theorem wm_234 : (Cond.code y_R_takeAtom b_R_takeAtom 3 (some .boolean)) ∈ jx_W := jx_mem 234 rfl rfl
theorem wm_235 : (Cond.methodLink "PlaneCells$Reader" 91 ⟨"PlaneCells$Reader", "takeSum", "(I)Z"⟩) ∈ jx_W := jx_mem 235 (by decide +kernel) rfl
theorem wm_237 : (Cond.instanceMethod ⟨"PlaneCells$Reader", "takeSum", "(I)Z"⟩) ∈ jx_W := jx_mem 237 (by decide +kernel) rfl
set_option maxRecDepth 20000 in
theorem wm_238 : (Cond.code y_R_takeSum b_R_takeSum 4 (some .boolean)) ∈ jx_W := jx_mem 238 rfl rfl
theorem wm_239 : (Cond.methodLink "PlaneCells$Reader" 99 ⟨"PlaneCells$Reader", "takeTerm", "(I)Z"⟩) ∈ jx_W := jx_mem 239 (by decide +kernel) rfl
theorem wm_241 : (Cond.instanceMethod ⟨"PlaneCells$Reader", "takeTerm", "(I)Z"⟩) ∈ jx_W := jx_mem 241 (by decide +kernel) rfl
set_option maxRecDepth 20000 in
theorem wm_242 : (Cond.code y_R_takeTerm b_R_takeTerm 8 (some .boolean)) ∈ jx_W := jx_mem 242 rfl rfl
theorem wm_243 : (Cond.methodLink "PlaneCells$Reader" 102 ⟨"PlaneCells$Reader", "numberOfLetter", "(C)I"⟩) ∈ jx_W := jx_mem 243 (by decide +kernel) rfl
theorem wm_244 : (Cond.static ⟨"PlaneCells$Reader", "numberOfLetter", "(C)I"⟩) ∈ jx_W := jx_mem 244 (by decide +kernel) rfl
set_option maxRecDepth 20000 in
theorem wm_245 : (Cond.code y_R_numberOfLetter b_R_numberOfLetter 1 (some .int)) ∈ jx_W := jx_mem 245 rfl rfl
theorem wm_246 : (Cond.methodLink "PlaneCells$Reader" 95 ⟨"PlaneCells$Sentence", "addAtom", "([IC)V"⟩) ∈ jx_W := jx_mem 246 (by decide +kernel) rfl
theorem wm_247 : (Cond.instanceMethod ⟨"PlaneCells$Sentence", "addAtom", "([IC)V"⟩) ∈ jx_W := jx_mem 247 (by decide +kernel) rfl
theorem wm_248 : (Cond.selects "PlaneCells$Sentence" ⟨"PlaneCells$Sentence", "addAtom", "([IC)V"⟩ ⟨"PlaneCells$Sentence", "addAtom", "([IC)V"⟩) ∈ jx_W := jx_mem 248 (by decide +kernel) rfl
set_option maxRecDepth 20000 in
theorem wm_249 : (Cond.code y_S_addAtom b_S_addAtom 3 none) ∈ jx_W := jx_mem 249 rfl rfl
theorem wm_253 : (Cond.methodLink "PlaneCells$Sentence" 35 ⟨"PlaneCells$Sentence", "addStep", "(I)V"⟩) ∈ jx_W := jx_mem 253 (by decide +kernel) rfl
theorem wm_254 : (Cond.instanceMethod ⟨"PlaneCells$Sentence", "addStep", "(I)V"⟩) ∈ jx_W := jx_mem 254 (by decide +kernel) rfl
theorem wm_255 : (Cond.selects "PlaneCells$Sentence" ⟨"PlaneCells$Sentence", "addStep", "(I)V"⟩ ⟨"PlaneCells$Sentence", "addStep", "(I)V"⟩) ∈ jx_W := jx_mem 255 (by decide +kernel) rfl
set_option maxRecDepth 20000 in
theorem wm_256 : (Cond.code y_S_addStep b_S_addStep 2 none) ∈ jx_W := jx_mem 256 rfl rfl
theorem wm_257 : (Cond.methodLink "PlaneCells$Reader" 57 ⟨"PlaneCells$Reader", "takeClosings", "()V"⟩) ∈ jx_W := jx_mem 257 (by decide +kernel) rfl
theorem wm_259 : (Cond.instanceMethod ⟨"PlaneCells$Reader", "takeClosings", "()V"⟩) ∈ jx_W := jx_mem 259 (by decide +kernel) rfl
set_option maxRecDepth 20000 in
theorem wm_260 : (Cond.code y_R_takeClosings b_R_takeClosings 1 none) ∈ jx_W := jx_mem 260 rfl rfl
theorem wm_261 : (Cond.methodLink "PlaneCells$Reader" 63 ⟨"PlaneCells$Reader", "release", "(I)V"⟩) ∈ jx_W := jx_mem 261 (by decide +kernel) rfl
theorem wm_263 : (Cond.instanceMethod ⟨"PlaneCells$Reader", "release", "(I)V"⟩) ∈ jx_W := jx_mem 263 (by decide +kernel) rfl
set_option maxRecDepth 20000 in
theorem wm_264 : (Cond.code y_R_release b_R_release 2 none) ∈ jx_W := jx_mem 264 rfl rfl
theorem wm_265 : (Cond.methodLink "PlaneCells$Reader" 88 ⟨"PlaneCells$Sentence", "addStep", "(I)V"⟩) ∈ jx_W := jx_mem 265 (by decide +kernel) rfl
theorem wm_266 : (Cond.methodLink "PlaneCells$Reader" 60 ⟨"PlaneCells$Reader", "takeJoint", "()Z"⟩) ∈ jx_W := jx_mem 266 (by decide +kernel) rfl
theorem wm_268 : (Cond.instanceMethod ⟨"PlaneCells$Reader", "takeJoint", "()Z"⟩) ∈ jx_W := jx_mem 268 (by decide +kernel) rfl
set_option maxRecDepth 20000 in
theorem wm_269 : (Cond.code y_R_takeJoint b_R_takeJoint 2 (some .boolean)) ∈ jx_W := jx_mem 269 rfl rfl
theorem wm_270 : (Cond.methodLink "PlaneCells" 81 ⟨"PlaneCells$Sentence", "fits", "()Z"⟩) ∈ jx_W := jx_mem 270 (by decide +kernel) rfl
theorem wm_271 : (Cond.instanceMethod ⟨"PlaneCells$Sentence", "fits", "()Z"⟩) ∈ jx_W := jx_mem 271 (by decide +kernel) rfl
theorem wm_272 : (Cond.selects "PlaneCells$Sentence" ⟨"PlaneCells$Sentence", "fits", "()Z"⟩ ⟨"PlaneCells$Sentence", "fits", "()Z"⟩) ∈ jx_W := jx_mem 272 (by decide +kernel) rfl
set_option maxRecDepth 20000 in
theorem wm_273 : (Cond.code y_S_fits b_S_fits 2 (some .boolean)) ∈ jx_W := jx_mem 273 rfl rfl
theorem wm_274 : (Cond.methodLink "PlaneCells" 50 ⟨"PlaneCells$Reader", "clear", "()V"⟩) ∈ jx_W := jx_mem 274 (by decide +kernel) rfl
theorem wm_275 : (Cond.instanceMethod ⟨"PlaneCells$Reader", "clear", "()V"⟩) ∈ jx_W := jx_mem 275 (by decide +kernel) rfl
theorem wm_276 : (Cond.selects "PlaneCells$Reader" ⟨"PlaneCells$Reader", "clear", "()V"⟩ ⟨"PlaneCells$Reader", "clear", "()V"⟩) ∈ jx_W := jx_mem 276 (by decide +kernel) rfl
set_option maxRecDepth 20000 in
theorem wm_277 : (Cond.code y_R_clear b_R_clear 1 none) ∈ jx_W := jx_mem 277 rfl rfl
theorem wm_278 : (Cond.methodLink "PlaneCells" 53 ⟨"PlaneCells$Sentence", "clear", "()V"⟩) ∈ jx_W := jx_mem 278 (by decide +kernel) rfl
theorem wm_279 : (Cond.methodLink "PlaneCells" 54 ⟨"PlaneCells$Plane", "cut", "()V"⟩) ∈ jx_W := jx_mem 279 (by decide +kernel) rfl
theorem wm_280 : (Cond.instanceMethod ⟨"PlaneCells$Plane", "cut", "()V"⟩) ∈ jx_W := jx_mem 280 (by decide +kernel) rfl
theorem wm_281 : (Cond.selects "PlaneCells$Plane" ⟨"PlaneCells$Plane", "cut", "()V"⟩ ⟨"PlaneCells$Plane", "cut", "()V"⟩) ∈ jx_W := jx_mem 281 (by decide +kernel) rfl
set_option maxRecDepth 20000 in
theorem wm_282 : (Cond.code y_Q_cut b_Q_cut 3 none) ∈ jx_W := jx_mem 282 rfl rfl
theorem wm_283 : (Cond.methodLink "PlaneCells$Plane" 39 ⟨"PlaneCells$CriticalNumbers", "clear", "()V"⟩) ∈ jx_W := jx_mem 283 (by decide +kernel) rfl
theorem wm_284 : (Cond.instanceMethod ⟨"PlaneCells$CriticalNumbers", "clear", "()V"⟩) ∈ jx_W := jx_mem 284 (by decide +kernel) rfl
theorem wm_285 : (Cond.selects "PlaneCells$CriticalNumbers" ⟨"PlaneCells$CriticalNumbers", "clear", "()V"⟩ ⟨"PlaneCells$CriticalNumbers", "clear", "()V"⟩) ∈ jx_W := jx_mem 285 (by decide +kernel) rfl
set_option maxRecDepth 20000 in
theorem wm_286 : (Cond.code y_C_clear b_C_clear 1 none) ∈ jx_W := jx_mem 286 rfl rfl
theorem wm_287 : (Cond.methodLink "PlaneCells$Plane" 48 ⟨"PlaneCells$Form", "setA", "(LPlaneCells$Sentence;I)V"⟩) ∈ jx_W := jx_mem 287 (by decide +kernel) rfl
theorem wm_288 : (Cond.instanceMethod ⟨"PlaneCells$Form", "setA", "(LPlaneCells$Sentence;I)V"⟩) ∈ jx_W := jx_mem 288 (by decide +kernel) rfl
theorem wm_289 : (Cond.selects "PlaneCells$Form" ⟨"PlaneCells$Form", "setA", "(LPlaneCells$Sentence;I)V"⟩ ⟨"PlaneCells$Form", "setA", "(LPlaneCells$Sentence;I)V"⟩) ∈ jx_W := jx_mem 289 (by decide +kernel) rfl
set_option maxRecDepth 20000 in
theorem wm_290 : (Cond.code y_F_setA b_F_setA 3 none) ∈ jx_W := jx_mem 290 rfl rfl
theorem wm_291 : (Cond.methodLink "PlaneCells$Form" 7 ⟨"PlaneCells$Sentence", "number", "(II)I"⟩) ∈ jx_W := jx_mem 291 (by decide +kernel) rfl
theorem wm_292 : (Cond.instanceMethod ⟨"PlaneCells$Sentence", "number", "(II)I"⟩) ∈ jx_W := jx_mem 292 (by decide +kernel) rfl
theorem wm_293 : (Cond.selects "PlaneCells$Sentence" ⟨"PlaneCells$Sentence", "number", "(II)I"⟩ ⟨"PlaneCells$Sentence", "number", "(II)I"⟩) ∈ jx_W := jx_mem 293 (by decide +kernel) rfl
set_option maxRecDepth 20000 in
theorem wm_294 : (Cond.code y_S_number b_S_number 3 (some .int)) ∈ jx_W := jx_mem 294 rfl rfl
theorem wm_295 : (Cond.methodLink "PlaneCells$Plane" 52 ⟨"PlaneCells$CriticalNumbers", "addZerosOf", "(LPlaneCells$Form;)V"⟩) ∈ jx_W := jx_mem 295 (by decide +kernel) rfl
theorem wm_296 : (Cond.instanceMethod ⟨"PlaneCells$CriticalNumbers", "addZerosOf", "(LPlaneCells$Form;)V"⟩) ∈ jx_W := jx_mem 296 (by decide +kernel) rfl
theorem wm_297 : (Cond.selects "PlaneCells$CriticalNumbers" ⟨"PlaneCells$CriticalNumbers", "addZerosOf", "(LPlaneCells$Form;)V"⟩ ⟨"PlaneCells$CriticalNumbers", "addZerosOf", "(LPlaneCells$Form;)V"⟩) ∈ jx_W := jx_mem 297 (by decide +kernel) rfl
set_option maxRecDepth 20000 in
theorem wm_298 : (Cond.code y_C_addZerosOf b_C_addZerosOf 4 none) ∈ jx_W := jx_mem 298 rfl rfl
theorem wm_299 : (Cond.methodLink "PlaneCells$CriticalNumbers" 36 Lib.Math.abs.name) ∈ jx_W := jx_mem 299 (by decide +kernel) rfl
theorem wm_302 : (Cond.methodLink "PlaneCells$CriticalNumbers" 42 ⟨"PlaneCells$CriticalNumbers", "add", "(III)V"⟩) ∈ jx_W := jx_mem 302 (by decide +kernel) rfl
theorem wm_304 : (Cond.instanceMethod ⟨"PlaneCells$CriticalNumbers", "add", "(III)V"⟩) ∈ jx_W := jx_mem 304 (by decide +kernel) rfl
set_option maxRecDepth 20000 in
theorem wm_305 : (Cond.code y_C_add b_C_add 6 none) ∈ jx_W := jx_mem 305 rfl rfl
theorem wm_306 : (Cond.methodLink "PlaneCells$CriticalNumbers" 46 ⟨"PlaneCells$CriticalNumbers", "signOfDifference", "(IIII)I"⟩) ∈ jx_W := jx_mem 306 (by decide +kernel) rfl
theorem wm_308 : (Cond.instanceMethod ⟨"PlaneCells$CriticalNumbers", "signOfDifference", "(IIII)I"⟩) ∈ jx_W := jx_mem 308 (by decide +kernel) rfl
set_option maxRecDepth 20000 in
theorem wm_309 : (Cond.code y_C_signOfDifference b_C_signOfDifference 11 (some .int)) ∈ jx_W := jx_mem 309 rfl rfl
theorem wm_310 : (Cond.methodLink "PlaneCells$CriticalNumbers" 54 ⟨"PlaneCells$CriticalNumbers", "signWithRoots", "(JJJ)I"⟩) ∈ jx_W := jx_mem 310 (by decide +kernel) rfl
theorem wm_311 : (Cond.static ⟨"PlaneCells$CriticalNumbers", "signWithRoots", "(JJJ)I"⟩) ∈ jx_W := jx_mem 311 (by decide +kernel) rfl
set_option maxRecDepth 20000 in
theorem wm_312 : (Cond.code y_C_signWithRoots b_C_signWithRoots 10 (some .int)) ∈ jx_W := jx_mem 312 rfl rfl
theorem wm_313 : (Cond.methodLink "PlaneCells$CriticalNumbers" 58 ⟨"java/lang/Long", "signum", "(J)I"⟩) ∈ jx_W := jx_mem 313 (by decide +kernel) rfl
theorem wm_316 : (Cond.methodLink "PlaneCells$CriticalNumbers" 64 Lib.MathLoose.abs_long.x) ∈ jx_W := jx_mem 316 (by decide +kernel) rfl
theorem wm_319 : (Cond.constantLong "PlaneCells$CriticalNumbers" 67 4) ∈ jx_W := jx_mem 319 (by decide +kernel) rfl
theorem wm_320 : (Cond.methodLink "PlaneCells$CriticalNumbers" 50 ⟨"PlaneCells$CriticalNumbers", "insert", "(IIII)V"⟩) ∈ jx_W := jx_mem 320 (by decide +kernel) rfl
theorem wm_322 : (Cond.instanceMethod ⟨"PlaneCells$CriticalNumbers", "insert", "(IIII)V"⟩) ∈ jx_W := jx_mem 322 (by decide +kernel) rfl
set_option maxRecDepth 20000 in
theorem wm_323 : (Cond.code y_C_insert b_C_insert 6 none) ∈ jx_W := jx_mem 323 rfl rfl
theorem wm_324 : (Cond.methodLink "PlaneCells$Plane" 56 ⟨"PlaneCells$Form", "setB", "(LPlaneCells$Sentence;I)V"⟩) ∈ jx_W := jx_mem 324 (by decide +kernel) rfl
theorem wm_325 : (Cond.instanceMethod ⟨"PlaneCells$Form", "setB", "(LPlaneCells$Sentence;I)V"⟩) ∈ jx_W := jx_mem 325 (by decide +kernel) rfl
theorem wm_326 : (Cond.selects "PlaneCells$Form" ⟨"PlaneCells$Form", "setB", "(LPlaneCells$Sentence;I)V"⟩ ⟨"PlaneCells$Form", "setB", "(LPlaneCells$Sentence;I)V"⟩) ∈ jx_W := jx_mem 326 (by decide +kernel) rfl
set_option maxRecDepth 20000 in
theorem wm_327 : (Cond.code y_F_setB b_F_setB 3 none) ∈ jx_W := jx_mem 327 rfl rfl
theorem wm_328 : (Cond.methodLink "PlaneCells$Plane" 59 ⟨"PlaneCells$Form", "setPair", "(LPlaneCells$Sentence;II)V"⟩) ∈ jx_W := jx_mem 328 (by decide +kernel) rfl
theorem wm_329 : (Cond.instanceMethod ⟨"PlaneCells$Form", "setPair", "(LPlaneCells$Sentence;II)V"⟩) ∈ jx_W := jx_mem 329 (by decide +kernel) rfl
theorem wm_330 : (Cond.selects "PlaneCells$Form" ⟨"PlaneCells$Form", "setPair", "(LPlaneCells$Sentence;II)V"⟩ ⟨"PlaneCells$Form", "setPair", "(LPlaneCells$Sentence;II)V"⟩) ∈ jx_W := jx_mem 330 (by decide +kernel) rfl
set_option maxRecDepth 20000 in
theorem wm_331 : (Cond.code y_F_setPair b_F_setPair 4 none) ∈ jx_W := jx_mem 331 rfl rfl
theorem wm_332 : (Cond.methodLink "PlaneCells" 57 ⟨"PlaneCells$Plane", "countColumns", "()I"⟩) ∈ jx_W := jx_mem 332 (by decide +kernel) rfl
theorem wm_333 : (Cond.instanceMethod ⟨"PlaneCells$Plane", "countColumns", "()I"⟩) ∈ jx_W := jx_mem 333 (by decide +kernel) rfl
theorem wm_334 : (Cond.selects "PlaneCells$Plane" ⟨"PlaneCells$Plane", "countColumns", "()I"⟩ ⟨"PlaneCells$Plane", "countColumns", "()I"⟩) ∈ jx_W := jx_mem 334 (by decide +kernel) rfl
set_option maxRecDepth 20000 in
theorem wm_335 : (Cond.code y_Q_countColumns b_Q_countColumns 1 (some .int)) ∈ jx_W := jx_mem 335 rfl rfl
theorem wm_336 : (Cond.methodLink "PlaneCells" 60 ⟨"PlaneCells$Plane", "enter", "(I)V"⟩) ∈ jx_W := jx_mem 336 (by decide +kernel) rfl
theorem wm_337 : (Cond.instanceMethod ⟨"PlaneCells$Plane", "enter", "(I)V"⟩) ∈ jx_W := jx_mem 337 (by decide +kernel) rfl
theorem wm_338 : (Cond.selects "PlaneCells$Plane" ⟨"PlaneCells$Plane", "enter", "(I)V"⟩ ⟨"PlaneCells$Plane", "enter", "(I)V"⟩) ∈ jx_W := jx_mem 338 (by decide +kernel) rfl
set_option maxRecDepth 20000 in
theorem wm_339 : (Cond.code y_Q_enter b_Q_enter 3 none) ∈ jx_W := jx_mem 339 rfl rfl
theorem wm_340 : (Cond.methodLink "PlaneCells$Plane" 69 ⟨"PlaneCells$CriticalNumbers", "signInColumn", "(ILPlaneCells$Form;)I"⟩) ∈ jx_W := jx_mem 340 (by decide +kernel) rfl
theorem wm_341 : (Cond.instanceMethod ⟨"PlaneCells$CriticalNumbers", "signInColumn", "(ILPlaneCells$Form;)I"⟩) ∈ jx_W := jx_mem 341 (by decide +kernel) rfl
theorem wm_342 : (Cond.selects "PlaneCells$CriticalNumbers" ⟨"PlaneCells$CriticalNumbers", "signInColumn", "(ILPlaneCells$Form;)I"⟩ ⟨"PlaneCells$CriticalNumbers", "signInColumn", "(ILPlaneCells$Form;)I"⟩) ∈ jx_W := jx_mem 342 (by decide +kernel) rfl
set_option maxRecDepth 20000 in
theorem wm_343 : (Cond.code y_C_signInColumn b_C_signInColumn 6 (some .int)) ∈ jx_W := jx_mem 343 rfl rfl
theorem wm_344 : (Cond.methodLink "PlaneCells$CriticalNumbers" 69 ⟨"PlaneCells$CriticalNumbers", "signBelowAll", "(LPlaneCells$Form;)I"⟩) ∈ jx_W := jx_mem 344 (by decide +kernel) rfl
theorem wm_345 : (Cond.static ⟨"PlaneCells$CriticalNumbers", "signBelowAll", "(LPlaneCells$Form;)I"⟩) ∈ jx_W := jx_mem 345 (by decide +kernel) rfl
set_option maxRecDepth 20000 in
theorem wm_346 : (Cond.code y_C_signBelowAll b_C_signBelowAll 1 (some .int)) ∈ jx_W := jx_mem 346 rfl rfl
theorem wm_347 : (Cond.methodLink "PlaneCells$CriticalNumbers" 77 ⟨"java/lang/Integer", "signum", "(I)I"⟩) ∈ jx_W := jx_mem 347 (by decide +kernel) rfl
theorem wm_350 : (Cond.methodLink "PlaneCells$CriticalNumbers" 73 ⟨"PlaneCells$CriticalNumbers", "signAt", "(IJJJ)I"⟩) ∈ jx_W := jx_mem 350 (by decide +kernel) rfl
theorem wm_351 : (Cond.instanceMethod ⟨"PlaneCells$CriticalNumbers", "signAt", "(IJJJ)I"⟩) ∈ jx_W := jx_mem 351 (by decide +kernel) rfl
theorem wm_352 : (Cond.selects "PlaneCells$CriticalNumbers" ⟨"PlaneCells$CriticalNumbers", "signAt", "(IJJJ)I"⟩ ⟨"PlaneCells$CriticalNumbers", "signAt", "(IJJJ)I"⟩) ∈ jx_W := jx_mem 352 (by decide +kernel) rfl
set_option maxRecDepth 20000 in
theorem wm_353 : (Cond.code y_C_signAt b_C_signAt 18 (some .int)) ∈ jx_W := jx_mem 353 rfl rfl
theorem wm_354 : (Cond.constantLong "PlaneCells$CriticalNumbers" 81 2) ∈ jx_W := jx_mem 354 (by decide +kernel) rfl
theorem wm_355 : (Cond.methodLink "PlaneCells$Plane" 73 ⟨"PlaneCells$Plane", "addZero", "(II)V"⟩) ∈ jx_W := jx_mem 355 (by decide +kernel) rfl
theorem wm_357 : (Cond.instanceMethod ⟨"PlaneCells$Plane", "addZero", "(II)V"⟩) ∈ jx_W := jx_mem 357 (by decide +kernel) rfl
set_option maxRecDepth 20000 in
theorem wm_358 : (Cond.code y_Q_addZero b_Q_addZero 6 none) ∈ jx_W := jx_mem 358 rfl rfl
theorem wm_359 : (Cond.methodLink "PlaneCells$Plane" 77 Lib.Math.max.name) ∈ jx_W := jx_mem 359 (by decide +kernel) rfl
theorem wm_362 : (Cond.methodLink "PlaneCells" 64 ⟨"PlaneCells$Plane", "columnHolds", "()Z"⟩) ∈ jx_W := jx_mem 362 (by decide +kernel) rfl
theorem wm_363 : (Cond.instanceMethod ⟨"PlaneCells$Plane", "columnHolds", "()Z"⟩) ∈ jx_W := jx_mem 363 (by decide +kernel) rfl
theorem wm_364 : (Cond.selects "PlaneCells$Plane" ⟨"PlaneCells$Plane", "columnHolds", "()Z"⟩ ⟨"PlaneCells$Plane", "columnHolds", "()Z"⟩) ∈ jx_W := jx_mem 364 (by decide +kernel) rfl
set_option maxRecDepth 20000 in
theorem wm_365 : (Cond.code y_Q_columnHolds b_Q_columnHolds 2 (some .boolean)) ∈ jx_W := jx_mem 365 rfl rfl
theorem wm_366 : (Cond.methodLink "PlaneCells$Plane" 102 ⟨"PlaneCells$Plane", "trueIn", "(I)Z"⟩) ∈ jx_W := jx_mem 366 (by decide +kernel) rfl
theorem wm_367 : (Cond.instanceMethod ⟨"PlaneCells$Plane", "trueIn", "(I)Z"⟩) ∈ jx_W := jx_mem 367 (by decide +kernel) rfl
theorem wm_368 : (Cond.selects "PlaneCells$Plane" ⟨"PlaneCells$Plane", "trueIn", "(I)Z"⟩ ⟨"PlaneCells$Plane", "trueIn", "(I)Z"⟩) ∈ jx_W := jx_mem 368 (by decide +kernel) rfl
set_option maxRecDepth 20000 in
theorem wm_369 : (Cond.code y_Q_trueIn b_Q_trueIn 6 (some .boolean)) ∈ jx_W := jx_mem 369 rfl rfl
theorem wm_370 : (Cond.methodLink "PlaneCells$Plane" 95 ⟨"PlaneCells$Plane", "signIn", "(II)I"⟩) ∈ jx_W := jx_mem 370 (by decide +kernel) rfl
theorem wm_371 : (Cond.instanceMethod ⟨"PlaneCells$Plane", "signIn", "(II)I"⟩) ∈ jx_W := jx_mem 371 (by decide +kernel) rfl
theorem wm_372 : (Cond.selects "PlaneCells$Plane" ⟨"PlaneCells$Plane", "signIn", "(II)I"⟩ ⟨"PlaneCells$Plane", "signIn", "(II)I"⟩) ∈ jx_W := jx_mem 372 (by decide +kernel) rfl
set_option maxRecDepth 20000 in
theorem wm_373 : (Cond.code y_Q_signIn b_Q_signIn 3 (some .int)) ∈ jx_W := jx_mem 373 rfl rfl
theorem wm_374 : (Cond.methodLink "PlaneCells$Plane" 83 ⟨"java/lang/Integer", "signum", "(I)I"⟩) ∈ jx_W := jx_mem 374 (by decide +kernel) rfl
theorem wm_375 : (Cond.methodLink "PlaneCells$Plane" 98 ⟨"PlaneCells$Sentence", "atomIsTrue", "(II)Z"⟩) ∈ jx_W := jx_mem 375 (by decide +kernel) rfl
theorem wm_376 : (Cond.instanceMethod ⟨"PlaneCells$Sentence", "atomIsTrue", "(II)Z"⟩) ∈ jx_W := jx_mem 376 (by decide +kernel) rfl
theorem wm_377 : (Cond.selects "PlaneCells$Sentence" ⟨"PlaneCells$Sentence", "atomIsTrue", "(II)Z"⟩ ⟨"PlaneCells$Sentence", "atomIsTrue", "(II)Z"⟩) ∈ jx_W := jx_mem 377 (by decide +kernel) rfl
set_option maxRecDepth 20000 in
theorem wm_378 : (Cond.code y_S_atomIsTrue b_S_atomIsTrue 3 (some .boolean)) ∈ jx_W := jx_mem 378 rfl rfl
theorem wm_391 : (Cond.methodLink "PlaneCells" 87 ⟨"PlaneCells", "hasPolynomial", "(I)Z"⟩) ∈ jx_W := jx_mem 391 (by decide +kernel) rfl
theorem wm_393 : (Cond.instanceMethod ⟨"PlaneCells", "hasPolynomial", "(I)Z"⟩) ∈ jx_W := jx_mem 393 (by decide +kernel) rfl
set_option maxRecDepth 20000 in
theorem wm_394 : (Cond.code y_P_hasPolynomial b_P_hasPolynomial 2 (some .boolean)) ∈ jx_W := jx_mem 394 rfl rfl
theorem wm_395 : (Cond.methodLink "PlaneCells" 91 ⟨"PlaneCells$Sentence", "number", "(II)I"⟩) ∈ jx_W := jx_mem 395 (by decide +kernel) rfl
theorem wm_404 : (Cond.methodLink "PlaneCells" 95 ⟨"PlaneCells", "enterColumn", "(I)Z"⟩) ∈ jx_W := jx_mem 404 (by decide +kernel) rfl
theorem wm_406 : (Cond.instanceMethod ⟨"PlaneCells", "enterColumn", "(I)Z"⟩) ∈ jx_W := jx_mem 406 (by decide +kernel) rfl
set_option maxRecDepth 20000 in
theorem wm_407 : (Cond.code y_P_enterColumn b_P_enterColumn 2 (some .boolean)) ∈ jx_W := jx_mem 407 rfl rfl
theorem wm_408 : (Cond.methodLink "PlaneCells" 110 ⟨"PlaneCells", "hasColumn", "(I)Z"⟩) ∈ jx_W := jx_mem 408 (by decide +kernel) rfl
theorem wm_410 : (Cond.instanceMethod ⟨"PlaneCells", "hasColumn", "(I)Z"⟩) ∈ jx_W := jx_mem 410 (by decide +kernel) rfl
set_option maxRecDepth 20000 in
theorem wm_411 : (Cond.code y_P_hasColumn b_P_hasColumn 2 (some .boolean)) ∈ jx_W := jx_mem 411 rfl rfl
theorem wm_416 : (Cond.methodLink "PlaneCells" 101 ⟨"PlaneCells", "hasCell", "(I)Z"⟩) ∈ jx_W := jx_mem 416 (by decide +kernel) rfl
theorem wm_418 : (Cond.instanceMethod ⟨"PlaneCells", "hasCell", "(I)Z"⟩) ∈ jx_W := jx_mem 418 (by decide +kernel) rfl
set_option maxRecDepth 20000 in
theorem wm_419 : (Cond.code y_P_hasCell b_P_hasCell 2 (some .boolean)) ∈ jx_W := jx_mem 419 rfl rfl
theorem wm_420 : (Cond.methodLink "PlaneCells" 104 ⟨"PlaneCells$Plane", "signIn", "(II)I"⟩) ∈ jx_W := jx_mem 420 (by decide +kernel) rfl
theorem wm_425 : (Cond.methodLink "PlaneCells" 107 ⟨"PlaneCells$Plane", "trueIn", "(I)Z"⟩) ∈ jx_W := jx_mem 425 (by decide +kernel) rfl
theorem wm_438 : (Cond.methodLink "PlaneCells" 117 ⟨"PlaneCells$CriticalNumbers", "signAt", "(IJJJ)I"⟩) ∈ jx_W := jx_mem 438 (by decide +kernel) rfl
theorem wm_445 : (Cond.fieldLink "PlaneCellsModel" 58 "PlaneCellsModel" "written" "I") ∈ jx_W := jx_mem 445 (by decide +kernel) rfl
theorem wm_446 : (Cond.fieldLink "PlaneCellsModel" 7 "PlaneCellsModel" "text" "[I") ∈ jx_W := jx_mem 446 (by decide +kernel) rfl
theorem wm_447 : (Cond.fieldLink "PlaneCellsModel" 61 "PlaneCellsModel" "size" "I") ∈ jx_W := jx_mem 447 (by decide +kernel) rfl
theorem wm_448 : (Cond.fieldLink "PlaneCellsModel" 13 "PlaneCellsModel" "line" "[I") ∈ jx_W := jx_mem 448 (by decide +kernel) rfl
theorem wm_449 : (Cond.fieldLink "PlaneCellsModel" 16 "PlaneCellsModel" "fault" "I") ∈ jx_W := jx_mem 449 (by decide +kernel) rfl
theorem wm_450 : (Cond.fieldLink "PlaneCellsModel" 198 "PlaneCellsModel" "allX" "Z") ∈ jx_W := jx_mem 450 (by decide +kernel) rfl
theorem wm_451 : (Cond.fieldLink "PlaneCellsModel" 178 "PlaneCellsModel" "allY" "Z") ∈ jx_W := jx_mem 451 (by decide +kernel) rfl
theorem wm_452 : (Cond.fieldLink "PlaneCellsModel" 103 "PlaneCellsModel" "many" "I") ∈ jx_W := jx_mem 452 (by decide +kernel) rfl
theorem wm_453 : (Cond.fieldLink "PlaneCellsModel" 20 "PlaneCellsModel" "number" "[I") ∈ jx_W := jx_mem 453 (by decide +kernel) rfl
theorem wm_454 : (Cond.fieldLink "PlaneCellsModel" 93 "PlaneCellsModel" "parts" "I") ∈ jx_W := jx_mem 454 (by decide +kernel) rfl
theorem wm_455 : (Cond.fieldLink "PlaneCellsModel" 23 "PlaneCellsModel" "part" "[I") ∈ jx_W := jx_mem 455 (by decide +kernel) rfl
theorem wm_456 : (Cond.fieldLink "PlaneCellsModel" 96 "PlaneCellsModel" "waits" "I") ∈ jx_W := jx_mem 456 (by decide +kernel) rfl
theorem wm_457 : (Cond.fieldLink "PlaneCellsModel" 26 "PlaneCellsModel" "waiting" "[I") ∈ jx_W := jx_mem 457 (by decide +kernel) rfl
theorem wm_458 : (Cond.fieldLink "PlaneCellsModel" 29 "PlaneCellsModel" "truth" "[Z") ∈ jx_W := jx_mem 458 (by decide +kernel) rfl
theorem wm_459 : (Cond.fieldLink "PlaneCellsModel" 134 "PlaneCellsModel" "criticals" "I") ∈ jx_W := jx_mem 459 (by decide +kernel) rfl
theorem wm_460 : (Cond.fieldLink "PlaneCellsModel" 33 "PlaneCellsModel" "rootA" "[J") ∈ jx_W := jx_mem 460 (by decide +kernel) rfl
theorem wm_461 : (Cond.fieldLink "PlaneCellsModel" 37 "PlaneCellsModel" "rootB" "[J") ∈ jx_W := jx_mem 461 (by decide +kernel) rfl
theorem wm_462 : (Cond.fieldLink "PlaneCellsModel" 40 "PlaneCellsModel" "rootC" "[J") ∈ jx_W := jx_mem 462 (by decide +kernel) rfl
theorem wm_463 : (Cond.fieldLink "PlaneCellsModel" 43 "PlaneCellsModel" "rootWhich" "[I") ∈ jx_W := jx_mem 463 (by decide +kernel) rfl
theorem wm_464 : (Cond.fieldLink "PlaneCellsModel" 46 "PlaneCellsModel" "column" "I") ∈ jx_W := jx_mem 464 (by decide +kernel) rfl
theorem wm_465 : (Cond.fieldLink "PlaneCellsModel" 160 "PlaneCellsModel" "heights" "I") ∈ jx_W := jx_mem 465 (by decide +kernel) rfl
theorem wm_466 : (Cond.fieldLink "PlaneCellsModel" 49 "PlaneCellsModel" "signA" "[I") ∈ jx_W := jx_mem 466 (by decide +kernel) rfl
theorem wm_467 : (Cond.fieldLink "PlaneCellsModel" 52 "PlaneCellsModel" "rank" "[I") ∈ jx_W := jx_mem 467 (by decide +kernel) rfl
theorem wm_468 : (Cond.fieldLink "PlaneCellsModel" 182 "PlaneCellsModel" "columnCount" "I") ∈ jx_W := jx_mem 468 (by decide +kernel) rfl
theorem wm_469 : (Cond.fieldLink "PlaneCellsModel" 55 "PlaneCellsModel" "relation" "[I") ∈ jx_W := jx_mem 469 (by decide +kernel) rfl
theorem wm_531 : (Cond.methodLink "PlaneCellsModel" 185 ⟨"PlaneCellsModel", "takeText", "()V"⟩) ∈ jx_W := jx_mem 531 (by decide +kernel) rfl
theorem wm_533 : (Cond.instanceMethod ⟨"PlaneCellsModel", "takeText", "()V"⟩) ∈ jx_W := jx_mem 533 (by decide +kernel) rfl
set_option maxRecDepth 20000 in
theorem wm_534 : (Cond.code y_M_takeText b_M_takeText 2 none) ∈ jx_W := jx_mem 534 rfl rfl
theorem wm_535 : (Cond.methodLink "PlaneCellsModel" 90 ⟨"PlaneCellsModel", "count", "(I)I"⟩) ∈ jx_W := jx_mem 535 (by decide +kernel) rfl
theorem wm_537 : (Cond.instanceMethod ⟨"PlaneCellsModel", "count", "(I)I"⟩) ∈ jx_W := jx_mem 537 (by decide +kernel) rfl
set_option maxRecDepth 20000 in
theorem wm_538 : (Cond.code y_M_count b_M_count 4 (some .int)) ∈ jx_W := jx_mem 538 rfl rfl
theorem wm_539 : (Cond.methodLink "PlaneCellsModel" 188 ⟨"PlaneCellsModel", "wrong", "(II)I"⟩) ∈ jx_W := jx_mem 539 (by decide +kernel) rfl
theorem wm_541 : (Cond.instanceMethod ⟨"PlaneCellsModel", "wrong", "(II)I"⟩) ∈ jx_W := jx_mem 541 (by decide +kernel) rfl
set_option maxRecDepth 20000 in
theorem wm_542 : (Cond.code y_M_wrong b_M_wrong 3 (some .int)) ∈ jx_W := jx_mem 542 rfl rfl
theorem wm_543 : (Cond.methodLink "PlaneCellsModel" 191 ⟨"PlaneCellsModel", "illAt", "()I"⟩) ∈ jx_W := jx_mem 543 (by decide +kernel) rfl
theorem wm_545 : (Cond.instanceMethod ⟨"PlaneCellsModel", "illAt", "()I"⟩) ∈ jx_W := jx_mem 545 (by decide +kernel) rfl
set_option maxRecDepth 20000 in
theorem wm_546 : (Cond.code y_M_illAt b_M_illAt 4 (some .int)) ∈ jx_W := jx_mem 546 rfl rfl
theorem wm_547 : (Cond.methodLink "PlaneCellsModel" 79 ⟨"PlaneCellsModel", "at", "(I)I"⟩) ∈ jx_W := jx_mem 547 (by decide +kernel) rfl
theorem wm_549 : (Cond.instanceMethod ⟨"PlaneCellsModel", "at", "(I)I"⟩) ∈ jx_W := jx_mem 549 (by decide +kernel) rfl
set_option maxRecDepth 20000 in
theorem wm_550 : (Cond.code y_M_at b_M_at 2 (some .int)) ∈ jx_W := jx_mem 550 rfl rfl
theorem wm_551 : (Cond.methodLink "PlaneCellsModel" 83 ⟨"PlaneCellsModel", "after", "(III)I"⟩) ∈ jx_W := jx_mem 551 (by decide +kernel) rfl
theorem wm_552 : (Cond.static ⟨"PlaneCellsModel", "after", "(III)I"⟩) ∈ jx_W := jx_mem 552 (by decide +kernel) rfl
set_option maxRecDepth 20000 in
theorem wm_553 : (Cond.code y_M_after b_M_after 3 (some .int)) ∈ jx_W := jx_mem 553 rfl rfl
theorem wm_554 : (Cond.methodLink "PlaneCellsModel" 64 ⟨"PlaneCellsModel", "term", "(II)I"⟩) ∈ jx_W := jx_mem 554 (by decide +kernel) rfl
theorem wm_555 : (Cond.static ⟨"PlaneCellsModel", "term", "(II)I"⟩) ∈ jx_W := jx_mem 555 (by decide +kernel) rfl
set_option maxRecDepth 20000 in
theorem wm_556 : (Cond.code y_M_term b_M_term 3 (some .int)) ∈ jx_W := jx_mem 556 rfl rfl
theorem wm_557 : (Cond.methodLink "PlaneCellsModel" 75 ⟨"PlaneCellsModel", "isDigit", "(I)Z"⟩) ∈ jx_W := jx_mem 557 (by decide +kernel) rfl
theorem wm_558 : (Cond.static ⟨"PlaneCellsModel", "isDigit", "(I)Z"⟩) ∈ jx_W := jx_mem 558 (by decide +kernel) rfl
set_option maxRecDepth 20000 in
theorem wm_559 : (Cond.code y_M_isDigit b_M_isDigit 1 (some .boolean)) ∈ jx_W := jx_mem 559 rfl rfl
theorem wm_560 : (Cond.methodLink "PlaneCellsModel" 68 ⟨"PlaneCellsModel", "behind", "(II)I"⟩) ∈ jx_W := jx_mem 560 (by decide +kernel) rfl
theorem wm_561 : (Cond.static ⟨"PlaneCellsModel", "behind", "(II)I"⟩) ∈ jx_W := jx_mem 561 (by decide +kernel) rfl
set_option maxRecDepth 20000 in
theorem wm_562 : (Cond.code y_M_behind b_M_behind 2 (some .int)) ∈ jx_W := jx_mem 562 rfl rfl
theorem wm_563 : (Cond.methodLink "PlaneCellsModel" 71 ⟨"PlaneCellsModel", "inSum", "(III)I"⟩) ∈ jx_W := jx_mem 563 (by decide +kernel) rfl
theorem wm_564 : (Cond.static ⟨"PlaneCellsModel", "inSum", "(III)I"⟩) ∈ jx_W := jx_mem 564 (by decide +kernel) rfl
set_option maxRecDepth 20000 in
theorem wm_565 : (Cond.code y_M_inSum b_M_inSum 5 (some .int)) ∈ jx_W := jx_mem 565 rfl rfl
theorem wm_566 : (Cond.methodLink "PlaneCellsModel" 86 ⟨"PlaneCellsModel", "mayEnd", "(II)Z"⟩) ∈ jx_W := jx_mem 566 (by decide +kernel) rfl
theorem wm_568 : (Cond.instanceMethod ⟨"PlaneCellsModel", "mayEnd", "(II)Z"⟩) ∈ jx_W := jx_mem 568 (by decide +kernel) rfl
set_option maxRecDepth 20000 in
theorem wm_569 : (Cond.code y_M_mayEnd b_M_mayEnd 3 (some .boolean)) ∈ jx_W := jx_mem 569 rfl rfl
theorem wm_570 : (Cond.methodLink "PlaneCellsModel" 195 ⟨"PlaneCellsModel", "relations", "()I"⟩) ∈ jx_W := jx_mem 570 (by decide +kernel) rfl
theorem wm_572 : (Cond.instanceMethod ⟨"PlaneCellsModel", "relations", "()I"⟩) ∈ jx_W := jx_mem 572 (by decide +kernel) rfl
set_option maxRecDepth 20000 in
theorem wm_573 : (Cond.code y_M_relations b_M_relations 1 (some .int)) ∈ jx_W := jx_mem 573 rfl rfl
theorem wm_574 : (Cond.methodLink "PlaneCellsModel" 201 ⟨"PlaneCellsModel", "readFormula", "()V"⟩) ∈ jx_W := jx_mem 574 (by decide +kernel) rfl
theorem wm_576 : (Cond.instanceMethod ⟨"PlaneCellsModel", "readFormula", "()V"⟩) ∈ jx_W := jx_mem 576 (by decide +kernel) rfl
set_option maxRecDepth 20000 in
theorem wm_577 : (Cond.code y_M_readFormula b_M_readFormula 3 none) ∈ jx_W := jx_mem 577 rfl rfl
theorem wm_578 : (Cond.methodLink "PlaneCellsModel" 106 ⟨"PlaneCellsModel", "wait0", "(I)V"⟩) ∈ jx_W := jx_mem 578 (by decide +kernel) rfl
theorem wm_580 : (Cond.instanceMethod ⟨"PlaneCellsModel", "wait0", "(I)V"⟩) ∈ jx_W := jx_mem 580 (by decide +kernel) rfl
set_option maxRecDepth 20000 in
theorem wm_581 : (Cond.code y_M_wait0 b_M_wait0 2 none) ∈ jx_W := jx_mem 581 rfl rfl
theorem wm_582 : (Cond.methodLink "PlaneCellsModel" 109 ⟨"PlaneCellsModel", "giveAll", "(I)V"⟩) ∈ jx_W := jx_mem 582 (by decide +kernel) rfl
theorem wm_584 : (Cond.instanceMethod ⟨"PlaneCellsModel", "giveAll", "(I)V"⟩) ∈ jx_W := jx_mem 584 (by decide +kernel) rfl
set_option maxRecDepth 20000 in
theorem wm_585 : (Cond.code y_M_giveAll b_M_giveAll 2 none) ∈ jx_W := jx_mem 585 rfl rfl
theorem wm_586 : (Cond.methodLink "PlaneCellsModel" 99 ⟨"PlaneCellsModel", "give", "(I)V"⟩) ∈ jx_W := jx_mem 586 (by decide +kernel) rfl
theorem wm_588 : (Cond.instanceMethod ⟨"PlaneCellsModel", "give", "(I)V"⟩) ∈ jx_W := jx_mem 588 (by decide +kernel) rfl
set_option maxRecDepth 20000 in
theorem wm_589 : (Cond.code y_M_give b_M_give 2 none) ∈ jx_W := jx_mem 589 rfl rfl
theorem wm_590 : (Cond.methodLink "PlaneCellsModel" 112 ⟨"PlaneCellsModel", "readSum", "(III)I"⟩) ∈ jx_W := jx_mem 590 (by decide +kernel) rfl
theorem wm_592 : (Cond.instanceMethod ⟨"PlaneCellsModel", "readSum", "(III)I"⟩) ∈ jx_W := jx_mem 592 (by decide +kernel) rfl
set_option maxRecDepth 20000 in
theorem wm_593 : (Cond.code y_M_readSum b_M_readSum 11 (some .int)) ∈ jx_W := jx_mem 593 rfl rfl
theorem wm_594 : (Cond.methodLink "PlaneCellsModel" 204 ⟨"PlaneCellsModel", "findCriticals", "()V"⟩) ∈ jx_W := jx_mem 594 (by decide +kernel) rfl
theorem wm_596 : (Cond.instanceMethod ⟨"PlaneCellsModel", "findCriticals", "()V"⟩) ∈ jx_W := jx_mem 596 (by decide +kernel) rfl
set_option maxRecDepth 20000 in
theorem wm_597 : (Cond.code y_M_findCriticals b_M_findCriticals 3 none) ∈ jx_W := jx_mem 597 rfl rfl
theorem wm_598 : (Cond.methodLink "PlaneCellsModel" 149 ⟨"PlaneCellsModel", "addRoots", "(JJJ)V"⟩) ∈ jx_W := jx_mem 598 (by decide +kernel) rfl
theorem wm_600 : (Cond.instanceMethod ⟨"PlaneCellsModel", "addRoots", "(JJJ)V"⟩) ∈ jx_W := jx_mem 600 (by decide +kernel) rfl
set_option maxRecDepth 20000 in
theorem wm_601 : (Cond.code y_M_addRoots b_M_addRoots 14 none) ∈ jx_W := jx_mem 601 rfl rfl
theorem wm_602 : (Cond.constantLong "PlaneCellsModel" 119 4) ∈ jx_W := jx_mem 602 (by decide +kernel) rfl
theorem wm_603 : (Cond.methodLink "PlaneCellsModel" 141 ⟨"PlaneCellsModel", "addRoot", "(JJJI)V"⟩) ∈ jx_W := jx_mem 603 (by decide +kernel) rfl
theorem wm_605 : (Cond.instanceMethod ⟨"PlaneCellsModel", "addRoot", "(JJJI)V"⟩) ∈ jx_W := jx_mem 605 (by decide +kernel) rfl
set_option maxRecDepth 20000 in
theorem wm_606 : (Cond.code y_M_addRoot b_M_addRoot 11 none) ∈ jx_W := jx_mem 606 rfl rfl
theorem wm_607 : (Cond.methodLink "PlaneCellsModel" 137 ⟨"PlaneCellsModel", "against", "(IJJJI)I"⟩) ∈ jx_W := jx_mem 607 (by decide +kernel) rfl
theorem wm_609 : (Cond.instanceMethod ⟨"PlaneCellsModel", "against", "(IJJJI)I"⟩) ∈ jx_W := jx_mem 609 (by decide +kernel) rfl
set_option maxRecDepth 20000 in
theorem wm_610 : (Cond.code y_M_against b_M_against 13 (some .int)) ∈ jx_W := jx_mem 610 rfl rfl
theorem wm_611 : (Cond.methodLink "PlaneCellsModel" 127 ⟨"PlaneCellsModel", "signAt", "(IJJJ)I"⟩) ∈ jx_W := jx_mem 611 (by decide +kernel) rfl
theorem wm_613 : (Cond.instanceMethod ⟨"PlaneCellsModel", "signAt", "(IJJJ)I"⟩) ∈ jx_W := jx_mem 613 (by decide +kernel) rfl
set_option maxRecDepth 20000 in
theorem wm_614 : (Cond.code y_M_signAt b_M_signAt 20 (some .int)) ∈ jx_W := jx_mem 614 rfl rfl
theorem wm_615 : (Cond.methodLink "PlaneCellsModel" 115 ⟨"PlaneCellsModel", "sgn", "(J)I"⟩) ∈ jx_W := jx_mem 615 (by decide +kernel) rfl
theorem wm_616 : (Cond.static ⟨"PlaneCellsModel", "sgn", "(J)I"⟩) ∈ jx_W := jx_mem 616 (by decide +kernel) rfl
set_option maxRecDepth 20000 in
theorem wm_617 : (Cond.code y_M_sgn b_M_sgn 2 (some .int)) ∈ jx_W := jx_mem 617 rfl rfl
theorem wm_618 : (Cond.constantLong "PlaneCellsModel" 121 2) ∈ jx_W := jx_mem 618 (by decide +kernel) rfl
theorem wm_619 : (Cond.methodLink "PlaneCellsModel" 123 ⟨"PlaneCellsModel", "signOf", "(JJJ)I"⟩) ∈ jx_W := jx_mem 619 (by decide +kernel) rfl
theorem wm_620 : (Cond.static ⟨"PlaneCellsModel", "signOf", "(JJJ)I"⟩) ∈ jx_W := jx_mem 620 (by decide +kernel) rfl
set_option maxRecDepth 20000 in
theorem wm_621 : (Cond.code y_M_signOf b_M_signOf 12 (some .int)) ∈ jx_W := jx_mem 621 rfl rfl
theorem wm_622 : (Cond.methodLink "PlaneCellsModel" 153 ⟨"PlaneCellsModel", "mixed", "(III)J"⟩) ∈ jx_W := jx_mem 622 (by decide +kernel) rfl
theorem wm_624 : (Cond.instanceMethod ⟨"PlaneCellsModel", "mixed", "(III)J"⟩) ∈ jx_W := jx_mem 624 (by decide +kernel) rfl
set_option maxRecDepth 20000 in
theorem wm_625 : (Cond.code y_M_mixed b_M_mixed 4 (some .long)) ∈ jx_W := jx_mem 625 rfl rfl
theorem wm_626 : (Cond.methodLink "PlaneCellsModel" 145 ⟨"PlaneCellsModel", "cross", "(IIII)J"⟩) ∈ jx_W := jx_mem 626 (by decide +kernel) rfl
theorem wm_628 : (Cond.instanceMethod ⟨"PlaneCellsModel", "cross", "(IIII)J"⟩) ∈ jx_W := jx_mem 628 (by decide +kernel) rfl
set_option maxRecDepth 20000 in
theorem wm_629 : (Cond.code y_M_cross b_M_cross 5 (some .long)) ∈ jx_W := jx_mem 629 rfl rfl
theorem wm_630 : (Cond.methodLink "PlaneCellsModel" 207 ⟨"PlaneCellsModel", "columnHolds", "(I)Z"⟩) ∈ jx_W := jx_mem 630 (by decide +kernel) rfl
theorem wm_632 : (Cond.instanceMethod ⟨"PlaneCellsModel", "columnHolds", "(I)Z"⟩) ∈ jx_W := jx_mem 632 (by decide +kernel) rfl
set_option maxRecDepth 20000 in
theorem wm_633 : (Cond.code y_M_columnHolds b_M_columnHolds 6 (some .boolean)) ∈ jx_W := jx_mem 633 rfl rfl
theorem wm_634 : (Cond.methodLink "PlaneCellsModel" 169 ⟨"PlaneCellsModel", "look", "(I)V"⟩) ∈ jx_W := jx_mem 634 (by decide +kernel) rfl
theorem wm_636 : (Cond.instanceMethod ⟨"PlaneCellsModel", "look", "(I)V"⟩) ∈ jx_W := jx_mem 636 (by decide +kernel) rfl
set_option maxRecDepth 20000 in
theorem wm_637 : (Cond.code y_M_look b_M_look 5 none) ∈ jx_W := jx_mem 637 rfl rfl
theorem wm_638 : (Cond.methodLink "PlaneCellsModel" 157 ⟨"PlaneCellsModel", "signIn", "(IJJJ)I"⟩) ∈ jx_W := jx_mem 638 (by decide +kernel) rfl
theorem wm_640 : (Cond.instanceMethod ⟨"PlaneCellsModel", "signIn", "(IJJJ)I"⟩) ∈ jx_W := jx_mem 640 (by decide +kernel) rfl
set_option maxRecDepth 20000 in
theorem wm_641 : (Cond.code y_M_signIn b_M_signIn 8 (some .int)) ∈ jx_W := jx_mem 641 rfl rfl
theorem wm_642 : (Cond.methodLink "PlaneCellsModel" 131 ⟨"PlaneCellsModel", "signBehind", "(IJJJ)I"⟩) ∈ jx_W := jx_mem 642 (by decide +kernel) rfl
theorem wm_644 : (Cond.instanceMethod ⟨"PlaneCellsModel", "signBehind", "(IJJJ)I"⟩) ∈ jx_W := jx_mem 644 (by decide +kernel) rfl
set_option maxRecDepth 20000 in
theorem wm_645 : (Cond.code y_M_signBehind b_M_signBehind 9 (some .int)) ∈ jx_W := jx_mem 645 rfl rfl
theorem wm_646 : (Cond.methodLink "PlaneCellsModel" 163 ⟨"PlaneCellsModel", "compareY", "(III)I"⟩) ∈ jx_W := jx_mem 646 (by decide +kernel) rfl
theorem wm_648 : (Cond.instanceMethod ⟨"PlaneCellsModel", "compareY", "(III)I"⟩) ∈ jx_W := jx_mem 648 (by decide +kernel) rfl
set_option maxRecDepth 20000 in
theorem wm_649 : (Cond.code y_M_compareY b_M_compareY 4 (some .int)) ∈ jx_W := jx_mem 649 rfl rfl
theorem wm_650 : (Cond.methodLink "PlaneCellsModel" 166 ⟨"PlaneCellsModel", "isFirst", "(II)Z"⟩) ∈ jx_W := jx_mem 650 (by decide +kernel) rfl
theorem wm_652 : (Cond.instanceMethod ⟨"PlaneCellsModel", "isFirst", "(II)Z"⟩) ∈ jx_W := jx_mem 652 (by decide +kernel) rfl
set_option maxRecDepth 20000 in
theorem wm_653 : (Cond.code y_M_isFirst b_M_isFirst 5 (some .boolean)) ∈ jx_W := jx_mem 653 rfl rfl
theorem wm_654 : (Cond.methodLink "PlaneCellsModel" 175 ⟨"PlaneCellsModel", "formulaIn", "(II)Z"⟩) ∈ jx_W := jx_mem 654 (by decide +kernel) rfl
theorem wm_656 : (Cond.instanceMethod ⟨"PlaneCellsModel", "formulaIn", "(II)Z"⟩) ∈ jx_W := jx_mem 656 (by decide +kernel) rfl
set_option maxRecDepth 20000 in
theorem wm_657 : (Cond.code y_M_formulaIn b_M_formulaIn 7 (some .boolean)) ∈ jx_W := jx_mem 657 rfl rfl
theorem wm_658 : (Cond.methodLink "PlaneCellsModel" 172 ⟨"PlaneCellsModel", "signOfCell", "(III)I"⟩) ∈ jx_W := jx_mem 658 (by decide +kernel) rfl
theorem wm_660 : (Cond.instanceMethod ⟨"PlaneCellsModel", "signOfCell", "(III)I"⟩) ∈ jx_W := jx_mem 660 (by decide +kernel) rfl
set_option maxRecDepth 20000 in
theorem wm_661 : (Cond.code y_M_signOfCell b_M_signOfCell 5 (some .int)) ∈ jx_W := jx_mem 661 rfl rfl
theorem wm_682 : (Cond.methodLink "PlaneCellsModel" 210 ⟨"PlaneCellsModel", "isColumn", "(I)Z"⟩) ∈ jx_W := jx_mem 682 (by decide +kernel) rfl
theorem wm_684 : (Cond.instanceMethod ⟨"PlaneCellsModel", "isColumn", "(I)Z"⟩) ∈ jx_W := jx_mem 684 (by decide +kernel) rfl
set_option maxRecDepth 20000 in
theorem wm_685 : (Cond.code y_M_isColumn b_M_isColumn 2 (some .boolean)) ∈ jx_W := jx_mem 685 rfl rfl
theorem wm_690 : (Cond.methodLink "PlaneCellsModel" 213 ⟨"PlaneCellsModel", "isCell", "(II)Z"⟩) ∈ jx_W := jx_mem 690 (by decide +kernel) rfl
theorem wm_692 : (Cond.instanceMethod ⟨"PlaneCellsModel", "isCell", "(II)Z"⟩) ∈ jx_W := jx_mem 692 (by decide +kernel) rfl
set_option maxRecDepth 20000 in
theorem wm_693 : (Cond.code y_M_isCell b_M_isCell 3 (some .boolean)) ∈ jx_W := jx_mem 693 rfl rfl
theorem ws_0 : (Cond.selects "PlaneCells" ⟨"PlaneCells", "readText", "()I"⟩ ⟨"PlaneCells", "readText", "()I"⟩) ∈ jx_W := jx_memS 0 (by decide +kernel) rfl
theorem ws_1 : (Cond.selects "PlaneCells$Reader" ⟨"PlaneCells$Reader", "takeHead", "()Z"⟩ ⟨"PlaneCells$Reader", "takeHead", "()Z"⟩) ∈ jx_W := jx_memS 1 (by decide +kernel) rfl
theorem ws_2 : (Cond.selects "PlaneCells$Reader" ⟨"PlaneCells$Reader", "peek", "()C"⟩ ⟨"PlaneCells$Reader", "peek", "()C"⟩) ∈ jx_W := jx_memS 2 (by decide +kernel) rfl
theorem ws_3 : (Cond.selects "PlaneCells$Reader" ⟨"PlaneCells$Reader", "takeQuantifier", "()Z"⟩ ⟨"PlaneCells$Reader", "takeQuantifier", "()Z"⟩) ∈ jx_W := jx_memS 3 (by decide +kernel) rfl
theorem ws_4 : (Cond.selects "PlaneCells$Reader" ⟨"PlaneCells$Reader", "take", "(C)Z"⟩ ⟨"PlaneCells$Reader", "take", "(C)Z"⟩) ∈ jx_W := jx_memS 4 (by decide +kernel) rfl
theorem ws_5 : (Cond.selects "PlaneCells$Reader" ⟨"PlaneCells$Reader", "takeOpenings", "()V"⟩ ⟨"PlaneCells$Reader", "takeOpenings", "()V"⟩) ∈ jx_W := jx_memS 5 (by decide +kernel) rfl
theorem ws_6 : (Cond.selects "PlaneCells$Reader" ⟨"PlaneCells$Reader", "hold", "(I)V"⟩ ⟨"PlaneCells$Reader", "hold", "(I)V"⟩) ∈ jx_W := jx_memS 6 (by decide +kernel) rfl
theorem ws_7 : (Cond.selects "PlaneCells$Reader" ⟨"PlaneCells$Reader", "takeAtom", "()Z"⟩ ⟨"PlaneCells$Reader", "takeAtom", "()Z"⟩) ∈ jx_W := jx_memS 7 (by decide +kernel) rfl
theorem ws_8 : (Cond.selects "PlaneCells$Reader" ⟨"PlaneCells$Reader", "takeSum", "(I)Z"⟩ ⟨"PlaneCells$Reader", "takeSum", "(I)Z"⟩) ∈ jx_W := jx_memS 8 (by decide +kernel) rfl
theorem ws_9 : (Cond.selects "PlaneCells$Reader" ⟨"PlaneCells$Reader", "takeTerm", "(I)Z"⟩ ⟨"PlaneCells$Reader", "takeTerm", "(I)Z"⟩) ∈ jx_W := jx_memS 9 (by decide +kernel) rfl
theorem ws_10 : (Cond.selects "PlaneCells$Reader" ⟨"PlaneCells$Reader", "takeClosings", "()V"⟩ ⟨"PlaneCells$Reader", "takeClosings", "()V"⟩) ∈ jx_W := jx_memS 10 (by decide +kernel) rfl
theorem ws_11 : (Cond.selects "PlaneCells$Reader" ⟨"PlaneCells$Reader", "release", "(I)V"⟩ ⟨"PlaneCells$Reader", "release", "(I)V"⟩) ∈ jx_W := jx_memS 11 (by decide +kernel) rfl
theorem ws_12 : (Cond.selects "PlaneCells$Reader" ⟨"PlaneCells$Reader", "takeJoint", "()Z"⟩ ⟨"PlaneCells$Reader", "takeJoint", "()Z"⟩) ∈ jx_W := jx_memS 12 (by decide +kernel) rfl
theorem ws_13 : (Cond.selects "PlaneCells$CriticalNumbers" ⟨"PlaneCells$CriticalNumbers", "add", "(III)V"⟩ ⟨"PlaneCells$CriticalNumbers", "add", "(III)V"⟩) ∈ jx_W := jx_memS 13 (by decide +kernel) rfl
theorem ws_14 : (Cond.selects "PlaneCells$CriticalNumbers" ⟨"PlaneCells$CriticalNumbers", "signOfDifference", "(IIII)I"⟩ ⟨"PlaneCells$CriticalNumbers", "signOfDifference", "(IIII)I"⟩) ∈ jx_W := jx_memS 14 (by decide +kernel) rfl
theorem ws_15 : (Cond.selects "PlaneCells$CriticalNumbers" ⟨"PlaneCells$CriticalNumbers", "insert", "(IIII)V"⟩ ⟨"PlaneCells$CriticalNumbers", "insert", "(IIII)V"⟩) ∈ jx_W := jx_memS 15 (by decide +kernel) rfl
theorem ws_16 : (Cond.selects "PlaneCells$Plane" ⟨"PlaneCells$Plane", "addZero", "(II)V"⟩ ⟨"PlaneCells$Plane", "addZero", "(II)V"⟩) ∈ jx_W := jx_memS 16 (by decide +kernel) rfl
theorem ws_17 : (Cond.selects "PlaneCells" ⟨"PlaneCells", "hasPolynomial", "(I)Z"⟩ ⟨"PlaneCells", "hasPolynomial", "(I)Z"⟩) ∈ jx_W := jx_memS 17 (by decide +kernel) rfl
theorem ws_18 : (Cond.selects "PlaneCells" ⟨"PlaneCells", "enterColumn", "(I)Z"⟩ ⟨"PlaneCells", "enterColumn", "(I)Z"⟩) ∈ jx_W := jx_memS 18 (by decide +kernel) rfl
theorem ws_19 : (Cond.selects "PlaneCells" ⟨"PlaneCells", "hasColumn", "(I)Z"⟩ ⟨"PlaneCells", "hasColumn", "(I)Z"⟩) ∈ jx_W := jx_memS 19 (by decide +kernel) rfl
theorem ws_20 : (Cond.selects "PlaneCells" ⟨"PlaneCells", "hasCell", "(I)Z"⟩ ⟨"PlaneCells", "hasCell", "(I)Z"⟩) ∈ jx_W := jx_memS 20 (by decide +kernel) rfl
theorem ws_21 : (Cond.selects "PlaneCellsModel" ⟨"PlaneCellsModel", "takeText", "()V"⟩ ⟨"PlaneCellsModel", "takeText", "()V"⟩) ∈ jx_W := jx_memS 21 (by decide +kernel) rfl
theorem ws_22 : (Cond.selects "PlaneCellsModel" ⟨"PlaneCellsModel", "count", "(I)I"⟩ ⟨"PlaneCellsModel", "count", "(I)I"⟩) ∈ jx_W := jx_memS 22 (by decide +kernel) rfl
theorem ws_23 : (Cond.selects "PlaneCellsModel" ⟨"PlaneCellsModel", "wrong", "(II)I"⟩ ⟨"PlaneCellsModel", "wrong", "(II)I"⟩) ∈ jx_W := jx_memS 23 (by decide +kernel) rfl
theorem ws_24 : (Cond.selects "PlaneCellsModel" ⟨"PlaneCellsModel", "illAt", "()I"⟩ ⟨"PlaneCellsModel", "illAt", "()I"⟩) ∈ jx_W := jx_memS 24 (by decide +kernel) rfl
theorem ws_25 : (Cond.selects "PlaneCellsModel" ⟨"PlaneCellsModel", "at", "(I)I"⟩ ⟨"PlaneCellsModel", "at", "(I)I"⟩) ∈ jx_W := jx_memS 25 (by decide +kernel) rfl
theorem ws_26 : (Cond.selects "PlaneCellsModel" ⟨"PlaneCellsModel", "mayEnd", "(II)Z"⟩ ⟨"PlaneCellsModel", "mayEnd", "(II)Z"⟩) ∈ jx_W := jx_memS 26 (by decide +kernel) rfl
theorem ws_27 : (Cond.selects "PlaneCellsModel" ⟨"PlaneCellsModel", "relations", "()I"⟩ ⟨"PlaneCellsModel", "relations", "()I"⟩) ∈ jx_W := jx_memS 27 (by decide +kernel) rfl
theorem ws_28 : (Cond.selects "PlaneCellsModel" ⟨"PlaneCellsModel", "readFormula", "()V"⟩ ⟨"PlaneCellsModel", "readFormula", "()V"⟩) ∈ jx_W := jx_memS 28 (by decide +kernel) rfl
theorem ws_29 : (Cond.selects "PlaneCellsModel" ⟨"PlaneCellsModel", "wait0", "(I)V"⟩ ⟨"PlaneCellsModel", "wait0", "(I)V"⟩) ∈ jx_W := jx_memS 29 (by decide +kernel) rfl
theorem ws_30 : (Cond.selects "PlaneCellsModel" ⟨"PlaneCellsModel", "giveAll", "(I)V"⟩ ⟨"PlaneCellsModel", "giveAll", "(I)V"⟩) ∈ jx_W := jx_memS 30 (by decide +kernel) rfl
theorem ws_31 : (Cond.selects "PlaneCellsModel" ⟨"PlaneCellsModel", "give", "(I)V"⟩ ⟨"PlaneCellsModel", "give", "(I)V"⟩) ∈ jx_W := jx_memS 31 (by decide +kernel) rfl
theorem ws_32 : (Cond.selects "PlaneCellsModel" ⟨"PlaneCellsModel", "readSum", "(III)I"⟩ ⟨"PlaneCellsModel", "readSum", "(III)I"⟩) ∈ jx_W := jx_memS 32 (by decide +kernel) rfl
theorem ws_33 : (Cond.selects "PlaneCellsModel" ⟨"PlaneCellsModel", "findCriticals", "()V"⟩ ⟨"PlaneCellsModel", "findCriticals", "()V"⟩) ∈ jx_W := jx_memS 33 (by decide +kernel) rfl
theorem ws_34 : (Cond.selects "PlaneCellsModel" ⟨"PlaneCellsModel", "addRoots", "(JJJ)V"⟩ ⟨"PlaneCellsModel", "addRoots", "(JJJ)V"⟩) ∈ jx_W := jx_memS 34 (by decide +kernel) rfl
theorem ws_35 : (Cond.selects "PlaneCellsModel" ⟨"PlaneCellsModel", "addRoot", "(JJJI)V"⟩ ⟨"PlaneCellsModel", "addRoot", "(JJJI)V"⟩) ∈ jx_W := jx_memS 35 (by decide +kernel) rfl
theorem ws_36 : (Cond.selects "PlaneCellsModel" ⟨"PlaneCellsModel", "against", "(IJJJI)I"⟩ ⟨"PlaneCellsModel", "against", "(IJJJI)I"⟩) ∈ jx_W := jx_memS 36 (by decide +kernel) rfl
theorem ws_37 : (Cond.selects "PlaneCellsModel" ⟨"PlaneCellsModel", "signAt", "(IJJJ)I"⟩ ⟨"PlaneCellsModel", "signAt", "(IJJJ)I"⟩) ∈ jx_W := jx_memS 37 (by decide +kernel) rfl
theorem ws_38 : (Cond.selects "PlaneCellsModel" ⟨"PlaneCellsModel", "mixed", "(III)J"⟩ ⟨"PlaneCellsModel", "mixed", "(III)J"⟩) ∈ jx_W := jx_memS 38 (by decide +kernel) rfl
theorem ws_39 : (Cond.selects "PlaneCellsModel" ⟨"PlaneCellsModel", "cross", "(IIII)J"⟩ ⟨"PlaneCellsModel", "cross", "(IIII)J"⟩) ∈ jx_W := jx_memS 39 (by decide +kernel) rfl
theorem ws_40 : (Cond.selects "PlaneCellsModel" ⟨"PlaneCellsModel", "columnHolds", "(I)Z"⟩ ⟨"PlaneCellsModel", "columnHolds", "(I)Z"⟩) ∈ jx_W := jx_memS 40 (by decide +kernel) rfl
theorem ws_41 : (Cond.selects "PlaneCellsModel" ⟨"PlaneCellsModel", "look", "(I)V"⟩ ⟨"PlaneCellsModel", "look", "(I)V"⟩) ∈ jx_W := jx_memS 41 (by decide +kernel) rfl
theorem ws_42 : (Cond.selects "PlaneCellsModel" ⟨"PlaneCellsModel", "signIn", "(IJJJ)I"⟩ ⟨"PlaneCellsModel", "signIn", "(IJJJ)I"⟩) ∈ jx_W := jx_memS 42 (by decide +kernel) rfl
theorem ws_43 : (Cond.selects "PlaneCellsModel" ⟨"PlaneCellsModel", "signBehind", "(IJJJ)I"⟩ ⟨"PlaneCellsModel", "signBehind", "(IJJJ)I"⟩) ∈ jx_W := jx_memS 43 (by decide +kernel) rfl
theorem ws_44 : (Cond.selects "PlaneCellsModel" ⟨"PlaneCellsModel", "compareY", "(III)I"⟩ ⟨"PlaneCellsModel", "compareY", "(III)I"⟩) ∈ jx_W := jx_memS 44 (by decide +kernel) rfl
theorem ws_45 : (Cond.selects "PlaneCellsModel" ⟨"PlaneCellsModel", "isFirst", "(II)Z"⟩ ⟨"PlaneCellsModel", "isFirst", "(II)Z"⟩) ∈ jx_W := jx_memS 45 (by decide +kernel) rfl
theorem ws_46 : (Cond.selects "PlaneCellsModel" ⟨"PlaneCellsModel", "formulaIn", "(II)Z"⟩ ⟨"PlaneCellsModel", "formulaIn", "(II)Z"⟩) ∈ jx_W := jx_memS 46 (by decide +kernel) rfl
theorem ws_47 : (Cond.selects "PlaneCellsModel" ⟨"PlaneCellsModel", "signOfCell", "(III)I"⟩ ⟨"PlaneCellsModel", "signOfCell", "(III)I"⟩) ∈ jx_W := jx_memS 47 (by decide +kernel) rfl
theorem ws_48 : (Cond.selects "PlaneCellsModel" ⟨"PlaneCellsModel", "isColumn", "(I)Z"⟩ ⟨"PlaneCellsModel", "isColumn", "(I)Z"⟩) ∈ jx_W := jx_memS 48 (by decide +kernel) rfl
theorem ws_49 : (Cond.selects "PlaneCellsModel" ⟨"PlaneCellsModel", "isCell", "(II)Z"⟩ ⟨"PlaneCellsModel", "isCell", "(II)Z"⟩) ∈ jx_W := jx_memS 49 (by decide +kernel) rfl
theorem jw_absS : Cond.static Lib.Math.abs.name ∈ jx_W := jx_mem 300 (by decide +kernel) rfl
theorem jw_absC : Cond.code Lib.Math.abs.name Lib.Math.abs.code 1 (some .int) ∈ jx_W := jx_mem 301 rfl rfl
theorem jw_maxS : Cond.static Lib.Math.max.name ∈ jx_W := jx_mem 360 (by decide +kernel) rfl
theorem jw_maxC : Cond.code Lib.Math.max.name Lib.Math.max.code 2 (some .int) ∈ jx_W := jx_mem 361 rfl rfl
theorem jw_abslS : Cond.static Lib.MathLoose.abs_long.x ∈ jx_W := jx_mem 317 (by decide +kernel) rfl
theorem jw_abslC : Cond.code Lib.MathLoose.abs_long.x Lib.MathLoose.abs_long.code 2 (some .long) ∈ jx_W := jx_mem 318 rfl rfl
theorem jw_MathI : Cond.initialized "java/lang/Math" ∈ jx_W := jx_mem 9 (by decide +kernel) rfl
theorem jw_JII : Cond.initialized "java/lang/Integer" ∈ jx_W := jx_mem 11 (by decide +kernel) rfl
theorem jw_JIS : Cond.static ⟨"java/lang/Integer", "signum", "(I)I"⟩ ∈ jx_W := jx_mem 348 (by decide +kernel) rfl
theorem jw_JIC : Cond.code ⟨"java/lang/Integer", "signum", "(I)I"⟩ prog_9_method_56_code 1 (some .int) ∈ jx_W := jx_mem 349 rfl rfl
theorem jw_JLI : Cond.initialized "java/lang/Long" ∈ jx_W := jx_mem 10 (by decide +kernel) rfl
theorem jw_JLS : Cond.static ⟨"java/lang/Long", "signum", "(J)I"⟩ ∈ jx_W := jx_mem 314 (by decide +kernel) rfl
theorem jw_JLC : Cond.code ⟨"java/lang/Long", "signum", "(J)I"⟩ prog_10_method_57_code 2 (some .int) ∈ jx_W := jx_mem 315 rfl rfl
theorem jw_acN : Cond.native arraycopyName ∈ jx_W := jx_mem 252 (by decide +kernel) rfl
theorem jw_acS : Cond.static arraycopyName ∈ jx_W := jx_mem 251 (by decide +kernel) rfl
theorem jw_acI : Cond.initialized "java/lang/System" ∈ jx_W := jx_mem 8 (by decide +kernel) rfl
theorem jw_acL : Cond.methodLink "PlaneCells$Sentence" 29 arraycopyName ∈ jx_W := jx_mem 250 (by decide +kernel) rfl
theorem jw_objI : Cond.instanceMethod objectInit ∈ jx_W := jx_mem 18 (by decide +kernel) rfl
theorem jw_objC : Cond.code objectInit ⟨#[0xb1]⟩ 1 none ∈ jx_W := jx_mem 19 rfl rfl
theorem jw_ari : Cond.arrayClass .int ∈ jx_W := jx_mem 54 (by decide +kernel) rfl
theorem jw_arc : Cond.arrayClass .char ∈ jx_W := jx_mem 55 (by decide +kernel) rfl
theorem jw_arz : Cond.arrayClass .boolean ∈ jx_W := jx_mem 521 (by decide +kernel) rfl
theorem jw_arj : Cond.arrayClass .long ∈ jx_W := jx_mem 522 (by decide +kernel) rfl
