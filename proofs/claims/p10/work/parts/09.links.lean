/-! the words by their places; a rule for each link of a field or a method -/
def QI (post : Int32 → VW → Prop) : Option Value → VW → Prop := fun r w => ∃ x, r = some (.int x) ∧ post x w
def QL (post : Int64 → VW → Prop) : Option Value → VW → Prop := fun r w => ∃ x, r = some (.long x) ∧ post x w
def QV (post : VW → Prop) : Option Value → VW → Prop := fun r w => r = none ∧ post w
theorem inX0 : ∀ w ∈ u_ws RX0 TX0 13, w ∈ TW := by decide +kernel
theorem inX1 : ∀ w ∈ u_ws RX1 TX1 13, w ∈ TW := by decide +kernel
theorem inX2 : ∀ w ∈ u_ws RX2 TX2 4, w ∈ TW := by decide +kernel
theorem inX3 : ∀ w ∈ u_ws RX3 TX3 5, w ∈ TW := by decide +kernel
theorem inX4 : ∀ w ∈ u_ws RX4 TX4 7, w ∈ TW := by decide +kernel
theorem inX5 : ∀ w ∈ u_ws RX5 TX5 5, w ∈ TW := by decide +kernel
theorem inX6 : ∀ w ∈ u_ws RX6 TX6 5, w ∈ TW := by decide +kernel
theorem inX7 : ∀ w ∈ u_ws RX7 TX7 3, w ∈ TW := by decide +kernel
theorem inX8 : ∀ w ∈ u_ws RX8 TX8 10, w ∈ TW := by decide +kernel
theorem inX9 : ∀ w ∈ u_ws RX9 TX9 49, w ∈ TW := by decide +kernel
set_option maxRecDepth 100000 in
theorem w_32 : Cond.fieldLink RX0 9 RX0 "list" "[I" ∈ TW := TW_t1 32 rfl rfl
set_option maxRecDepth 100000 in
theorem w_33 : Cond.fieldLink RX3 85 RX0 "list" "[I" ∈ TW := TW_t1 33 rfl rfl
set_option maxRecDepth 100000 in
theorem w_34 : Cond.fieldLink RX0 15 RX0 "publisher" "[I" ∈ TW := TW_t1 34 rfl rfl
set_option maxRecDepth 100000 in
theorem w_35 : Cond.fieldLink RX5 29 RX0 "publisher" "[I" ∈ TW := TW_t1 35 rfl rfl
set_option maxRecDepth 100000 in
theorem w_36 : Cond.fieldLink RX1 107 RX0 "publisher" "[I" ∈ TW := TW_t1 36 rfl rfl
set_option maxRecDepth 100000 in
theorem w_37 : Cond.fieldLink RX3 88 RX0 "publisher" "[I" ∈ TW := TW_t1 37 rfl rfl
set_option maxRecDepth 100000 in
theorem w_38 : Cond.fieldLink RX8 172 RX0 "publisher" "[I" ∈ TW := TW_t1 38 rfl rfl
set_option maxRecDepth 100000 in
theorem w_39 : Cond.fieldLink RX0 18 RX0 "number" "[I" ∈ TW := TW_t1 39 rfl rfl
set_option maxRecDepth 100000 in
theorem w_40 : Cond.fieldLink RX5 33 RX0 "number" "[I" ∈ TW := TW_t1 40 rfl rfl
set_option maxRecDepth 100000 in
theorem w_41 : Cond.fieldLink RX1 110 RX0 "number" "[I" ∈ TW := TW_t1 41 rfl rfl
set_option maxRecDepth 100000 in
theorem w_42 : Cond.fieldLink RX3 82 RX0 "number" "[I" ∈ TW := TW_t1 42 rfl rfl
set_option maxRecDepth 100000 in
theorem w_43 : Cond.fieldLink RX8 178 RX0 "number" "[I" ∈ TW := TW_t1 43 rfl rfl
set_option maxRecDepth 100000 in
theorem w_44 : Cond.fieldLink RX0 21 RX0 "backOf" "[I" ∈ TW := TW_t1 44 rfl rfl
set_option maxRecDepth 100000 in
theorem w_45 : Cond.fieldLink RX1 85 RX0 "backOf" "[I" ∈ TW := TW_t1 45 rfl rfl
set_option maxRecDepth 100000 in
theorem w_46 : Cond.fieldLink RX3 91 RX0 "backOf" "[I" ∈ TW := TW_t1 46 rfl rfl
set_option maxRecDepth 100000 in
theorem w_47 : Cond.fieldLink RX8 316 RX0 "backOf" "[I" ∈ TW := TW_t1 47 rfl rfl
set_option maxRecDepth 100000 in
theorem w_48 : Cond.fieldLink RX0 24 RX0 "picture" "[J" ∈ TW := TW_t1 48 rfl rfl
set_option maxRecDepth 100000 in
theorem w_49 : Cond.fieldLink RX3 53 RX0 "picture" "[J" ∈ TW := TW_t1 49 rfl rfl
set_option maxRecDepth 100000 in
theorem w_50 : Cond.fieldLink RX0 28 RX0 "sky" "[I" ∈ TW := TW_t1 50 rfl rfl
set_option maxRecDepth 100000 in
theorem w_51 : Cond.fieldLink RX3 40 RX0 "sky" "[I" ∈ TW := TW_t1 51 rfl rfl
set_option maxRecDepth 100000 in
theorem w_52 : Cond.fieldLink RX0 31 RX0 "posted" "[I" ∈ TW := TW_t1 52 rfl rfl
set_option maxRecDepth 100000 in
theorem w_53 : Cond.fieldLink RX1 90 RX0 "posted" "[I" ∈ TW := TW_t1 53 rfl rfl
set_option maxRecDepth 100000 in
theorem w_54 : Cond.fieldLink RX0 34 RX0 "toldOn" "[I" ∈ TW := TW_t1 54 rfl rfl
set_option maxRecDepth 100000 in
theorem w_55 : Cond.fieldLink RX0 37 RX0 "word" "[J" ∈ TW := TW_t1 55 rfl rfl
set_option maxRecDepth 100000 in
theorem w_56 : Cond.fieldLink RX8 101 RX0 "word" "[J" ∈ TW := TW_t1 56 rfl rfl
set_option maxRecDepth 100000 in
theorem w_57 : Cond.fieldLink RX3 75 RX0 "word" "[J" ∈ TW := TW_t1 57 rfl rfl
set_option maxRecDepth 100000 in
theorem w_58 : Cond.fieldLink RX0 40 RX0 "letters" "[I" ∈ TW := TW_t1 58 rfl rfl
set_option maxRecDepth 100000 in
theorem w_59 : Cond.fieldLink RX8 105 RX0 "letters" "[I" ∈ TW := TW_t1 59 rfl rfl
set_option maxRecDepth 100000 in
theorem w_60 : Cond.fieldLink RX3 72 RX0 "letters" "[I" ∈ TW := TW_t1 60 rfl rfl
set_option maxRecDepth 100000 in
theorem w_61 : Cond.fieldLink RX0 47 RX0 "size" "I" ∈ TW := TW_t1 61 rfl rfl
set_option maxRecDepth 100000 in
theorem w_62 : Cond.fieldLink RX3 31 RX0 "size" "I" ∈ TW := TW_t1 62 rfl rfl
set_option maxRecDepth 100000 in
theorem w_63 : Cond.fieldLink RX5 19 RX0 "size" "I" ∈ TW := TW_t1 63 rfl rfl
set_option maxRecDepth 100000 in
theorem w_64 : Cond.fieldLink RX8 76 RX0 "size" "I" ∈ TW := TW_t1 64 rfl rfl
set_option maxRecDepth 100000 in
theorem w_65 : Cond.fieldLink RX0 50 RX0 "theDay" "I" ∈ TW := TW_t1 65 rfl rfl
set_option maxRecDepth 100000 in
theorem w_66 : Cond.fieldLink RX8 109 RX0 "theDay" "I" ∈ TW := TW_t1 66 rfl rfl
set_option maxRecDepth 100000 in
theorem w_67 : Cond.fieldLink RX0 43 RX0 "asOf" "I" ∈ TW := TW_t1 67 rfl rfl
set_option maxRecDepth 100000 in
theorem w_68 : Cond.fieldLink RX8 115 RX0 "asOf" "I" ∈ TW := TW_t1 68 rfl rfl
set_option maxRecDepth 100000 in
theorem w_106 : Cond.fieldLink RX3 27 RX3 "album" "LViewCards$Album;" ∈ TW := TW_t1 106 rfl rfl
set_option maxRecDepth 100000 in
theorem w_107 : Cond.fieldLink RX3 11 RX3 "otherwise" "[[I" ∈ TW := TW_t1 107 rfl rfl
set_option maxRecDepth 100000 in
theorem w_108 : Cond.fieldLink RX8 122 RX3 "otherwise" "[[I" ∈ TW := TW_t1 108 rfl rfl
set_option maxRecDepth 100000 in
theorem w_109 : Cond.fieldLink RX3 16 RX3 "changes" "[[I" ∈ TW := TW_t1 109 rfl rfl
set_option maxRecDepth 100000 in
theorem w_110 : Cond.fieldLink RX8 138 RX3 "changes" "[[I" ∈ TW := TW_t1 110 rfl rfl
set_option maxRecDepth 100000 in
theorem w_111 : Cond.fieldLink RX3 19 RX3 "row" "[I" ∈ TW := TW_t1 111 rfl rfl
set_option maxRecDepth 100000 in
theorem w_112 : Cond.fieldLink RX3 23 RX3 "slack" "I" ∈ TW := TW_t1 112 rfl rfl
set_option maxRecDepth 100000 in
theorem w_113 : Cond.fieldLink RX8 112 RX3 "slack" "I" ∈ TW := TW_t1 113 rfl rfl
set_option maxRecDepth 100000 in
theorem w_131 : Cond.fieldLink RX5 15 RX5 "album" "LViewCards$Album;" ∈ TW := TW_t1 131 rfl rfl
set_option maxRecDepth 100000 in
theorem w_132 : Cond.fieldLink RX5 9 RX5 "isBorne" "[Z" ∈ TW := TW_t1 132 rfl rfl
set_option maxRecDepth 100000 in
theorem w_133 : Cond.fieldLink RX5 36 RX5 "size" "I" ∈ TW := TW_t1 133 rfl rfl
set_option maxRecDepth 100000 in
theorem w_134 : Cond.fieldLink RX8 184 RX5 "size" "I" ∈ TW := TW_t1 134 rfl rfl
set_option maxRecDepth 100000 in
theorem w_135 : Cond.fieldLink RX5 37 RX5 "least" "I" ∈ TW := TW_t1 135 rfl rfl
set_option maxRecDepth 100000 in
theorem w_136 : Cond.fieldLink RX8 185 RX5 "least" "I" ∈ TW := TW_t1 136 rfl rfl
set_option maxRecDepth 100000 in
theorem w_137 : Cond.fieldLink RX5 40 RX5 "greatest" "I" ∈ TW := TW_t1 137 rfl rfl
set_option maxRecDepth 100000 in
theorem w_138 : Cond.fieldLink RX8 188 RX5 "greatest" "I" ∈ TW := TW_t1 138 rfl rfl
set_option maxRecDepth 100000 in
theorem w_164 : Cond.fieldLink RX7 9 RX7 "from" "[I" ∈ TW := TW_t1 164 rfl rfl
set_option maxRecDepth 100000 in
theorem w_165 : Cond.fieldLink RX1 133 RX7 "from" "[I" ∈ TW := TW_t1 165 rfl rfl
set_option maxRecDepth 100000 in
theorem w_166 : Cond.fieldLink RX8 253 RX7 "from" "[I" ∈ TW := TW_t1 166 rfl rfl
set_option maxRecDepth 100000 in
theorem w_167 : Cond.fieldLink RX7 15 RX7 "to" "[I" ∈ TW := TW_t1 167 rfl rfl
set_option maxRecDepth 100000 in
theorem w_168 : Cond.fieldLink RX1 136 RX7 "to" "[I" ∈ TW := TW_t1 168 rfl rfl
set_option maxRecDepth 100000 in
theorem w_169 : Cond.fieldLink RX8 258 RX7 "to" "[I" ∈ TW := TW_t1 169 rfl rfl
set_option maxRecDepth 100000 in
theorem w_170 : Cond.fieldLink RX7 18 RX7 "isChanged" "Z" ∈ TW := TW_t1 170 rfl rfl
set_option maxRecDepth 100000 in
theorem w_171 : Cond.fieldLink RX1 126 RX7 "isChanged" "Z" ∈ TW := TW_t1 171 rfl rfl
set_option maxRecDepth 100000 in
theorem w_179 : Cond.fieldLink RX1 48 RX1 "album" "LViewCards$Album;" ∈ TW := TW_t1 179 rfl rfl
set_option maxRecDepth 100000 in
theorem w_180 : Cond.fieldLink RX1 52 RX1 "kin" "LViewCards$Kin;" ∈ TW := TW_t1 180 rfl rfl
set_option maxRecDepth 100000 in
theorem w_181 : Cond.fieldLink RX1 9 RX1 "featureFrom" "[I" ∈ TW := TW_t1 181 rfl rfl
set_option maxRecDepth 100000 in
theorem w_182 : Cond.fieldLink RX8 218 RX1 "featureFrom" "[I" ∈ TW := TW_t1 182 rfl rfl
set_option maxRecDepth 100000 in
theorem w_183 : Cond.fieldLink RX1 15 RX1 "featureTo" "[I" ∈ TW := TW_t1 183 rfl rfl
set_option maxRecDepth 100000 in
theorem w_184 : Cond.fieldLink RX8 221 RX1 "featureTo" "[I" ∈ TW := TW_t1 184 rfl rfl
set_option maxRecDepth 100000 in
theorem w_185 : Cond.fieldLink RX1 18 RX1 "backFrom" "[I" ∈ TW := TW_t1 185 rfl rfl
set_option maxRecDepth 100000 in
theorem w_186 : Cond.fieldLink RX8 227 RX1 "backFrom" "[I" ∈ TW := TW_t1 186 rfl rfl
set_option maxRecDepth 100000 in
theorem w_187 : Cond.fieldLink RX1 21 RX1 "backTo" "[I" ∈ TW := TW_t1 187 rfl rfl
set_option maxRecDepth 100000 in
theorem w_188 : Cond.fieldLink RX8 230 RX1 "backTo" "[I" ∈ TW := TW_t1 188 rfl rfl
set_option maxRecDepth 100000 in
theorem w_189 : Cond.fieldLink RX1 26 RX1 "showing" "[[I" ∈ TW := TW_t1 189 rfl rfl
set_option maxRecDepth 100000 in
theorem w_190 : Cond.fieldLink RX8 224 RX1 "showing" "[[I" ∈ TW := TW_t1 190 rfl rfl
set_option maxRecDepth 100000 in
theorem w_191 : Cond.fieldLink RX1 29 RX1 "laterOne" "[I" ∈ TW := TW_t1 191 rfl rfl
set_option maxRecDepth 100000 in
theorem w_192 : Cond.fieldLink RX8 236 RX1 "laterOne" "[I" ∈ TW := TW_t1 192 rfl rfl
set_option maxRecDepth 100000 in
theorem w_193 : Cond.fieldLink RX1 32 RX1 "earlierOne" "[I" ∈ TW := TW_t1 193 rfl rfl
set_option maxRecDepth 100000 in
theorem w_194 : Cond.fieldLink RX8 239 RX1 "earlierOne" "[I" ∈ TW := TW_t1 194 rfl rfl
set_option maxRecDepth 100000 in
theorem w_195 : Cond.fieldLink RX1 139 RX1 "laters" "I" ∈ TW := TW_t1 195 rfl rfl
set_option maxRecDepth 100000 in
theorem w_196 : Cond.fieldLink RX8 233 RX1 "laters" "I" ∈ TW := TW_t1 196 rfl rfl
set_option maxRecDepth 100000 in
theorem w_197 : Cond.fieldLink RX1 38 RX1 "taken" "LViewCards$Spans;" ∈ TW := TW_t1 197 rfl rfl
set_option maxRecDepth 100000 in
theorem w_198 : Cond.fieldLink RX8 249 RX1 "taken" "LViewCards$Spans;" ∈ TW := TW_t1 198 rfl rfl
set_option maxRecDepth 100000 in
theorem w_199 : Cond.fieldLink RX1 42 RX1 "published" "LViewCards$Spans;" ∈ TW := TW_t1 199 rfl rfl
set_option maxRecDepth 100000 in
theorem w_200 : Cond.fieldLink RX8 261 RX1 "published" "LViewCards$Spans;" ∈ TW := TW_t1 200 rfl rfl
set_option maxRecDepth 100000 in
theorem w_201 : Cond.fieldLink RX1 45 RX1 "leader" "[I" ∈ TW := TW_t1 201 rfl rfl
set_option maxRecDepth 100000 in
theorem w_202 : Cond.fieldLink RX8 246 RX1 "leader" "[I" ∈ TW := TW_t1 202 rfl rfl
set_option maxRecDepth 100000 in
theorem w_237 : Cond.fieldLink RX2 9 RX2 "cellOf" "[I" ∈ TW := TW_t1 237 rfl rfl
set_option maxRecDepth 100000 in
theorem w_238 : Cond.fieldLink RX8 264 RX2 "cellOf" "[I" ∈ TW := TW_t1 238 rfl rfl
set_option maxRecDepth 100000 in
theorem w_239 : Cond.fieldLink RX2 23 RX2 "walled" "J" ∈ TW := TW_t1 239 rfl rfl
set_option maxRecDepth 100000 in
theorem w_240 : Cond.fieldLink RX8 267 RX2 "walled" "J" ∈ TW := TW_t2 0 rfl rfl
set_option maxRecDepth 100000 in
theorem w_241 : Cond.fieldLink RX2 17 RX2 "seen" "[[I" ∈ TW := TW_t2 1 rfl rfl
set_option maxRecDepth 100000 in
theorem w_242 : Cond.fieldLink RX8 277 RX2 "seen" "[[I" ∈ TW := TW_t2 2 rfl rfl
set_option maxRecDepth 100000 in
theorem w_243 : Cond.fieldLink RX2 20 RX2 "inView" "[I" ∈ TW := TW_t2 3 rfl rfl
set_option maxRecDepth 100000 in
theorem w_244 : Cond.fieldLink RX8 274 RX2 "inView" "[I" ∈ TW := TW_t2 4 rfl rfl
set_option maxRecDepth 100000 in
theorem w_260 : Cond.fieldLink RX6 9 RX6 "text" "[I" ∈ TW := TW_t2 20 rfl rfl
set_option maxRecDepth 100000 in
theorem w_261 : Cond.fieldLink RX8 292 RX6 "text" "[I" ∈ TW := TW_t2 21 rfl rfl
set_option maxRecDepth 100000 in
theorem w_262 : Cond.fieldLink RX6 43 RX6 "size" "I" ∈ TW := TW_t2 22 rfl rfl
set_option maxRecDepth 100000 in
theorem w_263 : Cond.fieldLink RX8 291 RX6 "size" "I" ∈ TW := TW_t2 23 rfl rfl
set_option maxRecDepth 100000 in
theorem w_264 : Cond.fieldLink RX6 40 RX6 "start" "I" ∈ TW := TW_t2 24 rfl rfl
set_option maxRecDepth 100000 in
theorem w_265 : Cond.fieldLink RX6 21 RX6 "end" "I" ∈ TW := TW_t2 25 rfl rfl
set_option maxRecDepth 100000 in
theorem w_266 : Cond.fieldLink RX6 24 RX6 "wrongAt" "I" ∈ TW := TW_t2 26 rfl rfl
set_option maxRecDepth 100000 in
theorem w_284 : Cond.fieldLink RX4 9 RX4 "publisher" "[I" ∈ TW := TW_t2 44 rfl rfl
set_option maxRecDepth 100000 in
theorem w_285 : Cond.fieldLink RX6 65 RX4 "publisher" "[I" ∈ TW := TW_t2 45 rfl rfl
set_option maxRecDepth 100000 in
theorem w_286 : Cond.fieldLink RX4 15 RX4 "first" "[I" ∈ TW := TW_t2 46 rfl rfl
set_option maxRecDepth 100000 in
theorem w_287 : Cond.fieldLink RX6 68 RX4 "first" "[I" ∈ TW := TW_t2 47 rfl rfl
set_option maxRecDepth 100000 in
theorem w_288 : Cond.fieldLink RX4 18 RX4 "last" "[I" ∈ TW := TW_t2 48 rfl rfl
set_option maxRecDepth 100000 in
theorem w_289 : Cond.fieldLink RX6 71 RX4 "last" "[I" ∈ TW := TW_t2 49 rfl rfl
set_option maxRecDepth 100000 in
theorem w_290 : Cond.fieldLink RX4 21 RX4 "isOfDays" "[Z" ∈ TW := TW_t2 50 rfl rfl
set_option maxRecDepth 100000 in
theorem w_291 : Cond.fieldLink RX6 74 RX4 "isOfDays" "[Z" ∈ TW := TW_t2 51 rfl rfl
set_option maxRecDepth 100000 in
theorem w_292 : Cond.fieldLink RX1 103 RX4 "isOfDays" "[Z" ∈ TW := TW_t2 52 rfl rfl
set_option maxRecDepth 100000 in
theorem w_293 : Cond.fieldLink RX8 300 RX4 "isOfDays" "[Z" ∈ TW := TW_t2 53 rfl rfl
set_option maxRecDepth 100000 in
theorem w_294 : Cond.fieldLink RX4 25 RX4 "low" "[I" ∈ TW := TW_t2 54 rfl rfl
set_option maxRecDepth 100000 in
theorem w_295 : Cond.fieldLink RX6 78 RX4 "low" "[I" ∈ TW := TW_t2 55 rfl rfl
set_option maxRecDepth 100000 in
theorem w_296 : Cond.fieldLink RX1 117 RX4 "low" "[I" ∈ TW := TW_t2 56 rfl rfl
set_option maxRecDepth 100000 in
theorem w_297 : Cond.fieldLink RX8 307 RX4 "low" "[I" ∈ TW := TW_t2 57 rfl rfl
set_option maxRecDepth 100000 in
theorem w_298 : Cond.fieldLink RX4 28 RX4 "high" "[I" ∈ TW := TW_t2 58 rfl rfl
set_option maxRecDepth 100000 in
theorem w_299 : Cond.fieldLink RX6 81 RX4 "high" "[I" ∈ TW := TW_t2 59 rfl rfl
set_option maxRecDepth 100000 in
theorem w_300 : Cond.fieldLink RX1 123 RX4 "high" "[I" ∈ TW := TW_t2 60 rfl rfl
set_option maxRecDepth 100000 in
theorem w_301 : Cond.fieldLink RX8 310 RX4 "high" "[I" ∈ TW := TW_t2 61 rfl rfl
set_option maxRecDepth 100000 in
theorem w_302 : Cond.fieldLink RX6 15 RX4 "size" "I" ∈ TW := TW_t2 62 rfl rfl
set_option maxRecDepth 100000 in
theorem w_303 : Cond.fieldLink RX1 97 RX4 "size" "I" ∈ TW := TW_t2 63 rfl rfl
set_option maxRecDepth 100000 in
theorem w_304 : Cond.fieldLink RX8 299 RX4 "size" "I" ∈ TW := TW_t2 64 rfl rfl
set_option maxRecDepth 100000 in
theorem w_320 : Cond.fieldLink RX8 10 RX8 "album" "LViewCards$Album;" ∈ TW := TW_t2 80 rfl rfl
set_option maxRecDepth 100000 in
theorem w_321 : Cond.fieldLink RX8 21 RX8 "kin" "LViewCards$Kin;" ∈ TW := TW_t2 81 rfl rfl
set_option maxRecDepth 100000 in
theorem w_322 : Cond.fieldLink RX8 28 RX8 "numbers" "LViewCards$Numbers;" ∈ TW := TW_t2 82 rfl rfl
set_option maxRecDepth 100000 in
theorem w_323 : Cond.fieldLink RX8 37 RX8 "dating" "LViewCards$Dating;" ∈ TW := TW_t2 83 rfl rfl
set_option maxRecDepth 100000 in
theorem w_324 : Cond.fieldLink RX8 44 RX8 "ground" "LViewCards$Ground;" ∈ TW := TW_t2 84 rfl rfl
set_option maxRecDepth 100000 in
theorem w_325 : Cond.fieldLink RX8 51 RX8 "reader" "LViewCards$Reader;" ∈ TW := TW_t2 85 rfl rfl
set_option maxRecDepth 100000 in
theorem w_326 : Cond.fieldLink RX8 58 RX8 "noLines" "LViewCards$Lines;" ∈ TW := TW_t2 86 rfl rfl
set_option maxRecDepth 100000 in
theorem w_327 : Cond.fieldLink RX8 62 RX8 "lines" "LViewCards$Lines;" ∈ TW := TW_t2 87 rfl rfl
set_option maxRecDepth 100000 in
theorem w_328 : Cond.fieldLink RX8 65 RX8 "draft" "LViewCards$Lines;" ∈ TW := TW_t2 88 rfl rfl
set_option maxRecDepth 100000 in
theorem w_329 : Cond.fieldLink RX8 68 RX8 "base" "I" ∈ TW := TW_t2 89 rfl rfl
set_option maxRecDepth 100000 in
theorem w_834 : Cond.fieldLink RX9 117 RX9 "cards" "I" ∈ TW := TW_t4 114 rfl rfl
set_option maxRecDepth 100000 in
theorem w_835 : Cond.fieldLink RX9 7 RX9 "listOf" "[I" ∈ TW := TW_t4 115 rfl rfl
set_option maxRecDepth 100000 in
theorem w_836 : Cond.fieldLink RX9 13 RX9 "publisher" "[I" ∈ TW := TW_t4 116 rfl rfl
set_option maxRecDepth 100000 in
theorem w_837 : Cond.fieldLink RX9 16 RX9 "numberOf" "[I" ∈ TW := TW_t4 117 rfl rfl
set_option maxRecDepth 100000 in
theorem w_838 : Cond.fieldLink RX9 19 RX9 "backOf" "[I" ∈ TW := TW_t4 118 rfl rfl
set_option maxRecDepth 100000 in
theorem w_839 : Cond.fieldLink RX9 22 RX9 "picture" "[J" ∈ TW := TW_t4 119 rfl rfl
set_option maxRecDepth 100000 in
theorem w_840 : Cond.fieldLink RX9 26 RX9 "sky" "[I" ∈ TW := TW_t4 120 rfl rfl
set_option maxRecDepth 100000 in
theorem w_841 : Cond.fieldLink RX9 29 RX9 "posted" "[I" ∈ TW := TW_t4 121 rfl rfl
set_option maxRecDepth 100000 in
theorem w_842 : Cond.fieldLink RX9 32 RX9 "toldOn" "[I" ∈ TW := TW_t4 122 rfl rfl
set_option maxRecDepth 100000 in
theorem w_843 : Cond.fieldLink RX9 35 RX9 "letters" "[I" ∈ TW := TW_t4 123 rfl rfl
set_option maxRecDepth 100000 in
theorem w_844 : Cond.fieldLink RX9 38 RX9 "caption" "[I" ∈ TW := TW_t4 124 rfl rfl
set_option maxRecDepth 100000 in
theorem w_845 : Cond.fieldLink RX9 132 RX9 "day" "I" ∈ TW := TW_t4 125 rfl rfl
set_option maxRecDepth 100000 in
theorem w_846 : Cond.fieldLink RX9 41 RX9 "slack" "I" ∈ TW := TW_t4 126 rfl rfl
set_option maxRecDepth 100000 in
theorem w_847 : Cond.fieldLink RX9 45 RX9 "asOf" "I" ∈ TW := TW_t4 127 rfl rfl
set_option maxRecDepth 100000 in
theorem w_848 : Cond.fieldLink RX9 48 RX9 "base" "I" ∈ TW := TW_t4 128 rfl rfl
set_option maxRecDepth 100000 in
theorem w_849 : Cond.fieldLink RX9 51 RX9 "unlike" "[I" ∈ TW := TW_t4 129 rfl rfl
set_option maxRecDepth 100000 in
theorem w_850 : Cond.fieldLink RX9 54 RX9 "negatives" "[I" ∈ TW := TW_t4 130 rfl rfl
set_option maxRecDepth 100000 in
theorem w_851 : Cond.fieldLink RX9 57 RX9 "ones" "[I" ∈ TW := TW_t4 131 rfl rfl
set_option maxRecDepth 100000 in
theorem w_852 : Cond.fieldLink RX9 60 RX9 "row" "[I" ∈ TW := TW_t4 132 rfl rfl
set_option maxRecDepth 100000 in
theorem w_853 : Cond.fieldLink RX9 63 RX9 "rowNext" "[I" ∈ TW := TW_t4 133 rfl rfl
set_option maxRecDepth 100000 in
theorem w_854 : Cond.fieldLink RX9 66 RX9 "featureFrom" "[I" ∈ TW := TW_t4 134 rfl rfl
set_option maxRecDepth 100000 in
theorem w_855 : Cond.fieldLink RX9 69 RX9 "featureTo" "[I" ∈ TW := TW_t4 135 rfl rfl
set_option maxRecDepth 100000 in
theorem w_856 : Cond.fieldLink RX9 72 RX9 "shown" "[I" ∈ TW := TW_t4 136 rfl rfl
set_option maxRecDepth 100000 in
theorem w_857 : Cond.fieldLink RX9 75 RX9 "backFrom" "[I" ∈ TW := TW_t4 137 rfl rfl
set_option maxRecDepth 100000 in
theorem w_858 : Cond.fieldLink RX9 78 RX9 "backTo" "[I" ∈ TW := TW_t4 138 rfl rfl
set_option maxRecDepth 100000 in
theorem w_859 : Cond.fieldLink RX9 201 RX9 "laters" "I" ∈ TW := TW_t4 139 rfl rfl
set_option maxRecDepth 100000 in
theorem w_860 : Cond.fieldLink RX9 81 RX9 "laterA" "[I" ∈ TW := TW_t4 140 rfl rfl
set_option maxRecDepth 100000 in
theorem w_861 : Cond.fieldLink RX9 84 RX9 "laterB" "[I" ∈ TW := TW_t4 141 rfl rfl
set_option maxRecDepth 100000 in
theorem w_862 : Cond.fieldLink RX9 87 RX9 "takenFrom" "[I" ∈ TW := TW_t4 142 rfl rfl
set_option maxRecDepth 100000 in
theorem w_863 : Cond.fieldLink RX9 90 RX9 "takenTo" "[I" ∈ TW := TW_t4 143 rfl rfl
set_option maxRecDepth 100000 in
theorem w_864 : Cond.fieldLink RX9 93 RX9 "outFrom" "[I" ∈ TW := TW_t4 144 rfl rfl
set_option maxRecDepth 100000 in
theorem w_865 : Cond.fieldLink RX9 96 RX9 "outTo" "[I" ∈ TW := TW_t4 145 rfl rfl
set_option maxRecDepth 100000 in
theorem w_866 : Cond.fieldLink RX9 204 RX9 "isNarrowed" "Z" ∈ TW := TW_t4 146 rfl rfl
set_option maxRecDepth 100000 in
theorem w_867 : Cond.fieldLink RX9 99 RX9 "landmarks" "[I" ∈ TW := TW_t4 147 rfl rfl
set_option maxRecDepth 100000 in
theorem w_868 : Cond.fieldLink RX9 232 RX9 "walls" "J" ∈ TW := TW_t4 148 rfl rfl
set_option maxRecDepth 100000 in
theorem w_869 : Cond.fieldLink RX9 102 RX9 "views" "[I" ∈ TW := TW_t4 149 rfl rfl
set_option maxRecDepth 100000 in
theorem w_870 : Cond.fieldLink RX9 105 RX9 "view" "[I" ∈ TW := TW_t4 150 rfl rfl
set_option maxRecDepth 100000 in
theorem w_871 : Cond.fieldLink RX9 254 RX9 "bytes" "I" ∈ TW := TW_t4 151 rfl rfl
set_option maxRecDepth 100000 in
theorem w_872 : Cond.fieldLink RX9 108 RX9 "text" "[I" ∈ TW := TW_t4 152 rfl rfl
set_option maxRecDepth 100000 in
theorem w_873 : Cond.fieldLink RX9 257 RX9 "position" "I" ∈ TW := TW_t4 153 rfl rfl
set_option maxRecDepth 100000 in
theorem w_874 : Cond.fieldLink RX9 260 RX9 "tokenAt" "I" ∈ TW := TW_t4 154 rfl rfl
set_option maxRecDepth 100000 in
theorem w_875 : Cond.fieldLink RX9 271 RX9 "token" "J" ∈ TW := TW_t4 155 rfl rfl
set_option maxRecDepth 100000 in
theorem w_876 : Cond.fieldLink RX9 263 RX9 "digits" "I" ∈ TW := TW_t4 156 rfl rfl
set_option maxRecDepth 100000 in
theorem w_877 : Cond.fieldLink RX9 266 RX9 "number" "I" ∈ TW := TW_t4 157 rfl rfl
set_option maxRecDepth 100000 in
theorem w_878 : Cond.fieldLink RX9 282 RX9 "faultAt" "I" ∈ TW := TW_t4 158 rfl rfl
set_option maxRecDepth 100000 in
theorem w_879 : Cond.fieldLink RX9 309 RX9 "readMany" "I" ∈ TW := TW_t4 159 rfl rfl
set_option maxRecDepth 100000 in
theorem w_880 : Cond.fieldLink RX9 111 RX9 "read" "[I" ∈ TW := TW_t4 160 rfl rfl
set_option maxRecDepth 100000 in
theorem w_881 : Cond.fieldLink RX9 215 RX9 "lines" "I" ∈ TW := TW_t4 161 rfl rfl
set_option maxRecDepth 100000 in
theorem w_882 : Cond.fieldLink RX9 114 RX9 "line" "[I" ∈ TW := TW_t4 162 rfl rfl
set_option maxRecDepth 100000 in
theorem w_22 : Cond.code yX8_init cX8_init 1 none ∈ TW := TW_t1 22 rfl rfl
set_option maxRecDepth 100000 in
theorem w_1 : Cond.initialized "ViewCards" ∈ TW := TW_t1 1 rfl rfl
set_option maxRecDepth 100000 in
theorem w_20 : Cond.methodLink "ViewCardsLaw" 9 yX8_init ∈ TW := TW_t1 20 rfl rfl
set_option maxRecDepth 100000 in
theorem w_21 : Cond.instanceMethod yX8_init ∈ TW := TW_t1 21 rfl rfl
set_option maxRecDepth 100000 in
theorem w_102 : Cond.code yX3_init cX3_init 2 none ∈ TW := TW_t1 102 rfl rfl
set_option maxRecDepth 100000 in
theorem w_3 : Cond.initialized "ViewCards$Kin" ∈ TW := TW_t1 3 rfl rfl
set_option maxRecDepth 100000 in
theorem w_100 : Cond.methodLink RX8 18 yX3_init ∈ TW := TW_t1 100 rfl rfl
set_option maxRecDepth 100000 in
theorem w_101 : Cond.instanceMethod yX3_init ∈ TW := TW_t1 101 rfl rfl
set_option maxRecDepth 100000 in
theorem w_129 : Cond.code yX5_init cX5_init 2 none ∈ TW := TW_t1 129 rfl rfl
set_option maxRecDepth 100000 in
theorem w_4 : Cond.initialized "ViewCards$Numbers" ∈ TW := TW_t1 4 rfl rfl
set_option maxRecDepth 100000 in
theorem w_127 : Cond.methodLink RX8 27 yX5_init ∈ TW := TW_t1 127 rfl rfl
set_option maxRecDepth 100000 in
theorem w_128 : Cond.instanceMethod yX5_init ∈ TW := TW_t1 128 rfl rfl
set_option maxRecDepth 100000 in
theorem w_155 : Cond.code yX1_init cX1_init 5 none ∈ TW := TW_t1 155 rfl rfl
set_option maxRecDepth 100000 in
theorem w_5 : Cond.initialized "ViewCards$Dating" ∈ TW := TW_t1 5 rfl rfl
set_option maxRecDepth 100000 in
theorem w_153 : Cond.methodLink RX8 34 yX1_init ∈ TW := TW_t1 153 rfl rfl
set_option maxRecDepth 100000 in
theorem w_154 : Cond.instanceMethod yX1_init ∈ TW := TW_t1 154 rfl rfl
set_option maxRecDepth 100000 in
theorem w_234 : Cond.code yX2_init cX2_init 2 none ∈ TW := TW_t1 234 rfl rfl
set_option maxRecDepth 100000 in
theorem w_7 : Cond.initialized "ViewCards$Ground" ∈ TW := TW_t1 7 rfl rfl
set_option maxRecDepth 100000 in
theorem w_232 : Cond.methodLink RX8 43 yX2_init ∈ TW := TW_t1 232 rfl rfl
set_option maxRecDepth 100000 in
theorem w_233 : Cond.instanceMethod yX2_init ∈ TW := TW_t1 233 rfl rfl
set_option maxRecDepth 100000 in
theorem w_354 : Cond.code yX8_card cX8_card 10 (some .int) ∈ TW := TW_t2 114 rfl rfl
set_option maxRecDepth 100000 in
theorem w_351 : Cond.methodLink "ViewCardsLaw" 15 yX8_card ∈ TW := TW_t2 111 rfl rfl
set_option maxRecDepth 100000 in
theorem w_352 : Cond.instanceMethod yX8_card ∈ TW := TW_t2 112 rfl rfl
set_option maxRecDepth 100000 in
theorem w_353 : Cond.selects yX8_card.cls yX8_card yX8_card ∈ TW := TW_t2 113 rfl rfl
set_option maxRecDepth 100000 in
theorem w_357 : Cond.code yX8_isWithin cX8_isWithin 3 (some .boolean) ∈ TW := TW_t2 117 rfl rfl
set_option maxRecDepth 100000 in
theorem w_355 : Cond.methodLink RX8 72 yX8_isWithin ∈ TW := TW_t2 115 rfl rfl
set_option maxRecDepth 100000 in
theorem w_356 : Cond.static yX8_isWithin ∈ TW := TW_t2 116 rfl rfl
set_option maxRecDepth 100000 in
theorem w_361 : Cond.code yX0_tell cX0_tell 9 none ∈ TW := TW_t2 121 rfl rfl
set_option maxRecDepth 100000 in
theorem w_2 : Cond.initialized "ViewCards$Album" ∈ TW := TW_t1 2 rfl rfl
set_option maxRecDepth 100000 in
theorem w_358 : Cond.methodLink RX8 79 yX0_tell ∈ TW := TW_t2 118 rfl rfl
set_option maxRecDepth 100000 in
theorem w_359 : Cond.instanceMethod yX0_tell ∈ TW := TW_t2 119 rfl rfl
set_option maxRecDepth 100000 in
theorem w_360 : Cond.selects yX0_tell.cls yX0_tell yX0_tell ∈ TW := TW_t2 120 rfl rfl
set_option maxRecDepth 100000 in
theorem w_365 : Cond.code yX3_comparePicture cX3_comparePicture 4 none ∈ TW := TW_t2 125 rfl rfl
set_option maxRecDepth 100000 in
theorem w_362 : Cond.methodLink RX8 83 yX3_comparePicture ∈ TW := TW_t2 122 rfl rfl
set_option maxRecDepth 100000 in
theorem w_363 : Cond.instanceMethod yX3_comparePicture ∈ TW := TW_t2 123 rfl rfl
set_option maxRecDepth 100000 in
theorem w_364 : Cond.selects yX3_comparePicture.cls yX3_comparePicture yX3_comparePicture ∈ TW := TW_t2 124 rfl rfl
set_option maxRecDepth 100000 in
theorem w_369 : Cond.code yX3_fewestOtherwise cX3_fewestOtherwise 11 (some .int) ∈ TW := TW_t2 129 rfl rfl
set_option maxRecDepth 100000 in
theorem w_366 : Cond.methodLink RX3 36 yX3_fewestOtherwise ∈ TW := TW_t2 126 rfl rfl
set_option maxRecDepth 100000 in
theorem w_368 : Cond.instanceMethod yX3_fewestOtherwise ∈ TW := TW_t2 128 rfl rfl
set_option maxRecDepth 100000 in
theorem ws_0 : Cond.selects yX3_fewestOtherwise.cls yX3_fewestOtherwise yX3_fewestOtherwise ∈ TW := TW_pr 0 rfl rfl
set_option maxRecDepth 100000 in
theorem w_372 : Cond.code yX3_cellsInBoth cX3_cellsInBoth 11 (some .long) ∈ TW := TW_t2 132 rfl rfl
set_option maxRecDepth 100000 in
theorem w_370 : Cond.methodLink RX3 43 yX3_cellsInBoth ∈ TW := TW_t2 130 rfl rfl
set_option maxRecDepth 100000 in
theorem w_371 : Cond.static yX3_cellsInBoth ∈ TW := TW_t2 131 rfl rfl
set_option maxRecDepth 100000 in
theorem w_381 : Cond.code yJ13_bitCount_95d88 cJ13_bitCount_95d88 2 (some .int) ∈ TW := TW_t2 141 rfl rfl
set_option maxRecDepth 100000 in
theorem w_12 : Cond.initialized "java/lang/Long" ∈ TW := TW_t1 12 rfl rfl
set_option maxRecDepth 100000 in
theorem w_379 : Cond.methodLink RX3 47 yJ13_bitCount_95d88 ∈ TW := TW_t2 139 rfl rfl
set_option maxRecDepth 100000 in
theorem w_380 : Cond.static yJ13_bitCount_95d88 ∈ TW := TW_t2 140 rfl rfl
set_option maxRecDepth 100000 in
theorem w_387 : Cond.code yX3_moved cX3_moved 3 (some .long) ∈ TW := TW_t2 147 rfl rfl
set_option maxRecDepth 100000 in
theorem w_385 : Cond.methodLink RX3 57 yX3_moved ∈ TW := TW_t2 145 rfl rfl
set_option maxRecDepth 100000 in
theorem w_386 : Cond.static yX3_moved ∈ TW := TW_t2 146 rfl rfl
set_option maxRecDepth 100000 in
theorem w_391 : Cond.code yX3_compareWord cX3_compareWord 4 none ∈ TW := TW_t2 151 rfl rfl
set_option maxRecDepth 100000 in
theorem w_388 : Cond.methodLink RX8 87 yX3_compareWord ∈ TW := TW_t2 148 rfl rfl
set_option maxRecDepth 100000 in
theorem w_389 : Cond.instanceMethod yX3_compareWord ∈ TW := TW_t2 149 rfl rfl
set_option maxRecDepth 100000 in
theorem w_390 : Cond.selects yX3_compareWord.cls yX3_compareWord yX3_compareWord ∈ TW := TW_t2 150 rfl rfl
set_option maxRecDepth 100000 in
theorem w_395 : Cond.code yX3_fewestChanges cX3_fewestChanges 10 (some .int) ∈ TW := TW_t2 155 rfl rfl
set_option maxRecDepth 100000 in
theorem w_392 : Cond.methodLink RX3 69 yX3_fewestChanges ∈ TW := TW_t2 152 rfl rfl
set_option maxRecDepth 100000 in
theorem w_394 : Cond.instanceMethod yX3_fewestChanges ∈ TW := TW_t2 154 rfl rfl
set_option maxRecDepth 100000 in
theorem ws_1 : Cond.selects yX3_fewestChanges.cls yX3_fewestChanges yX3_fewestChanges ∈ TW := TW_pr 1 rfl rfl
set_option maxRecDepth 100000 in
theorem w_403 : Cond.code yX8_caption cX8_caption 6 (some .int) ∈ TW := TW_t2 163 rfl rfl
set_option maxRecDepth 100000 in
theorem w_400 : Cond.methodLink "ViewCardsLaw" 20 yX8_caption ∈ TW := TW_t2 160 rfl rfl
set_option maxRecDepth 100000 in
theorem w_401 : Cond.instanceMethod yX8_caption ∈ TW := TW_t2 161 rfl rfl
set_option maxRecDepth 100000 in
theorem w_402 : Cond.selects yX8_caption.cls yX8_caption yX8_caption ∈ TW := TW_t2 162 rfl rfl
set_option maxRecDepth 100000 in
theorem w_407 : Cond.code yX0_isThere cX0_isThere 2 (some .boolean) ∈ TW := TW_t2 167 rfl rfl
set_option maxRecDepth 100000 in
theorem w_404 : Cond.methodLink RX8 90 yX0_isThere ∈ TW := TW_t2 164 rfl rfl
set_option maxRecDepth 100000 in
theorem w_405 : Cond.instanceMethod yX0_isThere ∈ TW := TW_t2 165 rfl rfl
set_option maxRecDepth 100000 in
theorem w_406 : Cond.selects yX0_isThere.cls yX0_isThere yX0_isThere ∈ TW := TW_t2 166 rfl rfl
set_option maxRecDepth 100000 in
theorem w_398 : Cond.code yX8_byteOf cX8_byteOf 3 (some .int) ∈ TW := TW_t2 158 rfl rfl
set_option maxRecDepth 100000 in
theorem w_408 : Cond.methodLink RX8 94 yX8_byteOf ∈ TW := TW_t2 168 rfl rfl
set_option maxRecDepth 100000 in
theorem w_397 : Cond.static yX8_byteOf ∈ TW := TW_t2 157 rfl rfl
set_option maxRecDepth 100000 in
theorem w_411 : Cond.code yX8_isLetter cX8_isLetter 1 (some .boolean) ∈ TW := TW_t2 171 rfl rfl
set_option maxRecDepth 100000 in
theorem w_409 : Cond.methodLink RX8 98 yX8_isLetter ∈ TW := TW_t2 169 rfl rfl
set_option maxRecDepth 100000 in
theorem w_410 : Cond.static yX8_isLetter ∈ TW := TW_t2 170 rfl rfl
set_option maxRecDepth 100000 in
theorem w_415 : Cond.code yX8_days cX8_days 2 (some .int) ∈ TW := TW_t2 175 rfl rfl
set_option maxRecDepth 100000 in
theorem w_412 : Cond.methodLink "ViewCardsLaw" 25 yX8_days ∈ TW := TW_t2 172 rfl rfl
set_option maxRecDepth 100000 in
theorem w_413 : Cond.instanceMethod yX8_days ∈ TW := TW_t2 173 rfl rfl
set_option maxRecDepth 100000 in
theorem w_414 : Cond.selects yX8_days.cls yX8_days yX8_days ∈ TW := TW_t2 174 rfl rfl
set_option maxRecDepth 100000 in
theorem w_419 : Cond.code yX8_set cX8_set 4 (some .int) ∈ TW := TW_t2 179 rfl rfl
set_option maxRecDepth 100000 in
theorem w_416 : Cond.methodLink "ViewCardsLaw" 30 yX8_set ∈ TW := TW_t2 176 rfl rfl
set_option maxRecDepth 100000 in
theorem w_417 : Cond.instanceMethod yX8_set ∈ TW := TW_t2 177 rfl rfl
set_option maxRecDepth 100000 in
theorem w_418 : Cond.selects yX8_set.cls yX8_set yX8_set ∈ TW := TW_t2 178 rfl rfl
set_option maxRecDepth 100000 in
theorem w_423 : Cond.code yX8_difference cX8_difference 3 (some .int) ∈ TW := TW_t2 183 rfl rfl
set_option maxRecDepth 100000 in
theorem w_420 : Cond.methodLink "ViewCardsLaw" 35 yX8_difference ∈ TW := TW_t2 180 rfl rfl
set_option maxRecDepth 100000 in
theorem w_421 : Cond.instanceMethod yX8_difference ∈ TW := TW_t2 181 rfl rfl
set_option maxRecDepth 100000 in
theorem w_422 : Cond.selects yX8_difference.cls yX8_difference yX8_difference ∈ TW := TW_t2 182 rfl rfl
set_option maxRecDepth 100000 in
theorem w_427 : Cond.code yX8_areTwoThere cX8_areTwoThere 3 (some .boolean) ∈ TW := TW_t2 187 rfl rfl
set_option maxRecDepth 100000 in
theorem w_424 : Cond.methodLink RX8 118 yX8_areTwoThere ∈ TW := TW_t2 184 rfl rfl
set_option maxRecDepth 100000 in
theorem w_426 : Cond.instanceMethod yX8_areTwoThere ∈ TW := TW_t2 186 rfl rfl
set_option maxRecDepth 100000 in
theorem ws_2 : Cond.selects yX8_areTwoThere.cls yX8_areTwoThere yX8_areTwoThere ∈ TW := TW_pr 2 rfl rfl
set_option maxRecDepth 100000 in
theorem w_431 : Cond.code yX8_negative cX8_negative 2 (some .int) ∈ TW := TW_t2 191 rfl rfl
set_option maxRecDepth 100000 in
theorem w_428 : Cond.methodLink "ViewCardsLaw" 39 yX8_negative ∈ TW := TW_t2 188 rfl rfl
set_option maxRecDepth 100000 in
theorem w_429 : Cond.instanceMethod yX8_negative ∈ TW := TW_t2 189 rfl rfl
set_option maxRecDepth 100000 in
theorem w_430 : Cond.selects yX8_negative.cls yX8_negative yX8_negative ∈ TW := TW_t2 190 rfl rfl
set_option maxRecDepth 100000 in
theorem w_435 : Cond.code yX0_there cX0_there 3 (some .int) ∈ TW := TW_t2 195 rfl rfl
set_option maxRecDepth 100000 in
theorem w_432 : Cond.methodLink RX8 126 yX0_there ∈ TW := TW_t2 192 rfl rfl
set_option maxRecDepth 100000 in
theorem w_433 : Cond.instanceMethod yX0_there ∈ TW := TW_t2 193 rfl rfl
set_option maxRecDepth 100000 in
theorem w_434 : Cond.selects yX0_there.cls yX0_there yX0_there ∈ TW := TW_t2 194 rfl rfl
set_option maxRecDepth 100000 in
theorem w_436 : Cond.methodLink RX0 53 yX0_isThere ∈ TW := TW_t2 196 rfl rfl
set_option maxRecDepth 100000 in
theorem w_440 : Cond.code yX3_sameNegative cX3_sameNegative 3 (some .int) ∈ TW := TW_t2 200 rfl rfl
set_option maxRecDepth 100000 in
theorem w_437 : Cond.methodLink RX8 130 yX3_sameNegative ∈ TW := TW_t2 197 rfl rfl
set_option maxRecDepth 100000 in
theorem w_438 : Cond.instanceMethod yX3_sameNegative ∈ TW := TW_t2 198 rfl rfl
set_option maxRecDepth 100000 in
theorem w_439 : Cond.selects yX3_sameNegative.cls yX3_sameNegative yX3_sameNegative ∈ TW := TW_t2 199 rfl rfl
set_option maxRecDepth 100000 in
theorem w_444 : Cond.code yX3_chained cX3_chained 10 (some .int) ∈ TW := TW_t2 204 rfl rfl
set_option maxRecDepth 100000 in
theorem w_441 : Cond.methodLink RX3 98 yX3_chained ∈ TW := TW_t2 201 rfl rfl
set_option maxRecDepth 100000 in
theorem w_443 : Cond.instanceMethod yX3_chained ∈ TW := TW_t2 203 rfl rfl
set_option maxRecDepth 100000 in
theorem ws_3 : Cond.selects yX3_chained.cls yX3_chained yX3_chained ∈ TW := TW_pr 3 rfl rfl
set_option maxRecDepth 100000 in
theorem w_450 : Cond.code yJ6_bitCount_0f7a4 cJ6_bitCount_0f7a4 1 (some .int) ∈ TW := TW_t2 210 rfl rfl
set_option maxRecDepth 100000 in
theorem w_13 : Cond.initialized "java/lang/Integer" ∈ TW := TW_t1 13 rfl rfl
set_option maxRecDepth 100000 in
theorem w_448 : Cond.methodLink RX8 159 yJ6_bitCount_0f7a4 ∈ TW := TW_t2 208 rfl rfl
set_option maxRecDepth 100000 in
theorem w_449 : Cond.static yJ6_bitCount_0f7a4 ∈ TW := TW_t2 209 rfl rfl
set_option maxRecDepth 100000 in
theorem w_460 : Cond.code yX3_isMatch cX3_isMatch 4 (some .boolean) ∈ TW := TW_t2 220 rfl rfl
set_option maxRecDepth 100000 in
theorem w_457 : Cond.methodLink RX3 109 yX3_isMatch ∈ TW := TW_t2 217 rfl rfl
set_option maxRecDepth 100000 in
theorem w_458 : Cond.instanceMethod yX3_isMatch ∈ TW := TW_t2 218 rfl rfl
set_option maxRecDepth 100000 in
theorem w_459 : Cond.selects yX3_isMatch.cls yX3_isMatch yX3_isMatch ∈ TW := TW_t2 219 rfl rfl
set_option maxRecDepth 100000 in
theorem w_464 : Cond.code yX3_isLike cX3_isLike 3 (some .boolean) ∈ TW := TW_t2 224 rfl rfl
set_option maxRecDepth 100000 in
theorem w_461 : Cond.methodLink RX3 94 yX3_isLike ∈ TW := TW_t2 221 rfl rfl
set_option maxRecDepth 100000 in
theorem w_462 : Cond.instanceMethod yX3_isLike ∈ TW := TW_t2 222 rfl rfl
set_option maxRecDepth 100000 in
theorem w_463 : Cond.selects yX3_isLike.cls yX3_isLike yX3_isLike ∈ TW := TW_t2 223 rfl rfl
set_option maxRecDepth 100000 in
theorem w_447 : Cond.code yX8_lowest cX8_lowest 1 (some .int) ∈ TW := TW_t2 207 rfl rfl
set_option maxRecDepth 100000 in
theorem w_465 : Cond.methodLink RX8 134 yX8_lowest ∈ TW := TW_t2 225 rfl rfl
set_option maxRecDepth 100000 in
theorem w_446 : Cond.static yX8_lowest ∈ TW := TW_t2 206 rfl rfl
set_option maxRecDepth 100000 in
theorem w_469 : Cond.code yX8_far cX8_far 3 (some .int) ∈ TW := TW_t2 229 rfl rfl
set_option maxRecDepth 100000 in
theorem w_466 : Cond.methodLink "ViewCardsLaw" 43 yX8_far ∈ TW := TW_t2 226 rfl rfl
set_option maxRecDepth 100000 in
theorem w_467 : Cond.instanceMethod yX8_far ∈ TW := TW_t2 227 rfl rfl
set_option maxRecDepth 100000 in
theorem w_468 : Cond.selects yX8_far.cls yX8_far yX8_far ∈ TW := TW_t2 228 rfl rfl
set_option maxRecDepth 100000 in
theorem w_473 : Cond.code yX8_match cX8_match 3 (some .int) ∈ TW := TW_t2 233 rfl rfl
set_option maxRecDepth 100000 in
theorem w_470 : Cond.methodLink "ViewCardsLaw" 47 yX8_match ∈ TW := TW_t2 230 rfl rfl
set_option maxRecDepth 100000 in
theorem w_471 : Cond.instanceMethod yX8_match ∈ TW := TW_t2 231 rfl rfl
set_option maxRecDepth 100000 in
theorem w_472 : Cond.selects yX8_match.cls yX8_match yX8_match ∈ TW := TW_t2 232 rfl rfl
set_option maxRecDepth 100000 in
theorem w_474 : Cond.methodLink RX8 141 yX3_isMatch ∈ TW := TW_t2 234 rfl rfl
set_option maxRecDepth 100000 in
theorem w_478 : Cond.code yX8_of cX8_of 3 (some .int) ∈ TW := TW_t2 238 rfl rfl
set_option maxRecDepth 100000 in
theorem w_475 : Cond.methodLink "ViewCardsLaw" 51 yX8_of ∈ TW := TW_t2 235 rfl rfl
set_option maxRecDepth 100000 in
theorem w_476 : Cond.instanceMethod yX8_of ∈ TW := TW_t2 236 rfl rfl
set_option maxRecDepth 100000 in
theorem w_477 : Cond.selects yX8_of.cls yX8_of yX8_of ∈ TW := TW_t2 237 rfl rfl
set_option maxRecDepth 100000 in
theorem w_482 : Cond.code yX3_sameCard cX3_sameCard 3 (some .int) ∈ TW := TW_t3 2 rfl rfl
set_option maxRecDepth 100000 in
theorem w_479 : Cond.methodLink RX8 144 yX3_sameCard ∈ TW := TW_t2 239 rfl rfl
set_option maxRecDepth 100000 in
theorem w_480 : Cond.instanceMethod yX3_sameCard ∈ TW := TW_t3 0 rfl rfl
set_option maxRecDepth 100000 in
theorem w_481 : Cond.selects yX3_sameCard.cls yX3_sameCard yX3_sameCard ∈ TW := TW_t3 1 rfl rfl
set_option maxRecDepth 100000 in
theorem w_486 : Cond.code yX8_timesSeen cX8_timesSeen 2 (some .int) ∈ TW := TW_t3 6 rfl rfl
set_option maxRecDepth 100000 in
theorem w_483 : Cond.methodLink RX8 147 yX8_timesSeen ∈ TW := TW_t3 3 rfl rfl
set_option maxRecDepth 100000 in
theorem w_485 : Cond.instanceMethod yX8_timesSeen ∈ TW := TW_t3 5 rfl rfl
set_option maxRecDepth 100000 in
theorem ws_4 : Cond.selects yX8_timesSeen.cls yX8_timesSeen yX8_timesSeen ∈ TW := TW_pr 4 rfl rfl
set_option maxRecDepth 100000 in
theorem w_490 : Cond.code yX0_listsOf cX0_listsOf 2 (some .int) ∈ TW := TW_t3 10 rfl rfl
set_option maxRecDepth 100000 in
theorem w_487 : Cond.methodLink RX8 164 yX0_listsOf ∈ TW := TW_t3 7 rfl rfl
set_option maxRecDepth 100000 in
theorem w_488 : Cond.instanceMethod yX0_listsOf ∈ TW := TW_t3 8 rfl rfl
set_option maxRecDepth 100000 in
theorem w_489 : Cond.selects yX0_listsOf.cls yX0_listsOf yX0_listsOf ∈ TW := TW_t3 9 rfl rfl
set_option maxRecDepth 100000 in
theorem w_493 : Cond.code yX0_valuesOf cX0_valuesOf 4 (some .int) ∈ TW := TW_t3 13 rfl rfl
set_option maxRecDepth 100000 in
theorem w_491 : Cond.methodLink RX0 57 yX0_valuesOf ∈ TW := TW_t3 11 rfl rfl
set_option maxRecDepth 100000 in
theorem w_492 : Cond.static yX0_valuesOf ∈ TW := TW_t3 12 rfl rfl
set_option maxRecDepth 100000 in
theorem w_498 : Cond.code yX3_rivals cX3_rivals 7 (some .int) ∈ TW := TW_t3 18 rfl rfl
set_option maxRecDepth 100000 in
theorem w_495 : Cond.methodLink RX8 150 yX3_rivals ∈ TW := TW_t3 15 rfl rfl
set_option maxRecDepth 100000 in
theorem w_496 : Cond.instanceMethod yX3_rivals ∈ TW := TW_t3 16 rfl rfl
set_option maxRecDepth 100000 in
theorem w_497 : Cond.selects yX3_rivals.cls yX3_rivals yX3_rivals ∈ TW := TW_t3 17 rfl rfl
set_option maxRecDepth 100000 in
theorem w_499 : Cond.methodLink RX3 116 yJ6_bitCount_0f7a4 ∈ TW := TW_t3 19 rfl rfl
set_option maxRecDepth 100000 in
theorem w_503 : Cond.code yX8_priceOf cX8_priceOf 3 (some .int) ∈ TW := TW_t3 23 rfl rfl
set_option maxRecDepth 100000 in
theorem w_500 : Cond.methodLink RX8 153 yX8_priceOf ∈ TW := TW_t3 20 rfl rfl
set_option maxRecDepth 100000 in
theorem w_502 : Cond.instanceMethod yX8_priceOf ∈ TW := TW_t3 22 rfl rfl
set_option maxRecDepth 100000 in
theorem ws_5 : Cond.selects yX8_priceOf.cls yX8_priceOf yX8_priceOf ∈ TW := TW_pr 5 rfl rfl
set_option maxRecDepth 100000 in
theorem w_508 : Cond.code yX5_gather cX5_gather 3 none ∈ TW := TW_t3 28 rfl rfl
set_option maxRecDepth 100000 in
theorem w_505 : Cond.methodLink RX8 175 yX5_gather ∈ TW := TW_t3 25 rfl rfl
set_option maxRecDepth 100000 in
theorem w_506 : Cond.instanceMethod yX5_gather ∈ TW := TW_t3 26 rfl rfl
set_option maxRecDepth 100000 in
theorem w_507 : Cond.selects yX5_gather.cls yX5_gather yX5_gather ∈ TW := TW_t3 27 rfl rfl
set_option maxRecDepth 100000 in
theorem w_509 : Cond.methodLink RX5 25 yX0_isThere ∈ TW := TW_t3 29 rfl rfl
set_option maxRecDepth 100000 in
theorem w_513 : Cond.code yX5_isByGap cX5_isByGap 2 (some .boolean) ∈ TW := TW_t3 33 rfl rfl
set_option maxRecDepth 100000 in
theorem w_510 : Cond.methodLink RX8 181 yX5_isByGap ∈ TW := TW_t3 30 rfl rfl
set_option maxRecDepth 100000 in
theorem w_511 : Cond.instanceMethod yX5_isByGap ∈ TW := TW_t3 31 rfl rfl
set_option maxRecDepth 100000 in
theorem w_512 : Cond.selects yX5_isByGap.cls yX5_isByGap yX5_isByGap ∈ TW := TW_t3 32 rfl rfl
set_option maxRecDepth 100000 in
theorem w_517 : Cond.code yX5_isMissing cX5_isMissing 2 (some .boolean) ∈ TW := TW_t3 37 rfl rfl
set_option maxRecDepth 100000 in
theorem w_514 : Cond.methodLink RX5 43 yX5_isMissing ∈ TW := TW_t3 34 rfl rfl
set_option maxRecDepth 100000 in
theorem w_515 : Cond.instanceMethod yX5_isMissing ∈ TW := TW_t3 35 rfl rfl
set_option maxRecDepth 100000 in
theorem w_516 : Cond.selects yX5_isMissing.cls yX5_isMissing yX5_isMissing ∈ TW := TW_t3 36 rfl rfl
set_option maxRecDepth 100000 in
theorem w_521 : Cond.code yX0_publishersOf cX0_publishersOf 2 (some .int) ∈ TW := TW_t3 41 rfl rfl
set_option maxRecDepth 100000 in
theorem w_518 : Cond.methodLink RX8 156 yX0_publishersOf ∈ TW := TW_t3 38 rfl rfl
set_option maxRecDepth 100000 in
theorem w_519 : Cond.instanceMethod yX0_publishersOf ∈ TW := TW_t3 39 rfl rfl
set_option maxRecDepth 100000 in
theorem w_520 : Cond.selects yX0_publishersOf.cls yX0_publishersOf yX0_publishersOf ∈ TW := TW_t3 40 rfl rfl
set_option maxRecDepth 100000 in
theorem w_525 : Cond.code yX8_series cX8_series 3 (some .int) ∈ TW := TW_t3 45 rfl rfl
set_option maxRecDepth 100000 in
theorem w_522 : Cond.methodLink "ViewCardsLaw" 55 yX8_series ∈ TW := TW_t3 42 rfl rfl
set_option maxRecDepth 100000 in
theorem w_523 : Cond.instanceMethod yX8_series ∈ TW := TW_t3 43 rfl rfl
set_option maxRecDepth 100000 in
theorem w_524 : Cond.selects yX8_series.cls yX8_series yX8_series ∈ TW := TW_t3 44 rfl rfl
set_option maxRecDepth 100000 in
theorem w_529 : Cond.code yX5_missing cX5_missing 1 (some .int) ∈ TW := TW_t3 49 rfl rfl
set_option maxRecDepth 100000 in
theorem w_526 : Cond.methodLink RX8 191 yX5_missing ∈ TW := TW_t3 46 rfl rfl
set_option maxRecDepth 100000 in
theorem w_527 : Cond.instanceMethod yX5_missing ∈ TW := TW_t3 47 rfl rfl
set_option maxRecDepth 100000 in
theorem w_528 : Cond.selects yX5_missing.cls yX5_missing yX5_missing ∈ TW := TW_t3 48 rfl rfl
set_option maxRecDepth 100000 in
theorem w_533 : Cond.code yX5_gaps cX5_gaps 3 (some .int) ∈ TW := TW_t3 53 rfl rfl
set_option maxRecDepth 100000 in
theorem w_530 : Cond.methodLink RX8 194 yX5_gaps ∈ TW := TW_t3 50 rfl rfl
set_option maxRecDepth 100000 in
theorem w_531 : Cond.instanceMethod yX5_gaps ∈ TW := TW_t3 51 rfl rfl
set_option maxRecDepth 100000 in
theorem w_532 : Cond.selects yX5_gaps.cls yX5_gaps yX5_gaps ∈ TW := TW_t3 52 rfl rfl
set_option maxRecDepth 100000 in
theorem w_537 : Cond.code yX8_gap cX8_gap 3 (some .int) ∈ TW := TW_t3 57 rfl rfl
set_option maxRecDepth 100000 in
theorem w_534 : Cond.methodLink "ViewCardsLaw" 59 yX8_gap ∈ TW := TW_t3 54 rfl rfl
set_option maxRecDepth 100000 in
theorem w_535 : Cond.instanceMethod yX8_gap ∈ TW := TW_t3 55 rfl rfl
set_option maxRecDepth 100000 in
theorem w_536 : Cond.selects yX8_gap.cls yX8_gap yX8_gap ∈ TW := TW_t3 56 rfl rfl
set_option maxRecDepth 100000 in
theorem w_541 : Cond.code yX5_gapAt cX5_gapAt 5 (some .int) ∈ TW := TW_t3 61 rfl rfl
set_option maxRecDepth 100000 in
theorem w_538 : Cond.methodLink RX8 197 yX5_gapAt ∈ TW := TW_t3 58 rfl rfl
set_option maxRecDepth 100000 in
theorem w_539 : Cond.instanceMethod yX5_gapAt ∈ TW := TW_t3 59 rfl rfl
set_option maxRecDepth 100000 in
theorem w_540 : Cond.selects yX5_gapAt.cls yX5_gapAt yX5_gapAt ∈ TW := TW_t3 60 rfl rfl
set_option maxRecDepth 100000 in
theorem w_545 : Cond.code yX8_unseen cX8_unseen 7 (some .int) ∈ TW := TW_t3 65 rfl rfl
set_option maxRecDepth 100000 in
theorem w_542 : Cond.methodLink "ViewCardsLaw" 63 yX8_unseen ∈ TW := TW_t3 62 rfl rfl
set_option maxRecDepth 100000 in
theorem w_543 : Cond.instanceMethod yX8_unseen ∈ TW := TW_t3 63 rfl rfl
set_option maxRecDepth 100000 in
theorem w_544 : Cond.selects yX8_unseen.cls yX8_unseen yX8_unseen ∈ TW := TW_t3 64 rfl rfl
set_option maxRecDepth 100000 in
theorem w_549 : Cond.code yX8_cardsSeen cX8_cardsSeen 5 (some .int) ∈ TW := TW_t3 69 rfl rfl
set_option maxRecDepth 100000 in
theorem w_546 : Cond.methodLink RX8 200 yX8_cardsSeen ∈ TW := TW_t3 66 rfl rfl
set_option maxRecDepth 100000 in
theorem w_548 : Cond.instanceMethod yX8_cardsSeen ∈ TW := TW_t3 68 rfl rfl
set_option maxRecDepth 100000 in
theorem ws_6 : Cond.selects yX8_cardsSeen.cls yX8_cardsSeen yX8_cardsSeen ∈ TW := TW_pr 6 rfl rfl
set_option maxRecDepth 100000 in
theorem w_553 : Cond.code yX3_differentCards cX3_differentCards 2 (some .int) ∈ TW := TW_t3 73 rfl rfl
set_option maxRecDepth 100000 in
theorem w_550 : Cond.methodLink RX8 206 yX3_differentCards ∈ TW := TW_t3 70 rfl rfl
set_option maxRecDepth 100000 in
theorem w_551 : Cond.instanceMethod yX3_differentCards ∈ TW := TW_t3 71 rfl rfl
set_option maxRecDepth 100000 in
theorem w_552 : Cond.selects yX3_differentCards.cls yX3_differentCards yX3_differentCards ∈ TW := TW_t3 72 rfl rfl
set_option maxRecDepth 100000 in
theorem w_557 : Cond.code yX3_leastOfChains cX3_leastOfChains 6 (some .int) ∈ TW := TW_t3 77 rfl rfl
set_option maxRecDepth 100000 in
theorem w_554 : Cond.methodLink RX3 112 yX3_leastOfChains ∈ TW := TW_t3 74 rfl rfl
set_option maxRecDepth 100000 in
theorem w_556 : Cond.instanceMethod yX3_leastOfChains ∈ TW := TW_t3 76 rfl rfl
set_option maxRecDepth 100000 in
theorem ws_7 : Cond.selects yX3_leastOfChains.cls yX3_leastOfChains yX3_leastOfChains ∈ TW := TW_pr 7 rfl rfl
set_option maxRecDepth 100000 in
theorem w_456 : Cond.code yX8_has cX8_has 2 (some .boolean) ∈ TW := TW_t2 216 rfl rfl
set_option maxRecDepth 100000 in
theorem w_558 : Cond.methodLink RX8 209 yX8_has ∈ TW := TW_t3 78 rfl rfl
set_option maxRecDepth 100000 in
theorem w_455 : Cond.static yX8_has ∈ TW := TW_t2 215 rfl rfl
set_option maxRecDepth 100000 in
theorem w_561 : Cond.code yX8_commonDivisor cX8_commonDivisor 6 (some .int) ∈ TW := TW_t3 81 rfl rfl
set_option maxRecDepth 100000 in
theorem w_559 : Cond.methodLink RX8 203 yX8_commonDivisor ∈ TW := TW_t3 79 rfl rfl
set_option maxRecDepth 100000 in
theorem w_560 : Cond.static yX8_commonDivisor ∈ TW := TW_t3 80 rfl rfl
set_option maxRecDepth 100000 in
theorem w_565 : Cond.code yX8_overlap cX8_overlap 5 (some .int) ∈ TW := TW_t3 85 rfl rfl
set_option maxRecDepth 100000 in
theorem w_562 : Cond.methodLink "ViewCardsLaw" 67 yX8_overlap ∈ TW := TW_t3 82 rfl rfl
set_option maxRecDepth 100000 in
theorem w_563 : Cond.instanceMethod yX8_overlap ∈ TW := TW_t3 83 rfl rfl
set_option maxRecDepth 100000 in
theorem w_564 : Cond.selects yX8_overlap.cls yX8_overlap yX8_overlap ∈ TW := TW_t3 84 rfl rfl
set_option maxRecDepth 100000 in
theorem w_569 : Cond.code yX8_cardsInBoth cX8_cardsInBoth 7 (some .int) ∈ TW := TW_t3 89 rfl rfl
set_option maxRecDepth 100000 in
theorem w_566 : Cond.methodLink RX8 212 yX8_cardsInBoth ∈ TW := TW_t3 86 rfl rfl
set_option maxRecDepth 100000 in
theorem w_568 : Cond.instanceMethod yX8_cardsInBoth ∈ TW := TW_t3 88 rfl rfl
set_option maxRecDepth 100000 in
theorem ws_8 : Cond.selects yX8_cardsInBoth.cls yX8_cardsInBoth yX8_cardsInBoth ∈ TW := TW_pr 8 rfl rfl
set_option maxRecDepth 100000 in
theorem w_573 : Cond.code yX8_feature cX8_feature 4 (some .int) ∈ TW := TW_t3 93 rfl rfl
set_option maxRecDepth 100000 in
theorem w_570 : Cond.methodLink "ViewCardsLaw" 72 yX8_feature ∈ TW := TW_t3 90 rfl rfl
set_option maxRecDepth 100000 in
theorem w_571 : Cond.instanceMethod yX8_feature ∈ TW := TW_t3 91 rfl rfl
set_option maxRecDepth 100000 in
theorem w_572 : Cond.selects yX8_feature.cls yX8_feature yX8_feature ∈ TW := TW_t3 92 rfl rfl
set_option maxRecDepth 100000 in
theorem w_576 : Cond.code yX8_isSpan cX8_isSpan 2 (some .boolean) ∈ TW := TW_t3 96 rfl rfl
set_option maxRecDepth 100000 in
theorem w_574 : Cond.methodLink RX8 215 yX8_isSpan ∈ TW := TW_t3 94 rfl rfl
set_option maxRecDepth 100000 in
theorem w_575 : Cond.static yX8_isSpan ∈ TW := TW_t3 95 rfl rfl
set_option maxRecDepth 100000 in
theorem w_580 : Cond.code yX8_shows cX8_shows 5 (some .int) ∈ TW := TW_t3 100 rfl rfl
set_option maxRecDepth 100000 in
theorem w_577 : Cond.methodLink "ViewCardsLaw" 76 yX8_shows ∈ TW := TW_t3 97 rfl rfl
set_option maxRecDepth 100000 in
theorem w_578 : Cond.instanceMethod yX8_shows ∈ TW := TW_t3 98 rfl rfl
set_option maxRecDepth 100000 in
theorem w_579 : Cond.selects yX8_shows.cls yX8_shows yX8_shows ∈ TW := TW_t3 99 rfl rfl
set_option maxRecDepth 100000 in
theorem w_584 : Cond.code yX8_back cX8_back 4 (some .int) ∈ TW := TW_t3 104 rfl rfl
set_option maxRecDepth 100000 in
theorem w_581 : Cond.methodLink "ViewCardsLaw" 80 yX8_back ∈ TW := TW_t3 101 rfl rfl
set_option maxRecDepth 100000 in
theorem w_582 : Cond.instanceMethod yX8_back ∈ TW := TW_t3 102 rfl rfl
set_option maxRecDepth 100000 in
theorem w_583 : Cond.selects yX8_back.cls yX8_back yX8_back ∈ TW := TW_t3 103 rfl rfl
set_option maxRecDepth 100000 in
theorem w_588 : Cond.code yX8_later cX8_later 3 (some .int) ∈ TW := TW_t3 108 rfl rfl
set_option maxRecDepth 100000 in
theorem w_585 : Cond.methodLink "ViewCardsLaw" 84 yX8_later ∈ TW := TW_t3 105 rfl rfl
set_option maxRecDepth 100000 in
theorem w_586 : Cond.instanceMethod yX8_later ∈ TW := TW_t3 106 rfl rfl
set_option maxRecDepth 100000 in
theorem w_587 : Cond.selects yX8_later.cls yX8_later yX8_later ∈ TW := TW_t3 107 rfl rfl
set_option maxRecDepth 100000 in
theorem w_592 : Cond.code yX8_span cX8_span 5 (some .int) ∈ TW := TW_t3 112 rfl rfl
set_option maxRecDepth 100000 in
theorem w_589 : Cond.methodLink "ViewCardsLaw" 88 yX8_span ∈ TW := TW_t3 109 rfl rfl
set_option maxRecDepth 100000 in
theorem w_590 : Cond.instanceMethod yX8_span ∈ TW := TW_t3 110 rfl rfl
set_option maxRecDepth 100000 in
theorem w_591 : Cond.selects yX8_span.cls yX8_span yX8_span ∈ TW := TW_t3 111 rfl rfl
set_option maxRecDepth 100000 in
theorem w_596 : Cond.code yX1_settle cX1_settle 5 (some .boolean) ∈ TW := TW_t3 116 rfl rfl
set_option maxRecDepth 100000 in
theorem w_593 : Cond.methodLink RX8 242 yX1_settle ∈ TW := TW_t3 113 rfl rfl
set_option maxRecDepth 100000 in
theorem w_594 : Cond.instanceMethod yX1_settle ∈ TW := TW_t3 114 rfl rfl
set_option maxRecDepth 100000 in
theorem w_595 : Cond.selects yX1_settle.cls yX1_settle yX1_settle ∈ TW := TW_t3 115 rfl rfl
set_option maxRecDepth 100000 in
theorem w_600 : Cond.code yX1_findLeaders cX1_findLeaders 6 none ∈ TW := TW_t3 120 rfl rfl
set_option maxRecDepth 100000 in
theorem w_597 : Cond.methodLink RX1 56 yX1_findLeaders ∈ TW := TW_t3 117 rfl rfl
set_option maxRecDepth 100000 in
theorem w_599 : Cond.instanceMethod yX1_findLeaders ∈ TW := TW_t3 119 rfl rfl
set_option maxRecDepth 100000 in
theorem ws_9 : Cond.selects yX1_findLeaders.cls yX1_findLeaders yX1_findLeaders ∈ TW := TW_pr 9 rfl rfl
set_option maxRecDepth 100000 in
theorem w_605 : Cond.code yX7_open cX7_open 4 none ∈ TW := TW_t3 125 rfl rfl
set_option maxRecDepth 100000 in
theorem w_6 : Cond.initialized "ViewCards$Spans" ∈ TW := TW_t1 6 rfl rfl
set_option maxRecDepth 100000 in
theorem w_602 : Cond.methodLink RX1 75 yX7_open ∈ TW := TW_t3 122 rfl rfl
set_option maxRecDepth 100000 in
theorem w_603 : Cond.instanceMethod yX7_open ∈ TW := TW_t3 123 rfl rfl
set_option maxRecDepth 100000 in
theorem w_604 : Cond.selects yX7_open.cls yX7_open yX7_open ∈ TW := TW_t3 124 rfl rfl
set_option maxRecDepth 100000 in
theorem w_606 : Cond.methodLink RX1 79 yX3_sameNegative ∈ TW := TW_t3 126 rfl rfl
set_option maxRecDepth 100000 in
theorem w_610 : Cond.code yX1_openPublished cX1_openPublished 5 none ∈ TW := TW_t3 130 rfl rfl
set_option maxRecDepth 100000 in
theorem w_607 : Cond.methodLink RX1 64 yX1_openPublished ∈ TW := TW_t3 127 rfl rfl
set_option maxRecDepth 100000 in
theorem w_609 : Cond.instanceMethod yX1_openPublished ∈ TW := TW_t3 129 rfl rfl
set_option maxRecDepth 100000 in
theorem ws_10 : Cond.selects yX1_openPublished.cls yX1_openPublished yX1_openPublished ∈ TW := TW_pr 10 rfl rfl
set_option maxRecDepth 100000 in
theorem w_614 : Cond.code yX7_notBehind cX7_notBehind 3 none ∈ TW := TW_t3 134 rfl rfl
set_option maxRecDepth 100000 in
theorem w_611 : Cond.methodLink RX1 93 yX7_notBehind ∈ TW := TW_t3 131 rfl rfl
set_option maxRecDepth 100000 in
theorem w_612 : Cond.instanceMethod yX7_notBehind ∈ TW := TW_t3 132 rfl rfl
set_option maxRecDepth 100000 in
theorem w_613 : Cond.selects yX7_notBehind.cls yX7_notBehind yX7_notBehind ∈ TW := TW_t3 133 rfl rfl
set_option maxRecDepth 100000 in
theorem w_618 : Cond.code yX4_isFor cX4_isFor 4 (some .boolean) ∈ TW := TW_t3 138 rfl rfl
set_option maxRecDepth 100000 in
theorem w_9 : Cond.initialized "ViewCards$Lines" ∈ TW := TW_t1 9 rfl rfl
set_option maxRecDepth 100000 in
theorem w_615 : Cond.methodLink RX1 113 yX4_isFor ∈ TW := TW_t3 135 rfl rfl
set_option maxRecDepth 100000 in
theorem w_616 : Cond.instanceMethod yX4_isFor ∈ TW := TW_t3 136 rfl rfl
set_option maxRecDepth 100000 in
theorem w_617 : Cond.selects yX4_isFor.cls yX4_isFor yX4_isFor ∈ TW := TW_t3 137 rfl rfl
set_option maxRecDepth 100000 in
theorem w_623 : Cond.code yX7_notBefore cX7_notBefore 3 none ∈ TW := TW_t3 143 rfl rfl
set_option maxRecDepth 100000 in
theorem w_620 : Cond.methodLink RX1 120 yX7_notBefore ∈ TW := TW_t3 140 rfl rfl
set_option maxRecDepth 100000 in
theorem w_621 : Cond.instanceMethod yX7_notBefore ∈ TW := TW_t3 141 rfl rfl
set_option maxRecDepth 100000 in
theorem w_622 : Cond.selects yX7_notBefore.cls yX7_notBefore yX7_notBefore ∈ TW := TW_t3 142 rfl rfl
set_option maxRecDepth 100000 in
theorem w_627 : Cond.code yX1_narrow cX1_narrow 5 (some .boolean) ∈ TW := TW_t3 147 rfl rfl
set_option maxRecDepth 100000 in
theorem w_624 : Cond.methodLink RX1 68 yX1_narrow ∈ TW := TW_t3 144 rfl rfl
set_option maxRecDepth 100000 in
theorem w_626 : Cond.instanceMethod yX1_narrow ∈ TW := TW_t3 146 rfl rfl
set_option maxRecDepth 100000 in
theorem ws_11 : Cond.selects yX1_narrow.cls yX1_narrow yX1_narrow ∈ TW := TW_pr 11 rfl rfl
set_option maxRecDepth 100000 in
theorem w_631 : Cond.code yX1_narrowByFeatures cX1_narrowByFeatures 6 none ∈ TW := TW_t3 151 rfl rfl
set_option maxRecDepth 100000 in
theorem w_628 : Cond.methodLink RX1 130 yX1_narrowByFeatures ∈ TW := TW_t3 148 rfl rfl
set_option maxRecDepth 100000 in
theorem w_630 : Cond.instanceMethod yX1_narrowByFeatures ∈ TW := TW_t3 150 rfl rfl
set_option maxRecDepth 100000 in
theorem ws_12 : Cond.selects yX1_narrowByFeatures.cls yX1_narrowByFeatures yX1_narrowByFeatures ∈ TW := TW_pr 12 rfl rfl
set_option maxRecDepth 100000 in
theorem w_636 : Cond.code yX1_isSomeEmpty cX1_isSomeEmpty 3 (some .boolean) ∈ TW := TW_t3 156 rfl rfl
set_option maxRecDepth 100000 in
theorem w_633 : Cond.methodLink RX1 72 yX1_isSomeEmpty ∈ TW := TW_t3 153 rfl rfl
set_option maxRecDepth 100000 in
theorem w_635 : Cond.instanceMethod yX1_isSomeEmpty ∈ TW := TW_t3 155 rfl rfl
set_option maxRecDepth 100000 in
theorem ws_13 : Cond.selects yX1_isSomeEmpty.cls yX1_isSomeEmpty yX1_isSomeEmpty ∈ TW := TW_pr 13 rfl rfl
set_option maxRecDepth 100000 in
theorem w_640 : Cond.code yX8_quarrel cX8_quarrel 1 (some .int) ∈ TW := TW_t3 160 rfl rfl
set_option maxRecDepth 100000 in
theorem w_637 : Cond.methodLink "ViewCardsLaw" 92 yX8_quarrel ∈ TW := TW_t3 157 rfl rfl
set_option maxRecDepth 100000 in
theorem w_638 : Cond.instanceMethod yX8_quarrel ∈ TW := TW_t3 158 rfl rfl
set_option maxRecDepth 100000 in
theorem w_639 : Cond.selects yX8_quarrel.cls yX8_quarrel yX8_quarrel ∈ TW := TW_t3 159 rfl rfl
set_option maxRecDepth 100000 in
theorem w_644 : Cond.code yX8_culprit cX8_culprit 3 (some .int) ∈ TW := TW_t3 164 rfl rfl
set_option maxRecDepth 100000 in
theorem w_641 : Cond.methodLink "ViewCardsLaw" 97 yX8_culprit ∈ TW := TW_t3 161 rfl rfl
set_option maxRecDepth 100000 in
theorem w_642 : Cond.instanceMethod yX8_culprit ∈ TW := TW_t3 162 rfl rfl
set_option maxRecDepth 100000 in
theorem w_643 : Cond.selects yX8_culprit.cls yX8_culprit yX8_culprit ∈ TW := TW_t3 163 rfl rfl
set_option maxRecDepth 100000 in
theorem w_648 : Cond.code yX8_landmark cX8_landmark 3 (some .int) ∈ TW := TW_t3 168 rfl rfl
set_option maxRecDepth 100000 in
theorem w_645 : Cond.methodLink "ViewCardsLaw" 101 yX8_landmark ∈ TW := TW_t3 165 rfl rfl
set_option maxRecDepth 100000 in
theorem w_646 : Cond.instanceMethod yX8_landmark ∈ TW := TW_t3 166 rfl rfl
set_option maxRecDepth 100000 in
theorem w_647 : Cond.selects yX8_landmark.cls yX8_landmark yX8_landmark ∈ TW := TW_t3 167 rfl rfl
set_option maxRecDepth 100000 in
theorem w_652 : Cond.code yX8_walls cX8_walls 3 (some .int) ∈ TW := TW_t3 172 rfl rfl
set_option maxRecDepth 100000 in
theorem w_649 : Cond.methodLink "ViewCardsLaw" 105 yX8_walls ∈ TW := TW_t3 169 rfl rfl
set_option maxRecDepth 100000 in
theorem w_650 : Cond.instanceMethod yX8_walls ∈ TW := TW_t3 170 rfl rfl
set_option maxRecDepth 100000 in
theorem w_651 : Cond.selects yX8_walls.cls yX8_walls yX8_walls ∈ TW := TW_t3 171 rfl rfl
set_option maxRecDepth 100000 in
theorem w_656 : Cond.code yX8_view cX8_view 3 (some .int) ∈ TW := TW_t3 176 rfl rfl
set_option maxRecDepth 100000 in
theorem w_653 : Cond.methodLink "ViewCardsLaw" 110 yX8_view ∈ TW := TW_t3 173 rfl rfl
set_option maxRecDepth 100000 in
theorem w_654 : Cond.instanceMethod yX8_view ∈ TW := TW_t3 174 rfl rfl
set_option maxRecDepth 100000 in
theorem w_655 : Cond.selects yX8_view.cls yX8_view yX8_view ∈ TW := TW_t3 175 rfl rfl
set_option maxRecDepth 100000 in
theorem w_660 : Cond.code yX2_isInView cX2_isInView 4 (some .boolean) ∈ TW := TW_t3 180 rfl rfl
set_option maxRecDepth 100000 in
theorem w_657 : Cond.methodLink RX8 271 yX2_isInView ∈ TW := TW_t3 177 rfl rfl
set_option maxRecDepth 100000 in
theorem w_658 : Cond.instanceMethod yX2_isInView ∈ TW := TW_t3 178 rfl rfl
set_option maxRecDepth 100000 in
theorem w_659 : Cond.selects yX2_isInView.cls yX2_isInView yX2_isInView ∈ TW := TW_t3 179 rfl rfl
set_option maxRecDepth 100000 in
theorem w_664 : Cond.code yX8_unview cX8_unview 3 (some .int) ∈ TW := TW_t3 184 rfl rfl
set_option maxRecDepth 100000 in
theorem w_661 : Cond.methodLink "ViewCardsLaw" 114 yX8_unview ∈ TW := TW_t3 181 rfl rfl
set_option maxRecDepth 100000 in
theorem w_662 : Cond.instanceMethod yX8_unview ∈ TW := TW_t3 182 rfl rfl
set_option maxRecDepth 100000 in
theorem w_663 : Cond.selects yX8_unview.cls yX8_unview yX8_unview ∈ TW := TW_t3 183 rfl rfl
set_option maxRecDepth 100000 in
theorem w_668 : Cond.code yX8_stood cX8_stood 2 (some .long) ∈ TW := TW_t3 188 rfl rfl
set_option maxRecDepth 100000 in
theorem w_665 : Cond.methodLink "ViewCardsLaw" 118 yX8_stood ∈ TW := TW_t3 185 rfl rfl
set_option maxRecDepth 100000 in
theorem w_666 : Cond.instanceMethod yX8_stood ∈ TW := TW_t3 186 rfl rfl
set_option maxRecDepth 100000 in
theorem w_667 : Cond.selects yX8_stood.cls yX8_stood yX8_stood ∈ TW := TW_t3 187 rfl rfl
set_option maxRecDepth 100000 in
theorem w_672 : Cond.code yX2_standing cX2_standing 7 (some .long) ∈ TW := TW_t3 192 rfl rfl
set_option maxRecDepth 100000 in
theorem w_669 : Cond.methodLink RX8 280 yX2_standing ∈ TW := TW_t3 189 rfl rfl
set_option maxRecDepth 100000 in
theorem w_670 : Cond.instanceMethod yX2_standing ∈ TW := TW_t3 190 rfl rfl
set_option maxRecDepth 100000 in
theorem w_671 : Cond.selects yX2_standing.cls yX2_standing yX2_standing ∈ TW := TW_t3 191 rfl rfl
set_option maxRecDepth 100000 in
theorem w_677 : Cond.code yX2_isOrdered cX2_isOrdered 5 (some .boolean) ∈ TW := TW_t3 197 rfl rfl
set_option maxRecDepth 100000 in
theorem w_674 : Cond.methodLink RX2 29 yX2_isOrdered ∈ TW := TW_t3 194 rfl rfl
set_option maxRecDepth 100000 in
theorem w_676 : Cond.instanceMethod yX2_isOrdered ∈ TW := TW_t3 196 rfl rfl
set_option maxRecDepth 100000 in
theorem ws_14 : Cond.selects yX2_isOrdered.cls yX2_isOrdered yX2_isOrdered ∈ TW := TW_pr 14 rfl rfl
set_option maxRecDepth 100000 in
theorem w_680 : Cond.code yX2_isLeftOf cX2_isLeftOf 7 (some .boolean) ∈ TW := TW_t3 200 rfl rfl
set_option maxRecDepth 100000 in
theorem w_678 : Cond.methodLink RX2 36 yX2_isLeftOf ∈ TW := TW_t3 198 rfl rfl
set_option maxRecDepth 100000 in
theorem w_679 : Cond.static yX2_isLeftOf ∈ TW := TW_t3 199 rfl rfl
set_option maxRecDepth 100000 in
theorem w_684 : Cond.code yX2_seesAll cX2_seesAll 4 (some .boolean) ∈ TW := TW_t3 204 rfl rfl
set_option maxRecDepth 100000 in
theorem w_681 : Cond.methodLink RX2 33 yX2_seesAll ∈ TW := TW_t3 201 rfl rfl
set_option maxRecDepth 100000 in
theorem w_683 : Cond.instanceMethod yX2_seesAll ∈ TW := TW_t3 203 rfl rfl
set_option maxRecDepth 100000 in
theorem ws_15 : Cond.selects yX2_seesAll.cls yX2_seesAll yX2_seesAll ∈ TW := TW_pr 15 rfl rfl
set_option maxRecDepth 100000 in
theorem w_688 : Cond.code yX2_sees cX2_sees 8 (some .boolean) ∈ TW := TW_t3 208 rfl rfl
set_option maxRecDepth 100000 in
theorem w_685 : Cond.methodLink RX2 40 yX2_sees ∈ TW := TW_t3 205 rfl rfl
set_option maxRecDepth 100000 in
theorem w_687 : Cond.instanceMethod yX2_sees ∈ TW := TW_t3 207 rfl rfl
set_option maxRecDepth 100000 in
theorem ws_16 : Cond.selects yX2_sees.cls yX2_sees yX2_sees ∈ TW := TW_pr 16 rfl rfl
set_option maxRecDepth 100000 in
theorem w_696 : Cond.code yX8_together cX8_together 6 (some .int) ∈ TW := TW_t3 216 rfl rfl
set_option maxRecDepth 100000 in
theorem w_693 : Cond.methodLink "ViewCardsLaw" 123 yX8_together ∈ TW := TW_t3 213 rfl rfl
set_option maxRecDepth 100000 in
theorem w_694 : Cond.instanceMethod yX8_together ∈ TW := TW_t3 214 rfl rfl
set_option maxRecDepth 100000 in
theorem w_695 : Cond.selects yX8_together.cls yX8_together yX8_together ∈ TW := TW_t3 215 rfl rfl
set_option maxRecDepth 100000 in
theorem w_698 : Cond.methodLink RX8 286 yJ13_bitCount_95d88 ∈ TW := TW_t3 218 rfl rfl
set_option maxRecDepth 100000 in
theorem w_702 : Cond.code yX8_write cX8_write 5 (some .int) ∈ TW := TW_t3 222 rfl rfl
set_option maxRecDepth 100000 in
theorem w_699 : Cond.methodLink "ViewCardsLaw" 127 yX8_write ∈ TW := TW_t3 219 rfl rfl
set_option maxRecDepth 100000 in
theorem w_700 : Cond.instanceMethod yX8_write ∈ TW := TW_t3 220 rfl rfl
set_option maxRecDepth 100000 in
theorem w_701 : Cond.selects yX8_write.cls yX8_write yX8_write ∈ TW := TW_t3 221 rfl rfl
set_option maxRecDepth 100000 in
theorem w_706 : Cond.code yX8_erase cX8_erase 2 (some .int) ∈ TW := TW_t3 226 rfl rfl
set_option maxRecDepth 100000 in
theorem w_703 : Cond.methodLink "ViewCardsLaw" 132 yX8_erase ∈ TW := TW_t3 223 rfl rfl
set_option maxRecDepth 100000 in
theorem w_704 : Cond.instanceMethod yX8_erase ∈ TW := TW_t3 224 rfl rfl
set_option maxRecDepth 100000 in
theorem w_705 : Cond.selects yX8_erase.cls yX8_erase yX8_erase ∈ TW := TW_t3 225 rfl rfl
set_option maxRecDepth 100000 in
theorem w_710 : Cond.code yX8_fault cX8_fault 1 (some .int) ∈ TW := TW_t3 230 rfl rfl
set_option maxRecDepth 100000 in
theorem w_707 : Cond.methodLink "ViewCardsLaw" 136 yX8_fault ∈ TW := TW_t3 227 rfl rfl
set_option maxRecDepth 100000 in
theorem w_708 : Cond.instanceMethod yX8_fault ∈ TW := TW_t3 228 rfl rfl
set_option maxRecDepth 100000 in
theorem w_709 : Cond.selects yX8_fault.cls yX8_fault yX8_fault ∈ TW := TW_t3 229 rfl rfl
set_option maxRecDepth 100000 in
theorem w_714 : Cond.code yX6_read cX6_read 3 (some .int) ∈ TW := TW_t3 234 rfl rfl
set_option maxRecDepth 100000 in
theorem w_8 : Cond.initialized "ViewCards$Reader" ∈ TW := TW_t1 8 rfl rfl
set_option maxRecDepth 100000 in
theorem w_711 : Cond.methodLink RX8 295 yX6_read ∈ TW := TW_t3 231 rfl rfl
set_option maxRecDepth 100000 in
theorem w_712 : Cond.instanceMethod yX6_read ∈ TW := TW_t3 232 rfl rfl
set_option maxRecDepth 100000 in
theorem w_713 : Cond.selects yX6_read.cls yX6_read yX6_read ∈ TW := TW_t3 233 rfl rfl
set_option maxRecDepth 100000 in
theorem w_718 : Cond.code yX6_goOn cX6_goOn 1 none ∈ TW := TW_t3 238 rfl rfl
set_option maxRecDepth 100000 in
theorem w_715 : Cond.methodLink RX6 27 yX6_goOn ∈ TW := TW_t3 235 rfl rfl
set_option maxRecDepth 100000 in
theorem w_717 : Cond.instanceMethod yX6_goOn ∈ TW := TW_t3 237 rfl rfl
set_option maxRecDepth 100000 in
theorem ws_17 : Cond.selects yX6_goOn.cls yX6_goOn yX6_goOn ∈ TW := TW_pr 17 rfl rfl
set_option maxRecDepth 100000 in
theorem w_722 : Cond.code yX6_isOneRow cX6_isOneRow 2 (some .boolean) ∈ TW := TW_t4 2 rfl rfl
set_option maxRecDepth 100000 in
theorem w_720 : Cond.methodLink RX6 110 yX6_isOneRow ∈ TW := TW_t4 0 rfl rfl
set_option maxRecDepth 100000 in
theorem w_721 : Cond.static yX6_isOneRow ∈ TW := TW_t4 1 rfl rfl
set_option maxRecDepth 100000 in
theorem w_730 : Cond.code yX6_readLine cX6_readLine 8 none ∈ TW := TW_t4 10 rfl rfl
set_option maxRecDepth 100000 in
theorem w_727 : Cond.methodLink RX6 30 yX6_readLine ∈ TW := TW_t4 7 rfl rfl
set_option maxRecDepth 100000 in
theorem w_729 : Cond.instanceMethod yX6_readLine ∈ TW := TW_t4 9 rfl rfl
set_option maxRecDepth 100000 in
theorem ws_18 : Cond.selects yX6_readLine.cls yX6_readLine yX6_readLine ∈ TW := TW_pr 18 rfl rfl
set_option maxRecDepth 100000 in
theorem w_735 : Cond.code yX6_readWord cX6_readWord 2 none ∈ TW := TW_t4 15 rfl rfl
set_option maxRecDepth 100000 in
theorem w_732 : Cond.methodLink RX6 49 yX6_readWord ∈ TW := TW_t4 12 rfl rfl
set_option maxRecDepth 100000 in
theorem w_734 : Cond.instanceMethod yX6_readWord ∈ TW := TW_t4 14 rfl rfl
set_option maxRecDepth 100000 in
theorem ws_19 : Cond.selects yX6_readWord.cls yX6_readWord yX6_readWord ∈ TW := TW_pr 19 rfl rfl
set_option maxRecDepth 100000 in
theorem w_739 : Cond.code yX6_isAt cX6_isAt 3 (some .boolean) ∈ TW := TW_t4 19 rfl rfl
set_option maxRecDepth 100000 in
theorem w_736 : Cond.methodLink RX6 36 yX6_isAt ∈ TW := TW_t4 16 rfl rfl
set_option maxRecDepth 100000 in
theorem w_738 : Cond.instanceMethod yX6_isAt ∈ TW := TW_t4 18 rfl rfl
set_option maxRecDepth 100000 in
theorem ws_20 : Cond.selects yX6_isAt.cls yX6_isAt yX6_isAt ∈ TW := TW_pr 20 rfl rfl
set_option maxRecDepth 100000 in
theorem w_791 : Cond.code yX6_findWrong cX6_findWrong 1 none ∈ TW := TW_t4 71 rfl rfl
set_option maxRecDepth 100000 in
theorem w_788 : Cond.methodLink RX6 44 yX6_findWrong ∈ TW := TW_t4 68 rfl rfl
set_option maxRecDepth 100000 in
theorem w_790 : Cond.instanceMethod yX6_findWrong ∈ TW := TW_t4 70 rfl rfl
set_option maxRecDepth 100000 in
theorem ws_21 : Cond.selects yX6_findWrong.cls yX6_findWrong yX6_findWrong ∈ TW := TW_pr 21 rfl rfl
set_option maxRecDepth 100000 in
theorem w_795 : Cond.code yX6_readNumber cX6_readNumber 4 (some .int) ∈ TW := TW_t4 75 rfl rfl
set_option maxRecDepth 100000 in
theorem w_792 : Cond.methodLink RX6 53 yX6_readNumber ∈ TW := TW_t4 72 rfl rfl
set_option maxRecDepth 100000 in
theorem w_794 : Cond.instanceMethod yX6_readNumber ∈ TW := TW_t4 74 rfl rfl
set_option maxRecDepth 100000 in
theorem ws_22 : Cond.selects yX6_readNumber.cls yX6_readNumber yX6_readNumber ∈ TW := TW_pr 22 rfl rfl
set_option maxRecDepth 100000 in
theorem w_799 : Cond.code yX6_numberAt cX6_numberAt 4 (some .int) ∈ TW := TW_t4 79 rfl rfl
set_option maxRecDepth 100000 in
theorem w_796 : Cond.methodLink RX6 84 yX6_numberAt ∈ TW := TW_t4 76 rfl rfl
set_option maxRecDepth 100000 in
theorem w_798 : Cond.instanceMethod yX6_numberAt ∈ TW := TW_t4 78 rfl rfl
set_option maxRecDepth 100000 in
theorem ws_23 : Cond.selects yX6_numberAt.cls yX6_numberAt yX6_numberAt ∈ TW := TW_pr 23 rfl rfl
set_option maxRecDepth 100000 in
theorem w_810 : Cond.code yX8_catalogue cX8_catalogue 2 (some .int) ∈ TW := TW_t4 90 rfl rfl
set_option maxRecDepth 100000 in
theorem w_807 : Cond.methodLink "ViewCardsLaw" 140 yX8_catalogue ∈ TW := TW_t4 87 rfl rfl
set_option maxRecDepth 100000 in
theorem w_808 : Cond.instanceMethod yX8_catalogue ∈ TW := TW_t4 88 rfl rfl
set_option maxRecDepth 100000 in
theorem w_809 : Cond.selects yX8_catalogue.cls yX8_catalogue yX8_catalogue ∈ TW := TW_t4 89 rfl rfl
set_option maxRecDepth 100000 in
theorem w_814 : Cond.code yX8_breaks cX8_breaks 7 (some .int) ∈ TW := TW_t4 94 rfl rfl
set_option maxRecDepth 100000 in
theorem w_811 : Cond.methodLink "ViewCardsLaw" 144 yX8_breaks ∈ TW := TW_t4 91 rfl rfl
set_option maxRecDepth 100000 in
theorem w_812 : Cond.instanceMethod yX8_breaks ∈ TW := TW_t4 92 rfl rfl
set_option maxRecDepth 100000 in
theorem w_813 : Cond.selects yX8_breaks.cls yX8_breaks yX8_breaks ∈ TW := TW_t4 93 rfl rfl
set_option maxRecDepth 100000 in
theorem w_815 : Cond.methodLink RX8 304 yX4_isFor ∈ TW := TW_t4 95 rfl rfl
set_option maxRecDepth 100000 in
theorem w_819 : Cond.code yX1_canBePublished cX1_canBePublished 4 (some .boolean) ∈ TW := TW_t4 99 rfl rfl
set_option maxRecDepth 100000 in
theorem w_816 : Cond.methodLink RX8 313 yX1_canBePublished ∈ TW := TW_t4 96 rfl rfl
set_option maxRecDepth 100000 in
theorem w_817 : Cond.instanceMethod yX1_canBePublished ∈ TW := TW_t4 97 rfl rfl
set_option maxRecDepth 100000 in
theorem w_818 : Cond.selects yX1_canBePublished.cls yX1_canBePublished yX1_canBePublished ∈ TW := TW_t4 98 rfl rfl
set_option maxRecDepth 100000 in
theorem w_823 : Cond.code yX8_count cX8_count 2 (some .int) ∈ TW := TW_t4 103 rfl rfl
set_option maxRecDepth 100000 in
theorem w_820 : Cond.methodLink "ViewCardsLaw" 148 yX8_count ∈ TW := TW_t4 100 rfl rfl
set_option maxRecDepth 100000 in
theorem w_821 : Cond.instanceMethod yX8_count ∈ TW := TW_t4 101 rfl rfl
set_option maxRecDepth 100000 in
theorem w_822 : Cond.selects yX8_count.cls yX8_count yX8_count ∈ TW := TW_t4 102 rfl rfl
set_option maxRecDepth 100000 in
theorem w_827 : Cond.code yX3_negatives cX3_negatives 2 (some .int) ∈ TW := TW_t4 107 rfl rfl
set_option maxRecDepth 100000 in
theorem w_824 : Cond.methodLink RX8 319 yX3_negatives ∈ TW := TW_t4 104 rfl rfl
set_option maxRecDepth 100000 in
theorem w_825 : Cond.instanceMethod yX3_negatives ∈ TW := TW_t4 105 rfl rfl
set_option maxRecDepth 100000 in
theorem w_826 : Cond.selects yX3_negatives.cls yX3_negatives yX3_negatives ∈ TW := TW_t4 106 rfl rfl
set_option maxRecDepth 100000 in
theorem w_832 : Cond.code yX9_init cX9_init 2 none ∈ TW := TW_t4 112 rfl rfl
set_option maxRecDepth 100000 in
theorem w_10 : Cond.initialized "ViewCardsModel" ∈ TW := TW_t1 10 rfl rfl
set_option maxRecDepth 100000 in
theorem w_830 : Cond.methodLink "ViewCardsLaw" 12 yX9_init ∈ TW := TW_t4 110 rfl rfl
set_option maxRecDepth 100000 in
theorem w_831 : Cond.instanceMethod yX9_init ∈ TW := TW_t4 111 rfl rfl
set_option maxRecDepth 100000 in
theorem w_985 : Cond.code yX9_card cX9_card 11 (some .int) ∈ TW := TW_t5 25 rfl rfl
set_option maxRecDepth 100000 in
theorem w_982 : Cond.methodLink "ViewCardsLaw" 19 yX9_card ∈ TW := TW_t5 22 rfl rfl
set_option maxRecDepth 100000 in
theorem w_983 : Cond.instanceMethod yX9_card ∈ TW := TW_t5 23 rfl rfl
set_option maxRecDepth 100000 in
theorem w_984 : Cond.selects yX9_card.cls yX9_card yX9_card ∈ TW := TW_t5 24 rfl rfl
set_option maxRecDepth 100000 in
theorem w_988 : Cond.code yX9_in cX9_in 3 (some .boolean) ∈ TW := TW_t5 28 rfl rfl
set_option maxRecDepth 100000 in
theorem w_986 : Cond.methodLink RX9 124 yX9_in ∈ TW := TW_t5 26 rfl rfl
set_option maxRecDepth 100000 in
theorem w_987 : Cond.static yX9_in ∈ TW := TW_t5 27 rfl rfl
set_option maxRecDepth 100000 in
theorem w_991 : Cond.code yX9_isPublisher cX9_isPublisher 1 (some .boolean) ∈ TW := TW_t5 31 rfl rfl
set_option maxRecDepth 100000 in
theorem w_989 : Cond.methodLink RX9 128 yX9_isPublisher ∈ TW := TW_t5 29 rfl rfl
set_option maxRecDepth 100000 in
theorem w_990 : Cond.static yX9_isPublisher ∈ TW := TW_t5 30 rfl rfl
set_option maxRecDepth 100000 in
theorem w_995 : Cond.code yX9_caption cX9_caption 6 (some .int) ∈ TW := TW_t5 35 rfl rfl
set_option maxRecDepth 100000 in
theorem w_992 : Cond.methodLink "ViewCardsLaw" 24 yX9_caption ∈ TW := TW_t5 32 rfl rfl
set_option maxRecDepth 100000 in
theorem w_993 : Cond.instanceMethod yX9_caption ∈ TW := TW_t5 33 rfl rfl
set_option maxRecDepth 100000 in
theorem w_994 : Cond.selects yX9_caption.cls yX9_caption yX9_caption ∈ TW := TW_t5 34 rfl rfl
set_option maxRecDepth 100000 in
theorem w_999 : Cond.code yX9_isThere cX9_isThere 2 (some .boolean) ∈ TW := TW_t5 39 rfl rfl
set_option maxRecDepth 100000 in
theorem w_996 : Cond.methodLink RX9 135 yX9_isThere ∈ TW := TW_t5 36 rfl rfl
set_option maxRecDepth 100000 in
theorem w_998 : Cond.instanceMethod yX9_isThere ∈ TW := TW_t5 38 rfl rfl
set_option maxRecDepth 100000 in
theorem ws_24 : Cond.selects yX9_isThere.cls yX9_isThere yX9_isThere ∈ TW := TW_pr 24 rfl rfl
set_option maxRecDepth 100000 in
theorem w_1003 : Cond.code yX9_thereMany cX9_thereMany 2 (some .int) ∈ TW := TW_t5 43 rfl rfl
set_option maxRecDepth 100000 in
theorem w_1000 : Cond.methodLink RX9 120 yX9_thereMany ∈ TW := TW_t5 40 rfl rfl
set_option maxRecDepth 100000 in
theorem w_1002 : Cond.instanceMethod yX9_thereMany ∈ TW := TW_t5 42 rfl rfl
set_option maxRecDepth 100000 in
theorem ws_25 : Cond.selects yX9_thereMany.cls yX9_thereMany yX9_thereMany ∈ TW := TW_pr 25 rfl rfl
set_option maxRecDepth 100000 in
theorem w_1008 : Cond.code yX9_days cX9_days 2 (some .int) ∈ TW := TW_t5 48 rfl rfl
set_option maxRecDepth 100000 in
theorem w_1005 : Cond.methodLink "ViewCardsLaw" 29 yX9_days ∈ TW := TW_t5 45 rfl rfl
set_option maxRecDepth 100000 in
theorem w_1006 : Cond.instanceMethod yX9_days ∈ TW := TW_t5 46 rfl rfl
set_option maxRecDepth 100000 in
theorem w_1007 : Cond.selects yX9_days.cls yX9_days yX9_days ∈ TW := TW_t5 47 rfl rfl
set_option maxRecDepth 100000 in
theorem w_1012 : Cond.code yX9_set cX9_set 4 (some .int) ∈ TW := TW_t5 52 rfl rfl
set_option maxRecDepth 100000 in
theorem w_1009 : Cond.methodLink "ViewCardsLaw" 34 yX9_set ∈ TW := TW_t5 49 rfl rfl
set_option maxRecDepth 100000 in
theorem w_1010 : Cond.instanceMethod yX9_set ∈ TW := TW_t5 50 rfl rfl
set_option maxRecDepth 100000 in
theorem w_1011 : Cond.selects yX9_set.cls yX9_set yX9_set ∈ TW := TW_t5 51 rfl rfl
set_option maxRecDepth 100000 in
theorem w_1016 : Cond.code yX9_difference cX9_difference 3 (some .int) ∈ TW := TW_t5 56 rfl rfl
set_option maxRecDepth 100000 in
theorem w_1013 : Cond.methodLink "ViewCardsLaw" 38 yX9_difference ∈ TW := TW_t5 53 rfl rfl
set_option maxRecDepth 100000 in
theorem w_1014 : Cond.instanceMethod yX9_difference ∈ TW := TW_t5 54 rfl rfl
set_option maxRecDepth 100000 in
theorem w_1015 : Cond.selects yX9_difference.cls yX9_difference yX9_difference ∈ TW := TW_t5 55 rfl rfl
set_option maxRecDepth 100000 in
theorem w_1020 : Cond.code yX9_unlikeOf cX9_unlikeOf 6 (some .int) ∈ TW := TW_t5 60 rfl rfl
set_option maxRecDepth 100000 in
theorem w_1017 : Cond.methodLink RX9 148 yX9_unlikeOf ∈ TW := TW_t5 57 rfl rfl
set_option maxRecDepth 100000 in
theorem w_1019 : Cond.instanceMethod yX9_unlikeOf ∈ TW := TW_t5 59 rfl rfl
set_option maxRecDepth 100000 in
theorem ws_26 : Cond.selects yX9_unlikeOf.cls yX9_unlikeOf yX9_unlikeOf ∈ TW := TW_pr 26 rfl rfl
set_option maxRecDepth 100000 in
theorem w_1024 : Cond.code yX9_unlikeBy cX9_unlikeBy 9 (some .int) ∈ TW := TW_t5 64 rfl rfl
set_option maxRecDepth 100000 in
theorem w_1021 : Cond.methodLink RX9 144 yX9_unlikeBy ∈ TW := TW_t5 61 rfl rfl
set_option maxRecDepth 100000 in
theorem w_1023 : Cond.instanceMethod yX9_unlikeBy ∈ TW := TW_t5 63 rfl rfl
set_option maxRecDepth 100000 in
theorem ws_27 : Cond.selects yX9_unlikeBy.cls yX9_unlikeBy yX9_unlikeBy ∈ TW := TW_pr 27 rfl rfl
set_option maxRecDepth 100000 in
theorem w_1027 : Cond.code yX9_bit cX9_bit 4 (some .int) ∈ TW := TW_t5 67 rfl rfl
set_option maxRecDepth 100000 in
theorem w_1025 : Cond.methodLink RX9 140 yX9_bit ∈ TW := TW_t5 65 rfl rfl
set_option maxRecDepth 100000 in
theorem w_1026 : Cond.static yX9_bit ∈ TW := TW_t5 66 rfl rfl
set_option maxRecDepth 100000 in
theorem w_1031 : Cond.code yX9_far cX9_far 3 (some .int) ∈ TW := TW_t5 71 rfl rfl
set_option maxRecDepth 100000 in
theorem w_1028 : Cond.methodLink "ViewCardsLaw" 46 yX9_far ∈ TW := TW_t5 68 rfl rfl
set_option maxRecDepth 100000 in
theorem w_1029 : Cond.instanceMethod yX9_far ∈ TW := TW_t5 69 rfl rfl
set_option maxRecDepth 100000 in
theorem w_1030 : Cond.selects yX9_far.cls yX9_far yX9_far ∈ TW := TW_t5 70 rfl rfl
set_option maxRecDepth 100000 in
theorem w_1035 : Cond.code yX9_farOf cX9_farOf 6 (some .int) ∈ TW := TW_t5 75 rfl rfl
set_option maxRecDepth 100000 in
theorem w_1032 : Cond.methodLink RX9 152 yX9_farOf ∈ TW := TW_t5 72 rfl rfl
set_option maxRecDepth 100000 in
theorem w_1034 : Cond.instanceMethod yX9_farOf ∈ TW := TW_t5 74 rfl rfl
set_option maxRecDepth 100000 in
theorem ws_28 : Cond.selects yX9_farOf.cls yX9_farOf yX9_farOf ∈ TW := TW_pr 28 rfl rfl
set_option maxRecDepth 100000 in
theorem w_1039 : Cond.code yX9_match cX9_match 3 (some .int) ∈ TW := TW_t5 79 rfl rfl
set_option maxRecDepth 100000 in
theorem w_1036 : Cond.methodLink "ViewCardsLaw" 50 yX9_match ∈ TW := TW_t5 76 rfl rfl
set_option maxRecDepth 100000 in
theorem w_1037 : Cond.instanceMethod yX9_match ∈ TW := TW_t5 77 rfl rfl
set_option maxRecDepth 100000 in
theorem w_1038 : Cond.selects yX9_match.cls yX9_match yX9_match ∈ TW := TW_t5 78 rfl rfl
set_option maxRecDepth 100000 in
theorem w_1043 : Cond.code yX9_findUnlike cX9_findUnlike 3 none ∈ TW := TW_t5 83 rfl rfl
set_option maxRecDepth 100000 in
theorem w_1040 : Cond.methodLink RX9 162 yX9_findUnlike ∈ TW := TW_t5 80 rfl rfl
set_option maxRecDepth 100000 in
theorem w_1042 : Cond.instanceMethod yX9_findUnlike ∈ TW := TW_t5 82 rfl rfl
set_option maxRecDepth 100000 in
theorem ws_29 : Cond.selects yX9_findUnlike.cls yX9_findUnlike yX9_findUnlike ∈ TW := TW_pr 29 rfl rfl
set_option maxRecDepth 100000 in
theorem w_1047 : Cond.code yX9_isMatch cX9_isMatch 4 (some .boolean) ∈ TW := TW_t5 87 rfl rfl
set_option maxRecDepth 100000 in
theorem w_1044 : Cond.methodLink RX9 159 yX9_isMatch ∈ TW := TW_t5 84 rfl rfl
set_option maxRecDepth 100000 in
theorem w_1046 : Cond.instanceMethod yX9_isMatch ∈ TW := TW_t5 86 rfl rfl
set_option maxRecDepth 100000 in
theorem ws_30 : Cond.selects yX9_isMatch.cls yX9_isMatch yX9_isMatch ∈ TW := TW_pr 30 rfl rfl
set_option maxRecDepth 100000 in
theorem w_1051 : Cond.code yX9_isLike cX9_isLike 3 (some .boolean) ∈ TW := TW_t5 91 rfl rfl
set_option maxRecDepth 100000 in
theorem w_1048 : Cond.methodLink RX9 155 yX9_isLike ∈ TW := TW_t5 88 rfl rfl
set_option maxRecDepth 100000 in
theorem w_1050 : Cond.instanceMethod yX9_isLike ∈ TW := TW_t5 90 rfl rfl
set_option maxRecDepth 100000 in
theorem ws_31 : Cond.selects yX9_isLike.cls yX9_isLike yX9_isLike ∈ TW := TW_pr 31 rfl rfl
set_option maxRecDepth 100000 in
theorem w_1055 : Cond.code yX9_negative cX9_negative 2 (some .int) ∈ TW := TW_t5 95 rfl rfl
set_option maxRecDepth 100000 in
theorem w_1052 : Cond.methodLink "ViewCardsLaw" 42 yX9_negative ∈ TW := TW_t5 92 rfl rfl
set_option maxRecDepth 100000 in
theorem w_1053 : Cond.instanceMethod yX9_negative ∈ TW := TW_t5 93 rfl rfl
set_option maxRecDepth 100000 in
theorem w_1054 : Cond.selects yX9_negative.cls yX9_negative yX9_negative ∈ TW := TW_t5 94 rfl rfl
set_option maxRecDepth 100000 in
theorem w_1059 : Cond.code yX9_findChains cX9_findChains 11 none ∈ TW := TW_t5 99 rfl rfl
set_option maxRecDepth 100000 in
theorem w_1056 : Cond.methodLink RX9 165 yX9_findChains ∈ TW := TW_t5 96 rfl rfl
set_option maxRecDepth 100000 in
theorem w_1058 : Cond.instanceMethod yX9_findChains ∈ TW := TW_t5 98 rfl rfl
set_option maxRecDepth 100000 in
theorem ws_32 : Cond.selects yX9_findChains.cls yX9_findChains yX9_findChains ∈ TW := TW_pr 32 rfl rfl
set_option maxRecDepth 100000 in
theorem w_1063 : Cond.code yX9_of cX9_of 5 (some .int) ∈ TW := TW_t5 103 rfl rfl
set_option maxRecDepth 100000 in
theorem w_1060 : Cond.methodLink "ViewCardsLaw" 54 yX9_of ∈ TW := TW_t5 100 rfl rfl
set_option maxRecDepth 100000 in
theorem w_1061 : Cond.instanceMethod yX9_of ∈ TW := TW_t5 101 rfl rfl
set_option maxRecDepth 100000 in
theorem w_1062 : Cond.selects yX9_of.cls yX9_of yX9_of ∈ TW := TW_t5 102 rfl rfl
set_option maxRecDepth 100000 in
theorem w_1066 : Cond.code yX9_bits cX9_bits 3 (some .int) ∈ TW := TW_t5 106 rfl rfl
set_option maxRecDepth 100000 in
theorem w_1064 : Cond.methodLink RX9 173 yX9_bits ∈ TW := TW_t5 104 rfl rfl
set_option maxRecDepth 100000 in
theorem w_1065 : Cond.static yX9_bits ∈ TW := TW_t5 105 rfl rfl
set_option maxRecDepth 100000 in
theorem w_1070 : Cond.code yX9_listsOf cX9_listsOf 4 (some .int) ∈ TW := TW_t5 110 rfl rfl
set_option maxRecDepth 100000 in
theorem w_1067 : Cond.methodLink RX9 169 yX9_listsOf ∈ TW := TW_t5 107 rfl rfl
set_option maxRecDepth 100000 in
theorem w_1069 : Cond.instanceMethod yX9_listsOf ∈ TW := TW_t5 109 rfl rfl
set_option maxRecDepth 100000 in
theorem ws_33 : Cond.selects yX9_listsOf.cls yX9_listsOf yX9_listsOf ∈ TW := TW_pr 33 rfl rfl
set_option maxRecDepth 100000 in
theorem w_1074 : Cond.code yX9_rivalsOf cX9_rivalsOf 6 (some .int) ∈ TW := TW_t5 114 rfl rfl
set_option maxRecDepth 100000 in
theorem w_1071 : Cond.methodLink RX9 179 yX9_rivalsOf ∈ TW := TW_t5 111 rfl rfl
set_option maxRecDepth 100000 in
theorem w_1073 : Cond.instanceMethod yX9_rivalsOf ∈ TW := TW_t5 113 rfl rfl
set_option maxRecDepth 100000 in
theorem ws_34 : Cond.selects yX9_rivalsOf.cls yX9_rivalsOf yX9_rivalsOf ∈ TW := TW_pr 34 rfl rfl
set_option maxRecDepth 100000 in
theorem w_1078 : Cond.code yX9_priceOf cX9_priceOf 5 (some .int) ∈ TW := TW_t5 118 rfl rfl
set_option maxRecDepth 100000 in
theorem w_1075 : Cond.methodLink RX9 182 yX9_priceOf ∈ TW := TW_t5 115 rfl rfl
set_option maxRecDepth 100000 in
theorem w_1077 : Cond.instanceMethod yX9_priceOf ∈ TW := TW_t5 117 rfl rfl
set_option maxRecDepth 100000 in
theorem ws_35 : Cond.selects yX9_priceOf.cls yX9_priceOf yX9_priceOf ∈ TW := TW_pr 35 rfl rfl
set_option maxRecDepth 100000 in
theorem w_1082 : Cond.code yX9_isMissing cX9_isMissing 3 (some .boolean) ∈ TW := TW_t5 122 rfl rfl
set_option maxRecDepth 100000 in
theorem w_1079 : Cond.methodLink RX9 176 yX9_isMissing ∈ TW := TW_t5 119 rfl rfl
set_option maxRecDepth 100000 in
theorem w_1081 : Cond.instanceMethod yX9_isMissing ∈ TW := TW_t5 121 rfl rfl
set_option maxRecDepth 100000 in
theorem ws_36 : Cond.selects yX9_isMissing.cls yX9_isMissing yX9_isMissing ∈ TW := TW_pr 36 rfl rfl
set_option maxRecDepth 100000 in
theorem w_1086 : Cond.code yX9_endOf cX9_endOf 4 (some .int) ∈ TW := TW_t5 126 rfl rfl
set_option maxRecDepth 100000 in
theorem w_1083 : Cond.methodLink RX9 188 yX9_endOf ∈ TW := TW_t5 123 rfl rfl
set_option maxRecDepth 100000 in
theorem w_1085 : Cond.instanceMethod yX9_endOf ∈ TW := TW_t5 125 rfl rfl
set_option maxRecDepth 100000 in
theorem ws_37 : Cond.selects yX9_endOf.cls yX9_endOf yX9_endOf ∈ TW := TW_pr 37 rfl rfl
set_option maxRecDepth 100000 in
theorem w_1090 : Cond.code yX9_hasNumber cX9_hasNumber 5 (some .boolean) ∈ TW := TW_t5 130 rfl rfl
set_option maxRecDepth 100000 in
theorem w_1087 : Cond.methodLink RX9 185 yX9_hasNumber ∈ TW := TW_t5 127 rfl rfl
set_option maxRecDepth 100000 in
theorem w_1089 : Cond.instanceMethod yX9_hasNumber ∈ TW := TW_t5 129 rfl rfl
set_option maxRecDepth 100000 in
theorem ws_38 : Cond.selects yX9_hasNumber.cls yX9_hasNumber yX9_hasNumber ∈ TW := TW_pr 38 rfl rfl
set_option maxRecDepth 100000 in
theorem w_1094 : Cond.code yX9_series cX9_series 9 (some .int) ∈ TW := TW_t5 134 rfl rfl
set_option maxRecDepth 100000 in
theorem w_1091 : Cond.methodLink "ViewCardsLaw" 58 yX9_series ∈ TW := TW_t5 131 rfl rfl
set_option maxRecDepth 100000 in
theorem w_1092 : Cond.instanceMethod yX9_series ∈ TW := TW_t5 132 rfl rfl
set_option maxRecDepth 100000 in
theorem w_1093 : Cond.selects yX9_series.cls yX9_series yX9_series ∈ TW := TW_t5 133 rfl rfl
set_option maxRecDepth 100000 in
theorem w_1098 : Cond.code yX9_gap cX9_gap 6 (some .int) ∈ TW := TW_t5 138 rfl rfl
set_option maxRecDepth 100000 in
theorem w_1095 : Cond.methodLink "ViewCardsLaw" 62 yX9_gap ∈ TW := TW_t5 135 rfl rfl
set_option maxRecDepth 100000 in
theorem w_1096 : Cond.instanceMethod yX9_gap ∈ TW := TW_t5 136 rfl rfl
set_option maxRecDepth 100000 in
theorem w_1097 : Cond.selects yX9_gap.cls yX9_gap yX9_gap ∈ TW := TW_t5 137 rfl rfl
set_option maxRecDepth 100000 in
theorem w_1102 : Cond.code yX9_unseen cX9_unseen 6 (some .int) ∈ TW := TW_t5 142 rfl rfl
set_option maxRecDepth 100000 in
theorem w_1099 : Cond.methodLink "ViewCardsLaw" 66 yX9_unseen ∈ TW := TW_t5 139 rfl rfl
set_option maxRecDepth 100000 in
theorem w_1100 : Cond.instanceMethod yX9_unseen ∈ TW := TW_t5 140 rfl rfl
set_option maxRecDepth 100000 in
theorem w_1101 : Cond.selects yX9_unseen.cls yX9_unseen yX9_unseen ∈ TW := TW_t5 141 rfl rfl
set_option maxRecDepth 100000 in
theorem w_1105 : Cond.code yX9_lowest cX9_lowest 4 (some .int) ∈ TW := TW_t5 145 rfl rfl
set_option maxRecDepth 100000 in
theorem w_1103 : Cond.methodLink RX9 194 yX9_lowest ∈ TW := TW_t5 143 rfl rfl
set_option maxRecDepth 100000 in
theorem w_1104 : Cond.static yX9_lowest ∈ TW := TW_t5 144 rfl rfl
set_option maxRecDepth 100000 in
theorem w_1108 : Cond.code yX9_common cX9_common 5 (some .int) ∈ TW := TW_t5 148 rfl rfl
set_option maxRecDepth 100000 in
theorem w_1106 : Cond.methodLink RX9 191 yX9_common ∈ TW := TW_t5 146 rfl rfl
set_option maxRecDepth 100000 in
theorem w_1107 : Cond.static yX9_common ∈ TW := TW_t5 147 rfl rfl
set_option maxRecDepth 100000 in
theorem w_1112 : Cond.code yX9_overlap cX9_overlap 9 (some .int) ∈ TW := TW_t5 152 rfl rfl
set_option maxRecDepth 100000 in
theorem w_1109 : Cond.methodLink "ViewCardsLaw" 71 yX9_overlap ∈ TW := TW_t5 149 rfl rfl
set_option maxRecDepth 100000 in
theorem w_1110 : Cond.instanceMethod yX9_overlap ∈ TW := TW_t5 150 rfl rfl
set_option maxRecDepth 100000 in
theorem w_1111 : Cond.selects yX9_overlap.cls yX9_overlap yX9_overlap ∈ TW := TW_t5 151 rfl rfl
set_option maxRecDepth 100000 in
theorem w_1116 : Cond.code yX9_feature cX9_feature 4 (some .int) ∈ TW := TW_t5 156 rfl rfl
set_option maxRecDepth 100000 in
theorem w_1113 : Cond.methodLink "ViewCardsLaw" 75 yX9_feature ∈ TW := TW_t5 153 rfl rfl
set_option maxRecDepth 100000 in
theorem w_1114 : Cond.instanceMethod yX9_feature ∈ TW := TW_t5 154 rfl rfl
set_option maxRecDepth 100000 in
theorem w_1115 : Cond.selects yX9_feature.cls yX9_feature yX9_feature ∈ TW := TW_t5 155 rfl rfl
set_option maxRecDepth 100000 in
theorem w_1119 : Cond.code yX9_isDay cX9_isDay 1 (some .boolean) ∈ TW := TW_t5 159 rfl rfl
set_option maxRecDepth 100000 in
theorem w_1117 : Cond.methodLink RX9 198 yX9_isDay ∈ TW := TW_t5 157 rfl rfl
set_option maxRecDepth 100000 in
theorem w_1118 : Cond.static yX9_isDay ∈ TW := TW_t5 158 rfl rfl
set_option maxRecDepth 100000 in
theorem w_1123 : Cond.code yX9_shows cX9_shows 5 (some .int) ∈ TW := TW_t5 163 rfl rfl
set_option maxRecDepth 100000 in
theorem w_1120 : Cond.methodLink "ViewCardsLaw" 79 yX9_shows ∈ TW := TW_t5 160 rfl rfl
set_option maxRecDepth 100000 in
theorem w_1121 : Cond.instanceMethod yX9_shows ∈ TW := TW_t5 161 rfl rfl
set_option maxRecDepth 100000 in
theorem w_1122 : Cond.selects yX9_shows.cls yX9_shows yX9_shows ∈ TW := TW_t5 162 rfl rfl
set_option maxRecDepth 100000 in
theorem w_1127 : Cond.code yX9_back cX9_back 4 (some .int) ∈ TW := TW_t5 167 rfl rfl
set_option maxRecDepth 100000 in
theorem w_1124 : Cond.methodLink "ViewCardsLaw" 83 yX9_back ∈ TW := TW_t5 164 rfl rfl
set_option maxRecDepth 100000 in
theorem w_1125 : Cond.instanceMethod yX9_back ∈ TW := TW_t5 165 rfl rfl
set_option maxRecDepth 100000 in
theorem w_1126 : Cond.selects yX9_back.cls yX9_back yX9_back ∈ TW := TW_t5 166 rfl rfl
set_option maxRecDepth 100000 in
theorem w_1131 : Cond.code yX9_later cX9_later 3 (some .int) ∈ TW := TW_t5 171 rfl rfl
set_option maxRecDepth 100000 in
theorem w_1128 : Cond.methodLink "ViewCardsLaw" 87 yX9_later ∈ TW := TW_t5 168 rfl rfl
set_option maxRecDepth 100000 in
theorem w_1129 : Cond.instanceMethod yX9_later ∈ TW := TW_t5 169 rfl rfl
set_option maxRecDepth 100000 in
theorem w_1130 : Cond.selects yX9_later.cls yX9_later yX9_later ∈ TW := TW_t5 170 rfl rfl
set_option maxRecDepth 100000 in
theorem w_1135 : Cond.code yX9_span cX9_span 4 (some .int) ∈ TW := TW_t5 175 rfl rfl
set_option maxRecDepth 100000 in
theorem w_1132 : Cond.methodLink "ViewCardsLaw" 91 yX9_span ∈ TW := TW_t5 172 rfl rfl
set_option maxRecDepth 100000 in
theorem w_1133 : Cond.instanceMethod yX9_span ∈ TW := TW_t5 173 rfl rfl
set_option maxRecDepth 100000 in
theorem w_1134 : Cond.selects yX9_span.cls yX9_span yX9_span ∈ TW := TW_t5 174 rfl rfl
set_option maxRecDepth 100000 in
theorem w_1139 : Cond.code yX9_areSpans cX9_areSpans 6 (some .boolean) ∈ TW := TW_t5 179 rfl rfl
set_option maxRecDepth 100000 in
theorem w_1136 : Cond.methodLink RX9 228 yX9_areSpans ∈ TW := TW_t5 176 rfl rfl
set_option maxRecDepth 100000 in
theorem w_1138 : Cond.instanceMethod yX9_areSpans ∈ TW := TW_t5 178 rfl rfl
set_option maxRecDepth 100000 in
theorem ws_39 : Cond.selects yX9_areSpans.cls yX9_areSpans yX9_areSpans ∈ TW := TW_pr 39 rfl rfl
set_option maxRecDepth 100000 in
theorem w_1143 : Cond.code yX9_isEmpty cX9_isEmpty 4 (some .boolean) ∈ TW := TW_t5 183 rfl rfl
set_option maxRecDepth 100000 in
theorem w_1140 : Cond.methodLink RX9 221 yX9_isEmpty ∈ TW := TW_t5 180 rfl rfl
set_option maxRecDepth 100000 in
theorem w_1142 : Cond.instanceMethod yX9_isEmpty ∈ TW := TW_t5 182 rfl rfl
set_option maxRecDepth 100000 in
theorem ws_40 : Cond.selects yX9_isEmpty.cls yX9_isEmpty yX9_isEmpty ∈ TW := TW_pr 40 rfl rfl
set_option maxRecDepth 100000 in
theorem w_1147 : Cond.code yX9_narrow cX9_narrow 5 none ∈ TW := TW_t5 187 rfl rfl
set_option maxRecDepth 100000 in
theorem w_1144 : Cond.methodLink RX9 224 yX9_narrow ∈ TW := TW_t5 184 rfl rfl
set_option maxRecDepth 100000 in
theorem w_1146 : Cond.instanceMethod yX9_narrow ∈ TW := TW_t5 186 rfl rfl
set_option maxRecDepth 100000 in
theorem ws_41 : Cond.selects yX9_narrow.cls yX9_narrow yX9_narrow ∈ TW := TW_pr 41 rfl rfl
set_option maxRecDepth 100000 in
theorem w_1151 : Cond.code yX9_takenIn cX9_takenIn 4 none ∈ TW := TW_t5 191 rfl rfl
set_option maxRecDepth 100000 in
theorem w_1148 : Cond.methodLink RX9 208 yX9_takenIn ∈ TW := TW_t5 188 rfl rfl
set_option maxRecDepth 100000 in
theorem w_1150 : Cond.instanceMethod yX9_takenIn ∈ TW := TW_t5 190 rfl rfl
set_option maxRecDepth 100000 in
theorem ws_42 : Cond.selects yX9_takenIn.cls yX9_takenIn yX9_takenIn ∈ TW := TW_pr 42 rfl rfl
set_option maxRecDepth 100000 in
theorem w_1155 : Cond.code yX9_outIn cX9_outIn 4 none ∈ TW := TW_t5 195 rfl rfl
set_option maxRecDepth 100000 in
theorem w_1152 : Cond.methodLink RX9 212 yX9_outIn ∈ TW := TW_t5 192 rfl rfl
set_option maxRecDepth 100000 in
theorem w_1154 : Cond.instanceMethod yX9_outIn ∈ TW := TW_t5 194 rfl rfl
set_option maxRecDepth 100000 in
theorem ws_43 : Cond.selects yX9_outIn.cls yX9_outIn yX9_outIn ∈ TW := TW_pr 43 rfl rfl
set_option maxRecDepth 100000 in
theorem w_1159 : Cond.code yX9_isOf cX9_isOf 3 (some .boolean) ∈ TW := TW_t5 199 rfl rfl
set_option maxRecDepth 100000 in
theorem w_1156 : Cond.methodLink RX9 218 yX9_isOf ∈ TW := TW_t5 196 rfl rfl
set_option maxRecDepth 100000 in
theorem w_1158 : Cond.instanceMethod yX9_isOf ∈ TW := TW_t5 198 rfl rfl
set_option maxRecDepth 100000 in
theorem ws_44 : Cond.selects yX9_isOf.cls yX9_isOf yX9_isOf ∈ TW := TW_pr 44 rfl rfl
set_option maxRecDepth 100000 in
theorem w_1163 : Cond.code yX9_quarrel cX9_quarrel 1 (some .int) ∈ TW := TW_t5 203 rfl rfl
set_option maxRecDepth 100000 in
theorem w_1160 : Cond.methodLink "ViewCardsLaw" 96 yX9_quarrel ∈ TW := TW_t5 200 rfl rfl
set_option maxRecDepth 100000 in
theorem w_1161 : Cond.instanceMethod yX9_quarrel ∈ TW := TW_t5 201 rfl rfl
set_option maxRecDepth 100000 in
theorem w_1162 : Cond.selects yX9_quarrel.cls yX9_quarrel yX9_quarrel ∈ TW := TW_t5 202 rfl rfl
set_option maxRecDepth 100000 in
theorem w_1167 : Cond.code yX9_culprit cX9_culprit 2 (some .int) ∈ TW := TW_t5 207 rfl rfl
set_option maxRecDepth 100000 in
theorem w_1164 : Cond.methodLink "ViewCardsLaw" 100 yX9_culprit ∈ TW := TW_t5 204 rfl rfl
set_option maxRecDepth 100000 in
theorem w_1165 : Cond.instanceMethod yX9_culprit ∈ TW := TW_t5 205 rfl rfl
set_option maxRecDepth 100000 in
theorem w_1166 : Cond.selects yX9_culprit.cls yX9_culprit yX9_culprit ∈ TW := TW_t5 206 rfl rfl
set_option maxRecDepth 100000 in
theorem w_1171 : Cond.code yX9_landmark cX9_landmark 3 (some .int) ∈ TW := TW_t5 211 rfl rfl
set_option maxRecDepth 100000 in
theorem w_1168 : Cond.methodLink "ViewCardsLaw" 104 yX9_landmark ∈ TW := TW_t5 208 rfl rfl
set_option maxRecDepth 100000 in
theorem w_1169 : Cond.instanceMethod yX9_landmark ∈ TW := TW_t5 209 rfl rfl
set_option maxRecDepth 100000 in
theorem w_1170 : Cond.selects yX9_landmark.cls yX9_landmark yX9_landmark ∈ TW := TW_t5 210 rfl rfl
set_option maxRecDepth 100000 in
theorem w_1175 : Cond.code yX9_walls cX9_walls 3 (some .int) ∈ TW := TW_t5 215 rfl rfl
set_option maxRecDepth 100000 in
theorem w_1172 : Cond.methodLink "ViewCardsLaw" 109 yX9_walls ∈ TW := TW_t5 212 rfl rfl
set_option maxRecDepth 100000 in
theorem w_1173 : Cond.instanceMethod yX9_walls ∈ TW := TW_t5 213 rfl rfl
set_option maxRecDepth 100000 in
theorem w_1174 : Cond.selects yX9_walls.cls yX9_walls yX9_walls ∈ TW := TW_t5 214 rfl rfl
set_option maxRecDepth 100000 in
theorem w_1179 : Cond.code yX9_view cX9_view 4 (some .int) ∈ TW := TW_t5 219 rfl rfl
set_option maxRecDepth 100000 in
theorem w_1176 : Cond.methodLink "ViewCardsLaw" 113 yX9_view ∈ TW := TW_t5 216 rfl rfl
set_option maxRecDepth 100000 in
theorem w_1177 : Cond.instanceMethod yX9_view ∈ TW := TW_t5 217 rfl rfl
set_option maxRecDepth 100000 in
theorem w_1178 : Cond.selects yX9_view.cls yX9_view yX9_view ∈ TW := TW_t5 218 rfl rfl
set_option maxRecDepth 100000 in
theorem w_1183 : Cond.code yX9_unview cX9_unview 3 (some .int) ∈ TW := TW_t5 223 rfl rfl
set_option maxRecDepth 100000 in
theorem w_1180 : Cond.methodLink "ViewCardsLaw" 117 yX9_unview ∈ TW := TW_t5 220 rfl rfl
set_option maxRecDepth 100000 in
theorem w_1181 : Cond.instanceMethod yX9_unview ∈ TW := TW_t5 221 rfl rfl
set_option maxRecDepth 100000 in
theorem w_1182 : Cond.selects yX9_unview.cls yX9_unview yX9_unview ∈ TW := TW_t5 222 rfl rfl
set_option maxRecDepth 100000 in
theorem w_1187 : Cond.code yX9_stood cX9_stood 2 (some .long) ∈ TW := TW_t5 227 rfl rfl
set_option maxRecDepth 100000 in
theorem w_1184 : Cond.methodLink "ViewCardsLaw" 122 yX9_stood ∈ TW := TW_t5 224 rfl rfl
set_option maxRecDepth 100000 in
theorem w_1185 : Cond.instanceMethod yX9_stood ∈ TW := TW_t5 225 rfl rfl
set_option maxRecDepth 100000 in
theorem w_1186 : Cond.selects yX9_stood.cls yX9_stood yX9_stood ∈ TW := TW_t5 226 rfl rfl
set_option maxRecDepth 100000 in
theorem w_1191 : Cond.code yX9_stoodOf cX9_stoodOf 5 (some .long) ∈ TW := TW_t5 231 rfl rfl
set_option maxRecDepth 100000 in
theorem w_1188 : Cond.methodLink RX9 248 yX9_stoodOf ∈ TW := TW_t5 228 rfl rfl
set_option maxRecDepth 100000 in
theorem w_1190 : Cond.instanceMethod yX9_stoodOf ∈ TW := TW_t5 230 rfl rfl
set_option maxRecDepth 100000 in
theorem ws_45 : Cond.selects yX9_stoodOf.cls yX9_stoodOf yX9_stoodOf ∈ TW := TW_pr 45 rfl rfl
set_option maxRecDepth 100000 in
theorem w_1195 : Cond.code yX9_mayStand cX9_mayStand 8 (some .boolean) ∈ TW := TW_t5 235 rfl rfl
set_option maxRecDepth 100000 in
theorem w_1192 : Cond.methodLink RX9 245 yX9_mayStand ∈ TW := TW_t5 232 rfl rfl
set_option maxRecDepth 100000 in
theorem w_1194 : Cond.instanceMethod yX9_mayStand ∈ TW := TW_t5 234 rfl rfl
set_option maxRecDepth 100000 in
theorem ws_46 : Cond.selects yX9_mayStand.cls yX9_mayStand yX9_mayStand ∈ TW := TW_pr 46 rfl rfl
set_option maxRecDepth 100000 in
theorem w_1199 : Cond.code yX9_isWall cX9_isWall 2 (some .boolean) ∈ TW := TW_t5 239 rfl rfl
set_option maxRecDepth 100000 in
theorem w_1196 : Cond.methodLink RX9 236 yX9_isWall ∈ TW := TW_t5 236 rfl rfl
set_option maxRecDepth 100000 in
theorem w_1198 : Cond.instanceMethod yX9_isWall ∈ TW := TW_t5 238 rfl rfl
set_option maxRecDepth 100000 in
theorem ws_47 : Cond.selects yX9_isWall.cls yX9_isWall yX9_isWall ∈ TW := TW_pr 47 rfl rfl
set_option maxRecDepth 100000 in
theorem w_1203 : Cond.code yX9_isSeen cX9_isSeen 8 (some .boolean) ∈ TW := TW_t6 3 rfl rfl
set_option maxRecDepth 100000 in
theorem w_1200 : Cond.methodLink RX9 239 yX9_isSeen ∈ TW := TW_t6 0 rfl rfl
set_option maxRecDepth 100000 in
theorem w_1202 : Cond.instanceMethod yX9_isSeen ∈ TW := TW_t6 2 rfl rfl
set_option maxRecDepth 100000 in
theorem ws_48 : Cond.selects yX9_isSeen.cls yX9_isSeen yX9_isSeen ∈ TW := TW_pr 48 rfl rfl
set_option maxRecDepth 100000 in
theorem w_1207 : Cond.code yX9_isOrdered cX9_isOrdered 8 (some .boolean) ∈ TW := TW_t6 7 rfl rfl
set_option maxRecDepth 100000 in
theorem w_1204 : Cond.methodLink RX9 242 yX9_isOrdered ∈ TW := TW_t6 4 rfl rfl
set_option maxRecDepth 100000 in
theorem w_1206 : Cond.instanceMethod yX9_isOrdered ∈ TW := TW_t6 6 rfl rfl
set_option maxRecDepth 100000 in
theorem ws_49 : Cond.selects yX9_isOrdered.cls yX9_isOrdered yX9_isOrdered ∈ TW := TW_pr 49 rfl rfl
set_option maxRecDepth 100000 in
theorem w_1211 : Cond.code yX9_together cX9_together 6 (some .int) ∈ TW := TW_t6 11 rfl rfl
set_option maxRecDepth 100000 in
theorem w_1208 : Cond.methodLink "ViewCardsLaw" 126 yX9_together ∈ TW := TW_t6 8 rfl rfl
set_option maxRecDepth 100000 in
theorem w_1209 : Cond.instanceMethod yX9_together ∈ TW := TW_t6 9 rfl rfl
set_option maxRecDepth 100000 in
theorem w_1210 : Cond.selects yX9_together.cls yX9_together yX9_together ∈ TW := TW_t6 10 rfl rfl
set_option maxRecDepth 100000 in
theorem w_1216 : Cond.code yX9_write cX9_write 5 (some .int) ∈ TW := TW_t6 16 rfl rfl
set_option maxRecDepth 100000 in
theorem w_1213 : Cond.methodLink "ViewCardsLaw" 131 yX9_write ∈ TW := TW_t6 13 rfl rfl
set_option maxRecDepth 100000 in
theorem w_1214 : Cond.instanceMethod yX9_write ∈ TW := TW_t6 14 rfl rfl
set_option maxRecDepth 100000 in
theorem w_1215 : Cond.selects yX9_write.cls yX9_write yX9_write ∈ TW := TW_t6 15 rfl rfl
set_option maxRecDepth 100000 in
theorem w_1220 : Cond.code yX9_erase cX9_erase 2 (some .int) ∈ TW := TW_t6 20 rfl rfl
set_option maxRecDepth 100000 in
theorem w_1217 : Cond.methodLink "ViewCardsLaw" 135 yX9_erase ∈ TW := TW_t6 17 rfl rfl
set_option maxRecDepth 100000 in
theorem w_1218 : Cond.instanceMethod yX9_erase ∈ TW := TW_t6 18 rfl rfl
set_option maxRecDepth 100000 in
theorem w_1219 : Cond.selects yX9_erase.cls yX9_erase yX9_erase ∈ TW := TW_t6 19 rfl rfl
set_option maxRecDepth 100000 in
theorem w_1224 : Cond.code yX9_fault cX9_fault 1 (some .int) ∈ TW := TW_t6 24 rfl rfl
set_option maxRecDepth 100000 in
theorem w_1221 : Cond.methodLink "ViewCardsLaw" 139 yX9_fault ∈ TW := TW_t6 21 rfl rfl
set_option maxRecDepth 100000 in
theorem w_1222 : Cond.instanceMethod yX9_fault ∈ TW := TW_t6 22 rfl rfl
set_option maxRecDepth 100000 in
theorem w_1223 : Cond.selects yX9_fault.cls yX9_fault yX9_fault ∈ TW := TW_t6 23 rfl rfl
set_option maxRecDepth 100000 in
theorem w_1228 : Cond.code yX9_isRead cX9_isRead 2 (some .boolean) ∈ TW := TW_t6 28 rfl rfl
set_option maxRecDepth 100000 in
theorem w_1225 : Cond.methodLink RX9 315 yX9_isRead ∈ TW := TW_t6 25 rfl rfl
set_option maxRecDepth 100000 in
theorem w_1227 : Cond.instanceMethod yX9_isRead ∈ TW := TW_t6 27 rfl rfl
set_option maxRecDepth 100000 in
theorem ws_50 : Cond.selects yX9_isRead.cls yX9_isRead yX9_isRead ∈ TW := TW_pr 50 rfl rfl
set_option maxRecDepth 100000 in
theorem w_1232 : Cond.code yX9_isLine cX9_isLine 2 (some .boolean) ∈ TW := TW_t6 32 rfl rfl
set_option maxRecDepth 100000 in
theorem w_1229 : Cond.methodLink RX9 312 yX9_isLine ∈ TW := TW_t6 29 rfl rfl
set_option maxRecDepth 100000 in
theorem w_1231 : Cond.instanceMethod yX9_isLine ∈ TW := TW_t6 31 rfl rfl
set_option maxRecDepth 100000 in
theorem ws_51 : Cond.selects yX9_isLine.cls yX9_isLine yX9_isLine ∈ TW := TW_pr 51 rfl rfl
set_option maxRecDepth 100000 in
theorem w_1237 : Cond.code yX9_isWord cX9_isWord 3 (some .boolean) ∈ TW := TW_t6 37 rfl rfl
set_option maxRecDepth 100000 in
theorem w_1234 : Cond.methodLink RX9 294 yX9_isWord ∈ TW := TW_t6 34 rfl rfl
set_option maxRecDepth 100000 in
theorem w_1236 : Cond.instanceMethod yX9_isWord ∈ TW := TW_t6 36 rfl rfl
set_option maxRecDepth 100000 in
theorem ws_52 : Cond.selects yX9_isWord.cls yX9_isWord yX9_isWord ∈ TW := TW_pr 52 rfl rfl
set_option maxRecDepth 100000 in
theorem w_1241 : Cond.code yX9_nextToken cX9_nextToken 1 none ∈ TW := TW_t6 41 rfl rfl
set_option maxRecDepth 100000 in
theorem w_1238 : Cond.methodLink RX9 285 yX9_nextToken ∈ TW := TW_t6 38 rfl rfl
set_option maxRecDepth 100000 in
theorem w_1240 : Cond.instanceMethod yX9_nextToken ∈ TW := TW_t6 40 rfl rfl
set_option maxRecDepth 100000 in
theorem ws_53 : Cond.selects yX9_nextToken.cls yX9_nextToken yX9_nextToken ∈ TW := TW_pr 53 rfl rfl
set_option maxRecDepth 100000 in
theorem w_1250 : Cond.code yX9_fails cX9_fails 1 (some .boolean) ∈ TW := TW_t6 50 rfl rfl
set_option maxRecDepth 100000 in
theorem w_1247 : Cond.methodLink RX9 288 yX9_fails ∈ TW := TW_t6 47 rfl rfl
set_option maxRecDepth 100000 in
theorem w_1249 : Cond.instanceMethod yX9_fails ∈ TW := TW_t6 49 rfl rfl
set_option maxRecDepth 100000 in
theorem ws_54 : Cond.selects yX9_fails.cls yX9_fails yX9_fails ∈ TW := TW_pr 54 rfl rfl
set_option maxRecDepth 100000 in
theorem w_1254 : Cond.code yX9_isNumber cX9_isNumber 4 (some .boolean) ∈ TW := TW_t6 54 rfl rfl
set_option maxRecDepth 100000 in
theorem w_1251 : Cond.methodLink RX9 298 yX9_isNumber ∈ TW := TW_t6 51 rfl rfl
set_option maxRecDepth 100000 in
theorem w_1253 : Cond.instanceMethod yX9_isNumber ∈ TW := TW_t6 53 rfl rfl
set_option maxRecDepth 100000 in
theorem ws_55 : Cond.selects yX9_isNumber.cls yX9_isNumber yX9_isNumber ∈ TW := TW_pr 55 rfl rfl
set_option maxRecDepth 100000 in
theorem w_1262 : Cond.code yX9_catalogue cX9_catalogue 2 (some .int) ∈ TW := TW_t6 62 rfl rfl
set_option maxRecDepth 100000 in
theorem w_1259 : Cond.methodLink "ViewCardsLaw" 143 yX9_catalogue ∈ TW := TW_t6 59 rfl rfl
set_option maxRecDepth 100000 in
theorem w_1260 : Cond.instanceMethod yX9_catalogue ∈ TW := TW_t6 60 rfl rfl
set_option maxRecDepth 100000 in
theorem w_1261 : Cond.selects yX9_catalogue.cls yX9_catalogue yX9_catalogue ∈ TW := TW_t6 61 rfl rfl
set_option maxRecDepth 100000 in
theorem w_1266 : Cond.code yX9_breaks cX9_breaks 6 (some .int) ∈ TW := TW_t6 66 rfl rfl
set_option maxRecDepth 100000 in
theorem w_1263 : Cond.methodLink "ViewCardsLaw" 147 yX9_breaks ∈ TW := TW_t6 63 rfl rfl
set_option maxRecDepth 100000 in
theorem w_1264 : Cond.instanceMethod yX9_breaks ∈ TW := TW_t6 64 rfl rfl
set_option maxRecDepth 100000 in
theorem w_1265 : Cond.selects yX9_breaks.cls yX9_breaks yX9_breaks ∈ TW := TW_t6 65 rfl rfl
set_option maxRecDepth 100000 in
theorem w_1270 : Cond.code yX9_count cX9_count 4 (some .int) ∈ TW := TW_t6 70 rfl rfl
set_option maxRecDepth 100000 in
theorem w_1267 : Cond.methodLink "ViewCardsLaw" 151 yX9_count ∈ TW := TW_t6 67 rfl rfl
set_option maxRecDepth 100000 in
theorem w_1268 : Cond.instanceMethod yX9_count ∈ TW := TW_t6 68 rfl rfl
set_option maxRecDepth 100000 in
theorem w_1269 : Cond.selects yX9_count.cls yX9_count yX9_count ∈ TW := TW_t6 69 rfl rfl
set_option maxRecDepth 100000 in
theorem w_30 : Cond.code yX0_init cX0_init 1 none ∈ TW := TW_t1 30 rfl rfl
set_option maxRecDepth 100000 in
theorem w_29 : Cond.instanceMethod yX0_init ∈ TW := TW_t1 29 rfl rfl
set_option maxRecDepth 100000 in
theorem w_162 : Cond.code yX7_init cX7_init 1 none ∈ TW := TW_t1 162 rfl rfl
set_option maxRecDepth 100000 in
theorem w_161 : Cond.instanceMethod yX7_init ∈ TW := TW_t1 161 rfl rfl
set_option maxRecDepth 100000 in
theorem w_258 : Cond.code yX6_init cX6_init 1 none ∈ TW := TW_t2 18 rfl rfl
set_option maxRecDepth 100000 in
theorem w_257 : Cond.instanceMethod yX6_init ∈ TW := TW_t2 17 rfl rfl
set_option maxRecDepth 100000 in
theorem w_282 : Cond.code yX4_init cX4_init 1 none ∈ TW := TW_t2 42 rfl rfl
set_option maxRecDepth 100000 in
theorem w_281 : Cond.instanceMethod yX4_init ∈ TW := TW_t2 41 rfl rfl
set_option maxRecDepth 100000 in
theorem w_726 : Cond.code yX8_isDigit cX8_isDigit 1 (some .boolean) ∈ TW := TW_t4 6 rfl rfl
set_option maxRecDepth 100000 in
theorem w_725 : Cond.static yX8_isDigit ∈ TW := TW_t4 5 rfl rfl
section LINKS
variable {G : vG} {l : Launch} {y : MethodName} {cc : ByteArray} {nL : Nat} {ret : Option FieldType} {d mc ms : Nat} {Q : Option Value → VW → Prop} {pc : Nat} {lv : List (Option Value)} {st : List Value} {w : VW} {k n : Nat}
theorem g_X0_9 {a : Nat} {fs : List Value} {v : Value} (hy : y.cls = RX0) (hdg : decode cc pc = .ok (.getfield 9, 3)) (he : w[a]? = some (.inr (0, fs))) (hv : fs[0]? = some v) (kk : R G l y cc nL ret d mc ms Q (pc + 3) lv (v :: st) w k n) : R G l y cc nL ret d mc ms Q pc lv (.ref a :: st) w k n := R_get (C := RX0) (ref := RX0) (T := TX0) (N := 13) (ci := 0) (j := 0) rfl inX0 (by decide) (by rw [hy]; exact w_32) rfl hdg he hv kk
theorem p_X0_9 {a : Nat} {fs : List Value} {v : Value} {w2 : VW} (hy : y.cls = RX0) (hini : y.name = "<init>") (hdg : decode cc pc = .ok (.putfield 9, 3)) (he : w[a]? = some (.inr (0, fs))) (hl0 : 0 < fs.length) (hn : narrow (tyX0 0) v = v) (hf : fits (tyX0 0) v = true) (hw : w.set a (.inr (0, fs.set 0 v)) = w2) (kk : R G l y cc nL ret d mc ms Q (pc + 3) lv st w2 k n) : R G l y cc nL ret d mc ms Q pc lv (v :: .ref a :: st) w k n := R_putF (C := RX0) (ref := RX0) (T := TX0) (ty0 := tyX0) (N := 13) (ci := 0) (j := 0) rfl inX0 tyX0_ok nmX0 (by decide) (by rw [hy]; exact w_32) rfl rfl (by rw [hy]; rfl) hini hn hf hdg he hl0 (by rw [hw]; exact kk)
theorem g_X3_85 {a : Nat} {fs : List Value} {v : Value} (hy : y.cls = RX3) (hdg : decode cc pc = .ok (.getfield 85, 3)) (he : w[a]? = some (.inr (0, fs))) (hv : fs[0]? = some v) (kk : R G l y cc nL ret d mc ms Q (pc + 3) lv (v :: st) w k n) : R G l y cc nL ret d mc ms Q pc lv (.ref a :: st) w k n := R_get (C := RX0) (ref := RX0) (T := TX0) (N := 13) (ci := 0) (j := 0) rfl inX0 (by decide) (by rw [hy]; exact w_33) rfl hdg he hv kk
theorem g_X0_15 {a : Nat} {fs : List Value} {v : Value} (hy : y.cls = RX0) (hdg : decode cc pc = .ok (.getfield 15, 3)) (he : w[a]? = some (.inr (0, fs))) (hv : fs[1]? = some v) (kk : R G l y cc nL ret d mc ms Q (pc + 3) lv (v :: st) w k n) : R G l y cc nL ret d mc ms Q pc lv (.ref a :: st) w k n := R_get (C := RX0) (ref := RX0) (T := TX0) (N := 13) (ci := 0) (j := 1) rfl inX0 (by decide) (by rw [hy]; exact w_34) rfl hdg he hv kk
theorem p_X0_15 {a : Nat} {fs : List Value} {v : Value} {w2 : VW} (hy : y.cls = RX0) (hini : y.name = "<init>") (hdg : decode cc pc = .ok (.putfield 15, 3)) (he : w[a]? = some (.inr (0, fs))) (hl0 : 1 < fs.length) (hn : narrow (tyX0 1) v = v) (hf : fits (tyX0 1) v = true) (hw : w.set a (.inr (0, fs.set 1 v)) = w2) (kk : R G l y cc nL ret d mc ms Q (pc + 3) lv st w2 k n) : R G l y cc nL ret d mc ms Q pc lv (v :: .ref a :: st) w k n := R_putF (C := RX0) (ref := RX0) (T := TX0) (ty0 := tyX0) (N := 13) (ci := 0) (j := 1) rfl inX0 tyX0_ok nmX0 (by decide) (by rw [hy]; exact w_34) rfl rfl (by rw [hy]; rfl) hini hn hf hdg he hl0 (by rw [hw]; exact kk)
theorem g_X5_29 {a : Nat} {fs : List Value} {v : Value} (hy : y.cls = RX5) (hdg : decode cc pc = .ok (.getfield 29, 3)) (he : w[a]? = some (.inr (0, fs))) (hv : fs[1]? = some v) (kk : R G l y cc nL ret d mc ms Q (pc + 3) lv (v :: st) w k n) : R G l y cc nL ret d mc ms Q pc lv (.ref a :: st) w k n := R_get (C := RX0) (ref := RX0) (T := TX0) (N := 13) (ci := 0) (j := 1) rfl inX0 (by decide) (by rw [hy]; exact w_35) rfl hdg he hv kk
theorem g_X1_107 {a : Nat} {fs : List Value} {v : Value} (hy : y.cls = RX1) (hdg : decode cc pc = .ok (.getfield 107, 3)) (he : w[a]? = some (.inr (0, fs))) (hv : fs[1]? = some v) (kk : R G l y cc nL ret d mc ms Q (pc + 3) lv (v :: st) w k n) : R G l y cc nL ret d mc ms Q pc lv (.ref a :: st) w k n := R_get (C := RX0) (ref := RX0) (T := TX0) (N := 13) (ci := 0) (j := 1) rfl inX0 (by decide) (by rw [hy]; exact w_36) rfl hdg he hv kk
theorem g_X3_88 {a : Nat} {fs : List Value} {v : Value} (hy : y.cls = RX3) (hdg : decode cc pc = .ok (.getfield 88, 3)) (he : w[a]? = some (.inr (0, fs))) (hv : fs[1]? = some v) (kk : R G l y cc nL ret d mc ms Q (pc + 3) lv (v :: st) w k n) : R G l y cc nL ret d mc ms Q pc lv (.ref a :: st) w k n := R_get (C := RX0) (ref := RX0) (T := TX0) (N := 13) (ci := 0) (j := 1) rfl inX0 (by decide) (by rw [hy]; exact w_37) rfl hdg he hv kk
theorem g_X8_172 {a : Nat} {fs : List Value} {v : Value} (hy : y.cls = RX8) (hdg : decode cc pc = .ok (.getfield 172, 3)) (he : w[a]? = some (.inr (0, fs))) (hv : fs[1]? = some v) (kk : R G l y cc nL ret d mc ms Q (pc + 3) lv (v :: st) w k n) : R G l y cc nL ret d mc ms Q pc lv (.ref a :: st) w k n := R_get (C := RX0) (ref := RX0) (T := TX0) (N := 13) (ci := 0) (j := 1) rfl inX0 (by decide) (by rw [hy]; exact w_38) rfl hdg he hv kk
theorem g_X0_18 {a : Nat} {fs : List Value} {v : Value} (hy : y.cls = RX0) (hdg : decode cc pc = .ok (.getfield 18, 3)) (he : w[a]? = some (.inr (0, fs))) (hv : fs[2]? = some v) (kk : R G l y cc nL ret d mc ms Q (pc + 3) lv (v :: st) w k n) : R G l y cc nL ret d mc ms Q pc lv (.ref a :: st) w k n := R_get (C := RX0) (ref := RX0) (T := TX0) (N := 13) (ci := 0) (j := 2) rfl inX0 (by decide) (by rw [hy]; exact w_39) rfl hdg he hv kk
theorem p_X0_18 {a : Nat} {fs : List Value} {v : Value} {w2 : VW} (hy : y.cls = RX0) (hini : y.name = "<init>") (hdg : decode cc pc = .ok (.putfield 18, 3)) (he : w[a]? = some (.inr (0, fs))) (hl0 : 2 < fs.length) (hn : narrow (tyX0 2) v = v) (hf : fits (tyX0 2) v = true) (hw : w.set a (.inr (0, fs.set 2 v)) = w2) (kk : R G l y cc nL ret d mc ms Q (pc + 3) lv st w2 k n) : R G l y cc nL ret d mc ms Q pc lv (v :: .ref a :: st) w k n := R_putF (C := RX0) (ref := RX0) (T := TX0) (ty0 := tyX0) (N := 13) (ci := 0) (j := 2) rfl inX0 tyX0_ok nmX0 (by decide) (by rw [hy]; exact w_39) rfl rfl (by rw [hy]; rfl) hini hn hf hdg he hl0 (by rw [hw]; exact kk)
theorem g_X5_33 {a : Nat} {fs : List Value} {v : Value} (hy : y.cls = RX5) (hdg : decode cc pc = .ok (.getfield 33, 3)) (he : w[a]? = some (.inr (0, fs))) (hv : fs[2]? = some v) (kk : R G l y cc nL ret d mc ms Q (pc + 3) lv (v :: st) w k n) : R G l y cc nL ret d mc ms Q pc lv (.ref a :: st) w k n := R_get (C := RX0) (ref := RX0) (T := TX0) (N := 13) (ci := 0) (j := 2) rfl inX0 (by decide) (by rw [hy]; exact w_40) rfl hdg he hv kk
theorem g_X1_110 {a : Nat} {fs : List Value} {v : Value} (hy : y.cls = RX1) (hdg : decode cc pc = .ok (.getfield 110, 3)) (he : w[a]? = some (.inr (0, fs))) (hv : fs[2]? = some v) (kk : R G l y cc nL ret d mc ms Q (pc + 3) lv (v :: st) w k n) : R G l y cc nL ret d mc ms Q pc lv (.ref a :: st) w k n := R_get (C := RX0) (ref := RX0) (T := TX0) (N := 13) (ci := 0) (j := 2) rfl inX0 (by decide) (by rw [hy]; exact w_41) rfl hdg he hv kk
theorem g_X3_82 {a : Nat} {fs : List Value} {v : Value} (hy : y.cls = RX3) (hdg : decode cc pc = .ok (.getfield 82, 3)) (he : w[a]? = some (.inr (0, fs))) (hv : fs[2]? = some v) (kk : R G l y cc nL ret d mc ms Q (pc + 3) lv (v :: st) w k n) : R G l y cc nL ret d mc ms Q pc lv (.ref a :: st) w k n := R_get (C := RX0) (ref := RX0) (T := TX0) (N := 13) (ci := 0) (j := 2) rfl inX0 (by decide) (by rw [hy]; exact w_42) rfl hdg he hv kk
theorem g_X8_178 {a : Nat} {fs : List Value} {v : Value} (hy : y.cls = RX8) (hdg : decode cc pc = .ok (.getfield 178, 3)) (he : w[a]? = some (.inr (0, fs))) (hv : fs[2]? = some v) (kk : R G l y cc nL ret d mc ms Q (pc + 3) lv (v :: st) w k n) : R G l y cc nL ret d mc ms Q pc lv (.ref a :: st) w k n := R_get (C := RX0) (ref := RX0) (T := TX0) (N := 13) (ci := 0) (j := 2) rfl inX0 (by decide) (by rw [hy]; exact w_43) rfl hdg he hv kk
theorem g_X0_21 {a : Nat} {fs : List Value} {v : Value} (hy : y.cls = RX0) (hdg : decode cc pc = .ok (.getfield 21, 3)) (he : w[a]? = some (.inr (0, fs))) (hv : fs[3]? = some v) (kk : R G l y cc nL ret d mc ms Q (pc + 3) lv (v :: st) w k n) : R G l y cc nL ret d mc ms Q pc lv (.ref a :: st) w k n := R_get (C := RX0) (ref := RX0) (T := TX0) (N := 13) (ci := 0) (j := 3) rfl inX0 (by decide) (by rw [hy]; exact w_44) rfl hdg he hv kk
theorem p_X0_21 {a : Nat} {fs : List Value} {v : Value} {w2 : VW} (hy : y.cls = RX0) (hini : y.name = "<init>") (hdg : decode cc pc = .ok (.putfield 21, 3)) (he : w[a]? = some (.inr (0, fs))) (hl0 : 3 < fs.length) (hn : narrow (tyX0 3) v = v) (hf : fits (tyX0 3) v = true) (hw : w.set a (.inr (0, fs.set 3 v)) = w2) (kk : R G l y cc nL ret d mc ms Q (pc + 3) lv st w2 k n) : R G l y cc nL ret d mc ms Q pc lv (v :: .ref a :: st) w k n := R_putF (C := RX0) (ref := RX0) (T := TX0) (ty0 := tyX0) (N := 13) (ci := 0) (j := 3) rfl inX0 tyX0_ok nmX0 (by decide) (by rw [hy]; exact w_44) rfl rfl (by rw [hy]; rfl) hini hn hf hdg he hl0 (by rw [hw]; exact kk)
theorem g_X1_85 {a : Nat} {fs : List Value} {v : Value} (hy : y.cls = RX1) (hdg : decode cc pc = .ok (.getfield 85, 3)) (he : w[a]? = some (.inr (0, fs))) (hv : fs[3]? = some v) (kk : R G l y cc nL ret d mc ms Q (pc + 3) lv (v :: st) w k n) : R G l y cc nL ret d mc ms Q pc lv (.ref a :: st) w k n := R_get (C := RX0) (ref := RX0) (T := TX0) (N := 13) (ci := 0) (j := 3) rfl inX0 (by decide) (by rw [hy]; exact w_45) rfl hdg he hv kk
theorem g_X3_91 {a : Nat} {fs : List Value} {v : Value} (hy : y.cls = RX3) (hdg : decode cc pc = .ok (.getfield 91, 3)) (he : w[a]? = some (.inr (0, fs))) (hv : fs[3]? = some v) (kk : R G l y cc nL ret d mc ms Q (pc + 3) lv (v :: st) w k n) : R G l y cc nL ret d mc ms Q pc lv (.ref a :: st) w k n := R_get (C := RX0) (ref := RX0) (T := TX0) (N := 13) (ci := 0) (j := 3) rfl inX0 (by decide) (by rw [hy]; exact w_46) rfl hdg he hv kk
theorem g_X8_316 {a : Nat} {fs : List Value} {v : Value} (hy : y.cls = RX8) (hdg : decode cc pc = .ok (.getfield 316, 3)) (he : w[a]? = some (.inr (0, fs))) (hv : fs[3]? = some v) (kk : R G l y cc nL ret d mc ms Q (pc + 3) lv (v :: st) w k n) : R G l y cc nL ret d mc ms Q pc lv (.ref a :: st) w k n := R_get (C := RX0) (ref := RX0) (T := TX0) (N := 13) (ci := 0) (j := 3) rfl inX0 (by decide) (by rw [hy]; exact w_47) rfl hdg he hv kk
theorem g_X0_24 {a : Nat} {fs : List Value} {v : Value} (hy : y.cls = RX0) (hdg : decode cc pc = .ok (.getfield 24, 3)) (he : w[a]? = some (.inr (0, fs))) (hv : fs[4]? = some v) (kk : R G l y cc nL ret d mc ms Q (pc + 3) lv (v :: st) w k n) : R G l y cc nL ret d mc ms Q pc lv (.ref a :: st) w k n := R_get (C := RX0) (ref := RX0) (T := TX0) (N := 13) (ci := 0) (j := 4) rfl inX0 (by decide) (by rw [hy]; exact w_48) rfl hdg he hv kk
theorem p_X0_24 {a : Nat} {fs : List Value} {v : Value} {w2 : VW} (hy : y.cls = RX0) (hini : y.name = "<init>") (hdg : decode cc pc = .ok (.putfield 24, 3)) (he : w[a]? = some (.inr (0, fs))) (hl0 : 4 < fs.length) (hn : narrow (tyX0 4) v = v) (hf : fits (tyX0 4) v = true) (hw : w.set a (.inr (0, fs.set 4 v)) = w2) (kk : R G l y cc nL ret d mc ms Q (pc + 3) lv st w2 k n) : R G l y cc nL ret d mc ms Q pc lv (v :: .ref a :: st) w k n := R_putF (C := RX0) (ref := RX0) (T := TX0) (ty0 := tyX0) (N := 13) (ci := 0) (j := 4) rfl inX0 tyX0_ok nmX0 (by decide) (by rw [hy]; exact w_48) rfl rfl (by rw [hy]; rfl) hini hn hf hdg he hl0 (by rw [hw]; exact kk)
theorem g_X3_53 {a : Nat} {fs : List Value} {v : Value} (hy : y.cls = RX3) (hdg : decode cc pc = .ok (.getfield 53, 3)) (he : w[a]? = some (.inr (0, fs))) (hv : fs[4]? = some v) (kk : R G l y cc nL ret d mc ms Q (pc + 3) lv (v :: st) w k n) : R G l y cc nL ret d mc ms Q pc lv (.ref a :: st) w k n := R_get (C := RX0) (ref := RX0) (T := TX0) (N := 13) (ci := 0) (j := 4) rfl inX0 (by decide) (by rw [hy]; exact w_49) rfl hdg he hv kk
theorem g_X0_28 {a : Nat} {fs : List Value} {v : Value} (hy : y.cls = RX0) (hdg : decode cc pc = .ok (.getfield 28, 3)) (he : w[a]? = some (.inr (0, fs))) (hv : fs[5]? = some v) (kk : R G l y cc nL ret d mc ms Q (pc + 3) lv (v :: st) w k n) : R G l y cc nL ret d mc ms Q pc lv (.ref a :: st) w k n := R_get (C := RX0) (ref := RX0) (T := TX0) (N := 13) (ci := 0) (j := 5) rfl inX0 (by decide) (by rw [hy]; exact w_50) rfl hdg he hv kk
theorem p_X0_28 {a : Nat} {fs : List Value} {v : Value} {w2 : VW} (hy : y.cls = RX0) (hini : y.name = "<init>") (hdg : decode cc pc = .ok (.putfield 28, 3)) (he : w[a]? = some (.inr (0, fs))) (hl0 : 5 < fs.length) (hn : narrow (tyX0 5) v = v) (hf : fits (tyX0 5) v = true) (hw : w.set a (.inr (0, fs.set 5 v)) = w2) (kk : R G l y cc nL ret d mc ms Q (pc + 3) lv st w2 k n) : R G l y cc nL ret d mc ms Q pc lv (v :: .ref a :: st) w k n := R_putF (C := RX0) (ref := RX0) (T := TX0) (ty0 := tyX0) (N := 13) (ci := 0) (j := 5) rfl inX0 tyX0_ok nmX0 (by decide) (by rw [hy]; exact w_50) rfl rfl (by rw [hy]; rfl) hini hn hf hdg he hl0 (by rw [hw]; exact kk)
theorem g_X3_40 {a : Nat} {fs : List Value} {v : Value} (hy : y.cls = RX3) (hdg : decode cc pc = .ok (.getfield 40, 3)) (he : w[a]? = some (.inr (0, fs))) (hv : fs[5]? = some v) (kk : R G l y cc nL ret d mc ms Q (pc + 3) lv (v :: st) w k n) : R G l y cc nL ret d mc ms Q pc lv (.ref a :: st) w k n := R_get (C := RX0) (ref := RX0) (T := TX0) (N := 13) (ci := 0) (j := 5) rfl inX0 (by decide) (by rw [hy]; exact w_51) rfl hdg he hv kk
theorem g_X0_31 {a : Nat} {fs : List Value} {v : Value} (hy : y.cls = RX0) (hdg : decode cc pc = .ok (.getfield 31, 3)) (he : w[a]? = some (.inr (0, fs))) (hv : fs[6]? = some v) (kk : R G l y cc nL ret d mc ms Q (pc + 3) lv (v :: st) w k n) : R G l y cc nL ret d mc ms Q pc lv (.ref a :: st) w k n := R_get (C := RX0) (ref := RX0) (T := TX0) (N := 13) (ci := 0) (j := 6) rfl inX0 (by decide) (by rw [hy]; exact w_52) rfl hdg he hv kk
theorem p_X0_31 {a : Nat} {fs : List Value} {v : Value} {w2 : VW} (hy : y.cls = RX0) (hini : y.name = "<init>") (hdg : decode cc pc = .ok (.putfield 31, 3)) (he : w[a]? = some (.inr (0, fs))) (hl0 : 6 < fs.length) (hn : narrow (tyX0 6) v = v) (hf : fits (tyX0 6) v = true) (hw : w.set a (.inr (0, fs.set 6 v)) = w2) (kk : R G l y cc nL ret d mc ms Q (pc + 3) lv st w2 k n) : R G l y cc nL ret d mc ms Q pc lv (v :: .ref a :: st) w k n := R_putF (C := RX0) (ref := RX0) (T := TX0) (ty0 := tyX0) (N := 13) (ci := 0) (j := 6) rfl inX0 tyX0_ok nmX0 (by decide) (by rw [hy]; exact w_52) rfl rfl (by rw [hy]; rfl) hini hn hf hdg he hl0 (by rw [hw]; exact kk)
theorem g_X1_90 {a : Nat} {fs : List Value} {v : Value} (hy : y.cls = RX1) (hdg : decode cc pc = .ok (.getfield 90, 3)) (he : w[a]? = some (.inr (0, fs))) (hv : fs[6]? = some v) (kk : R G l y cc nL ret d mc ms Q (pc + 3) lv (v :: st) w k n) : R G l y cc nL ret d mc ms Q pc lv (.ref a :: st) w k n := R_get (C := RX0) (ref := RX0) (T := TX0) (N := 13) (ci := 0) (j := 6) rfl inX0 (by decide) (by rw [hy]; exact w_53) rfl hdg he hv kk
theorem g_X0_34 {a : Nat} {fs : List Value} {v : Value} (hy : y.cls = RX0) (hdg : decode cc pc = .ok (.getfield 34, 3)) (he : w[a]? = some (.inr (0, fs))) (hv : fs[7]? = some v) (kk : R G l y cc nL ret d mc ms Q (pc + 3) lv (v :: st) w k n) : R G l y cc nL ret d mc ms Q pc lv (.ref a :: st) w k n := R_get (C := RX0) (ref := RX0) (T := TX0) (N := 13) (ci := 0) (j := 7) rfl inX0 (by decide) (by rw [hy]; exact w_54) rfl hdg he hv kk
theorem p_X0_34 {a : Nat} {fs : List Value} {v : Value} {w2 : VW} (hy : y.cls = RX0) (hini : y.name = "<init>") (hdg : decode cc pc = .ok (.putfield 34, 3)) (he : w[a]? = some (.inr (0, fs))) (hl0 : 7 < fs.length) (hn : narrow (tyX0 7) v = v) (hf : fits (tyX0 7) v = true) (hw : w.set a (.inr (0, fs.set 7 v)) = w2) (kk : R G l y cc nL ret d mc ms Q (pc + 3) lv st w2 k n) : R G l y cc nL ret d mc ms Q pc lv (v :: .ref a :: st) w k n := R_putF (C := RX0) (ref := RX0) (T := TX0) (ty0 := tyX0) (N := 13) (ci := 0) (j := 7) rfl inX0 tyX0_ok nmX0 (by decide) (by rw [hy]; exact w_54) rfl rfl (by rw [hy]; rfl) hini hn hf hdg he hl0 (by rw [hw]; exact kk)
theorem g_X0_37 {a : Nat} {fs : List Value} {v : Value} (hy : y.cls = RX0) (hdg : decode cc pc = .ok (.getfield 37, 3)) (he : w[a]? = some (.inr (0, fs))) (hv : fs[8]? = some v) (kk : R G l y cc nL ret d mc ms Q (pc + 3) lv (v :: st) w k n) : R G l y cc nL ret d mc ms Q pc lv (.ref a :: st) w k n := R_get (C := RX0) (ref := RX0) (T := TX0) (N := 13) (ci := 0) (j := 8) rfl inX0 (by decide) (by rw [hy]; exact w_55) rfl hdg he hv kk
theorem p_X0_37 {a : Nat} {fs : List Value} {v : Value} {w2 : VW} (hy : y.cls = RX0) (hini : y.name = "<init>") (hdg : decode cc pc = .ok (.putfield 37, 3)) (he : w[a]? = some (.inr (0, fs))) (hl0 : 8 < fs.length) (hn : narrow (tyX0 8) v = v) (hf : fits (tyX0 8) v = true) (hw : w.set a (.inr (0, fs.set 8 v)) = w2) (kk : R G l y cc nL ret d mc ms Q (pc + 3) lv st w2 k n) : R G l y cc nL ret d mc ms Q pc lv (v :: .ref a :: st) w k n := R_putF (C := RX0) (ref := RX0) (T := TX0) (ty0 := tyX0) (N := 13) (ci := 0) (j := 8) rfl inX0 tyX0_ok nmX0 (by decide) (by rw [hy]; exact w_55) rfl rfl (by rw [hy]; rfl) hini hn hf hdg he hl0 (by rw [hw]; exact kk)
theorem g_X8_101 {a : Nat} {fs : List Value} {v : Value} (hy : y.cls = RX8) (hdg : decode cc pc = .ok (.getfield 101, 3)) (he : w[a]? = some (.inr (0, fs))) (hv : fs[8]? = some v) (kk : R G l y cc nL ret d mc ms Q (pc + 3) lv (v :: st) w k n) : R G l y cc nL ret d mc ms Q pc lv (.ref a :: st) w k n := R_get (C := RX0) (ref := RX0) (T := TX0) (N := 13) (ci := 0) (j := 8) rfl inX0 (by decide) (by rw [hy]; exact w_56) rfl hdg he hv kk
theorem g_X3_75 {a : Nat} {fs : List Value} {v : Value} (hy : y.cls = RX3) (hdg : decode cc pc = .ok (.getfield 75, 3)) (he : w[a]? = some (.inr (0, fs))) (hv : fs[8]? = some v) (kk : R G l y cc nL ret d mc ms Q (pc + 3) lv (v :: st) w k n) : R G l y cc nL ret d mc ms Q pc lv (.ref a :: st) w k n := R_get (C := RX0) (ref := RX0) (T := TX0) (N := 13) (ci := 0) (j := 8) rfl inX0 (by decide) (by rw [hy]; exact w_57) rfl hdg he hv kk
theorem g_X0_40 {a : Nat} {fs : List Value} {v : Value} (hy : y.cls = RX0) (hdg : decode cc pc = .ok (.getfield 40, 3)) (he : w[a]? = some (.inr (0, fs))) (hv : fs[9]? = some v) (kk : R G l y cc nL ret d mc ms Q (pc + 3) lv (v :: st) w k n) : R G l y cc nL ret d mc ms Q pc lv (.ref a :: st) w k n := R_get (C := RX0) (ref := RX0) (T := TX0) (N := 13) (ci := 0) (j := 9) rfl inX0 (by decide) (by rw [hy]; exact w_58) rfl hdg he hv kk
theorem p_X0_40 {a : Nat} {fs : List Value} {v : Value} {w2 : VW} (hy : y.cls = RX0) (hini : y.name = "<init>") (hdg : decode cc pc = .ok (.putfield 40, 3)) (he : w[a]? = some (.inr (0, fs))) (hl0 : 9 < fs.length) (hn : narrow (tyX0 9) v = v) (hf : fits (tyX0 9) v = true) (hw : w.set a (.inr (0, fs.set 9 v)) = w2) (kk : R G l y cc nL ret d mc ms Q (pc + 3) lv st w2 k n) : R G l y cc nL ret d mc ms Q pc lv (v :: .ref a :: st) w k n := R_putF (C := RX0) (ref := RX0) (T := TX0) (ty0 := tyX0) (N := 13) (ci := 0) (j := 9) rfl inX0 tyX0_ok nmX0 (by decide) (by rw [hy]; exact w_58) rfl rfl (by rw [hy]; rfl) hini hn hf hdg he hl0 (by rw [hw]; exact kk)
theorem g_X8_105 {a : Nat} {fs : List Value} {v : Value} (hy : y.cls = RX8) (hdg : decode cc pc = .ok (.getfield 105, 3)) (he : w[a]? = some (.inr (0, fs))) (hv : fs[9]? = some v) (kk : R G l y cc nL ret d mc ms Q (pc + 3) lv (v :: st) w k n) : R G l y cc nL ret d mc ms Q pc lv (.ref a :: st) w k n := R_get (C := RX0) (ref := RX0) (T := TX0) (N := 13) (ci := 0) (j := 9) rfl inX0 (by decide) (by rw [hy]; exact w_59) rfl hdg he hv kk
theorem g_X3_72 {a : Nat} {fs : List Value} {v : Value} (hy : y.cls = RX3) (hdg : decode cc pc = .ok (.getfield 72, 3)) (he : w[a]? = some (.inr (0, fs))) (hv : fs[9]? = some v) (kk : R G l y cc nL ret d mc ms Q (pc + 3) lv (v :: st) w k n) : R G l y cc nL ret d mc ms Q pc lv (.ref a :: st) w k n := R_get (C := RX0) (ref := RX0) (T := TX0) (N := 13) (ci := 0) (j := 9) rfl inX0 (by decide) (by rw [hy]; exact w_60) rfl hdg he hv kk
theorem g_X0_47 {a : Nat} {fs : List Value} {v : Value} (hy : y.cls = RX0) (hdg : decode cc pc = .ok (.getfield 47, 3)) (he : w[a]? = some (.inr (0, fs))) (hv : fs[10]? = some v) (kk : R G l y cc nL ret d mc ms Q (pc + 3) lv (v :: st) w k n) : R G l y cc nL ret d mc ms Q pc lv (.ref a :: st) w k n := R_get (C := RX0) (ref := RX0) (T := TX0) (N := 13) (ci := 0) (j := 10) rfl inX0 (by decide) (by rw [hy]; exact w_61) rfl hdg he hv kk
theorem p_X0_47 {a : Nat} {fs : List Value} {v : Value} {w2 : VW} (hy : y.cls = RX0) (hdg : decode cc pc = .ok (.putfield 47, 3)) (he : w[a]? = some (.inr (0, fs))) (hl0 : 10 < fs.length) (hn : narrow (tyX0 10) v = v) (hf : fits (tyX0 10) v = true) (hw : w.set a (.inr (0, fs.set 10 v)) = w2) (kk : R G l y cc nL ret d mc ms Q (pc + 3) lv st w2 k n) : R G l y cc nL ret d mc ms Q pc lv (v :: .ref a :: st) w k n := R_put (C := RX0) (ref := RX0) (T := TX0) (ty0 := tyX0) (N := 13) (ci := 0) (j := 10) rfl inX0 tyX0_ok nmX0 (by decide) (by rw [hy]; exact w_61) rfl rfl hn hf hdg he hl0 (by rw [hw]; exact kk)
theorem g_X3_31 {a : Nat} {fs : List Value} {v : Value} (hy : y.cls = RX3) (hdg : decode cc pc = .ok (.getfield 31, 3)) (he : w[a]? = some (.inr (0, fs))) (hv : fs[10]? = some v) (kk : R G l y cc nL ret d mc ms Q (pc + 3) lv (v :: st) w k n) : R G l y cc nL ret d mc ms Q pc lv (.ref a :: st) w k n := R_get (C := RX0) (ref := RX0) (T := TX0) (N := 13) (ci := 0) (j := 10) rfl inX0 (by decide) (by rw [hy]; exact w_62) rfl hdg he hv kk
theorem p_X3_31 {a : Nat} {fs : List Value} {v : Value} {w2 : VW} (hy : y.cls = RX3) (hdg : decode cc pc = .ok (.putfield 31, 3)) (he : w[a]? = some (.inr (0, fs))) (hl0 : 10 < fs.length) (hn : narrow (tyX0 10) v = v) (hf : fits (tyX0 10) v = true) (hw : w.set a (.inr (0, fs.set 10 v)) = w2) (kk : R G l y cc nL ret d mc ms Q (pc + 3) lv st w2 k n) : R G l y cc nL ret d mc ms Q pc lv (v :: .ref a :: st) w k n := R_put (C := RX0) (ref := RX0) (T := TX0) (ty0 := tyX0) (N := 13) (ci := 0) (j := 10) rfl inX0 tyX0_ok nmX0 (by decide) (by rw [hy]; exact w_62) rfl rfl hn hf hdg he hl0 (by rw [hw]; exact kk)
theorem g_X5_19 {a : Nat} {fs : List Value} {v : Value} (hy : y.cls = RX5) (hdg : decode cc pc = .ok (.getfield 19, 3)) (he : w[a]? = some (.inr (0, fs))) (hv : fs[10]? = some v) (kk : R G l y cc nL ret d mc ms Q (pc + 3) lv (v :: st) w k n) : R G l y cc nL ret d mc ms Q pc lv (.ref a :: st) w k n := R_get (C := RX0) (ref := RX0) (T := TX0) (N := 13) (ci := 0) (j := 10) rfl inX0 (by decide) (by rw [hy]; exact w_63) rfl hdg he hv kk
theorem p_X5_19 {a : Nat} {fs : List Value} {v : Value} {w2 : VW} (hy : y.cls = RX5) (hdg : decode cc pc = .ok (.putfield 19, 3)) (he : w[a]? = some (.inr (0, fs))) (hl0 : 10 < fs.length) (hn : narrow (tyX0 10) v = v) (hf : fits (tyX0 10) v = true) (hw : w.set a (.inr (0, fs.set 10 v)) = w2) (kk : R G l y cc nL ret d mc ms Q (pc + 3) lv st w2 k n) : R G l y cc nL ret d mc ms Q pc lv (v :: .ref a :: st) w k n := R_put (C := RX0) (ref := RX0) (T := TX0) (ty0 := tyX0) (N := 13) (ci := 0) (j := 10) rfl inX0 tyX0_ok nmX0 (by decide) (by rw [hy]; exact w_63) rfl rfl hn hf hdg he hl0 (by rw [hw]; exact kk)
theorem g_X8_76 {a : Nat} {fs : List Value} {v : Value} (hy : y.cls = RX8) (hdg : decode cc pc = .ok (.getfield 76, 3)) (he : w[a]? = some (.inr (0, fs))) (hv : fs[10]? = some v) (kk : R G l y cc nL ret d mc ms Q (pc + 3) lv (v :: st) w k n) : R G l y cc nL ret d mc ms Q pc lv (.ref a :: st) w k n := R_get (C := RX0) (ref := RX0) (T := TX0) (N := 13) (ci := 0) (j := 10) rfl inX0 (by decide) (by rw [hy]; exact w_64) rfl hdg he hv kk
theorem p_X8_76 {a : Nat} {fs : List Value} {v : Value} {w2 : VW} (hy : y.cls = RX8) (hdg : decode cc pc = .ok (.putfield 76, 3)) (he : w[a]? = some (.inr (0, fs))) (hl0 : 10 < fs.length) (hn : narrow (tyX0 10) v = v) (hf : fits (tyX0 10) v = true) (hw : w.set a (.inr (0, fs.set 10 v)) = w2) (kk : R G l y cc nL ret d mc ms Q (pc + 3) lv st w2 k n) : R G l y cc nL ret d mc ms Q pc lv (v :: .ref a :: st) w k n := R_put (C := RX0) (ref := RX0) (T := TX0) (ty0 := tyX0) (N := 13) (ci := 0) (j := 10) rfl inX0 tyX0_ok nmX0 (by decide) (by rw [hy]; exact w_64) rfl rfl hn hf hdg he hl0 (by rw [hw]; exact kk)
theorem g_X0_50 {a : Nat} {fs : List Value} {v : Value} (hy : y.cls = RX0) (hdg : decode cc pc = .ok (.getfield 50, 3)) (he : w[a]? = some (.inr (0, fs))) (hv : fs[11]? = some v) (kk : R G l y cc nL ret d mc ms Q (pc + 3) lv (v :: st) w k n) : R G l y cc nL ret d mc ms Q pc lv (.ref a :: st) w k n := R_get (C := RX0) (ref := RX0) (T := TX0) (N := 13) (ci := 0) (j := 11) rfl inX0 (by decide) (by rw [hy]; exact w_65) rfl hdg he hv kk
theorem p_X0_50 {a : Nat} {fs : List Value} {v : Value} {w2 : VW} (hy : y.cls = RX0) (hdg : decode cc pc = .ok (.putfield 50, 3)) (he : w[a]? = some (.inr (0, fs))) (hl0 : 11 < fs.length) (hn : narrow (tyX0 11) v = v) (hf : fits (tyX0 11) v = true) (hw : w.set a (.inr (0, fs.set 11 v)) = w2) (kk : R G l y cc nL ret d mc ms Q (pc + 3) lv st w2 k n) : R G l y cc nL ret d mc ms Q pc lv (v :: .ref a :: st) w k n := R_put (C := RX0) (ref := RX0) (T := TX0) (ty0 := tyX0) (N := 13) (ci := 0) (j := 11) rfl inX0 tyX0_ok nmX0 (by decide) (by rw [hy]; exact w_65) rfl rfl hn hf hdg he hl0 (by rw [hw]; exact kk)
theorem g_X8_109 {a : Nat} {fs : List Value} {v : Value} (hy : y.cls = RX8) (hdg : decode cc pc = .ok (.getfield 109, 3)) (he : w[a]? = some (.inr (0, fs))) (hv : fs[11]? = some v) (kk : R G l y cc nL ret d mc ms Q (pc + 3) lv (v :: st) w k n) : R G l y cc nL ret d mc ms Q pc lv (.ref a :: st) w k n := R_get (C := RX0) (ref := RX0) (T := TX0) (N := 13) (ci := 0) (j := 11) rfl inX0 (by decide) (by rw [hy]; exact w_66) rfl hdg he hv kk
theorem p_X8_109 {a : Nat} {fs : List Value} {v : Value} {w2 : VW} (hy : y.cls = RX8) (hdg : decode cc pc = .ok (.putfield 109, 3)) (he : w[a]? = some (.inr (0, fs))) (hl0 : 11 < fs.length) (hn : narrow (tyX0 11) v = v) (hf : fits (tyX0 11) v = true) (hw : w.set a (.inr (0, fs.set 11 v)) = w2) (kk : R G l y cc nL ret d mc ms Q (pc + 3) lv st w2 k n) : R G l y cc nL ret d mc ms Q pc lv (v :: .ref a :: st) w k n := R_put (C := RX0) (ref := RX0) (T := TX0) (ty0 := tyX0) (N := 13) (ci := 0) (j := 11) rfl inX0 tyX0_ok nmX0 (by decide) (by rw [hy]; exact w_66) rfl rfl hn hf hdg he hl0 (by rw [hw]; exact kk)
theorem g_X0_43 {a : Nat} {fs : List Value} {v : Value} (hy : y.cls = RX0) (hdg : decode cc pc = .ok (.getfield 43, 3)) (he : w[a]? = some (.inr (0, fs))) (hv : fs[12]? = some v) (kk : R G l y cc nL ret d mc ms Q (pc + 3) lv (v :: st) w k n) : R G l y cc nL ret d mc ms Q pc lv (.ref a :: st) w k n := R_get (C := RX0) (ref := RX0) (T := TX0) (N := 13) (ci := 0) (j := 12) rfl inX0 (by decide) (by rw [hy]; exact w_67) rfl hdg he hv kk
theorem p_X0_43 {a : Nat} {fs : List Value} {v : Value} {w2 : VW} (hy : y.cls = RX0) (hdg : decode cc pc = .ok (.putfield 43, 3)) (he : w[a]? = some (.inr (0, fs))) (hl0 : 12 < fs.length) (hn : narrow (tyX0 12) v = v) (hf : fits (tyX0 12) v = true) (hw : w.set a (.inr (0, fs.set 12 v)) = w2) (kk : R G l y cc nL ret d mc ms Q (pc + 3) lv st w2 k n) : R G l y cc nL ret d mc ms Q pc lv (v :: .ref a :: st) w k n := R_put (C := RX0) (ref := RX0) (T := TX0) (ty0 := tyX0) (N := 13) (ci := 0) (j := 12) rfl inX0 tyX0_ok nmX0 (by decide) (by rw [hy]; exact w_67) rfl rfl hn hf hdg he hl0 (by rw [hw]; exact kk)
theorem g_X8_115 {a : Nat} {fs : List Value} {v : Value} (hy : y.cls = RX8) (hdg : decode cc pc = .ok (.getfield 115, 3)) (he : w[a]? = some (.inr (0, fs))) (hv : fs[12]? = some v) (kk : R G l y cc nL ret d mc ms Q (pc + 3) lv (v :: st) w k n) : R G l y cc nL ret d mc ms Q pc lv (.ref a :: st) w k n := R_get (C := RX0) (ref := RX0) (T := TX0) (N := 13) (ci := 0) (j := 12) rfl inX0 (by decide) (by rw [hy]; exact w_68) rfl hdg he hv kk
theorem p_X8_115 {a : Nat} {fs : List Value} {v : Value} {w2 : VW} (hy : y.cls = RX8) (hdg : decode cc pc = .ok (.putfield 115, 3)) (he : w[a]? = some (.inr (0, fs))) (hl0 : 12 < fs.length) (hn : narrow (tyX0 12) v = v) (hf : fits (tyX0 12) v = true) (hw : w.set a (.inr (0, fs.set 12 v)) = w2) (kk : R G l y cc nL ret d mc ms Q (pc + 3) lv st w2 k n) : R G l y cc nL ret d mc ms Q pc lv (v :: .ref a :: st) w k n := R_put (C := RX0) (ref := RX0) (T := TX0) (ty0 := tyX0) (N := 13) (ci := 0) (j := 12) rfl inX0 tyX0_ok nmX0 (by decide) (by rw [hy]; exact w_68) rfl rfl hn hf hdg he hl0 (by rw [hw]; exact kk)
theorem g_X3_27 {a : Nat} {fs : List Value} {v : Value} (hy : y.cls = RX3) (hdg : decode cc pc = .ok (.getfield 27, 3)) (he : w[a]? = some (.inr (3, fs))) (hv : fs[0]? = some v) (kk : R G l y cc nL ret d mc ms Q (pc + 3) lv (v :: st) w k n) : R G l y cc nL ret d mc ms Q pc lv (.ref a :: st) w k n := R_get (C := RX3) (ref := RX3) (T := TX3) (N := 5) (ci := 3) (j := 0) rfl inX3 (by decide) (by rw [hy]; exact w_106) rfl hdg he hv kk
theorem p_X3_27 {a : Nat} {fs : List Value} {v : Value} {w2 : VW} (hy : y.cls = RX3) (hini : y.name = "<init>") (hdg : decode cc pc = .ok (.putfield 27, 3)) (he : w[a]? = some (.inr (3, fs))) (hl0 : 0 < fs.length) (hn : narrow (tyX3 0) v = v) (hf : fits (tyX3 0) v = true) (hw : w.set a (.inr (3, fs.set 0 v)) = w2) (kk : R G l y cc nL ret d mc ms Q (pc + 3) lv st w2 k n) : R G l y cc nL ret d mc ms Q pc lv (v :: .ref a :: st) w k n := R_putF (C := RX3) (ref := RX3) (T := TX3) (ty0 := tyX3) (N := 5) (ci := 3) (j := 0) rfl inX3 tyX3_ok nmX3 (by decide) (by rw [hy]; exact w_106) rfl rfl (by rw [hy]; rfl) hini hn hf hdg he hl0 (by rw [hw]; exact kk)
theorem g_X3_11 {a : Nat} {fs : List Value} {v : Value} (hy : y.cls = RX3) (hdg : decode cc pc = .ok (.getfield 11, 3)) (he : w[a]? = some (.inr (3, fs))) (hv : fs[1]? = some v) (kk : R G l y cc nL ret d mc ms Q (pc + 3) lv (v :: st) w k n) : R G l y cc nL ret d mc ms Q pc lv (.ref a :: st) w k n := R_get (C := RX3) (ref := RX3) (T := TX3) (N := 5) (ci := 3) (j := 1) rfl inX3 (by decide) (by rw [hy]; exact w_107) rfl hdg he hv kk
theorem p_X3_11 {a : Nat} {fs : List Value} {v : Value} {w2 : VW} (hy : y.cls = RX3) (hini : y.name = "<init>") (hdg : decode cc pc = .ok (.putfield 11, 3)) (he : w[a]? = some (.inr (3, fs))) (hl0 : 1 < fs.length) (hn : narrow (tyX3 1) v = v) (hf : fits (tyX3 1) v = true) (hw : w.set a (.inr (3, fs.set 1 v)) = w2) (kk : R G l y cc nL ret d mc ms Q (pc + 3) lv st w2 k n) : R G l y cc nL ret d mc ms Q pc lv (v :: .ref a :: st) w k n := R_putF (C := RX3) (ref := RX3) (T := TX3) (ty0 := tyX3) (N := 5) (ci := 3) (j := 1) rfl inX3 tyX3_ok nmX3 (by decide) (by rw [hy]; exact w_107) rfl rfl (by rw [hy]; rfl) hini hn hf hdg he hl0 (by rw [hw]; exact kk)
theorem g_X8_122 {a : Nat} {fs : List Value} {v : Value} (hy : y.cls = RX8) (hdg : decode cc pc = .ok (.getfield 122, 3)) (he : w[a]? = some (.inr (3, fs))) (hv : fs[1]? = some v) (kk : R G l y cc nL ret d mc ms Q (pc + 3) lv (v :: st) w k n) : R G l y cc nL ret d mc ms Q pc lv (.ref a :: st) w k n := R_get (C := RX3) (ref := RX3) (T := TX3) (N := 5) (ci := 3) (j := 1) rfl inX3 (by decide) (by rw [hy]; exact w_108) rfl hdg he hv kk
theorem g_X3_16 {a : Nat} {fs : List Value} {v : Value} (hy : y.cls = RX3) (hdg : decode cc pc = .ok (.getfield 16, 3)) (he : w[a]? = some (.inr (3, fs))) (hv : fs[2]? = some v) (kk : R G l y cc nL ret d mc ms Q (pc + 3) lv (v :: st) w k n) : R G l y cc nL ret d mc ms Q pc lv (.ref a :: st) w k n := R_get (C := RX3) (ref := RX3) (T := TX3) (N := 5) (ci := 3) (j := 2) rfl inX3 (by decide) (by rw [hy]; exact w_109) rfl hdg he hv kk
theorem p_X3_16 {a : Nat} {fs : List Value} {v : Value} {w2 : VW} (hy : y.cls = RX3) (hini : y.name = "<init>") (hdg : decode cc pc = .ok (.putfield 16, 3)) (he : w[a]? = some (.inr (3, fs))) (hl0 : 2 < fs.length) (hn : narrow (tyX3 2) v = v) (hf : fits (tyX3 2) v = true) (hw : w.set a (.inr (3, fs.set 2 v)) = w2) (kk : R G l y cc nL ret d mc ms Q (pc + 3) lv st w2 k n) : R G l y cc nL ret d mc ms Q pc lv (v :: .ref a :: st) w k n := R_putF (C := RX3) (ref := RX3) (T := TX3) (ty0 := tyX3) (N := 5) (ci := 3) (j := 2) rfl inX3 tyX3_ok nmX3 (by decide) (by rw [hy]; exact w_109) rfl rfl (by rw [hy]; rfl) hini hn hf hdg he hl0 (by rw [hw]; exact kk)
theorem g_X8_138 {a : Nat} {fs : List Value} {v : Value} (hy : y.cls = RX8) (hdg : decode cc pc = .ok (.getfield 138, 3)) (he : w[a]? = some (.inr (3, fs))) (hv : fs[2]? = some v) (kk : R G l y cc nL ret d mc ms Q (pc + 3) lv (v :: st) w k n) : R G l y cc nL ret d mc ms Q pc lv (.ref a :: st) w k n := R_get (C := RX3) (ref := RX3) (T := TX3) (N := 5) (ci := 3) (j := 2) rfl inX3 (by decide) (by rw [hy]; exact w_110) rfl hdg he hv kk
theorem g_X3_19 {a : Nat} {fs : List Value} {v : Value} (hy : y.cls = RX3) (hdg : decode cc pc = .ok (.getfield 19, 3)) (he : w[a]? = some (.inr (3, fs))) (hv : fs[3]? = some v) (kk : R G l y cc nL ret d mc ms Q (pc + 3) lv (v :: st) w k n) : R G l y cc nL ret d mc ms Q pc lv (.ref a :: st) w k n := R_get (C := RX3) (ref := RX3) (T := TX3) (N := 5) (ci := 3) (j := 3) rfl inX3 (by decide) (by rw [hy]; exact w_111) rfl hdg he hv kk
theorem p_X3_19 {a : Nat} {fs : List Value} {v : Value} {w2 : VW} (hy : y.cls = RX3) (hini : y.name = "<init>") (hdg : decode cc pc = .ok (.putfield 19, 3)) (he : w[a]? = some (.inr (3, fs))) (hl0 : 3 < fs.length) (hn : narrow (tyX3 3) v = v) (hf : fits (tyX3 3) v = true) (hw : w.set a (.inr (3, fs.set 3 v)) = w2) (kk : R G l y cc nL ret d mc ms Q (pc + 3) lv st w2 k n) : R G l y cc nL ret d mc ms Q pc lv (v :: .ref a :: st) w k n := R_putF (C := RX3) (ref := RX3) (T := TX3) (ty0 := tyX3) (N := 5) (ci := 3) (j := 3) rfl inX3 tyX3_ok nmX3 (by decide) (by rw [hy]; exact w_111) rfl rfl (by rw [hy]; rfl) hini hn hf hdg he hl0 (by rw [hw]; exact kk)
theorem g_X3_23 {a : Nat} {fs : List Value} {v : Value} (hy : y.cls = RX3) (hdg : decode cc pc = .ok (.getfield 23, 3)) (he : w[a]? = some (.inr (3, fs))) (hv : fs[4]? = some v) (kk : R G l y cc nL ret d mc ms Q (pc + 3) lv (v :: st) w k n) : R G l y cc nL ret d mc ms Q pc lv (.ref a :: st) w k n := R_get (C := RX3) (ref := RX3) (T := TX3) (N := 5) (ci := 3) (j := 4) rfl inX3 (by decide) (by rw [hy]; exact w_112) rfl hdg he hv kk
theorem p_X3_23 {a : Nat} {fs : List Value} {v : Value} {w2 : VW} (hy : y.cls = RX3) (hdg : decode cc pc = .ok (.putfield 23, 3)) (he : w[a]? = some (.inr (3, fs))) (hl0 : 4 < fs.length) (hn : narrow (tyX3 4) v = v) (hf : fits (tyX3 4) v = true) (hw : w.set a (.inr (3, fs.set 4 v)) = w2) (kk : R G l y cc nL ret d mc ms Q (pc + 3) lv st w2 k n) : R G l y cc nL ret d mc ms Q pc lv (v :: .ref a :: st) w k n := R_put (C := RX3) (ref := RX3) (T := TX3) (ty0 := tyX3) (N := 5) (ci := 3) (j := 4) rfl inX3 tyX3_ok nmX3 (by decide) (by rw [hy]; exact w_112) rfl rfl hn hf hdg he hl0 (by rw [hw]; exact kk)
theorem g_X8_112 {a : Nat} {fs : List Value} {v : Value} (hy : y.cls = RX8) (hdg : decode cc pc = .ok (.getfield 112, 3)) (he : w[a]? = some (.inr (3, fs))) (hv : fs[4]? = some v) (kk : R G l y cc nL ret d mc ms Q (pc + 3) lv (v :: st) w k n) : R G l y cc nL ret d mc ms Q pc lv (.ref a :: st) w k n := R_get (C := RX3) (ref := RX3) (T := TX3) (N := 5) (ci := 3) (j := 4) rfl inX3 (by decide) (by rw [hy]; exact w_113) rfl hdg he hv kk
theorem p_X8_112 {a : Nat} {fs : List Value} {v : Value} {w2 : VW} (hy : y.cls = RX8) (hdg : decode cc pc = .ok (.putfield 112, 3)) (he : w[a]? = some (.inr (3, fs))) (hl0 : 4 < fs.length) (hn : narrow (tyX3 4) v = v) (hf : fits (tyX3 4) v = true) (hw : w.set a (.inr (3, fs.set 4 v)) = w2) (kk : R G l y cc nL ret d mc ms Q (pc + 3) lv st w2 k n) : R G l y cc nL ret d mc ms Q pc lv (v :: .ref a :: st) w k n := R_put (C := RX3) (ref := RX3) (T := TX3) (ty0 := tyX3) (N := 5) (ci := 3) (j := 4) rfl inX3 tyX3_ok nmX3 (by decide) (by rw [hy]; exact w_113) rfl rfl hn hf hdg he hl0 (by rw [hw]; exact kk)
theorem g_X5_15 {a : Nat} {fs : List Value} {v : Value} (hy : y.cls = RX5) (hdg : decode cc pc = .ok (.getfield 15, 3)) (he : w[a]? = some (.inr (5, fs))) (hv : fs[0]? = some v) (kk : R G l y cc nL ret d mc ms Q (pc + 3) lv (v :: st) w k n) : R G l y cc nL ret d mc ms Q pc lv (.ref a :: st) w k n := R_get (C := RX5) (ref := RX5) (T := TX5) (N := 5) (ci := 5) (j := 0) rfl inX5 (by decide) (by rw [hy]; exact w_131) rfl hdg he hv kk
theorem p_X5_15 {a : Nat} {fs : List Value} {v : Value} {w2 : VW} (hy : y.cls = RX5) (hini : y.name = "<init>") (hdg : decode cc pc = .ok (.putfield 15, 3)) (he : w[a]? = some (.inr (5, fs))) (hl0 : 0 < fs.length) (hn : narrow (tyX5 0) v = v) (hf : fits (tyX5 0) v = true) (hw : w.set a (.inr (5, fs.set 0 v)) = w2) (kk : R G l y cc nL ret d mc ms Q (pc + 3) lv st w2 k n) : R G l y cc nL ret d mc ms Q pc lv (v :: .ref a :: st) w k n := R_putF (C := RX5) (ref := RX5) (T := TX5) (ty0 := tyX5) (N := 5) (ci := 5) (j := 0) rfl inX5 tyX5_ok nmX5 (by decide) (by rw [hy]; exact w_131) rfl rfl (by rw [hy]; rfl) hini hn hf hdg he hl0 (by rw [hw]; exact kk)
theorem g_X5_9 {a : Nat} {fs : List Value} {v : Value} (hy : y.cls = RX5) (hdg : decode cc pc = .ok (.getfield 9, 3)) (he : w[a]? = some (.inr (5, fs))) (hv : fs[1]? = some v) (kk : R G l y cc nL ret d mc ms Q (pc + 3) lv (v :: st) w k n) : R G l y cc nL ret d mc ms Q pc lv (.ref a :: st) w k n := R_get (C := RX5) (ref := RX5) (T := TX5) (N := 5) (ci := 5) (j := 1) rfl inX5 (by decide) (by rw [hy]; exact w_132) rfl hdg he hv kk
theorem p_X5_9 {a : Nat} {fs : List Value} {v : Value} {w2 : VW} (hy : y.cls = RX5) (hini : y.name = "<init>") (hdg : decode cc pc = .ok (.putfield 9, 3)) (he : w[a]? = some (.inr (5, fs))) (hl0 : 1 < fs.length) (hn : narrow (tyX5 1) v = v) (hf : fits (tyX5 1) v = true) (hw : w.set a (.inr (5, fs.set 1 v)) = w2) (kk : R G l y cc nL ret d mc ms Q (pc + 3) lv st w2 k n) : R G l y cc nL ret d mc ms Q pc lv (v :: .ref a :: st) w k n := R_putF (C := RX5) (ref := RX5) (T := TX5) (ty0 := tyX5) (N := 5) (ci := 5) (j := 1) rfl inX5 tyX5_ok nmX5 (by decide) (by rw [hy]; exact w_132) rfl rfl (by rw [hy]; rfl) hini hn hf hdg he hl0 (by rw [hw]; exact kk)
theorem g_X5_36 {a : Nat} {fs : List Value} {v : Value} (hy : y.cls = RX5) (hdg : decode cc pc = .ok (.getfield 36, 3)) (he : w[a]? = some (.inr (5, fs))) (hv : fs[2]? = some v) (kk : R G l y cc nL ret d mc ms Q (pc + 3) lv (v :: st) w k n) : R G l y cc nL ret d mc ms Q pc lv (.ref a :: st) w k n := R_get (C := RX5) (ref := RX5) (T := TX5) (N := 5) (ci := 5) (j := 2) rfl inX5 (by decide) (by rw [hy]; exact w_133) rfl hdg he hv kk
theorem p_X5_36 {a : Nat} {fs : List Value} {v : Value} {w2 : VW} (hy : y.cls = RX5) (hdg : decode cc pc = .ok (.putfield 36, 3)) (he : w[a]? = some (.inr (5, fs))) (hl0 : 2 < fs.length) (hn : narrow (tyX5 2) v = v) (hf : fits (tyX5 2) v = true) (hw : w.set a (.inr (5, fs.set 2 v)) = w2) (kk : R G l y cc nL ret d mc ms Q (pc + 3) lv st w2 k n) : R G l y cc nL ret d mc ms Q pc lv (v :: .ref a :: st) w k n := R_put (C := RX5) (ref := RX5) (T := TX5) (ty0 := tyX5) (N := 5) (ci := 5) (j := 2) rfl inX5 tyX5_ok nmX5 (by decide) (by rw [hy]; exact w_133) rfl rfl hn hf hdg he hl0 (by rw [hw]; exact kk)
theorem g_X8_184 {a : Nat} {fs : List Value} {v : Value} (hy : y.cls = RX8) (hdg : decode cc pc = .ok (.getfield 184, 3)) (he : w[a]? = some (.inr (5, fs))) (hv : fs[2]? = some v) (kk : R G l y cc nL ret d mc ms Q (pc + 3) lv (v :: st) w k n) : R G l y cc nL ret d mc ms Q pc lv (.ref a :: st) w k n := R_get (C := RX5) (ref := RX5) (T := TX5) (N := 5) (ci := 5) (j := 2) rfl inX5 (by decide) (by rw [hy]; exact w_134) rfl hdg he hv kk
theorem p_X8_184 {a : Nat} {fs : List Value} {v : Value} {w2 : VW} (hy : y.cls = RX8) (hdg : decode cc pc = .ok (.putfield 184, 3)) (he : w[a]? = some (.inr (5, fs))) (hl0 : 2 < fs.length) (hn : narrow (tyX5 2) v = v) (hf : fits (tyX5 2) v = true) (hw : w.set a (.inr (5, fs.set 2 v)) = w2) (kk : R G l y cc nL ret d mc ms Q (pc + 3) lv st w2 k n) : R G l y cc nL ret d mc ms Q pc lv (v :: .ref a :: st) w k n := R_put (C := RX5) (ref := RX5) (T := TX5) (ty0 := tyX5) (N := 5) (ci := 5) (j := 2) rfl inX5 tyX5_ok nmX5 (by decide) (by rw [hy]; exact w_134) rfl rfl hn hf hdg he hl0 (by rw [hw]; exact kk)
theorem g_X5_37 {a : Nat} {fs : List Value} {v : Value} (hy : y.cls = RX5) (hdg : decode cc pc = .ok (.getfield 37, 3)) (he : w[a]? = some (.inr (5, fs))) (hv : fs[3]? = some v) (kk : R G l y cc nL ret d mc ms Q (pc + 3) lv (v :: st) w k n) : R G l y cc nL ret d mc ms Q pc lv (.ref a :: st) w k n := R_get (C := RX5) (ref := RX5) (T := TX5) (N := 5) (ci := 5) (j := 3) rfl inX5 (by decide) (by rw [hy]; exact w_135) rfl hdg he hv kk
theorem p_X5_37 {a : Nat} {fs : List Value} {v : Value} {w2 : VW} (hy : y.cls = RX5) (hdg : decode cc pc = .ok (.putfield 37, 3)) (he : w[a]? = some (.inr (5, fs))) (hl0 : 3 < fs.length) (hn : narrow (tyX5 3) v = v) (hf : fits (tyX5 3) v = true) (hw : w.set a (.inr (5, fs.set 3 v)) = w2) (kk : R G l y cc nL ret d mc ms Q (pc + 3) lv st w2 k n) : R G l y cc nL ret d mc ms Q pc lv (v :: .ref a :: st) w k n := R_put (C := RX5) (ref := RX5) (T := TX5) (ty0 := tyX5) (N := 5) (ci := 5) (j := 3) rfl inX5 tyX5_ok nmX5 (by decide) (by rw [hy]; exact w_135) rfl rfl hn hf hdg he hl0 (by rw [hw]; exact kk)
theorem g_X8_185 {a : Nat} {fs : List Value} {v : Value} (hy : y.cls = RX8) (hdg : decode cc pc = .ok (.getfield 185, 3)) (he : w[a]? = some (.inr (5, fs))) (hv : fs[3]? = some v) (kk : R G l y cc nL ret d mc ms Q (pc + 3) lv (v :: st) w k n) : R G l y cc nL ret d mc ms Q pc lv (.ref a :: st) w k n := R_get (C := RX5) (ref := RX5) (T := TX5) (N := 5) (ci := 5) (j := 3) rfl inX5 (by decide) (by rw [hy]; exact w_136) rfl hdg he hv kk
theorem p_X8_185 {a : Nat} {fs : List Value} {v : Value} {w2 : VW} (hy : y.cls = RX8) (hdg : decode cc pc = .ok (.putfield 185, 3)) (he : w[a]? = some (.inr (5, fs))) (hl0 : 3 < fs.length) (hn : narrow (tyX5 3) v = v) (hf : fits (tyX5 3) v = true) (hw : w.set a (.inr (5, fs.set 3 v)) = w2) (kk : R G l y cc nL ret d mc ms Q (pc + 3) lv st w2 k n) : R G l y cc nL ret d mc ms Q pc lv (v :: .ref a :: st) w k n := R_put (C := RX5) (ref := RX5) (T := TX5) (ty0 := tyX5) (N := 5) (ci := 5) (j := 3) rfl inX5 tyX5_ok nmX5 (by decide) (by rw [hy]; exact w_136) rfl rfl hn hf hdg he hl0 (by rw [hw]; exact kk)
theorem g_X5_40 {a : Nat} {fs : List Value} {v : Value} (hy : y.cls = RX5) (hdg : decode cc pc = .ok (.getfield 40, 3)) (he : w[a]? = some (.inr (5, fs))) (hv : fs[4]? = some v) (kk : R G l y cc nL ret d mc ms Q (pc + 3) lv (v :: st) w k n) : R G l y cc nL ret d mc ms Q pc lv (.ref a :: st) w k n := R_get (C := RX5) (ref := RX5) (T := TX5) (N := 5) (ci := 5) (j := 4) rfl inX5 (by decide) (by rw [hy]; exact w_137) rfl hdg he hv kk
theorem p_X5_40 {a : Nat} {fs : List Value} {v : Value} {w2 : VW} (hy : y.cls = RX5) (hdg : decode cc pc = .ok (.putfield 40, 3)) (he : w[a]? = some (.inr (5, fs))) (hl0 : 4 < fs.length) (hn : narrow (tyX5 4) v = v) (hf : fits (tyX5 4) v = true) (hw : w.set a (.inr (5, fs.set 4 v)) = w2) (kk : R G l y cc nL ret d mc ms Q (pc + 3) lv st w2 k n) : R G l y cc nL ret d mc ms Q pc lv (v :: .ref a :: st) w k n := R_put (C := RX5) (ref := RX5) (T := TX5) (ty0 := tyX5) (N := 5) (ci := 5) (j := 4) rfl inX5 tyX5_ok nmX5 (by decide) (by rw [hy]; exact w_137) rfl rfl hn hf hdg he hl0 (by rw [hw]; exact kk)
theorem g_X8_188 {a : Nat} {fs : List Value} {v : Value} (hy : y.cls = RX8) (hdg : decode cc pc = .ok (.getfield 188, 3)) (he : w[a]? = some (.inr (5, fs))) (hv : fs[4]? = some v) (kk : R G l y cc nL ret d mc ms Q (pc + 3) lv (v :: st) w k n) : R G l y cc nL ret d mc ms Q pc lv (.ref a :: st) w k n := R_get (C := RX5) (ref := RX5) (T := TX5) (N := 5) (ci := 5) (j := 4) rfl inX5 (by decide) (by rw [hy]; exact w_138) rfl hdg he hv kk
theorem p_X8_188 {a : Nat} {fs : List Value} {v : Value} {w2 : VW} (hy : y.cls = RX8) (hdg : decode cc pc = .ok (.putfield 188, 3)) (he : w[a]? = some (.inr (5, fs))) (hl0 : 4 < fs.length) (hn : narrow (tyX5 4) v = v) (hf : fits (tyX5 4) v = true) (hw : w.set a (.inr (5, fs.set 4 v)) = w2) (kk : R G l y cc nL ret d mc ms Q (pc + 3) lv st w2 k n) : R G l y cc nL ret d mc ms Q pc lv (v :: .ref a :: st) w k n := R_put (C := RX5) (ref := RX5) (T := TX5) (ty0 := tyX5) (N := 5) (ci := 5) (j := 4) rfl inX5 tyX5_ok nmX5 (by decide) (by rw [hy]; exact w_138) rfl rfl hn hf hdg he hl0 (by rw [hw]; exact kk)
theorem g_X7_9 {a : Nat} {fs : List Value} {v : Value} (hy : y.cls = RX7) (hdg : decode cc pc = .ok (.getfield 9, 3)) (he : w[a]? = some (.inr (7, fs))) (hv : fs[0]? = some v) (kk : R G l y cc nL ret d mc ms Q (pc + 3) lv (v :: st) w k n) : R G l y cc nL ret d mc ms Q pc lv (.ref a :: st) w k n := R_get (C := RX7) (ref := RX7) (T := TX7) (N := 3) (ci := 7) (j := 0) rfl inX7 (by decide) (by rw [hy]; exact w_164) rfl hdg he hv kk
theorem p_X7_9 {a : Nat} {fs : List Value} {v : Value} {w2 : VW} (hy : y.cls = RX7) (hini : y.name = "<init>") (hdg : decode cc pc = .ok (.putfield 9, 3)) (he : w[a]? = some (.inr (7, fs))) (hl0 : 0 < fs.length) (hn : narrow (tyX7 0) v = v) (hf : fits (tyX7 0) v = true) (hw : w.set a (.inr (7, fs.set 0 v)) = w2) (kk : R G l y cc nL ret d mc ms Q (pc + 3) lv st w2 k n) : R G l y cc nL ret d mc ms Q pc lv (v :: .ref a :: st) w k n := R_putF (C := RX7) (ref := RX7) (T := TX7) (ty0 := tyX7) (N := 3) (ci := 7) (j := 0) rfl inX7 tyX7_ok nmX7 (by decide) (by rw [hy]; exact w_164) rfl rfl (by rw [hy]; rfl) hini hn hf hdg he hl0 (by rw [hw]; exact kk)
theorem g_X1_133 {a : Nat} {fs : List Value} {v : Value} (hy : y.cls = RX1) (hdg : decode cc pc = .ok (.getfield 133, 3)) (he : w[a]? = some (.inr (7, fs))) (hv : fs[0]? = some v) (kk : R G l y cc nL ret d mc ms Q (pc + 3) lv (v :: st) w k n) : R G l y cc nL ret d mc ms Q pc lv (.ref a :: st) w k n := R_get (C := RX7) (ref := RX7) (T := TX7) (N := 3) (ci := 7) (j := 0) rfl inX7 (by decide) (by rw [hy]; exact w_165) rfl hdg he hv kk
theorem g_X8_253 {a : Nat} {fs : List Value} {v : Value} (hy : y.cls = RX8) (hdg : decode cc pc = .ok (.getfield 253, 3)) (he : w[a]? = some (.inr (7, fs))) (hv : fs[0]? = some v) (kk : R G l y cc nL ret d mc ms Q (pc + 3) lv (v :: st) w k n) : R G l y cc nL ret d mc ms Q pc lv (.ref a :: st) w k n := R_get (C := RX7) (ref := RX7) (T := TX7) (N := 3) (ci := 7) (j := 0) rfl inX7 (by decide) (by rw [hy]; exact w_166) rfl hdg he hv kk
theorem g_X7_15 {a : Nat} {fs : List Value} {v : Value} (hy : y.cls = RX7) (hdg : decode cc pc = .ok (.getfield 15, 3)) (he : w[a]? = some (.inr (7, fs))) (hv : fs[1]? = some v) (kk : R G l y cc nL ret d mc ms Q (pc + 3) lv (v :: st) w k n) : R G l y cc nL ret d mc ms Q pc lv (.ref a :: st) w k n := R_get (C := RX7) (ref := RX7) (T := TX7) (N := 3) (ci := 7) (j := 1) rfl inX7 (by decide) (by rw [hy]; exact w_167) rfl hdg he hv kk
theorem p_X7_15 {a : Nat} {fs : List Value} {v : Value} {w2 : VW} (hy : y.cls = RX7) (hini : y.name = "<init>") (hdg : decode cc pc = .ok (.putfield 15, 3)) (he : w[a]? = some (.inr (7, fs))) (hl0 : 1 < fs.length) (hn : narrow (tyX7 1) v = v) (hf : fits (tyX7 1) v = true) (hw : w.set a (.inr (7, fs.set 1 v)) = w2) (kk : R G l y cc nL ret d mc ms Q (pc + 3) lv st w2 k n) : R G l y cc nL ret d mc ms Q pc lv (v :: .ref a :: st) w k n := R_putF (C := RX7) (ref := RX7) (T := TX7) (ty0 := tyX7) (N := 3) (ci := 7) (j := 1) rfl inX7 tyX7_ok nmX7 (by decide) (by rw [hy]; exact w_167) rfl rfl (by rw [hy]; rfl) hini hn hf hdg he hl0 (by rw [hw]; exact kk)
theorem g_X1_136 {a : Nat} {fs : List Value} {v : Value} (hy : y.cls = RX1) (hdg : decode cc pc = .ok (.getfield 136, 3)) (he : w[a]? = some (.inr (7, fs))) (hv : fs[1]? = some v) (kk : R G l y cc nL ret d mc ms Q (pc + 3) lv (v :: st) w k n) : R G l y cc nL ret d mc ms Q pc lv (.ref a :: st) w k n := R_get (C := RX7) (ref := RX7) (T := TX7) (N := 3) (ci := 7) (j := 1) rfl inX7 (by decide) (by rw [hy]; exact w_168) rfl hdg he hv kk
theorem g_X8_258 {a : Nat} {fs : List Value} {v : Value} (hy : y.cls = RX8) (hdg : decode cc pc = .ok (.getfield 258, 3)) (he : w[a]? = some (.inr (7, fs))) (hv : fs[1]? = some v) (kk : R G l y cc nL ret d mc ms Q (pc + 3) lv (v :: st) w k n) : R G l y cc nL ret d mc ms Q pc lv (.ref a :: st) w k n := R_get (C := RX7) (ref := RX7) (T := TX7) (N := 3) (ci := 7) (j := 1) rfl inX7 (by decide) (by rw [hy]; exact w_169) rfl hdg he hv kk
theorem g_X7_18 {a : Nat} {fs : List Value} {v : Value} (hy : y.cls = RX7) (hdg : decode cc pc = .ok (.getfield 18, 3)) (he : w[a]? = some (.inr (7, fs))) (hv : fs[2]? = some v) (kk : R G l y cc nL ret d mc ms Q (pc + 3) lv (v :: st) w k n) : R G l y cc nL ret d mc ms Q pc lv (.ref a :: st) w k n := R_get (C := RX7) (ref := RX7) (T := TX7) (N := 3) (ci := 7) (j := 2) rfl inX7 (by decide) (by rw [hy]; exact w_170) rfl hdg he hv kk
theorem p_X7_18 {a : Nat} {fs : List Value} {v : Value} {w2 : VW} (hy : y.cls = RX7) (hdg : decode cc pc = .ok (.putfield 18, 3)) (he : w[a]? = some (.inr (7, fs))) (hl0 : 2 < fs.length) (hn : narrow (tyX7 2) v = v) (hf : fits (tyX7 2) v = true) (hw : w.set a (.inr (7, fs.set 2 v)) = w2) (kk : R G l y cc nL ret d mc ms Q (pc + 3) lv st w2 k n) : R G l y cc nL ret d mc ms Q pc lv (v :: .ref a :: st) w k n := R_put (C := RX7) (ref := RX7) (T := TX7) (ty0 := tyX7) (N := 3) (ci := 7) (j := 2) rfl inX7 tyX7_ok nmX7 (by decide) (by rw [hy]; exact w_170) rfl rfl hn hf hdg he hl0 (by rw [hw]; exact kk)
theorem g_X1_126 {a : Nat} {fs : List Value} {v : Value} (hy : y.cls = RX1) (hdg : decode cc pc = .ok (.getfield 126, 3)) (he : w[a]? = some (.inr (7, fs))) (hv : fs[2]? = some v) (kk : R G l y cc nL ret d mc ms Q (pc + 3) lv (v :: st) w k n) : R G l y cc nL ret d mc ms Q pc lv (.ref a :: st) w k n := R_get (C := RX7) (ref := RX7) (T := TX7) (N := 3) (ci := 7) (j := 2) rfl inX7 (by decide) (by rw [hy]; exact w_171) rfl hdg he hv kk
theorem p_X1_126 {a : Nat} {fs : List Value} {v : Value} {w2 : VW} (hy : y.cls = RX1) (hdg : decode cc pc = .ok (.putfield 126, 3)) (he : w[a]? = some (.inr (7, fs))) (hl0 : 2 < fs.length) (hn : narrow (tyX7 2) v = v) (hf : fits (tyX7 2) v = true) (hw : w.set a (.inr (7, fs.set 2 v)) = w2) (kk : R G l y cc nL ret d mc ms Q (pc + 3) lv st w2 k n) : R G l y cc nL ret d mc ms Q pc lv (v :: .ref a :: st) w k n := R_put (C := RX7) (ref := RX7) (T := TX7) (ty0 := tyX7) (N := 3) (ci := 7) (j := 2) rfl inX7 tyX7_ok nmX7 (by decide) (by rw [hy]; exact w_171) rfl rfl hn hf hdg he hl0 (by rw [hw]; exact kk)
theorem g_X1_48 {a : Nat} {fs : List Value} {v : Value} (hy : y.cls = RX1) (hdg : decode cc pc = .ok (.getfield 48, 3)) (he : w[a]? = some (.inr (1, fs))) (hv : fs[0]? = some v) (kk : R G l y cc nL ret d mc ms Q (pc + 3) lv (v :: st) w k n) : R G l y cc nL ret d mc ms Q pc lv (.ref a :: st) w k n := R_get (C := RX1) (ref := RX1) (T := TX1) (N := 13) (ci := 1) (j := 0) rfl inX1 (by decide) (by rw [hy]; exact w_179) rfl hdg he hv kk
theorem p_X1_48 {a : Nat} {fs : List Value} {v : Value} {w2 : VW} (hy : y.cls = RX1) (hini : y.name = "<init>") (hdg : decode cc pc = .ok (.putfield 48, 3)) (he : w[a]? = some (.inr (1, fs))) (hl0 : 0 < fs.length) (hn : narrow (tyX1 0) v = v) (hf : fits (tyX1 0) v = true) (hw : w.set a (.inr (1, fs.set 0 v)) = w2) (kk : R G l y cc nL ret d mc ms Q (pc + 3) lv st w2 k n) : R G l y cc nL ret d mc ms Q pc lv (v :: .ref a :: st) w k n := R_putF (C := RX1) (ref := RX1) (T := TX1) (ty0 := tyX1) (N := 13) (ci := 1) (j := 0) rfl inX1 tyX1_ok nmX1 (by decide) (by rw [hy]; exact w_179) rfl rfl (by rw [hy]; rfl) hini hn hf hdg he hl0 (by rw [hw]; exact kk)
theorem g_X1_52 {a : Nat} {fs : List Value} {v : Value} (hy : y.cls = RX1) (hdg : decode cc pc = .ok (.getfield 52, 3)) (he : w[a]? = some (.inr (1, fs))) (hv : fs[1]? = some v) (kk : R G l y cc nL ret d mc ms Q (pc + 3) lv (v :: st) w k n) : R G l y cc nL ret d mc ms Q pc lv (.ref a :: st) w k n := R_get (C := RX1) (ref := RX1) (T := TX1) (N := 13) (ci := 1) (j := 1) rfl inX1 (by decide) (by rw [hy]; exact w_180) rfl hdg he hv kk
theorem p_X1_52 {a : Nat} {fs : List Value} {v : Value} {w2 : VW} (hy : y.cls = RX1) (hini : y.name = "<init>") (hdg : decode cc pc = .ok (.putfield 52, 3)) (he : w[a]? = some (.inr (1, fs))) (hl0 : 1 < fs.length) (hn : narrow (tyX1 1) v = v) (hf : fits (tyX1 1) v = true) (hw : w.set a (.inr (1, fs.set 1 v)) = w2) (kk : R G l y cc nL ret d mc ms Q (pc + 3) lv st w2 k n) : R G l y cc nL ret d mc ms Q pc lv (v :: .ref a :: st) w k n := R_putF (C := RX1) (ref := RX1) (T := TX1) (ty0 := tyX1) (N := 13) (ci := 1) (j := 1) rfl inX1 tyX1_ok nmX1 (by decide) (by rw [hy]; exact w_180) rfl rfl (by rw [hy]; rfl) hini hn hf hdg he hl0 (by rw [hw]; exact kk)
theorem g_X1_9 {a : Nat} {fs : List Value} {v : Value} (hy : y.cls = RX1) (hdg : decode cc pc = .ok (.getfield 9, 3)) (he : w[a]? = some (.inr (1, fs))) (hv : fs[2]? = some v) (kk : R G l y cc nL ret d mc ms Q (pc + 3) lv (v :: st) w k n) : R G l y cc nL ret d mc ms Q pc lv (.ref a :: st) w k n := R_get (C := RX1) (ref := RX1) (T := TX1) (N := 13) (ci := 1) (j := 2) rfl inX1 (by decide) (by rw [hy]; exact w_181) rfl hdg he hv kk
theorem p_X1_9 {a : Nat} {fs : List Value} {v : Value} {w2 : VW} (hy : y.cls = RX1) (hini : y.name = "<init>") (hdg : decode cc pc = .ok (.putfield 9, 3)) (he : w[a]? = some (.inr (1, fs))) (hl0 : 2 < fs.length) (hn : narrow (tyX1 2) v = v) (hf : fits (tyX1 2) v = true) (hw : w.set a (.inr (1, fs.set 2 v)) = w2) (kk : R G l y cc nL ret d mc ms Q (pc + 3) lv st w2 k n) : R G l y cc nL ret d mc ms Q pc lv (v :: .ref a :: st) w k n := R_putF (C := RX1) (ref := RX1) (T := TX1) (ty0 := tyX1) (N := 13) (ci := 1) (j := 2) rfl inX1 tyX1_ok nmX1 (by decide) (by rw [hy]; exact w_181) rfl rfl (by rw [hy]; rfl) hini hn hf hdg he hl0 (by rw [hw]; exact kk)
theorem g_X8_218 {a : Nat} {fs : List Value} {v : Value} (hy : y.cls = RX8) (hdg : decode cc pc = .ok (.getfield 218, 3)) (he : w[a]? = some (.inr (1, fs))) (hv : fs[2]? = some v) (kk : R G l y cc nL ret d mc ms Q (pc + 3) lv (v :: st) w k n) : R G l y cc nL ret d mc ms Q pc lv (.ref a :: st) w k n := R_get (C := RX1) (ref := RX1) (T := TX1) (N := 13) (ci := 1) (j := 2) rfl inX1 (by decide) (by rw [hy]; exact w_182) rfl hdg he hv kk
theorem g_X1_15 {a : Nat} {fs : List Value} {v : Value} (hy : y.cls = RX1) (hdg : decode cc pc = .ok (.getfield 15, 3)) (he : w[a]? = some (.inr (1, fs))) (hv : fs[3]? = some v) (kk : R G l y cc nL ret d mc ms Q (pc + 3) lv (v :: st) w k n) : R G l y cc nL ret d mc ms Q pc lv (.ref a :: st) w k n := R_get (C := RX1) (ref := RX1) (T := TX1) (N := 13) (ci := 1) (j := 3) rfl inX1 (by decide) (by rw [hy]; exact w_183) rfl hdg he hv kk
theorem p_X1_15 {a : Nat} {fs : List Value} {v : Value} {w2 : VW} (hy : y.cls = RX1) (hini : y.name = "<init>") (hdg : decode cc pc = .ok (.putfield 15, 3)) (he : w[a]? = some (.inr (1, fs))) (hl0 : 3 < fs.length) (hn : narrow (tyX1 3) v = v) (hf : fits (tyX1 3) v = true) (hw : w.set a (.inr (1, fs.set 3 v)) = w2) (kk : R G l y cc nL ret d mc ms Q (pc + 3) lv st w2 k n) : R G l y cc nL ret d mc ms Q pc lv (v :: .ref a :: st) w k n := R_putF (C := RX1) (ref := RX1) (T := TX1) (ty0 := tyX1) (N := 13) (ci := 1) (j := 3) rfl inX1 tyX1_ok nmX1 (by decide) (by rw [hy]; exact w_183) rfl rfl (by rw [hy]; rfl) hini hn hf hdg he hl0 (by rw [hw]; exact kk)
theorem g_X8_221 {a : Nat} {fs : List Value} {v : Value} (hy : y.cls = RX8) (hdg : decode cc pc = .ok (.getfield 221, 3)) (he : w[a]? = some (.inr (1, fs))) (hv : fs[3]? = some v) (kk : R G l y cc nL ret d mc ms Q (pc + 3) lv (v :: st) w k n) : R G l y cc nL ret d mc ms Q pc lv (.ref a :: st) w k n := R_get (C := RX1) (ref := RX1) (T := TX1) (N := 13) (ci := 1) (j := 3) rfl inX1 (by decide) (by rw [hy]; exact w_184) rfl hdg he hv kk
theorem g_X1_18 {a : Nat} {fs : List Value} {v : Value} (hy : y.cls = RX1) (hdg : decode cc pc = .ok (.getfield 18, 3)) (he : w[a]? = some (.inr (1, fs))) (hv : fs[4]? = some v) (kk : R G l y cc nL ret d mc ms Q (pc + 3) lv (v :: st) w k n) : R G l y cc nL ret d mc ms Q pc lv (.ref a :: st) w k n := R_get (C := RX1) (ref := RX1) (T := TX1) (N := 13) (ci := 1) (j := 4) rfl inX1 (by decide) (by rw [hy]; exact w_185) rfl hdg he hv kk
theorem p_X1_18 {a : Nat} {fs : List Value} {v : Value} {w2 : VW} (hy : y.cls = RX1) (hini : y.name = "<init>") (hdg : decode cc pc = .ok (.putfield 18, 3)) (he : w[a]? = some (.inr (1, fs))) (hl0 : 4 < fs.length) (hn : narrow (tyX1 4) v = v) (hf : fits (tyX1 4) v = true) (hw : w.set a (.inr (1, fs.set 4 v)) = w2) (kk : R G l y cc nL ret d mc ms Q (pc + 3) lv st w2 k n) : R G l y cc nL ret d mc ms Q pc lv (v :: .ref a :: st) w k n := R_putF (C := RX1) (ref := RX1) (T := TX1) (ty0 := tyX1) (N := 13) (ci := 1) (j := 4) rfl inX1 tyX1_ok nmX1 (by decide) (by rw [hy]; exact w_185) rfl rfl (by rw [hy]; rfl) hini hn hf hdg he hl0 (by rw [hw]; exact kk)
theorem g_X8_227 {a : Nat} {fs : List Value} {v : Value} (hy : y.cls = RX8) (hdg : decode cc pc = .ok (.getfield 227, 3)) (he : w[a]? = some (.inr (1, fs))) (hv : fs[4]? = some v) (kk : R G l y cc nL ret d mc ms Q (pc + 3) lv (v :: st) w k n) : R G l y cc nL ret d mc ms Q pc lv (.ref a :: st) w k n := R_get (C := RX1) (ref := RX1) (T := TX1) (N := 13) (ci := 1) (j := 4) rfl inX1 (by decide) (by rw [hy]; exact w_186) rfl hdg he hv kk
theorem g_X1_21 {a : Nat} {fs : List Value} {v : Value} (hy : y.cls = RX1) (hdg : decode cc pc = .ok (.getfield 21, 3)) (he : w[a]? = some (.inr (1, fs))) (hv : fs[5]? = some v) (kk : R G l y cc nL ret d mc ms Q (pc + 3) lv (v :: st) w k n) : R G l y cc nL ret d mc ms Q pc lv (.ref a :: st) w k n := R_get (C := RX1) (ref := RX1) (T := TX1) (N := 13) (ci := 1) (j := 5) rfl inX1 (by decide) (by rw [hy]; exact w_187) rfl hdg he hv kk
theorem p_X1_21 {a : Nat} {fs : List Value} {v : Value} {w2 : VW} (hy : y.cls = RX1) (hini : y.name = "<init>") (hdg : decode cc pc = .ok (.putfield 21, 3)) (he : w[a]? = some (.inr (1, fs))) (hl0 : 5 < fs.length) (hn : narrow (tyX1 5) v = v) (hf : fits (tyX1 5) v = true) (hw : w.set a (.inr (1, fs.set 5 v)) = w2) (kk : R G l y cc nL ret d mc ms Q (pc + 3) lv st w2 k n) : R G l y cc nL ret d mc ms Q pc lv (v :: .ref a :: st) w k n := R_putF (C := RX1) (ref := RX1) (T := TX1) (ty0 := tyX1) (N := 13) (ci := 1) (j := 5) rfl inX1 tyX1_ok nmX1 (by decide) (by rw [hy]; exact w_187) rfl rfl (by rw [hy]; rfl) hini hn hf hdg he hl0 (by rw [hw]; exact kk)
theorem g_X8_230 {a : Nat} {fs : List Value} {v : Value} (hy : y.cls = RX8) (hdg : decode cc pc = .ok (.getfield 230, 3)) (he : w[a]? = some (.inr (1, fs))) (hv : fs[5]? = some v) (kk : R G l y cc nL ret d mc ms Q (pc + 3) lv (v :: st) w k n) : R G l y cc nL ret d mc ms Q pc lv (.ref a :: st) w k n := R_get (C := RX1) (ref := RX1) (T := TX1) (N := 13) (ci := 1) (j := 5) rfl inX1 (by decide) (by rw [hy]; exact w_188) rfl hdg he hv kk
theorem g_X1_26 {a : Nat} {fs : List Value} {v : Value} (hy : y.cls = RX1) (hdg : decode cc pc = .ok (.getfield 26, 3)) (he : w[a]? = some (.inr (1, fs))) (hv : fs[6]? = some v) (kk : R G l y cc nL ret d mc ms Q (pc + 3) lv (v :: st) w k n) : R G l y cc nL ret d mc ms Q pc lv (.ref a :: st) w k n := R_get (C := RX1) (ref := RX1) (T := TX1) (N := 13) (ci := 1) (j := 6) rfl inX1 (by decide) (by rw [hy]; exact w_189) rfl hdg he hv kk
theorem p_X1_26 {a : Nat} {fs : List Value} {v : Value} {w2 : VW} (hy : y.cls = RX1) (hini : y.name = "<init>") (hdg : decode cc pc = .ok (.putfield 26, 3)) (he : w[a]? = some (.inr (1, fs))) (hl0 : 6 < fs.length) (hn : narrow (tyX1 6) v = v) (hf : fits (tyX1 6) v = true) (hw : w.set a (.inr (1, fs.set 6 v)) = w2) (kk : R G l y cc nL ret d mc ms Q (pc + 3) lv st w2 k n) : R G l y cc nL ret d mc ms Q pc lv (v :: .ref a :: st) w k n := R_putF (C := RX1) (ref := RX1) (T := TX1) (ty0 := tyX1) (N := 13) (ci := 1) (j := 6) rfl inX1 tyX1_ok nmX1 (by decide) (by rw [hy]; exact w_189) rfl rfl (by rw [hy]; rfl) hini hn hf hdg he hl0 (by rw [hw]; exact kk)
theorem g_X8_224 {a : Nat} {fs : List Value} {v : Value} (hy : y.cls = RX8) (hdg : decode cc pc = .ok (.getfield 224, 3)) (he : w[a]? = some (.inr (1, fs))) (hv : fs[6]? = some v) (kk : R G l y cc nL ret d mc ms Q (pc + 3) lv (v :: st) w k n) : R G l y cc nL ret d mc ms Q pc lv (.ref a :: st) w k n := R_get (C := RX1) (ref := RX1) (T := TX1) (N := 13) (ci := 1) (j := 6) rfl inX1 (by decide) (by rw [hy]; exact w_190) rfl hdg he hv kk
theorem g_X1_29 {a : Nat} {fs : List Value} {v : Value} (hy : y.cls = RX1) (hdg : decode cc pc = .ok (.getfield 29, 3)) (he : w[a]? = some (.inr (1, fs))) (hv : fs[7]? = some v) (kk : R G l y cc nL ret d mc ms Q (pc + 3) lv (v :: st) w k n) : R G l y cc nL ret d mc ms Q pc lv (.ref a :: st) w k n := R_get (C := RX1) (ref := RX1) (T := TX1) (N := 13) (ci := 1) (j := 7) rfl inX1 (by decide) (by rw [hy]; exact w_191) rfl hdg he hv kk
theorem p_X1_29 {a : Nat} {fs : List Value} {v : Value} {w2 : VW} (hy : y.cls = RX1) (hini : y.name = "<init>") (hdg : decode cc pc = .ok (.putfield 29, 3)) (he : w[a]? = some (.inr (1, fs))) (hl0 : 7 < fs.length) (hn : narrow (tyX1 7) v = v) (hf : fits (tyX1 7) v = true) (hw : w.set a (.inr (1, fs.set 7 v)) = w2) (kk : R G l y cc nL ret d mc ms Q (pc + 3) lv st w2 k n) : R G l y cc nL ret d mc ms Q pc lv (v :: .ref a :: st) w k n := R_putF (C := RX1) (ref := RX1) (T := TX1) (ty0 := tyX1) (N := 13) (ci := 1) (j := 7) rfl inX1 tyX1_ok nmX1 (by decide) (by rw [hy]; exact w_191) rfl rfl (by rw [hy]; rfl) hini hn hf hdg he hl0 (by rw [hw]; exact kk)
theorem g_X8_236 {a : Nat} {fs : List Value} {v : Value} (hy : y.cls = RX8) (hdg : decode cc pc = .ok (.getfield 236, 3)) (he : w[a]? = some (.inr (1, fs))) (hv : fs[7]? = some v) (kk : R G l y cc nL ret d mc ms Q (pc + 3) lv (v :: st) w k n) : R G l y cc nL ret d mc ms Q pc lv (.ref a :: st) w k n := R_get (C := RX1) (ref := RX1) (T := TX1) (N := 13) (ci := 1) (j := 7) rfl inX1 (by decide) (by rw [hy]; exact w_192) rfl hdg he hv kk
theorem g_X1_32 {a : Nat} {fs : List Value} {v : Value} (hy : y.cls = RX1) (hdg : decode cc pc = .ok (.getfield 32, 3)) (he : w[a]? = some (.inr (1, fs))) (hv : fs[8]? = some v) (kk : R G l y cc nL ret d mc ms Q (pc + 3) lv (v :: st) w k n) : R G l y cc nL ret d mc ms Q pc lv (.ref a :: st) w k n := R_get (C := RX1) (ref := RX1) (T := TX1) (N := 13) (ci := 1) (j := 8) rfl inX1 (by decide) (by rw [hy]; exact w_193) rfl hdg he hv kk
theorem p_X1_32 {a : Nat} {fs : List Value} {v : Value} {w2 : VW} (hy : y.cls = RX1) (hini : y.name = "<init>") (hdg : decode cc pc = .ok (.putfield 32, 3)) (he : w[a]? = some (.inr (1, fs))) (hl0 : 8 < fs.length) (hn : narrow (tyX1 8) v = v) (hf : fits (tyX1 8) v = true) (hw : w.set a (.inr (1, fs.set 8 v)) = w2) (kk : R G l y cc nL ret d mc ms Q (pc + 3) lv st w2 k n) : R G l y cc nL ret d mc ms Q pc lv (v :: .ref a :: st) w k n := R_putF (C := RX1) (ref := RX1) (T := TX1) (ty0 := tyX1) (N := 13) (ci := 1) (j := 8) rfl inX1 tyX1_ok nmX1 (by decide) (by rw [hy]; exact w_193) rfl rfl (by rw [hy]; rfl) hini hn hf hdg he hl0 (by rw [hw]; exact kk)
theorem g_X8_239 {a : Nat} {fs : List Value} {v : Value} (hy : y.cls = RX8) (hdg : decode cc pc = .ok (.getfield 239, 3)) (he : w[a]? = some (.inr (1, fs))) (hv : fs[8]? = some v) (kk : R G l y cc nL ret d mc ms Q (pc + 3) lv (v :: st) w k n) : R G l y cc nL ret d mc ms Q pc lv (.ref a :: st) w k n := R_get (C := RX1) (ref := RX1) (T := TX1) (N := 13) (ci := 1) (j := 8) rfl inX1 (by decide) (by rw [hy]; exact w_194) rfl hdg he hv kk
theorem g_X1_139 {a : Nat} {fs : List Value} {v : Value} (hy : y.cls = RX1) (hdg : decode cc pc = .ok (.getfield 139, 3)) (he : w[a]? = some (.inr (1, fs))) (hv : fs[9]? = some v) (kk : R G l y cc nL ret d mc ms Q (pc + 3) lv (v :: st) w k n) : R G l y cc nL ret d mc ms Q pc lv (.ref a :: st) w k n := R_get (C := RX1) (ref := RX1) (T := TX1) (N := 13) (ci := 1) (j := 9) rfl inX1 (by decide) (by rw [hy]; exact w_195) rfl hdg he hv kk
theorem p_X1_139 {a : Nat} {fs : List Value} {v : Value} {w2 : VW} (hy : y.cls = RX1) (hdg : decode cc pc = .ok (.putfield 139, 3)) (he : w[a]? = some (.inr (1, fs))) (hl0 : 9 < fs.length) (hn : narrow (tyX1 9) v = v) (hf : fits (tyX1 9) v = true) (hw : w.set a (.inr (1, fs.set 9 v)) = w2) (kk : R G l y cc nL ret d mc ms Q (pc + 3) lv st w2 k n) : R G l y cc nL ret d mc ms Q pc lv (v :: .ref a :: st) w k n := R_put (C := RX1) (ref := RX1) (T := TX1) (ty0 := tyX1) (N := 13) (ci := 1) (j := 9) rfl inX1 tyX1_ok nmX1 (by decide) (by rw [hy]; exact w_195) rfl rfl hn hf hdg he hl0 (by rw [hw]; exact kk)
theorem g_X8_233 {a : Nat} {fs : List Value} {v : Value} (hy : y.cls = RX8) (hdg : decode cc pc = .ok (.getfield 233, 3)) (he : w[a]? = some (.inr (1, fs))) (hv : fs[9]? = some v) (kk : R G l y cc nL ret d mc ms Q (pc + 3) lv (v :: st) w k n) : R G l y cc nL ret d mc ms Q pc lv (.ref a :: st) w k n := R_get (C := RX1) (ref := RX1) (T := TX1) (N := 13) (ci := 1) (j := 9) rfl inX1 (by decide) (by rw [hy]; exact w_196) rfl hdg he hv kk
theorem p_X8_233 {a : Nat} {fs : List Value} {v : Value} {w2 : VW} (hy : y.cls = RX8) (hdg : decode cc pc = .ok (.putfield 233, 3)) (he : w[a]? = some (.inr (1, fs))) (hl0 : 9 < fs.length) (hn : narrow (tyX1 9) v = v) (hf : fits (tyX1 9) v = true) (hw : w.set a (.inr (1, fs.set 9 v)) = w2) (kk : R G l y cc nL ret d mc ms Q (pc + 3) lv st w2 k n) : R G l y cc nL ret d mc ms Q pc lv (v :: .ref a :: st) w k n := R_put (C := RX1) (ref := RX1) (T := TX1) (ty0 := tyX1) (N := 13) (ci := 1) (j := 9) rfl inX1 tyX1_ok nmX1 (by decide) (by rw [hy]; exact w_196) rfl rfl hn hf hdg he hl0 (by rw [hw]; exact kk)
theorem g_X1_38 {a : Nat} {fs : List Value} {v : Value} (hy : y.cls = RX1) (hdg : decode cc pc = .ok (.getfield 38, 3)) (he : w[a]? = some (.inr (1, fs))) (hv : fs[10]? = some v) (kk : R G l y cc nL ret d mc ms Q (pc + 3) lv (v :: st) w k n) : R G l y cc nL ret d mc ms Q pc lv (.ref a :: st) w k n := R_get (C := RX1) (ref := RX1) (T := TX1) (N := 13) (ci := 1) (j := 10) rfl inX1 (by decide) (by rw [hy]; exact w_197) rfl hdg he hv kk
theorem p_X1_38 {a : Nat} {fs : List Value} {v : Value} {w2 : VW} (hy : y.cls = RX1) (hini : y.name = "<init>") (hdg : decode cc pc = .ok (.putfield 38, 3)) (he : w[a]? = some (.inr (1, fs))) (hl0 : 10 < fs.length) (hn : narrow (tyX1 10) v = v) (hf : fits (tyX1 10) v = true) (hw : w.set a (.inr (1, fs.set 10 v)) = w2) (kk : R G l y cc nL ret d mc ms Q (pc + 3) lv st w2 k n) : R G l y cc nL ret d mc ms Q pc lv (v :: .ref a :: st) w k n := R_putF (C := RX1) (ref := RX1) (T := TX1) (ty0 := tyX1) (N := 13) (ci := 1) (j := 10) rfl inX1 tyX1_ok nmX1 (by decide) (by rw [hy]; exact w_197) rfl rfl (by rw [hy]; rfl) hini hn hf hdg he hl0 (by rw [hw]; exact kk)
theorem g_X8_249 {a : Nat} {fs : List Value} {v : Value} (hy : y.cls = RX8) (hdg : decode cc pc = .ok (.getfield 249, 3)) (he : w[a]? = some (.inr (1, fs))) (hv : fs[10]? = some v) (kk : R G l y cc nL ret d mc ms Q (pc + 3) lv (v :: st) w k n) : R G l y cc nL ret d mc ms Q pc lv (.ref a :: st) w k n := R_get (C := RX1) (ref := RX1) (T := TX1) (N := 13) (ci := 1) (j := 10) rfl inX1 (by decide) (by rw [hy]; exact w_198) rfl hdg he hv kk
theorem g_X1_42 {a : Nat} {fs : List Value} {v : Value} (hy : y.cls = RX1) (hdg : decode cc pc = .ok (.getfield 42, 3)) (he : w[a]? = some (.inr (1, fs))) (hv : fs[11]? = some v) (kk : R G l y cc nL ret d mc ms Q (pc + 3) lv (v :: st) w k n) : R G l y cc nL ret d mc ms Q pc lv (.ref a :: st) w k n := R_get (C := RX1) (ref := RX1) (T := TX1) (N := 13) (ci := 1) (j := 11) rfl inX1 (by decide) (by rw [hy]; exact w_199) rfl hdg he hv kk
theorem p_X1_42 {a : Nat} {fs : List Value} {v : Value} {w2 : VW} (hy : y.cls = RX1) (hini : y.name = "<init>") (hdg : decode cc pc = .ok (.putfield 42, 3)) (he : w[a]? = some (.inr (1, fs))) (hl0 : 11 < fs.length) (hn : narrow (tyX1 11) v = v) (hf : fits (tyX1 11) v = true) (hw : w.set a (.inr (1, fs.set 11 v)) = w2) (kk : R G l y cc nL ret d mc ms Q (pc + 3) lv st w2 k n) : R G l y cc nL ret d mc ms Q pc lv (v :: .ref a :: st) w k n := R_putF (C := RX1) (ref := RX1) (T := TX1) (ty0 := tyX1) (N := 13) (ci := 1) (j := 11) rfl inX1 tyX1_ok nmX1 (by decide) (by rw [hy]; exact w_199) rfl rfl (by rw [hy]; rfl) hini hn hf hdg he hl0 (by rw [hw]; exact kk)
theorem g_X8_261 {a : Nat} {fs : List Value} {v : Value} (hy : y.cls = RX8) (hdg : decode cc pc = .ok (.getfield 261, 3)) (he : w[a]? = some (.inr (1, fs))) (hv : fs[11]? = some v) (kk : R G l y cc nL ret d mc ms Q (pc + 3) lv (v :: st) w k n) : R G l y cc nL ret d mc ms Q pc lv (.ref a :: st) w k n := R_get (C := RX1) (ref := RX1) (T := TX1) (N := 13) (ci := 1) (j := 11) rfl inX1 (by decide) (by rw [hy]; exact w_200) rfl hdg he hv kk
theorem g_X1_45 {a : Nat} {fs : List Value} {v : Value} (hy : y.cls = RX1) (hdg : decode cc pc = .ok (.getfield 45, 3)) (he : w[a]? = some (.inr (1, fs))) (hv : fs[12]? = some v) (kk : R G l y cc nL ret d mc ms Q (pc + 3) lv (v :: st) w k n) : R G l y cc nL ret d mc ms Q pc lv (.ref a :: st) w k n := R_get (C := RX1) (ref := RX1) (T := TX1) (N := 13) (ci := 1) (j := 12) rfl inX1 (by decide) (by rw [hy]; exact w_201) rfl hdg he hv kk
theorem p_X1_45 {a : Nat} {fs : List Value} {v : Value} {w2 : VW} (hy : y.cls = RX1) (hini : y.name = "<init>") (hdg : decode cc pc = .ok (.putfield 45, 3)) (he : w[a]? = some (.inr (1, fs))) (hl0 : 12 < fs.length) (hn : narrow (tyX1 12) v = v) (hf : fits (tyX1 12) v = true) (hw : w.set a (.inr (1, fs.set 12 v)) = w2) (kk : R G l y cc nL ret d mc ms Q (pc + 3) lv st w2 k n) : R G l y cc nL ret d mc ms Q pc lv (v :: .ref a :: st) w k n := R_putF (C := RX1) (ref := RX1) (T := TX1) (ty0 := tyX1) (N := 13) (ci := 1) (j := 12) rfl inX1 tyX1_ok nmX1 (by decide) (by rw [hy]; exact w_201) rfl rfl (by rw [hy]; rfl) hini hn hf hdg he hl0 (by rw [hw]; exact kk)
theorem g_X8_246 {a : Nat} {fs : List Value} {v : Value} (hy : y.cls = RX8) (hdg : decode cc pc = .ok (.getfield 246, 3)) (he : w[a]? = some (.inr (1, fs))) (hv : fs[12]? = some v) (kk : R G l y cc nL ret d mc ms Q (pc + 3) lv (v :: st) w k n) : R G l y cc nL ret d mc ms Q pc lv (.ref a :: st) w k n := R_get (C := RX1) (ref := RX1) (T := TX1) (N := 13) (ci := 1) (j := 12) rfl inX1 (by decide) (by rw [hy]; exact w_202) rfl hdg he hv kk
theorem g_X2_9 {a : Nat} {fs : List Value} {v : Value} (hy : y.cls = RX2) (hdg : decode cc pc = .ok (.getfield 9, 3)) (he : w[a]? = some (.inr (2, fs))) (hv : fs[0]? = some v) (kk : R G l y cc nL ret d mc ms Q (pc + 3) lv (v :: st) w k n) : R G l y cc nL ret d mc ms Q pc lv (.ref a :: st) w k n := R_get (C := RX2) (ref := RX2) (T := TX2) (N := 4) (ci := 2) (j := 0) rfl inX2 (by decide) (by rw [hy]; exact w_237) rfl hdg he hv kk
theorem p_X2_9 {a : Nat} {fs : List Value} {v : Value} {w2 : VW} (hy : y.cls = RX2) (hini : y.name = "<init>") (hdg : decode cc pc = .ok (.putfield 9, 3)) (he : w[a]? = some (.inr (2, fs))) (hl0 : 0 < fs.length) (hn : narrow (tyX2 0) v = v) (hf : fits (tyX2 0) v = true) (hw : w.set a (.inr (2, fs.set 0 v)) = w2) (kk : R G l y cc nL ret d mc ms Q (pc + 3) lv st w2 k n) : R G l y cc nL ret d mc ms Q pc lv (v :: .ref a :: st) w k n := R_putF (C := RX2) (ref := RX2) (T := TX2) (ty0 := tyX2) (N := 4) (ci := 2) (j := 0) rfl inX2 tyX2_ok nmX2 (by decide) (by rw [hy]; exact w_237) rfl rfl (by rw [hy]; rfl) hini hn hf hdg he hl0 (by rw [hw]; exact kk)
theorem g_X8_264 {a : Nat} {fs : List Value} {v : Value} (hy : y.cls = RX8) (hdg : decode cc pc = .ok (.getfield 264, 3)) (he : w[a]? = some (.inr (2, fs))) (hv : fs[0]? = some v) (kk : R G l y cc nL ret d mc ms Q (pc + 3) lv (v :: st) w k n) : R G l y cc nL ret d mc ms Q pc lv (.ref a :: st) w k n := R_get (C := RX2) (ref := RX2) (T := TX2) (N := 4) (ci := 2) (j := 0) rfl inX2 (by decide) (by rw [hy]; exact w_238) rfl hdg he hv kk
theorem g_X2_23 {a : Nat} {fs : List Value} {v : Value} (hy : y.cls = RX2) (hdg : decode cc pc = .ok (.getfield 23, 3)) (he : w[a]? = some (.inr (2, fs))) (hv : fs[1]? = some v) (kk : R G l y cc nL ret d mc ms Q (pc + 3) lv (v :: st) w k n) : R G l y cc nL ret d mc ms Q pc lv (.ref a :: st) w k n := R_get (C := RX2) (ref := RX2) (T := TX2) (N := 4) (ci := 2) (j := 1) rfl inX2 (by decide) (by rw [hy]; exact w_239) rfl hdg he hv kk
theorem p_X2_23 {a : Nat} {fs : List Value} {v : Value} {w2 : VW} (hy : y.cls = RX2) (hdg : decode cc pc = .ok (.putfield 23, 3)) (he : w[a]? = some (.inr (2, fs))) (hl0 : 1 < fs.length) (hn : narrow (tyX2 1) v = v) (hf : fits (tyX2 1) v = true) (hw : w.set a (.inr (2, fs.set 1 v)) = w2) (kk : R G l y cc nL ret d mc ms Q (pc + 3) lv st w2 k n) : R G l y cc nL ret d mc ms Q pc lv (v :: .ref a :: st) w k n := R_put (C := RX2) (ref := RX2) (T := TX2) (ty0 := tyX2) (N := 4) (ci := 2) (j := 1) rfl inX2 tyX2_ok nmX2 (by decide) (by rw [hy]; exact w_239) rfl rfl hn hf hdg he hl0 (by rw [hw]; exact kk)
theorem g_X8_267 {a : Nat} {fs : List Value} {v : Value} (hy : y.cls = RX8) (hdg : decode cc pc = .ok (.getfield 267, 3)) (he : w[a]? = some (.inr (2, fs))) (hv : fs[1]? = some v) (kk : R G l y cc nL ret d mc ms Q (pc + 3) lv (v :: st) w k n) : R G l y cc nL ret d mc ms Q pc lv (.ref a :: st) w k n := R_get (C := RX2) (ref := RX2) (T := TX2) (N := 4) (ci := 2) (j := 1) rfl inX2 (by decide) (by rw [hy]; exact w_240) rfl hdg he hv kk
theorem p_X8_267 {a : Nat} {fs : List Value} {v : Value} {w2 : VW} (hy : y.cls = RX8) (hdg : decode cc pc = .ok (.putfield 267, 3)) (he : w[a]? = some (.inr (2, fs))) (hl0 : 1 < fs.length) (hn : narrow (tyX2 1) v = v) (hf : fits (tyX2 1) v = true) (hw : w.set a (.inr (2, fs.set 1 v)) = w2) (kk : R G l y cc nL ret d mc ms Q (pc + 3) lv st w2 k n) : R G l y cc nL ret d mc ms Q pc lv (v :: .ref a :: st) w k n := R_put (C := RX2) (ref := RX2) (T := TX2) (ty0 := tyX2) (N := 4) (ci := 2) (j := 1) rfl inX2 tyX2_ok nmX2 (by decide) (by rw [hy]; exact w_240) rfl rfl hn hf hdg he hl0 (by rw [hw]; exact kk)
theorem g_X2_17 {a : Nat} {fs : List Value} {v : Value} (hy : y.cls = RX2) (hdg : decode cc pc = .ok (.getfield 17, 3)) (he : w[a]? = some (.inr (2, fs))) (hv : fs[2]? = some v) (kk : R G l y cc nL ret d mc ms Q (pc + 3) lv (v :: st) w k n) : R G l y cc nL ret d mc ms Q pc lv (.ref a :: st) w k n := R_get (C := RX2) (ref := RX2) (T := TX2) (N := 4) (ci := 2) (j := 2) rfl inX2 (by decide) (by rw [hy]; exact w_241) rfl hdg he hv kk
theorem p_X2_17 {a : Nat} {fs : List Value} {v : Value} {w2 : VW} (hy : y.cls = RX2) (hini : y.name = "<init>") (hdg : decode cc pc = .ok (.putfield 17, 3)) (he : w[a]? = some (.inr (2, fs))) (hl0 : 2 < fs.length) (hn : narrow (tyX2 2) v = v) (hf : fits (tyX2 2) v = true) (hw : w.set a (.inr (2, fs.set 2 v)) = w2) (kk : R G l y cc nL ret d mc ms Q (pc + 3) lv st w2 k n) : R G l y cc nL ret d mc ms Q pc lv (v :: .ref a :: st) w k n := R_putF (C := RX2) (ref := RX2) (T := TX2) (ty0 := tyX2) (N := 4) (ci := 2) (j := 2) rfl inX2 tyX2_ok nmX2 (by decide) (by rw [hy]; exact w_241) rfl rfl (by rw [hy]; rfl) hini hn hf hdg he hl0 (by rw [hw]; exact kk)
theorem g_X8_277 {a : Nat} {fs : List Value} {v : Value} (hy : y.cls = RX8) (hdg : decode cc pc = .ok (.getfield 277, 3)) (he : w[a]? = some (.inr (2, fs))) (hv : fs[2]? = some v) (kk : R G l y cc nL ret d mc ms Q (pc + 3) lv (v :: st) w k n) : R G l y cc nL ret d mc ms Q pc lv (.ref a :: st) w k n := R_get (C := RX2) (ref := RX2) (T := TX2) (N := 4) (ci := 2) (j := 2) rfl inX2 (by decide) (by rw [hy]; exact w_242) rfl hdg he hv kk
theorem g_X2_20 {a : Nat} {fs : List Value} {v : Value} (hy : y.cls = RX2) (hdg : decode cc pc = .ok (.getfield 20, 3)) (he : w[a]? = some (.inr (2, fs))) (hv : fs[3]? = some v) (kk : R G l y cc nL ret d mc ms Q (pc + 3) lv (v :: st) w k n) : R G l y cc nL ret d mc ms Q pc lv (.ref a :: st) w k n := R_get (C := RX2) (ref := RX2) (T := TX2) (N := 4) (ci := 2) (j := 3) rfl inX2 (by decide) (by rw [hy]; exact w_243) rfl hdg he hv kk
theorem p_X2_20 {a : Nat} {fs : List Value} {v : Value} {w2 : VW} (hy : y.cls = RX2) (hini : y.name = "<init>") (hdg : decode cc pc = .ok (.putfield 20, 3)) (he : w[a]? = some (.inr (2, fs))) (hl0 : 3 < fs.length) (hn : narrow (tyX2 3) v = v) (hf : fits (tyX2 3) v = true) (hw : w.set a (.inr (2, fs.set 3 v)) = w2) (kk : R G l y cc nL ret d mc ms Q (pc + 3) lv st w2 k n) : R G l y cc nL ret d mc ms Q pc lv (v :: .ref a :: st) w k n := R_putF (C := RX2) (ref := RX2) (T := TX2) (ty0 := tyX2) (N := 4) (ci := 2) (j := 3) rfl inX2 tyX2_ok nmX2 (by decide) (by rw [hy]; exact w_243) rfl rfl (by rw [hy]; rfl) hini hn hf hdg he hl0 (by rw [hw]; exact kk)
theorem g_X8_274 {a : Nat} {fs : List Value} {v : Value} (hy : y.cls = RX8) (hdg : decode cc pc = .ok (.getfield 274, 3)) (he : w[a]? = some (.inr (2, fs))) (hv : fs[3]? = some v) (kk : R G l y cc nL ret d mc ms Q (pc + 3) lv (v :: st) w k n) : R G l y cc nL ret d mc ms Q pc lv (.ref a :: st) w k n := R_get (C := RX2) (ref := RX2) (T := TX2) (N := 4) (ci := 2) (j := 3) rfl inX2 (by decide) (by rw [hy]; exact w_244) rfl hdg he hv kk
theorem g_X6_9 {a : Nat} {fs : List Value} {v : Value} (hy : y.cls = RX6) (hdg : decode cc pc = .ok (.getfield 9, 3)) (he : w[a]? = some (.inr (6, fs))) (hv : fs[0]? = some v) (kk : R G l y cc nL ret d mc ms Q (pc + 3) lv (v :: st) w k n) : R G l y cc nL ret d mc ms Q pc lv (.ref a :: st) w k n := R_get (C := RX6) (ref := RX6) (T := TX6) (N := 5) (ci := 6) (j := 0) rfl inX6 (by decide) (by rw [hy]; exact w_260) rfl hdg he hv kk
theorem p_X6_9 {a : Nat} {fs : List Value} {v : Value} {w2 : VW} (hy : y.cls = RX6) (hini : y.name = "<init>") (hdg : decode cc pc = .ok (.putfield 9, 3)) (he : w[a]? = some (.inr (6, fs))) (hl0 : 0 < fs.length) (hn : narrow (tyX6 0) v = v) (hf : fits (tyX6 0) v = true) (hw : w.set a (.inr (6, fs.set 0 v)) = w2) (kk : R G l y cc nL ret d mc ms Q (pc + 3) lv st w2 k n) : R G l y cc nL ret d mc ms Q pc lv (v :: .ref a :: st) w k n := R_putF (C := RX6) (ref := RX6) (T := TX6) (ty0 := tyX6) (N := 5) (ci := 6) (j := 0) rfl inX6 tyX6_ok nmX6 (by decide) (by rw [hy]; exact w_260) rfl rfl (by rw [hy]; rfl) hini hn hf hdg he hl0 (by rw [hw]; exact kk)
theorem g_X8_292 {a : Nat} {fs : List Value} {v : Value} (hy : y.cls = RX8) (hdg : decode cc pc = .ok (.getfield 292, 3)) (he : w[a]? = some (.inr (6, fs))) (hv : fs[0]? = some v) (kk : R G l y cc nL ret d mc ms Q (pc + 3) lv (v :: st) w k n) : R G l y cc nL ret d mc ms Q pc lv (.ref a :: st) w k n := R_get (C := RX6) (ref := RX6) (T := TX6) (N := 5) (ci := 6) (j := 0) rfl inX6 (by decide) (by rw [hy]; exact w_261) rfl hdg he hv kk
theorem g_X6_43 {a : Nat} {fs : List Value} {v : Value} (hy : y.cls = RX6) (hdg : decode cc pc = .ok (.getfield 43, 3)) (he : w[a]? = some (.inr (6, fs))) (hv : fs[1]? = some v) (kk : R G l y cc nL ret d mc ms Q (pc + 3) lv (v :: st) w k n) : R G l y cc nL ret d mc ms Q pc lv (.ref a :: st) w k n := R_get (C := RX6) (ref := RX6) (T := TX6) (N := 5) (ci := 6) (j := 1) rfl inX6 (by decide) (by rw [hy]; exact w_262) rfl hdg he hv kk
theorem p_X6_43 {a : Nat} {fs : List Value} {v : Value} {w2 : VW} (hy : y.cls = RX6) (hdg : decode cc pc = .ok (.putfield 43, 3)) (he : w[a]? = some (.inr (6, fs))) (hl0 : 1 < fs.length) (hn : narrow (tyX6 1) v = v) (hf : fits (tyX6 1) v = true) (hw : w.set a (.inr (6, fs.set 1 v)) = w2) (kk : R G l y cc nL ret d mc ms Q (pc + 3) lv st w2 k n) : R G l y cc nL ret d mc ms Q pc lv (v :: .ref a :: st) w k n := R_put (C := RX6) (ref := RX6) (T := TX6) (ty0 := tyX6) (N := 5) (ci := 6) (j := 1) rfl inX6 tyX6_ok nmX6 (by decide) (by rw [hy]; exact w_262) rfl rfl hn hf hdg he hl0 (by rw [hw]; exact kk)
theorem g_X8_291 {a : Nat} {fs : List Value} {v : Value} (hy : y.cls = RX8) (hdg : decode cc pc = .ok (.getfield 291, 3)) (he : w[a]? = some (.inr (6, fs))) (hv : fs[1]? = some v) (kk : R G l y cc nL ret d mc ms Q (pc + 3) lv (v :: st) w k n) : R G l y cc nL ret d mc ms Q pc lv (.ref a :: st) w k n := R_get (C := RX6) (ref := RX6) (T := TX6) (N := 5) (ci := 6) (j := 1) rfl inX6 (by decide) (by rw [hy]; exact w_263) rfl hdg he hv kk
theorem p_X8_291 {a : Nat} {fs : List Value} {v : Value} {w2 : VW} (hy : y.cls = RX8) (hdg : decode cc pc = .ok (.putfield 291, 3)) (he : w[a]? = some (.inr (6, fs))) (hl0 : 1 < fs.length) (hn : narrow (tyX6 1) v = v) (hf : fits (tyX6 1) v = true) (hw : w.set a (.inr (6, fs.set 1 v)) = w2) (kk : R G l y cc nL ret d mc ms Q (pc + 3) lv st w2 k n) : R G l y cc nL ret d mc ms Q pc lv (v :: .ref a :: st) w k n := R_put (C := RX6) (ref := RX6) (T := TX6) (ty0 := tyX6) (N := 5) (ci := 6) (j := 1) rfl inX6 tyX6_ok nmX6 (by decide) (by rw [hy]; exact w_263) rfl rfl hn hf hdg he hl0 (by rw [hw]; exact kk)
theorem g_X6_40 {a : Nat} {fs : List Value} {v : Value} (hy : y.cls = RX6) (hdg : decode cc pc = .ok (.getfield 40, 3)) (he : w[a]? = some (.inr (6, fs))) (hv : fs[2]? = some v) (kk : R G l y cc nL ret d mc ms Q (pc + 3) lv (v :: st) w k n) : R G l y cc nL ret d mc ms Q pc lv (.ref a :: st) w k n := R_get (C := RX6) (ref := RX6) (T := TX6) (N := 5) (ci := 6) (j := 2) rfl inX6 (by decide) (by rw [hy]; exact w_264) rfl hdg he hv kk
theorem p_X6_40 {a : Nat} {fs : List Value} {v : Value} {w2 : VW} (hy : y.cls = RX6) (hdg : decode cc pc = .ok (.putfield 40, 3)) (he : w[a]? = some (.inr (6, fs))) (hl0 : 2 < fs.length) (hn : narrow (tyX6 2) v = v) (hf : fits (tyX6 2) v = true) (hw : w.set a (.inr (6, fs.set 2 v)) = w2) (kk : R G l y cc nL ret d mc ms Q (pc + 3) lv st w2 k n) : R G l y cc nL ret d mc ms Q pc lv (v :: .ref a :: st) w k n := R_put (C := RX6) (ref := RX6) (T := TX6) (ty0 := tyX6) (N := 5) (ci := 6) (j := 2) rfl inX6 tyX6_ok nmX6 (by decide) (by rw [hy]; exact w_264) rfl rfl hn hf hdg he hl0 (by rw [hw]; exact kk)
theorem g_X6_21 {a : Nat} {fs : List Value} {v : Value} (hy : y.cls = RX6) (hdg : decode cc pc = .ok (.getfield 21, 3)) (he : w[a]? = some (.inr (6, fs))) (hv : fs[3]? = some v) (kk : R G l y cc nL ret d mc ms Q (pc + 3) lv (v :: st) w k n) : R G l y cc nL ret d mc ms Q pc lv (.ref a :: st) w k n := R_get (C := RX6) (ref := RX6) (T := TX6) (N := 5) (ci := 6) (j := 3) rfl inX6 (by decide) (by rw [hy]; exact w_265) rfl hdg he hv kk
theorem p_X6_21 {a : Nat} {fs : List Value} {v : Value} {w2 : VW} (hy : y.cls = RX6) (hdg : decode cc pc = .ok (.putfield 21, 3)) (he : w[a]? = some (.inr (6, fs))) (hl0 : 3 < fs.length) (hn : narrow (tyX6 3) v = v) (hf : fits (tyX6 3) v = true) (hw : w.set a (.inr (6, fs.set 3 v)) = w2) (kk : R G l y cc nL ret d mc ms Q (pc + 3) lv st w2 k n) : R G l y cc nL ret d mc ms Q pc lv (v :: .ref a :: st) w k n := R_put (C := RX6) (ref := RX6) (T := TX6) (ty0 := tyX6) (N := 5) (ci := 6) (j := 3) rfl inX6 tyX6_ok nmX6 (by decide) (by rw [hy]; exact w_265) rfl rfl hn hf hdg he hl0 (by rw [hw]; exact kk)
theorem g_X6_24 {a : Nat} {fs : List Value} {v : Value} (hy : y.cls = RX6) (hdg : decode cc pc = .ok (.getfield 24, 3)) (he : w[a]? = some (.inr (6, fs))) (hv : fs[4]? = some v) (kk : R G l y cc nL ret d mc ms Q (pc + 3) lv (v :: st) w k n) : R G l y cc nL ret d mc ms Q pc lv (.ref a :: st) w k n := R_get (C := RX6) (ref := RX6) (T := TX6) (N := 5) (ci := 6) (j := 4) rfl inX6 (by decide) (by rw [hy]; exact w_266) rfl hdg he hv kk
theorem p_X6_24 {a : Nat} {fs : List Value} {v : Value} {w2 : VW} (hy : y.cls = RX6) (hdg : decode cc pc = .ok (.putfield 24, 3)) (he : w[a]? = some (.inr (6, fs))) (hl0 : 4 < fs.length) (hn : narrow (tyX6 4) v = v) (hf : fits (tyX6 4) v = true) (hw : w.set a (.inr (6, fs.set 4 v)) = w2) (kk : R G l y cc nL ret d mc ms Q (pc + 3) lv st w2 k n) : R G l y cc nL ret d mc ms Q pc lv (v :: .ref a :: st) w k n := R_put (C := RX6) (ref := RX6) (T := TX6) (ty0 := tyX6) (N := 5) (ci := 6) (j := 4) rfl inX6 tyX6_ok nmX6 (by decide) (by rw [hy]; exact w_266) rfl rfl hn hf hdg he hl0 (by rw [hw]; exact kk)
theorem g_X4_9 {a : Nat} {fs : List Value} {v : Value} (hy : y.cls = RX4) (hdg : decode cc pc = .ok (.getfield 9, 3)) (he : w[a]? = some (.inr (4, fs))) (hv : fs[0]? = some v) (kk : R G l y cc nL ret d mc ms Q (pc + 3) lv (v :: st) w k n) : R G l y cc nL ret d mc ms Q pc lv (.ref a :: st) w k n := R_get (C := RX4) (ref := RX4) (T := TX4) (N := 7) (ci := 4) (j := 0) rfl inX4 (by decide) (by rw [hy]; exact w_284) rfl hdg he hv kk
theorem p_X4_9 {a : Nat} {fs : List Value} {v : Value} {w2 : VW} (hy : y.cls = RX4) (hini : y.name = "<init>") (hdg : decode cc pc = .ok (.putfield 9, 3)) (he : w[a]? = some (.inr (4, fs))) (hl0 : 0 < fs.length) (hn : narrow (tyX4 0) v = v) (hf : fits (tyX4 0) v = true) (hw : w.set a (.inr (4, fs.set 0 v)) = w2) (kk : R G l y cc nL ret d mc ms Q (pc + 3) lv st w2 k n) : R G l y cc nL ret d mc ms Q pc lv (v :: .ref a :: st) w k n := R_putF (C := RX4) (ref := RX4) (T := TX4) (ty0 := tyX4) (N := 7) (ci := 4) (j := 0) rfl inX4 tyX4_ok nmX4 (by decide) (by rw [hy]; exact w_284) rfl rfl (by rw [hy]; rfl) hini hn hf hdg he hl0 (by rw [hw]; exact kk)
theorem g_X6_65 {a : Nat} {fs : List Value} {v : Value} (hy : y.cls = RX6) (hdg : decode cc pc = .ok (.getfield 65, 3)) (he : w[a]? = some (.inr (4, fs))) (hv : fs[0]? = some v) (kk : R G l y cc nL ret d mc ms Q (pc + 3) lv (v :: st) w k n) : R G l y cc nL ret d mc ms Q pc lv (.ref a :: st) w k n := R_get (C := RX4) (ref := RX4) (T := TX4) (N := 7) (ci := 4) (j := 0) rfl inX4 (by decide) (by rw [hy]; exact w_285) rfl hdg he hv kk
theorem g_X4_15 {a : Nat} {fs : List Value} {v : Value} (hy : y.cls = RX4) (hdg : decode cc pc = .ok (.getfield 15, 3)) (he : w[a]? = some (.inr (4, fs))) (hv : fs[1]? = some v) (kk : R G l y cc nL ret d mc ms Q (pc + 3) lv (v :: st) w k n) : R G l y cc nL ret d mc ms Q pc lv (.ref a :: st) w k n := R_get (C := RX4) (ref := RX4) (T := TX4) (N := 7) (ci := 4) (j := 1) rfl inX4 (by decide) (by rw [hy]; exact w_286) rfl hdg he hv kk
theorem p_X4_15 {a : Nat} {fs : List Value} {v : Value} {w2 : VW} (hy : y.cls = RX4) (hini : y.name = "<init>") (hdg : decode cc pc = .ok (.putfield 15, 3)) (he : w[a]? = some (.inr (4, fs))) (hl0 : 1 < fs.length) (hn : narrow (tyX4 1) v = v) (hf : fits (tyX4 1) v = true) (hw : w.set a (.inr (4, fs.set 1 v)) = w2) (kk : R G l y cc nL ret d mc ms Q (pc + 3) lv st w2 k n) : R G l y cc nL ret d mc ms Q pc lv (v :: .ref a :: st) w k n := R_putF (C := RX4) (ref := RX4) (T := TX4) (ty0 := tyX4) (N := 7) (ci := 4) (j := 1) rfl inX4 tyX4_ok nmX4 (by decide) (by rw [hy]; exact w_286) rfl rfl (by rw [hy]; rfl) hini hn hf hdg he hl0 (by rw [hw]; exact kk)
theorem g_X6_68 {a : Nat} {fs : List Value} {v : Value} (hy : y.cls = RX6) (hdg : decode cc pc = .ok (.getfield 68, 3)) (he : w[a]? = some (.inr (4, fs))) (hv : fs[1]? = some v) (kk : R G l y cc nL ret d mc ms Q (pc + 3) lv (v :: st) w k n) : R G l y cc nL ret d mc ms Q pc lv (.ref a :: st) w k n := R_get (C := RX4) (ref := RX4) (T := TX4) (N := 7) (ci := 4) (j := 1) rfl inX4 (by decide) (by rw [hy]; exact w_287) rfl hdg he hv kk
theorem g_X4_18 {a : Nat} {fs : List Value} {v : Value} (hy : y.cls = RX4) (hdg : decode cc pc = .ok (.getfield 18, 3)) (he : w[a]? = some (.inr (4, fs))) (hv : fs[2]? = some v) (kk : R G l y cc nL ret d mc ms Q (pc + 3) lv (v :: st) w k n) : R G l y cc nL ret d mc ms Q pc lv (.ref a :: st) w k n := R_get (C := RX4) (ref := RX4) (T := TX4) (N := 7) (ci := 4) (j := 2) rfl inX4 (by decide) (by rw [hy]; exact w_288) rfl hdg he hv kk
theorem p_X4_18 {a : Nat} {fs : List Value} {v : Value} {w2 : VW} (hy : y.cls = RX4) (hini : y.name = "<init>") (hdg : decode cc pc = .ok (.putfield 18, 3)) (he : w[a]? = some (.inr (4, fs))) (hl0 : 2 < fs.length) (hn : narrow (tyX4 2) v = v) (hf : fits (tyX4 2) v = true) (hw : w.set a (.inr (4, fs.set 2 v)) = w2) (kk : R G l y cc nL ret d mc ms Q (pc + 3) lv st w2 k n) : R G l y cc nL ret d mc ms Q pc lv (v :: .ref a :: st) w k n := R_putF (C := RX4) (ref := RX4) (T := TX4) (ty0 := tyX4) (N := 7) (ci := 4) (j := 2) rfl inX4 tyX4_ok nmX4 (by decide) (by rw [hy]; exact w_288) rfl rfl (by rw [hy]; rfl) hini hn hf hdg he hl0 (by rw [hw]; exact kk)
theorem g_X6_71 {a : Nat} {fs : List Value} {v : Value} (hy : y.cls = RX6) (hdg : decode cc pc = .ok (.getfield 71, 3)) (he : w[a]? = some (.inr (4, fs))) (hv : fs[2]? = some v) (kk : R G l y cc nL ret d mc ms Q (pc + 3) lv (v :: st) w k n) : R G l y cc nL ret d mc ms Q pc lv (.ref a :: st) w k n := R_get (C := RX4) (ref := RX4) (T := TX4) (N := 7) (ci := 4) (j := 2) rfl inX4 (by decide) (by rw [hy]; exact w_289) rfl hdg he hv kk
theorem g_X4_21 {a : Nat} {fs : List Value} {v : Value} (hy : y.cls = RX4) (hdg : decode cc pc = .ok (.getfield 21, 3)) (he : w[a]? = some (.inr (4, fs))) (hv : fs[3]? = some v) (kk : R G l y cc nL ret d mc ms Q (pc + 3) lv (v :: st) w k n) : R G l y cc nL ret d mc ms Q pc lv (.ref a :: st) w k n := R_get (C := RX4) (ref := RX4) (T := TX4) (N := 7) (ci := 4) (j := 3) rfl inX4 (by decide) (by rw [hy]; exact w_290) rfl hdg he hv kk
theorem p_X4_21 {a : Nat} {fs : List Value} {v : Value} {w2 : VW} (hy : y.cls = RX4) (hini : y.name = "<init>") (hdg : decode cc pc = .ok (.putfield 21, 3)) (he : w[a]? = some (.inr (4, fs))) (hl0 : 3 < fs.length) (hn : narrow (tyX4 3) v = v) (hf : fits (tyX4 3) v = true) (hw : w.set a (.inr (4, fs.set 3 v)) = w2) (kk : R G l y cc nL ret d mc ms Q (pc + 3) lv st w2 k n) : R G l y cc nL ret d mc ms Q pc lv (v :: .ref a :: st) w k n := R_putF (C := RX4) (ref := RX4) (T := TX4) (ty0 := tyX4) (N := 7) (ci := 4) (j := 3) rfl inX4 tyX4_ok nmX4 (by decide) (by rw [hy]; exact w_290) rfl rfl (by rw [hy]; rfl) hini hn hf hdg he hl0 (by rw [hw]; exact kk)
theorem g_X6_74 {a : Nat} {fs : List Value} {v : Value} (hy : y.cls = RX6) (hdg : decode cc pc = .ok (.getfield 74, 3)) (he : w[a]? = some (.inr (4, fs))) (hv : fs[3]? = some v) (kk : R G l y cc nL ret d mc ms Q (pc + 3) lv (v :: st) w k n) : R G l y cc nL ret d mc ms Q pc lv (.ref a :: st) w k n := R_get (C := RX4) (ref := RX4) (T := TX4) (N := 7) (ci := 4) (j := 3) rfl inX4 (by decide) (by rw [hy]; exact w_291) rfl hdg he hv kk
theorem g_X1_103 {a : Nat} {fs : List Value} {v : Value} (hy : y.cls = RX1) (hdg : decode cc pc = .ok (.getfield 103, 3)) (he : w[a]? = some (.inr (4, fs))) (hv : fs[3]? = some v) (kk : R G l y cc nL ret d mc ms Q (pc + 3) lv (v :: st) w k n) : R G l y cc nL ret d mc ms Q pc lv (.ref a :: st) w k n := R_get (C := RX4) (ref := RX4) (T := TX4) (N := 7) (ci := 4) (j := 3) rfl inX4 (by decide) (by rw [hy]; exact w_292) rfl hdg he hv kk
theorem g_X8_300 {a : Nat} {fs : List Value} {v : Value} (hy : y.cls = RX8) (hdg : decode cc pc = .ok (.getfield 300, 3)) (he : w[a]? = some (.inr (4, fs))) (hv : fs[3]? = some v) (kk : R G l y cc nL ret d mc ms Q (pc + 3) lv (v :: st) w k n) : R G l y cc nL ret d mc ms Q pc lv (.ref a :: st) w k n := R_get (C := RX4) (ref := RX4) (T := TX4) (N := 7) (ci := 4) (j := 3) rfl inX4 (by decide) (by rw [hy]; exact w_293) rfl hdg he hv kk
theorem g_X4_25 {a : Nat} {fs : List Value} {v : Value} (hy : y.cls = RX4) (hdg : decode cc pc = .ok (.getfield 25, 3)) (he : w[a]? = some (.inr (4, fs))) (hv : fs[4]? = some v) (kk : R G l y cc nL ret d mc ms Q (pc + 3) lv (v :: st) w k n) : R G l y cc nL ret d mc ms Q pc lv (.ref a :: st) w k n := R_get (C := RX4) (ref := RX4) (T := TX4) (N := 7) (ci := 4) (j := 4) rfl inX4 (by decide) (by rw [hy]; exact w_294) rfl hdg he hv kk
theorem p_X4_25 {a : Nat} {fs : List Value} {v : Value} {w2 : VW} (hy : y.cls = RX4) (hini : y.name = "<init>") (hdg : decode cc pc = .ok (.putfield 25, 3)) (he : w[a]? = some (.inr (4, fs))) (hl0 : 4 < fs.length) (hn : narrow (tyX4 4) v = v) (hf : fits (tyX4 4) v = true) (hw : w.set a (.inr (4, fs.set 4 v)) = w2) (kk : R G l y cc nL ret d mc ms Q (pc + 3) lv st w2 k n) : R G l y cc nL ret d mc ms Q pc lv (v :: .ref a :: st) w k n := R_putF (C := RX4) (ref := RX4) (T := TX4) (ty0 := tyX4) (N := 7) (ci := 4) (j := 4) rfl inX4 tyX4_ok nmX4 (by decide) (by rw [hy]; exact w_294) rfl rfl (by rw [hy]; rfl) hini hn hf hdg he hl0 (by rw [hw]; exact kk)
theorem g_X6_78 {a : Nat} {fs : List Value} {v : Value} (hy : y.cls = RX6) (hdg : decode cc pc = .ok (.getfield 78, 3)) (he : w[a]? = some (.inr (4, fs))) (hv : fs[4]? = some v) (kk : R G l y cc nL ret d mc ms Q (pc + 3) lv (v :: st) w k n) : R G l y cc nL ret d mc ms Q pc lv (.ref a :: st) w k n := R_get (C := RX4) (ref := RX4) (T := TX4) (N := 7) (ci := 4) (j := 4) rfl inX4 (by decide) (by rw [hy]; exact w_295) rfl hdg he hv kk
theorem g_X1_117 {a : Nat} {fs : List Value} {v : Value} (hy : y.cls = RX1) (hdg : decode cc pc = .ok (.getfield 117, 3)) (he : w[a]? = some (.inr (4, fs))) (hv : fs[4]? = some v) (kk : R G l y cc nL ret d mc ms Q (pc + 3) lv (v :: st) w k n) : R G l y cc nL ret d mc ms Q pc lv (.ref a :: st) w k n := R_get (C := RX4) (ref := RX4) (T := TX4) (N := 7) (ci := 4) (j := 4) rfl inX4 (by decide) (by rw [hy]; exact w_296) rfl hdg he hv kk
theorem g_X8_307 {a : Nat} {fs : List Value} {v : Value} (hy : y.cls = RX8) (hdg : decode cc pc = .ok (.getfield 307, 3)) (he : w[a]? = some (.inr (4, fs))) (hv : fs[4]? = some v) (kk : R G l y cc nL ret d mc ms Q (pc + 3) lv (v :: st) w k n) : R G l y cc nL ret d mc ms Q pc lv (.ref a :: st) w k n := R_get (C := RX4) (ref := RX4) (T := TX4) (N := 7) (ci := 4) (j := 4) rfl inX4 (by decide) (by rw [hy]; exact w_297) rfl hdg he hv kk
theorem g_X4_28 {a : Nat} {fs : List Value} {v : Value} (hy : y.cls = RX4) (hdg : decode cc pc = .ok (.getfield 28, 3)) (he : w[a]? = some (.inr (4, fs))) (hv : fs[5]? = some v) (kk : R G l y cc nL ret d mc ms Q (pc + 3) lv (v :: st) w k n) : R G l y cc nL ret d mc ms Q pc lv (.ref a :: st) w k n := R_get (C := RX4) (ref := RX4) (T := TX4) (N := 7) (ci := 4) (j := 5) rfl inX4 (by decide) (by rw [hy]; exact w_298) rfl hdg he hv kk
theorem p_X4_28 {a : Nat} {fs : List Value} {v : Value} {w2 : VW} (hy : y.cls = RX4) (hini : y.name = "<init>") (hdg : decode cc pc = .ok (.putfield 28, 3)) (he : w[a]? = some (.inr (4, fs))) (hl0 : 5 < fs.length) (hn : narrow (tyX4 5) v = v) (hf : fits (tyX4 5) v = true) (hw : w.set a (.inr (4, fs.set 5 v)) = w2) (kk : R G l y cc nL ret d mc ms Q (pc + 3) lv st w2 k n) : R G l y cc nL ret d mc ms Q pc lv (v :: .ref a :: st) w k n := R_putF (C := RX4) (ref := RX4) (T := TX4) (ty0 := tyX4) (N := 7) (ci := 4) (j := 5) rfl inX4 tyX4_ok nmX4 (by decide) (by rw [hy]; exact w_298) rfl rfl (by rw [hy]; rfl) hini hn hf hdg he hl0 (by rw [hw]; exact kk)
theorem g_X6_81 {a : Nat} {fs : List Value} {v : Value} (hy : y.cls = RX6) (hdg : decode cc pc = .ok (.getfield 81, 3)) (he : w[a]? = some (.inr (4, fs))) (hv : fs[5]? = some v) (kk : R G l y cc nL ret d mc ms Q (pc + 3) lv (v :: st) w k n) : R G l y cc nL ret d mc ms Q pc lv (.ref a :: st) w k n := R_get (C := RX4) (ref := RX4) (T := TX4) (N := 7) (ci := 4) (j := 5) rfl inX4 (by decide) (by rw [hy]; exact w_299) rfl hdg he hv kk
theorem g_X1_123 {a : Nat} {fs : List Value} {v : Value} (hy : y.cls = RX1) (hdg : decode cc pc = .ok (.getfield 123, 3)) (he : w[a]? = some (.inr (4, fs))) (hv : fs[5]? = some v) (kk : R G l y cc nL ret d mc ms Q (pc + 3) lv (v :: st) w k n) : R G l y cc nL ret d mc ms Q pc lv (.ref a :: st) w k n := R_get (C := RX4) (ref := RX4) (T := TX4) (N := 7) (ci := 4) (j := 5) rfl inX4 (by decide) (by rw [hy]; exact w_300) rfl hdg he hv kk
theorem g_X8_310 {a : Nat} {fs : List Value} {v : Value} (hy : y.cls = RX8) (hdg : decode cc pc = .ok (.getfield 310, 3)) (he : w[a]? = some (.inr (4, fs))) (hv : fs[5]? = some v) (kk : R G l y cc nL ret d mc ms Q (pc + 3) lv (v :: st) w k n) : R G l y cc nL ret d mc ms Q pc lv (.ref a :: st) w k n := R_get (C := RX4) (ref := RX4) (T := TX4) (N := 7) (ci := 4) (j := 5) rfl inX4 (by decide) (by rw [hy]; exact w_301) rfl hdg he hv kk
theorem g_X6_15 {a : Nat} {fs : List Value} {v : Value} (hy : y.cls = RX6) (hdg : decode cc pc = .ok (.getfield 15, 3)) (he : w[a]? = some (.inr (4, fs))) (hv : fs[6]? = some v) (kk : R G l y cc nL ret d mc ms Q (pc + 3) lv (v :: st) w k n) : R G l y cc nL ret d mc ms Q pc lv (.ref a :: st) w k n := R_get (C := RX4) (ref := RX4) (T := TX4) (N := 7) (ci := 4) (j := 6) rfl inX4 (by decide) (by rw [hy]; exact w_302) rfl hdg he hv kk
theorem p_X6_15 {a : Nat} {fs : List Value} {v : Value} {w2 : VW} (hy : y.cls = RX6) (hdg : decode cc pc = .ok (.putfield 15, 3)) (he : w[a]? = some (.inr (4, fs))) (hl0 : 6 < fs.length) (hn : narrow (tyX4 6) v = v) (hf : fits (tyX4 6) v = true) (hw : w.set a (.inr (4, fs.set 6 v)) = w2) (kk : R G l y cc nL ret d mc ms Q (pc + 3) lv st w2 k n) : R G l y cc nL ret d mc ms Q pc lv (v :: .ref a :: st) w k n := R_put (C := RX4) (ref := RX4) (T := TX4) (ty0 := tyX4) (N := 7) (ci := 4) (j := 6) rfl inX4 tyX4_ok nmX4 (by decide) (by rw [hy]; exact w_302) rfl rfl hn hf hdg he hl0 (by rw [hw]; exact kk)
theorem g_X1_97 {a : Nat} {fs : List Value} {v : Value} (hy : y.cls = RX1) (hdg : decode cc pc = .ok (.getfield 97, 3)) (he : w[a]? = some (.inr (4, fs))) (hv : fs[6]? = some v) (kk : R G l y cc nL ret d mc ms Q (pc + 3) lv (v :: st) w k n) : R G l y cc nL ret d mc ms Q pc lv (.ref a :: st) w k n := R_get (C := RX4) (ref := RX4) (T := TX4) (N := 7) (ci := 4) (j := 6) rfl inX4 (by decide) (by rw [hy]; exact w_303) rfl hdg he hv kk
theorem p_X1_97 {a : Nat} {fs : List Value} {v : Value} {w2 : VW} (hy : y.cls = RX1) (hdg : decode cc pc = .ok (.putfield 97, 3)) (he : w[a]? = some (.inr (4, fs))) (hl0 : 6 < fs.length) (hn : narrow (tyX4 6) v = v) (hf : fits (tyX4 6) v = true) (hw : w.set a (.inr (4, fs.set 6 v)) = w2) (kk : R G l y cc nL ret d mc ms Q (pc + 3) lv st w2 k n) : R G l y cc nL ret d mc ms Q pc lv (v :: .ref a :: st) w k n := R_put (C := RX4) (ref := RX4) (T := TX4) (ty0 := tyX4) (N := 7) (ci := 4) (j := 6) rfl inX4 tyX4_ok nmX4 (by decide) (by rw [hy]; exact w_303) rfl rfl hn hf hdg he hl0 (by rw [hw]; exact kk)
theorem g_X8_299 {a : Nat} {fs : List Value} {v : Value} (hy : y.cls = RX8) (hdg : decode cc pc = .ok (.getfield 299, 3)) (he : w[a]? = some (.inr (4, fs))) (hv : fs[6]? = some v) (kk : R G l y cc nL ret d mc ms Q (pc + 3) lv (v :: st) w k n) : R G l y cc nL ret d mc ms Q pc lv (.ref a :: st) w k n := R_get (C := RX4) (ref := RX4) (T := TX4) (N := 7) (ci := 4) (j := 6) rfl inX4 (by decide) (by rw [hy]; exact w_304) rfl hdg he hv kk
theorem p_X8_299 {a : Nat} {fs : List Value} {v : Value} {w2 : VW} (hy : y.cls = RX8) (hdg : decode cc pc = .ok (.putfield 299, 3)) (he : w[a]? = some (.inr (4, fs))) (hl0 : 6 < fs.length) (hn : narrow (tyX4 6) v = v) (hf : fits (tyX4 6) v = true) (hw : w.set a (.inr (4, fs.set 6 v)) = w2) (kk : R G l y cc nL ret d mc ms Q (pc + 3) lv st w2 k n) : R G l y cc nL ret d mc ms Q pc lv (v :: .ref a :: st) w k n := R_put (C := RX4) (ref := RX4) (T := TX4) (ty0 := tyX4) (N := 7) (ci := 4) (j := 6) rfl inX4 tyX4_ok nmX4 (by decide) (by rw [hy]; exact w_304) rfl rfl hn hf hdg he hl0 (by rw [hw]; exact kk)
theorem g_X8_10 {a : Nat} {fs : List Value} {v : Value} (hy : y.cls = RX8) (hdg : decode cc pc = .ok (.getfield 10, 3)) (he : w[a]? = some (.inr (8, fs))) (hv : fs[0]? = some v) (kk : R G l y cc nL ret d mc ms Q (pc + 3) lv (v :: st) w k n) : R G l y cc nL ret d mc ms Q pc lv (.ref a :: st) w k n := R_get (C := RX8) (ref := RX8) (T := TX8) (N := 10) (ci := 8) (j := 0) rfl inX8 (by decide) (by rw [hy]; exact w_320) rfl hdg he hv kk
theorem p_X8_10 {a : Nat} {fs : List Value} {v : Value} {w2 : VW} (hy : y.cls = RX8) (hini : y.name = "<init>") (hdg : decode cc pc = .ok (.putfield 10, 3)) (he : w[a]? = some (.inr (8, fs))) (hl0 : 0 < fs.length) (hn : narrow (tyX8 0) v = v) (hf : fits (tyX8 0) v = true) (hw : w.set a (.inr (8, fs.set 0 v)) = w2) (kk : R G l y cc nL ret d mc ms Q (pc + 3) lv st w2 k n) : R G l y cc nL ret d mc ms Q pc lv (v :: .ref a :: st) w k n := R_putF (C := RX8) (ref := RX8) (T := TX8) (ty0 := tyX8) (N := 10) (ci := 8) (j := 0) rfl inX8 tyX8_ok nmX8 (by decide) (by rw [hy]; exact w_320) rfl rfl (by rw [hy]; rfl) hini hn hf hdg he hl0 (by rw [hw]; exact kk)
theorem g_X8_21 {a : Nat} {fs : List Value} {v : Value} (hy : y.cls = RX8) (hdg : decode cc pc = .ok (.getfield 21, 3)) (he : w[a]? = some (.inr (8, fs))) (hv : fs[1]? = some v) (kk : R G l y cc nL ret d mc ms Q (pc + 3) lv (v :: st) w k n) : R G l y cc nL ret d mc ms Q pc lv (.ref a :: st) w k n := R_get (C := RX8) (ref := RX8) (T := TX8) (N := 10) (ci := 8) (j := 1) rfl inX8 (by decide) (by rw [hy]; exact w_321) rfl hdg he hv kk
theorem p_X8_21 {a : Nat} {fs : List Value} {v : Value} {w2 : VW} (hy : y.cls = RX8) (hini : y.name = "<init>") (hdg : decode cc pc = .ok (.putfield 21, 3)) (he : w[a]? = some (.inr (8, fs))) (hl0 : 1 < fs.length) (hn : narrow (tyX8 1) v = v) (hf : fits (tyX8 1) v = true) (hw : w.set a (.inr (8, fs.set 1 v)) = w2) (kk : R G l y cc nL ret d mc ms Q (pc + 3) lv st w2 k n) : R G l y cc nL ret d mc ms Q pc lv (v :: .ref a :: st) w k n := R_putF (C := RX8) (ref := RX8) (T := TX8) (ty0 := tyX8) (N := 10) (ci := 8) (j := 1) rfl inX8 tyX8_ok nmX8 (by decide) (by rw [hy]; exact w_321) rfl rfl (by rw [hy]; rfl) hini hn hf hdg he hl0 (by rw [hw]; exact kk)
theorem g_X8_28 {a : Nat} {fs : List Value} {v : Value} (hy : y.cls = RX8) (hdg : decode cc pc = .ok (.getfield 28, 3)) (he : w[a]? = some (.inr (8, fs))) (hv : fs[2]? = some v) (kk : R G l y cc nL ret d mc ms Q (pc + 3) lv (v :: st) w k n) : R G l y cc nL ret d mc ms Q pc lv (.ref a :: st) w k n := R_get (C := RX8) (ref := RX8) (T := TX8) (N := 10) (ci := 8) (j := 2) rfl inX8 (by decide) (by rw [hy]; exact w_322) rfl hdg he hv kk
theorem p_X8_28 {a : Nat} {fs : List Value} {v : Value} {w2 : VW} (hy : y.cls = RX8) (hini : y.name = "<init>") (hdg : decode cc pc = .ok (.putfield 28, 3)) (he : w[a]? = some (.inr (8, fs))) (hl0 : 2 < fs.length) (hn : narrow (tyX8 2) v = v) (hf : fits (tyX8 2) v = true) (hw : w.set a (.inr (8, fs.set 2 v)) = w2) (kk : R G l y cc nL ret d mc ms Q (pc + 3) lv st w2 k n) : R G l y cc nL ret d mc ms Q pc lv (v :: .ref a :: st) w k n := R_putF (C := RX8) (ref := RX8) (T := TX8) (ty0 := tyX8) (N := 10) (ci := 8) (j := 2) rfl inX8 tyX8_ok nmX8 (by decide) (by rw [hy]; exact w_322) rfl rfl (by rw [hy]; rfl) hini hn hf hdg he hl0 (by rw [hw]; exact kk)
theorem g_X8_37 {a : Nat} {fs : List Value} {v : Value} (hy : y.cls = RX8) (hdg : decode cc pc = .ok (.getfield 37, 3)) (he : w[a]? = some (.inr (8, fs))) (hv : fs[3]? = some v) (kk : R G l y cc nL ret d mc ms Q (pc + 3) lv (v :: st) w k n) : R G l y cc nL ret d mc ms Q pc lv (.ref a :: st) w k n := R_get (C := RX8) (ref := RX8) (T := TX8) (N := 10) (ci := 8) (j := 3) rfl inX8 (by decide) (by rw [hy]; exact w_323) rfl hdg he hv kk
theorem p_X8_37 {a : Nat} {fs : List Value} {v : Value} {w2 : VW} (hy : y.cls = RX8) (hini : y.name = "<init>") (hdg : decode cc pc = .ok (.putfield 37, 3)) (he : w[a]? = some (.inr (8, fs))) (hl0 : 3 < fs.length) (hn : narrow (tyX8 3) v = v) (hf : fits (tyX8 3) v = true) (hw : w.set a (.inr (8, fs.set 3 v)) = w2) (kk : R G l y cc nL ret d mc ms Q (pc + 3) lv st w2 k n) : R G l y cc nL ret d mc ms Q pc lv (v :: .ref a :: st) w k n := R_putF (C := RX8) (ref := RX8) (T := TX8) (ty0 := tyX8) (N := 10) (ci := 8) (j := 3) rfl inX8 tyX8_ok nmX8 (by decide) (by rw [hy]; exact w_323) rfl rfl (by rw [hy]; rfl) hini hn hf hdg he hl0 (by rw [hw]; exact kk)
theorem g_X8_44 {a : Nat} {fs : List Value} {v : Value} (hy : y.cls = RX8) (hdg : decode cc pc = .ok (.getfield 44, 3)) (he : w[a]? = some (.inr (8, fs))) (hv : fs[4]? = some v) (kk : R G l y cc nL ret d mc ms Q (pc + 3) lv (v :: st) w k n) : R G l y cc nL ret d mc ms Q pc lv (.ref a :: st) w k n := R_get (C := RX8) (ref := RX8) (T := TX8) (N := 10) (ci := 8) (j := 4) rfl inX8 (by decide) (by rw [hy]; exact w_324) rfl hdg he hv kk
theorem p_X8_44 {a : Nat} {fs : List Value} {v : Value} {w2 : VW} (hy : y.cls = RX8) (hini : y.name = "<init>") (hdg : decode cc pc = .ok (.putfield 44, 3)) (he : w[a]? = some (.inr (8, fs))) (hl0 : 4 < fs.length) (hn : narrow (tyX8 4) v = v) (hf : fits (tyX8 4) v = true) (hw : w.set a (.inr (8, fs.set 4 v)) = w2) (kk : R G l y cc nL ret d mc ms Q (pc + 3) lv st w2 k n) : R G l y cc nL ret d mc ms Q pc lv (v :: .ref a :: st) w k n := R_putF (C := RX8) (ref := RX8) (T := TX8) (ty0 := tyX8) (N := 10) (ci := 8) (j := 4) rfl inX8 tyX8_ok nmX8 (by decide) (by rw [hy]; exact w_324) rfl rfl (by rw [hy]; rfl) hini hn hf hdg he hl0 (by rw [hw]; exact kk)
theorem g_X8_51 {a : Nat} {fs : List Value} {v : Value} (hy : y.cls = RX8) (hdg : decode cc pc = .ok (.getfield 51, 3)) (he : w[a]? = some (.inr (8, fs))) (hv : fs[5]? = some v) (kk : R G l y cc nL ret d mc ms Q (pc + 3) lv (v :: st) w k n) : R G l y cc nL ret d mc ms Q pc lv (.ref a :: st) w k n := R_get (C := RX8) (ref := RX8) (T := TX8) (N := 10) (ci := 8) (j := 5) rfl inX8 (by decide) (by rw [hy]; exact w_325) rfl hdg he hv kk
theorem p_X8_51 {a : Nat} {fs : List Value} {v : Value} {w2 : VW} (hy : y.cls = RX8) (hini : y.name = "<init>") (hdg : decode cc pc = .ok (.putfield 51, 3)) (he : w[a]? = some (.inr (8, fs))) (hl0 : 5 < fs.length) (hn : narrow (tyX8 5) v = v) (hf : fits (tyX8 5) v = true) (hw : w.set a (.inr (8, fs.set 5 v)) = w2) (kk : R G l y cc nL ret d mc ms Q (pc + 3) lv st w2 k n) : R G l y cc nL ret d mc ms Q pc lv (v :: .ref a :: st) w k n := R_putF (C := RX8) (ref := RX8) (T := TX8) (ty0 := tyX8) (N := 10) (ci := 8) (j := 5) rfl inX8 tyX8_ok nmX8 (by decide) (by rw [hy]; exact w_325) rfl rfl (by rw [hy]; rfl) hini hn hf hdg he hl0 (by rw [hw]; exact kk)
theorem g_X8_58 {a : Nat} {fs : List Value} {v : Value} (hy : y.cls = RX8) (hdg : decode cc pc = .ok (.getfield 58, 3)) (he : w[a]? = some (.inr (8, fs))) (hv : fs[6]? = some v) (kk : R G l y cc nL ret d mc ms Q (pc + 3) lv (v :: st) w k n) : R G l y cc nL ret d mc ms Q pc lv (.ref a :: st) w k n := R_get (C := RX8) (ref := RX8) (T := TX8) (N := 10) (ci := 8) (j := 6) rfl inX8 (by decide) (by rw [hy]; exact w_326) rfl hdg he hv kk
theorem p_X8_58 {a : Nat} {fs : List Value} {v : Value} {w2 : VW} (hy : y.cls = RX8) (hini : y.name = "<init>") (hdg : decode cc pc = .ok (.putfield 58, 3)) (he : w[a]? = some (.inr (8, fs))) (hl0 : 6 < fs.length) (hn : narrow (tyX8 6) v = v) (hf : fits (tyX8 6) v = true) (hw : w.set a (.inr (8, fs.set 6 v)) = w2) (kk : R G l y cc nL ret d mc ms Q (pc + 3) lv st w2 k n) : R G l y cc nL ret d mc ms Q pc lv (v :: .ref a :: st) w k n := R_putF (C := RX8) (ref := RX8) (T := TX8) (ty0 := tyX8) (N := 10) (ci := 8) (j := 6) rfl inX8 tyX8_ok nmX8 (by decide) (by rw [hy]; exact w_326) rfl rfl (by rw [hy]; rfl) hini hn hf hdg he hl0 (by rw [hw]; exact kk)
theorem g_X8_62 {a : Nat} {fs : List Value} {v : Value} (hy : y.cls = RX8) (hdg : decode cc pc = .ok (.getfield 62, 3)) (he : w[a]? = some (.inr (8, fs))) (hv : fs[7]? = some v) (kk : R G l y cc nL ret d mc ms Q (pc + 3) lv (v :: st) w k n) : R G l y cc nL ret d mc ms Q pc lv (.ref a :: st) w k n := R_get (C := RX8) (ref := RX8) (T := TX8) (N := 10) (ci := 8) (j := 7) rfl inX8 (by decide) (by rw [hy]; exact w_327) rfl hdg he hv kk
theorem p_X8_62 {a : Nat} {fs : List Value} {v : Value} {w2 : VW} (hy : y.cls = RX8) (hdg : decode cc pc = .ok (.putfield 62, 3)) (he : w[a]? = some (.inr (8, fs))) (hl0 : 7 < fs.length) (hn : narrow (tyX8 7) v = v) (hf : fits (tyX8 7) v = true) (hw : w.set a (.inr (8, fs.set 7 v)) = w2) (kk : R G l y cc nL ret d mc ms Q (pc + 3) lv st w2 k n) : R G l y cc nL ret d mc ms Q pc lv (v :: .ref a :: st) w k n := R_put (C := RX8) (ref := RX8) (T := TX8) (ty0 := tyX8) (N := 10) (ci := 8) (j := 7) rfl inX8 tyX8_ok nmX8 (by decide) (by rw [hy]; exact w_327) rfl rfl hn hf hdg he hl0 (by rw [hw]; exact kk)
theorem g_X8_65 {a : Nat} {fs : List Value} {v : Value} (hy : y.cls = RX8) (hdg : decode cc pc = .ok (.getfield 65, 3)) (he : w[a]? = some (.inr (8, fs))) (hv : fs[8]? = some v) (kk : R G l y cc nL ret d mc ms Q (pc + 3) lv (v :: st) w k n) : R G l y cc nL ret d mc ms Q pc lv (.ref a :: st) w k n := R_get (C := RX8) (ref := RX8) (T := TX8) (N := 10) (ci := 8) (j := 8) rfl inX8 (by decide) (by rw [hy]; exact w_328) rfl hdg he hv kk
theorem p_X8_65 {a : Nat} {fs : List Value} {v : Value} {w2 : VW} (hy : y.cls = RX8) (hdg : decode cc pc = .ok (.putfield 65, 3)) (he : w[a]? = some (.inr (8, fs))) (hl0 : 8 < fs.length) (hn : narrow (tyX8 8) v = v) (hf : fits (tyX8 8) v = true) (hw : w.set a (.inr (8, fs.set 8 v)) = w2) (kk : R G l y cc nL ret d mc ms Q (pc + 3) lv st w2 k n) : R G l y cc nL ret d mc ms Q pc lv (v :: .ref a :: st) w k n := R_put (C := RX8) (ref := RX8) (T := TX8) (ty0 := tyX8) (N := 10) (ci := 8) (j := 8) rfl inX8 tyX8_ok nmX8 (by decide) (by rw [hy]; exact w_328) rfl rfl hn hf hdg he hl0 (by rw [hw]; exact kk)
theorem g_X8_68 {a : Nat} {fs : List Value} {v : Value} (hy : y.cls = RX8) (hdg : decode cc pc = .ok (.getfield 68, 3)) (he : w[a]? = some (.inr (8, fs))) (hv : fs[9]? = some v) (kk : R G l y cc nL ret d mc ms Q (pc + 3) lv (v :: st) w k n) : R G l y cc nL ret d mc ms Q pc lv (.ref a :: st) w k n := R_get (C := RX8) (ref := RX8) (T := TX8) (N := 10) (ci := 8) (j := 9) rfl inX8 (by decide) (by rw [hy]; exact w_329) rfl hdg he hv kk
theorem p_X8_68 {a : Nat} {fs : List Value} {v : Value} {w2 : VW} (hy : y.cls = RX8) (hdg : decode cc pc = .ok (.putfield 68, 3)) (he : w[a]? = some (.inr (8, fs))) (hl0 : 9 < fs.length) (hn : narrow (tyX8 9) v = v) (hf : fits (tyX8 9) v = true) (hw : w.set a (.inr (8, fs.set 9 v)) = w2) (kk : R G l y cc nL ret d mc ms Q (pc + 3) lv st w2 k n) : R G l y cc nL ret d mc ms Q pc lv (v :: .ref a :: st) w k n := R_put (C := RX8) (ref := RX8) (T := TX8) (ty0 := tyX8) (N := 10) (ci := 8) (j := 9) rfl inX8 tyX8_ok nmX8 (by decide) (by rw [hy]; exact w_329) rfl rfl hn hf hdg he hl0 (by rw [hw]; exact kk)
theorem g_X9_117 {a : Nat} {fs : List Value} {v : Value} (hy : y.cls = RX9) (hdg : decode cc pc = .ok (.getfield 117, 3)) (he : w[a]? = some (.inr (9, fs))) (hv : fs[0]? = some v) (kk : R G l y cc nL ret d mc ms Q (pc + 3) lv (v :: st) w k n) : R G l y cc nL ret d mc ms Q pc lv (.ref a :: st) w k n := R_get (C := RX9) (ref := RX9) (T := TX9) (N := 49) (ci := 9) (j := 0) rfl inX9 (by decide) (by rw [hy]; exact w_834) rfl hdg he hv kk
theorem p_X9_117 {a : Nat} {fs : List Value} {v : Value} {w2 : VW} (hy : y.cls = RX9) (hdg : decode cc pc = .ok (.putfield 117, 3)) (he : w[a]? = some (.inr (9, fs))) (hl0 : 0 < fs.length) (hn : narrow (tyX9 0) v = v) (hf : fits (tyX9 0) v = true) (hw : w.set a (.inr (9, fs.set 0 v)) = w2) (kk : R G l y cc nL ret d mc ms Q (pc + 3) lv st w2 k n) : R G l y cc nL ret d mc ms Q pc lv (v :: .ref a :: st) w k n := R_put (C := RX9) (ref := RX9) (T := TX9) (ty0 := tyX9) (N := 49) (ci := 9) (j := 0) rfl inX9 tyX9_ok nmX9 (by decide) (by rw [hy]; exact w_834) rfl rfl hn hf hdg he hl0 (by rw [hw]; exact kk)
theorem g_X9_7 {a : Nat} {fs : List Value} {v : Value} (hy : y.cls = RX9) (hdg : decode cc pc = .ok (.getfield 7, 3)) (he : w[a]? = some (.inr (9, fs))) (hv : fs[1]? = some v) (kk : R G l y cc nL ret d mc ms Q (pc + 3) lv (v :: st) w k n) : R G l y cc nL ret d mc ms Q pc lv (.ref a :: st) w k n := R_get (C := RX9) (ref := RX9) (T := TX9) (N := 49) (ci := 9) (j := 1) rfl inX9 (by decide) (by rw [hy]; exact w_835) rfl hdg he hv kk
theorem p_X9_7 {a : Nat} {fs : List Value} {v : Value} {w2 : VW} (hy : y.cls = RX9) (hini : y.name = "<init>") (hdg : decode cc pc = .ok (.putfield 7, 3)) (he : w[a]? = some (.inr (9, fs))) (hl0 : 1 < fs.length) (hn : narrow (tyX9 1) v = v) (hf : fits (tyX9 1) v = true) (hw : w.set a (.inr (9, fs.set 1 v)) = w2) (kk : R G l y cc nL ret d mc ms Q (pc + 3) lv st w2 k n) : R G l y cc nL ret d mc ms Q pc lv (v :: .ref a :: st) w k n := R_putF (C := RX9) (ref := RX9) (T := TX9) (ty0 := tyX9) (N := 49) (ci := 9) (j := 1) rfl inX9 tyX9_ok nmX9 (by decide) (by rw [hy]; exact w_835) rfl rfl (by rw [hy]; rfl) hini hn hf hdg he hl0 (by rw [hw]; exact kk)
theorem g_X9_13 {a : Nat} {fs : List Value} {v : Value} (hy : y.cls = RX9) (hdg : decode cc pc = .ok (.getfield 13, 3)) (he : w[a]? = some (.inr (9, fs))) (hv : fs[2]? = some v) (kk : R G l y cc nL ret d mc ms Q (pc + 3) lv (v :: st) w k n) : R G l y cc nL ret d mc ms Q pc lv (.ref a :: st) w k n := R_get (C := RX9) (ref := RX9) (T := TX9) (N := 49) (ci := 9) (j := 2) rfl inX9 (by decide) (by rw [hy]; exact w_836) rfl hdg he hv kk
theorem p_X9_13 {a : Nat} {fs : List Value} {v : Value} {w2 : VW} (hy : y.cls = RX9) (hini : y.name = "<init>") (hdg : decode cc pc = .ok (.putfield 13, 3)) (he : w[a]? = some (.inr (9, fs))) (hl0 : 2 < fs.length) (hn : narrow (tyX9 2) v = v) (hf : fits (tyX9 2) v = true) (hw : w.set a (.inr (9, fs.set 2 v)) = w2) (kk : R G l y cc nL ret d mc ms Q (pc + 3) lv st w2 k n) : R G l y cc nL ret d mc ms Q pc lv (v :: .ref a :: st) w k n := R_putF (C := RX9) (ref := RX9) (T := TX9) (ty0 := tyX9) (N := 49) (ci := 9) (j := 2) rfl inX9 tyX9_ok nmX9 (by decide) (by rw [hy]; exact w_836) rfl rfl (by rw [hy]; rfl) hini hn hf hdg he hl0 (by rw [hw]; exact kk)
theorem g_X9_16 {a : Nat} {fs : List Value} {v : Value} (hy : y.cls = RX9) (hdg : decode cc pc = .ok (.getfield 16, 3)) (he : w[a]? = some (.inr (9, fs))) (hv : fs[3]? = some v) (kk : R G l y cc nL ret d mc ms Q (pc + 3) lv (v :: st) w k n) : R G l y cc nL ret d mc ms Q pc lv (.ref a :: st) w k n := R_get (C := RX9) (ref := RX9) (T := TX9) (N := 49) (ci := 9) (j := 3) rfl inX9 (by decide) (by rw [hy]; exact w_837) rfl hdg he hv kk
theorem p_X9_16 {a : Nat} {fs : List Value} {v : Value} {w2 : VW} (hy : y.cls = RX9) (hini : y.name = "<init>") (hdg : decode cc pc = .ok (.putfield 16, 3)) (he : w[a]? = some (.inr (9, fs))) (hl0 : 3 < fs.length) (hn : narrow (tyX9 3) v = v) (hf : fits (tyX9 3) v = true) (hw : w.set a (.inr (9, fs.set 3 v)) = w2) (kk : R G l y cc nL ret d mc ms Q (pc + 3) lv st w2 k n) : R G l y cc nL ret d mc ms Q pc lv (v :: .ref a :: st) w k n := R_putF (C := RX9) (ref := RX9) (T := TX9) (ty0 := tyX9) (N := 49) (ci := 9) (j := 3) rfl inX9 tyX9_ok nmX9 (by decide) (by rw [hy]; exact w_837) rfl rfl (by rw [hy]; rfl) hini hn hf hdg he hl0 (by rw [hw]; exact kk)
theorem g_X9_19 {a : Nat} {fs : List Value} {v : Value} (hy : y.cls = RX9) (hdg : decode cc pc = .ok (.getfield 19, 3)) (he : w[a]? = some (.inr (9, fs))) (hv : fs[4]? = some v) (kk : R G l y cc nL ret d mc ms Q (pc + 3) lv (v :: st) w k n) : R G l y cc nL ret d mc ms Q pc lv (.ref a :: st) w k n := R_get (C := RX9) (ref := RX9) (T := TX9) (N := 49) (ci := 9) (j := 4) rfl inX9 (by decide) (by rw [hy]; exact w_838) rfl hdg he hv kk
theorem p_X9_19 {a : Nat} {fs : List Value} {v : Value} {w2 : VW} (hy : y.cls = RX9) (hini : y.name = "<init>") (hdg : decode cc pc = .ok (.putfield 19, 3)) (he : w[a]? = some (.inr (9, fs))) (hl0 : 4 < fs.length) (hn : narrow (tyX9 4) v = v) (hf : fits (tyX9 4) v = true) (hw : w.set a (.inr (9, fs.set 4 v)) = w2) (kk : R G l y cc nL ret d mc ms Q (pc + 3) lv st w2 k n) : R G l y cc nL ret d mc ms Q pc lv (v :: .ref a :: st) w k n := R_putF (C := RX9) (ref := RX9) (T := TX9) (ty0 := tyX9) (N := 49) (ci := 9) (j := 4) rfl inX9 tyX9_ok nmX9 (by decide) (by rw [hy]; exact w_838) rfl rfl (by rw [hy]; rfl) hini hn hf hdg he hl0 (by rw [hw]; exact kk)
theorem g_X9_22 {a : Nat} {fs : List Value} {v : Value} (hy : y.cls = RX9) (hdg : decode cc pc = .ok (.getfield 22, 3)) (he : w[a]? = some (.inr (9, fs))) (hv : fs[5]? = some v) (kk : R G l y cc nL ret d mc ms Q (pc + 3) lv (v :: st) w k n) : R G l y cc nL ret d mc ms Q pc lv (.ref a :: st) w k n := R_get (C := RX9) (ref := RX9) (T := TX9) (N := 49) (ci := 9) (j := 5) rfl inX9 (by decide) (by rw [hy]; exact w_839) rfl hdg he hv kk
theorem p_X9_22 {a : Nat} {fs : List Value} {v : Value} {w2 : VW} (hy : y.cls = RX9) (hini : y.name = "<init>") (hdg : decode cc pc = .ok (.putfield 22, 3)) (he : w[a]? = some (.inr (9, fs))) (hl0 : 5 < fs.length) (hn : narrow (tyX9 5) v = v) (hf : fits (tyX9 5) v = true) (hw : w.set a (.inr (9, fs.set 5 v)) = w2) (kk : R G l y cc nL ret d mc ms Q (pc + 3) lv st w2 k n) : R G l y cc nL ret d mc ms Q pc lv (v :: .ref a :: st) w k n := R_putF (C := RX9) (ref := RX9) (T := TX9) (ty0 := tyX9) (N := 49) (ci := 9) (j := 5) rfl inX9 tyX9_ok nmX9 (by decide) (by rw [hy]; exact w_839) rfl rfl (by rw [hy]; rfl) hini hn hf hdg he hl0 (by rw [hw]; exact kk)
theorem g_X9_26 {a : Nat} {fs : List Value} {v : Value} (hy : y.cls = RX9) (hdg : decode cc pc = .ok (.getfield 26, 3)) (he : w[a]? = some (.inr (9, fs))) (hv : fs[6]? = some v) (kk : R G l y cc nL ret d mc ms Q (pc + 3) lv (v :: st) w k n) : R G l y cc nL ret d mc ms Q pc lv (.ref a :: st) w k n := R_get (C := RX9) (ref := RX9) (T := TX9) (N := 49) (ci := 9) (j := 6) rfl inX9 (by decide) (by rw [hy]; exact w_840) rfl hdg he hv kk
theorem p_X9_26 {a : Nat} {fs : List Value} {v : Value} {w2 : VW} (hy : y.cls = RX9) (hini : y.name = "<init>") (hdg : decode cc pc = .ok (.putfield 26, 3)) (he : w[a]? = some (.inr (9, fs))) (hl0 : 6 < fs.length) (hn : narrow (tyX9 6) v = v) (hf : fits (tyX9 6) v = true) (hw : w.set a (.inr (9, fs.set 6 v)) = w2) (kk : R G l y cc nL ret d mc ms Q (pc + 3) lv st w2 k n) : R G l y cc nL ret d mc ms Q pc lv (v :: .ref a :: st) w k n := R_putF (C := RX9) (ref := RX9) (T := TX9) (ty0 := tyX9) (N := 49) (ci := 9) (j := 6) rfl inX9 tyX9_ok nmX9 (by decide) (by rw [hy]; exact w_840) rfl rfl (by rw [hy]; rfl) hini hn hf hdg he hl0 (by rw [hw]; exact kk)
theorem g_X9_29 {a : Nat} {fs : List Value} {v : Value} (hy : y.cls = RX9) (hdg : decode cc pc = .ok (.getfield 29, 3)) (he : w[a]? = some (.inr (9, fs))) (hv : fs[7]? = some v) (kk : R G l y cc nL ret d mc ms Q (pc + 3) lv (v :: st) w k n) : R G l y cc nL ret d mc ms Q pc lv (.ref a :: st) w k n := R_get (C := RX9) (ref := RX9) (T := TX9) (N := 49) (ci := 9) (j := 7) rfl inX9 (by decide) (by rw [hy]; exact w_841) rfl hdg he hv kk
theorem p_X9_29 {a : Nat} {fs : List Value} {v : Value} {w2 : VW} (hy : y.cls = RX9) (hini : y.name = "<init>") (hdg : decode cc pc = .ok (.putfield 29, 3)) (he : w[a]? = some (.inr (9, fs))) (hl0 : 7 < fs.length) (hn : narrow (tyX9 7) v = v) (hf : fits (tyX9 7) v = true) (hw : w.set a (.inr (9, fs.set 7 v)) = w2) (kk : R G l y cc nL ret d mc ms Q (pc + 3) lv st w2 k n) : R G l y cc nL ret d mc ms Q pc lv (v :: .ref a :: st) w k n := R_putF (C := RX9) (ref := RX9) (T := TX9) (ty0 := tyX9) (N := 49) (ci := 9) (j := 7) rfl inX9 tyX9_ok nmX9 (by decide) (by rw [hy]; exact w_841) rfl rfl (by rw [hy]; rfl) hini hn hf hdg he hl0 (by rw [hw]; exact kk)
theorem g_X9_32 {a : Nat} {fs : List Value} {v : Value} (hy : y.cls = RX9) (hdg : decode cc pc = .ok (.getfield 32, 3)) (he : w[a]? = some (.inr (9, fs))) (hv : fs[8]? = some v) (kk : R G l y cc nL ret d mc ms Q (pc + 3) lv (v :: st) w k n) : R G l y cc nL ret d mc ms Q pc lv (.ref a :: st) w k n := R_get (C := RX9) (ref := RX9) (T := TX9) (N := 49) (ci := 9) (j := 8) rfl inX9 (by decide) (by rw [hy]; exact w_842) rfl hdg he hv kk
theorem p_X9_32 {a : Nat} {fs : List Value} {v : Value} {w2 : VW} (hy : y.cls = RX9) (hini : y.name = "<init>") (hdg : decode cc pc = .ok (.putfield 32, 3)) (he : w[a]? = some (.inr (9, fs))) (hl0 : 8 < fs.length) (hn : narrow (tyX9 8) v = v) (hf : fits (tyX9 8) v = true) (hw : w.set a (.inr (9, fs.set 8 v)) = w2) (kk : R G l y cc nL ret d mc ms Q (pc + 3) lv st w2 k n) : R G l y cc nL ret d mc ms Q pc lv (v :: .ref a :: st) w k n := R_putF (C := RX9) (ref := RX9) (T := TX9) (ty0 := tyX9) (N := 49) (ci := 9) (j := 8) rfl inX9 tyX9_ok nmX9 (by decide) (by rw [hy]; exact w_842) rfl rfl (by rw [hy]; rfl) hini hn hf hdg he hl0 (by rw [hw]; exact kk)
theorem g_X9_35 {a : Nat} {fs : List Value} {v : Value} (hy : y.cls = RX9) (hdg : decode cc pc = .ok (.getfield 35, 3)) (he : w[a]? = some (.inr (9, fs))) (hv : fs[9]? = some v) (kk : R G l y cc nL ret d mc ms Q (pc + 3) lv (v :: st) w k n) : R G l y cc nL ret d mc ms Q pc lv (.ref a :: st) w k n := R_get (C := RX9) (ref := RX9) (T := TX9) (N := 49) (ci := 9) (j := 9) rfl inX9 (by decide) (by rw [hy]; exact w_843) rfl hdg he hv kk
theorem p_X9_35 {a : Nat} {fs : List Value} {v : Value} {w2 : VW} (hy : y.cls = RX9) (hini : y.name = "<init>") (hdg : decode cc pc = .ok (.putfield 35, 3)) (he : w[a]? = some (.inr (9, fs))) (hl0 : 9 < fs.length) (hn : narrow (tyX9 9) v = v) (hf : fits (tyX9 9) v = true) (hw : w.set a (.inr (9, fs.set 9 v)) = w2) (kk : R G l y cc nL ret d mc ms Q (pc + 3) lv st w2 k n) : R G l y cc nL ret d mc ms Q pc lv (v :: .ref a :: st) w k n := R_putF (C := RX9) (ref := RX9) (T := TX9) (ty0 := tyX9) (N := 49) (ci := 9) (j := 9) rfl inX9 tyX9_ok nmX9 (by decide) (by rw [hy]; exact w_843) rfl rfl (by rw [hy]; rfl) hini hn hf hdg he hl0 (by rw [hw]; exact kk)
theorem g_X9_38 {a : Nat} {fs : List Value} {v : Value} (hy : y.cls = RX9) (hdg : decode cc pc = .ok (.getfield 38, 3)) (he : w[a]? = some (.inr (9, fs))) (hv : fs[10]? = some v) (kk : R G l y cc nL ret d mc ms Q (pc + 3) lv (v :: st) w k n) : R G l y cc nL ret d mc ms Q pc lv (.ref a :: st) w k n := R_get (C := RX9) (ref := RX9) (T := TX9) (N := 49) (ci := 9) (j := 10) rfl inX9 (by decide) (by rw [hy]; exact w_844) rfl hdg he hv kk
theorem p_X9_38 {a : Nat} {fs : List Value} {v : Value} {w2 : VW} (hy : y.cls = RX9) (hini : y.name = "<init>") (hdg : decode cc pc = .ok (.putfield 38, 3)) (he : w[a]? = some (.inr (9, fs))) (hl0 : 10 < fs.length) (hn : narrow (tyX9 10) v = v) (hf : fits (tyX9 10) v = true) (hw : w.set a (.inr (9, fs.set 10 v)) = w2) (kk : R G l y cc nL ret d mc ms Q (pc + 3) lv st w2 k n) : R G l y cc nL ret d mc ms Q pc lv (v :: .ref a :: st) w k n := R_putF (C := RX9) (ref := RX9) (T := TX9) (ty0 := tyX9) (N := 49) (ci := 9) (j := 10) rfl inX9 tyX9_ok nmX9 (by decide) (by rw [hy]; exact w_844) rfl rfl (by rw [hy]; rfl) hini hn hf hdg he hl0 (by rw [hw]; exact kk)
theorem g_X9_132 {a : Nat} {fs : List Value} {v : Value} (hy : y.cls = RX9) (hdg : decode cc pc = .ok (.getfield 132, 3)) (he : w[a]? = some (.inr (9, fs))) (hv : fs[11]? = some v) (kk : R G l y cc nL ret d mc ms Q (pc + 3) lv (v :: st) w k n) : R G l y cc nL ret d mc ms Q pc lv (.ref a :: st) w k n := R_get (C := RX9) (ref := RX9) (T := TX9) (N := 49) (ci := 9) (j := 11) rfl inX9 (by decide) (by rw [hy]; exact w_845) rfl hdg he hv kk
theorem p_X9_132 {a : Nat} {fs : List Value} {v : Value} {w2 : VW} (hy : y.cls = RX9) (hdg : decode cc pc = .ok (.putfield 132, 3)) (he : w[a]? = some (.inr (9, fs))) (hl0 : 11 < fs.length) (hn : narrow (tyX9 11) v = v) (hf : fits (tyX9 11) v = true) (hw : w.set a (.inr (9, fs.set 11 v)) = w2) (kk : R G l y cc nL ret d mc ms Q (pc + 3) lv st w2 k n) : R G l y cc nL ret d mc ms Q pc lv (v :: .ref a :: st) w k n := R_put (C := RX9) (ref := RX9) (T := TX9) (ty0 := tyX9) (N := 49) (ci := 9) (j := 11) rfl inX9 tyX9_ok nmX9 (by decide) (by rw [hy]; exact w_845) rfl rfl hn hf hdg he hl0 (by rw [hw]; exact kk)
theorem g_X9_41 {a : Nat} {fs : List Value} {v : Value} (hy : y.cls = RX9) (hdg : decode cc pc = .ok (.getfield 41, 3)) (he : w[a]? = some (.inr (9, fs))) (hv : fs[12]? = some v) (kk : R G l y cc nL ret d mc ms Q (pc + 3) lv (v :: st) w k n) : R G l y cc nL ret d mc ms Q pc lv (.ref a :: st) w k n := R_get (C := RX9) (ref := RX9) (T := TX9) (N := 49) (ci := 9) (j := 12) rfl inX9 (by decide) (by rw [hy]; exact w_846) rfl hdg he hv kk
theorem p_X9_41 {a : Nat} {fs : List Value} {v : Value} {w2 : VW} (hy : y.cls = RX9) (hdg : decode cc pc = .ok (.putfield 41, 3)) (he : w[a]? = some (.inr (9, fs))) (hl0 : 12 < fs.length) (hn : narrow (tyX9 12) v = v) (hf : fits (tyX9 12) v = true) (hw : w.set a (.inr (9, fs.set 12 v)) = w2) (kk : R G l y cc nL ret d mc ms Q (pc + 3) lv st w2 k n) : R G l y cc nL ret d mc ms Q pc lv (v :: .ref a :: st) w k n := R_put (C := RX9) (ref := RX9) (T := TX9) (ty0 := tyX9) (N := 49) (ci := 9) (j := 12) rfl inX9 tyX9_ok nmX9 (by decide) (by rw [hy]; exact w_846) rfl rfl hn hf hdg he hl0 (by rw [hw]; exact kk)
theorem g_X9_45 {a : Nat} {fs : List Value} {v : Value} (hy : y.cls = RX9) (hdg : decode cc pc = .ok (.getfield 45, 3)) (he : w[a]? = some (.inr (9, fs))) (hv : fs[13]? = some v) (kk : R G l y cc nL ret d mc ms Q (pc + 3) lv (v :: st) w k n) : R G l y cc nL ret d mc ms Q pc lv (.ref a :: st) w k n := R_get (C := RX9) (ref := RX9) (T := TX9) (N := 49) (ci := 9) (j := 13) rfl inX9 (by decide) (by rw [hy]; exact w_847) rfl hdg he hv kk
theorem p_X9_45 {a : Nat} {fs : List Value} {v : Value} {w2 : VW} (hy : y.cls = RX9) (hdg : decode cc pc = .ok (.putfield 45, 3)) (he : w[a]? = some (.inr (9, fs))) (hl0 : 13 < fs.length) (hn : narrow (tyX9 13) v = v) (hf : fits (tyX9 13) v = true) (hw : w.set a (.inr (9, fs.set 13 v)) = w2) (kk : R G l y cc nL ret d mc ms Q (pc + 3) lv st w2 k n) : R G l y cc nL ret d mc ms Q pc lv (v :: .ref a :: st) w k n := R_put (C := RX9) (ref := RX9) (T := TX9) (ty0 := tyX9) (N := 49) (ci := 9) (j := 13) rfl inX9 tyX9_ok nmX9 (by decide) (by rw [hy]; exact w_847) rfl rfl hn hf hdg he hl0 (by rw [hw]; exact kk)
theorem g_X9_48 {a : Nat} {fs : List Value} {v : Value} (hy : y.cls = RX9) (hdg : decode cc pc = .ok (.getfield 48, 3)) (he : w[a]? = some (.inr (9, fs))) (hv : fs[14]? = some v) (kk : R G l y cc nL ret d mc ms Q (pc + 3) lv (v :: st) w k n) : R G l y cc nL ret d mc ms Q pc lv (.ref a :: st) w k n := R_get (C := RX9) (ref := RX9) (T := TX9) (N := 49) (ci := 9) (j := 14) rfl inX9 (by decide) (by rw [hy]; exact w_848) rfl hdg he hv kk
theorem p_X9_48 {a : Nat} {fs : List Value} {v : Value} {w2 : VW} (hy : y.cls = RX9) (hdg : decode cc pc = .ok (.putfield 48, 3)) (he : w[a]? = some (.inr (9, fs))) (hl0 : 14 < fs.length) (hn : narrow (tyX9 14) v = v) (hf : fits (tyX9 14) v = true) (hw : w.set a (.inr (9, fs.set 14 v)) = w2) (kk : R G l y cc nL ret d mc ms Q (pc + 3) lv st w2 k n) : R G l y cc nL ret d mc ms Q pc lv (v :: .ref a :: st) w k n := R_put (C := RX9) (ref := RX9) (T := TX9) (ty0 := tyX9) (N := 49) (ci := 9) (j := 14) rfl inX9 tyX9_ok nmX9 (by decide) (by rw [hy]; exact w_848) rfl rfl hn hf hdg he hl0 (by rw [hw]; exact kk)
theorem g_X9_51 {a : Nat} {fs : List Value} {v : Value} (hy : y.cls = RX9) (hdg : decode cc pc = .ok (.getfield 51, 3)) (he : w[a]? = some (.inr (9, fs))) (hv : fs[15]? = some v) (kk : R G l y cc nL ret d mc ms Q (pc + 3) lv (v :: st) w k n) : R G l y cc nL ret d mc ms Q pc lv (.ref a :: st) w k n := R_get (C := RX9) (ref := RX9) (T := TX9) (N := 49) (ci := 9) (j := 15) rfl inX9 (by decide) (by rw [hy]; exact w_849) rfl hdg he hv kk
theorem p_X9_51 {a : Nat} {fs : List Value} {v : Value} {w2 : VW} (hy : y.cls = RX9) (hini : y.name = "<init>") (hdg : decode cc pc = .ok (.putfield 51, 3)) (he : w[a]? = some (.inr (9, fs))) (hl0 : 15 < fs.length) (hn : narrow (tyX9 15) v = v) (hf : fits (tyX9 15) v = true) (hw : w.set a (.inr (9, fs.set 15 v)) = w2) (kk : R G l y cc nL ret d mc ms Q (pc + 3) lv st w2 k n) : R G l y cc nL ret d mc ms Q pc lv (v :: .ref a :: st) w k n := R_putF (C := RX9) (ref := RX9) (T := TX9) (ty0 := tyX9) (N := 49) (ci := 9) (j := 15) rfl inX9 tyX9_ok nmX9 (by decide) (by rw [hy]; exact w_849) rfl rfl (by rw [hy]; rfl) hini hn hf hdg he hl0 (by rw [hw]; exact kk)
theorem g_X9_54 {a : Nat} {fs : List Value} {v : Value} (hy : y.cls = RX9) (hdg : decode cc pc = .ok (.getfield 54, 3)) (he : w[a]? = some (.inr (9, fs))) (hv : fs[16]? = some v) (kk : R G l y cc nL ret d mc ms Q (pc + 3) lv (v :: st) w k n) : R G l y cc nL ret d mc ms Q pc lv (.ref a :: st) w k n := R_get (C := RX9) (ref := RX9) (T := TX9) (N := 49) (ci := 9) (j := 16) rfl inX9 (by decide) (by rw [hy]; exact w_850) rfl hdg he hv kk
theorem p_X9_54 {a : Nat} {fs : List Value} {v : Value} {w2 : VW} (hy : y.cls = RX9) (hini : y.name = "<init>") (hdg : decode cc pc = .ok (.putfield 54, 3)) (he : w[a]? = some (.inr (9, fs))) (hl0 : 16 < fs.length) (hn : narrow (tyX9 16) v = v) (hf : fits (tyX9 16) v = true) (hw : w.set a (.inr (9, fs.set 16 v)) = w2) (kk : R G l y cc nL ret d mc ms Q (pc + 3) lv st w2 k n) : R G l y cc nL ret d mc ms Q pc lv (v :: .ref a :: st) w k n := R_putF (C := RX9) (ref := RX9) (T := TX9) (ty0 := tyX9) (N := 49) (ci := 9) (j := 16) rfl inX9 tyX9_ok nmX9 (by decide) (by rw [hy]; exact w_850) rfl rfl (by rw [hy]; rfl) hini hn hf hdg he hl0 (by rw [hw]; exact kk)
theorem g_X9_57 {a : Nat} {fs : List Value} {v : Value} (hy : y.cls = RX9) (hdg : decode cc pc = .ok (.getfield 57, 3)) (he : w[a]? = some (.inr (9, fs))) (hv : fs[17]? = some v) (kk : R G l y cc nL ret d mc ms Q (pc + 3) lv (v :: st) w k n) : R G l y cc nL ret d mc ms Q pc lv (.ref a :: st) w k n := R_get (C := RX9) (ref := RX9) (T := TX9) (N := 49) (ci := 9) (j := 17) rfl inX9 (by decide) (by rw [hy]; exact w_851) rfl hdg he hv kk
theorem p_X9_57 {a : Nat} {fs : List Value} {v : Value} {w2 : VW} (hy : y.cls = RX9) (hini : y.name = "<init>") (hdg : decode cc pc = .ok (.putfield 57, 3)) (he : w[a]? = some (.inr (9, fs))) (hl0 : 17 < fs.length) (hn : narrow (tyX9 17) v = v) (hf : fits (tyX9 17) v = true) (hw : w.set a (.inr (9, fs.set 17 v)) = w2) (kk : R G l y cc nL ret d mc ms Q (pc + 3) lv st w2 k n) : R G l y cc nL ret d mc ms Q pc lv (v :: .ref a :: st) w k n := R_putF (C := RX9) (ref := RX9) (T := TX9) (ty0 := tyX9) (N := 49) (ci := 9) (j := 17) rfl inX9 tyX9_ok nmX9 (by decide) (by rw [hy]; exact w_851) rfl rfl (by rw [hy]; rfl) hini hn hf hdg he hl0 (by rw [hw]; exact kk)
theorem g_X9_60 {a : Nat} {fs : List Value} {v : Value} (hy : y.cls = RX9) (hdg : decode cc pc = .ok (.getfield 60, 3)) (he : w[a]? = some (.inr (9, fs))) (hv : fs[18]? = some v) (kk : R G l y cc nL ret d mc ms Q (pc + 3) lv (v :: st) w k n) : R G l y cc nL ret d mc ms Q pc lv (.ref a :: st) w k n := R_get (C := RX9) (ref := RX9) (T := TX9) (N := 49) (ci := 9) (j := 18) rfl inX9 (by decide) (by rw [hy]; exact w_852) rfl hdg he hv kk
theorem p_X9_60 {a : Nat} {fs : List Value} {v : Value} {w2 : VW} (hy : y.cls = RX9) (hini : y.name = "<init>") (hdg : decode cc pc = .ok (.putfield 60, 3)) (he : w[a]? = some (.inr (9, fs))) (hl0 : 18 < fs.length) (hn : narrow (tyX9 18) v = v) (hf : fits (tyX9 18) v = true) (hw : w.set a (.inr (9, fs.set 18 v)) = w2) (kk : R G l y cc nL ret d mc ms Q (pc + 3) lv st w2 k n) : R G l y cc nL ret d mc ms Q pc lv (v :: .ref a :: st) w k n := R_putF (C := RX9) (ref := RX9) (T := TX9) (ty0 := tyX9) (N := 49) (ci := 9) (j := 18) rfl inX9 tyX9_ok nmX9 (by decide) (by rw [hy]; exact w_852) rfl rfl (by rw [hy]; rfl) hini hn hf hdg he hl0 (by rw [hw]; exact kk)
theorem g_X9_63 {a : Nat} {fs : List Value} {v : Value} (hy : y.cls = RX9) (hdg : decode cc pc = .ok (.getfield 63, 3)) (he : w[a]? = some (.inr (9, fs))) (hv : fs[19]? = some v) (kk : R G l y cc nL ret d mc ms Q (pc + 3) lv (v :: st) w k n) : R G l y cc nL ret d mc ms Q pc lv (.ref a :: st) w k n := R_get (C := RX9) (ref := RX9) (T := TX9) (N := 49) (ci := 9) (j := 19) rfl inX9 (by decide) (by rw [hy]; exact w_853) rfl hdg he hv kk
theorem p_X9_63 {a : Nat} {fs : List Value} {v : Value} {w2 : VW} (hy : y.cls = RX9) (hini : y.name = "<init>") (hdg : decode cc pc = .ok (.putfield 63, 3)) (he : w[a]? = some (.inr (9, fs))) (hl0 : 19 < fs.length) (hn : narrow (tyX9 19) v = v) (hf : fits (tyX9 19) v = true) (hw : w.set a (.inr (9, fs.set 19 v)) = w2) (kk : R G l y cc nL ret d mc ms Q (pc + 3) lv st w2 k n) : R G l y cc nL ret d mc ms Q pc lv (v :: .ref a :: st) w k n := R_putF (C := RX9) (ref := RX9) (T := TX9) (ty0 := tyX9) (N := 49) (ci := 9) (j := 19) rfl inX9 tyX9_ok nmX9 (by decide) (by rw [hy]; exact w_853) rfl rfl (by rw [hy]; rfl) hini hn hf hdg he hl0 (by rw [hw]; exact kk)
theorem g_X9_66 {a : Nat} {fs : List Value} {v : Value} (hy : y.cls = RX9) (hdg : decode cc pc = .ok (.getfield 66, 3)) (he : w[a]? = some (.inr (9, fs))) (hv : fs[20]? = some v) (kk : R G l y cc nL ret d mc ms Q (pc + 3) lv (v :: st) w k n) : R G l y cc nL ret d mc ms Q pc lv (.ref a :: st) w k n := R_get (C := RX9) (ref := RX9) (T := TX9) (N := 49) (ci := 9) (j := 20) rfl inX9 (by decide) (by rw [hy]; exact w_854) rfl hdg he hv kk
theorem p_X9_66 {a : Nat} {fs : List Value} {v : Value} {w2 : VW} (hy : y.cls = RX9) (hini : y.name = "<init>") (hdg : decode cc pc = .ok (.putfield 66, 3)) (he : w[a]? = some (.inr (9, fs))) (hl0 : 20 < fs.length) (hn : narrow (tyX9 20) v = v) (hf : fits (tyX9 20) v = true) (hw : w.set a (.inr (9, fs.set 20 v)) = w2) (kk : R G l y cc nL ret d mc ms Q (pc + 3) lv st w2 k n) : R G l y cc nL ret d mc ms Q pc lv (v :: .ref a :: st) w k n := R_putF (C := RX9) (ref := RX9) (T := TX9) (ty0 := tyX9) (N := 49) (ci := 9) (j := 20) rfl inX9 tyX9_ok nmX9 (by decide) (by rw [hy]; exact w_854) rfl rfl (by rw [hy]; rfl) hini hn hf hdg he hl0 (by rw [hw]; exact kk)
theorem g_X9_69 {a : Nat} {fs : List Value} {v : Value} (hy : y.cls = RX9) (hdg : decode cc pc = .ok (.getfield 69, 3)) (he : w[a]? = some (.inr (9, fs))) (hv : fs[21]? = some v) (kk : R G l y cc nL ret d mc ms Q (pc + 3) lv (v :: st) w k n) : R G l y cc nL ret d mc ms Q pc lv (.ref a :: st) w k n := R_get (C := RX9) (ref := RX9) (T := TX9) (N := 49) (ci := 9) (j := 21) rfl inX9 (by decide) (by rw [hy]; exact w_855) rfl hdg he hv kk
theorem p_X9_69 {a : Nat} {fs : List Value} {v : Value} {w2 : VW} (hy : y.cls = RX9) (hini : y.name = "<init>") (hdg : decode cc pc = .ok (.putfield 69, 3)) (he : w[a]? = some (.inr (9, fs))) (hl0 : 21 < fs.length) (hn : narrow (tyX9 21) v = v) (hf : fits (tyX9 21) v = true) (hw : w.set a (.inr (9, fs.set 21 v)) = w2) (kk : R G l y cc nL ret d mc ms Q (pc + 3) lv st w2 k n) : R G l y cc nL ret d mc ms Q pc lv (v :: .ref a :: st) w k n := R_putF (C := RX9) (ref := RX9) (T := TX9) (ty0 := tyX9) (N := 49) (ci := 9) (j := 21) rfl inX9 tyX9_ok nmX9 (by decide) (by rw [hy]; exact w_855) rfl rfl (by rw [hy]; rfl) hini hn hf hdg he hl0 (by rw [hw]; exact kk)
theorem g_X9_72 {a : Nat} {fs : List Value} {v : Value} (hy : y.cls = RX9) (hdg : decode cc pc = .ok (.getfield 72, 3)) (he : w[a]? = some (.inr (9, fs))) (hv : fs[22]? = some v) (kk : R G l y cc nL ret d mc ms Q (pc + 3) lv (v :: st) w k n) : R G l y cc nL ret d mc ms Q pc lv (.ref a :: st) w k n := R_get (C := RX9) (ref := RX9) (T := TX9) (N := 49) (ci := 9) (j := 22) rfl inX9 (by decide) (by rw [hy]; exact w_856) rfl hdg he hv kk
theorem p_X9_72 {a : Nat} {fs : List Value} {v : Value} {w2 : VW} (hy : y.cls = RX9) (hini : y.name = "<init>") (hdg : decode cc pc = .ok (.putfield 72, 3)) (he : w[a]? = some (.inr (9, fs))) (hl0 : 22 < fs.length) (hn : narrow (tyX9 22) v = v) (hf : fits (tyX9 22) v = true) (hw : w.set a (.inr (9, fs.set 22 v)) = w2) (kk : R G l y cc nL ret d mc ms Q (pc + 3) lv st w2 k n) : R G l y cc nL ret d mc ms Q pc lv (v :: .ref a :: st) w k n := R_putF (C := RX9) (ref := RX9) (T := TX9) (ty0 := tyX9) (N := 49) (ci := 9) (j := 22) rfl inX9 tyX9_ok nmX9 (by decide) (by rw [hy]; exact w_856) rfl rfl (by rw [hy]; rfl) hini hn hf hdg he hl0 (by rw [hw]; exact kk)
theorem g_X9_75 {a : Nat} {fs : List Value} {v : Value} (hy : y.cls = RX9) (hdg : decode cc pc = .ok (.getfield 75, 3)) (he : w[a]? = some (.inr (9, fs))) (hv : fs[23]? = some v) (kk : R G l y cc nL ret d mc ms Q (pc + 3) lv (v :: st) w k n) : R G l y cc nL ret d mc ms Q pc lv (.ref a :: st) w k n := R_get (C := RX9) (ref := RX9) (T := TX9) (N := 49) (ci := 9) (j := 23) rfl inX9 (by decide) (by rw [hy]; exact w_857) rfl hdg he hv kk
theorem p_X9_75 {a : Nat} {fs : List Value} {v : Value} {w2 : VW} (hy : y.cls = RX9) (hini : y.name = "<init>") (hdg : decode cc pc = .ok (.putfield 75, 3)) (he : w[a]? = some (.inr (9, fs))) (hl0 : 23 < fs.length) (hn : narrow (tyX9 23) v = v) (hf : fits (tyX9 23) v = true) (hw : w.set a (.inr (9, fs.set 23 v)) = w2) (kk : R G l y cc nL ret d mc ms Q (pc + 3) lv st w2 k n) : R G l y cc nL ret d mc ms Q pc lv (v :: .ref a :: st) w k n := R_putF (C := RX9) (ref := RX9) (T := TX9) (ty0 := tyX9) (N := 49) (ci := 9) (j := 23) rfl inX9 tyX9_ok nmX9 (by decide) (by rw [hy]; exact w_857) rfl rfl (by rw [hy]; rfl) hini hn hf hdg he hl0 (by rw [hw]; exact kk)
theorem g_X9_78 {a : Nat} {fs : List Value} {v : Value} (hy : y.cls = RX9) (hdg : decode cc pc = .ok (.getfield 78, 3)) (he : w[a]? = some (.inr (9, fs))) (hv : fs[24]? = some v) (kk : R G l y cc nL ret d mc ms Q (pc + 3) lv (v :: st) w k n) : R G l y cc nL ret d mc ms Q pc lv (.ref a :: st) w k n := R_get (C := RX9) (ref := RX9) (T := TX9) (N := 49) (ci := 9) (j := 24) rfl inX9 (by decide) (by rw [hy]; exact w_858) rfl hdg he hv kk
theorem p_X9_78 {a : Nat} {fs : List Value} {v : Value} {w2 : VW} (hy : y.cls = RX9) (hini : y.name = "<init>") (hdg : decode cc pc = .ok (.putfield 78, 3)) (he : w[a]? = some (.inr (9, fs))) (hl0 : 24 < fs.length) (hn : narrow (tyX9 24) v = v) (hf : fits (tyX9 24) v = true) (hw : w.set a (.inr (9, fs.set 24 v)) = w2) (kk : R G l y cc nL ret d mc ms Q (pc + 3) lv st w2 k n) : R G l y cc nL ret d mc ms Q pc lv (v :: .ref a :: st) w k n := R_putF (C := RX9) (ref := RX9) (T := TX9) (ty0 := tyX9) (N := 49) (ci := 9) (j := 24) rfl inX9 tyX9_ok nmX9 (by decide) (by rw [hy]; exact w_858) rfl rfl (by rw [hy]; rfl) hini hn hf hdg he hl0 (by rw [hw]; exact kk)
theorem g_X9_201 {a : Nat} {fs : List Value} {v : Value} (hy : y.cls = RX9) (hdg : decode cc pc = .ok (.getfield 201, 3)) (he : w[a]? = some (.inr (9, fs))) (hv : fs[25]? = some v) (kk : R G l y cc nL ret d mc ms Q (pc + 3) lv (v :: st) w k n) : R G l y cc nL ret d mc ms Q pc lv (.ref a :: st) w k n := R_get (C := RX9) (ref := RX9) (T := TX9) (N := 49) (ci := 9) (j := 25) rfl inX9 (by decide) (by rw [hy]; exact w_859) rfl hdg he hv kk
theorem p_X9_201 {a : Nat} {fs : List Value} {v : Value} {w2 : VW} (hy : y.cls = RX9) (hdg : decode cc pc = .ok (.putfield 201, 3)) (he : w[a]? = some (.inr (9, fs))) (hl0 : 25 < fs.length) (hn : narrow (tyX9 25) v = v) (hf : fits (tyX9 25) v = true) (hw : w.set a (.inr (9, fs.set 25 v)) = w2) (kk : R G l y cc nL ret d mc ms Q (pc + 3) lv st w2 k n) : R G l y cc nL ret d mc ms Q pc lv (v :: .ref a :: st) w k n := R_put (C := RX9) (ref := RX9) (T := TX9) (ty0 := tyX9) (N := 49) (ci := 9) (j := 25) rfl inX9 tyX9_ok nmX9 (by decide) (by rw [hy]; exact w_859) rfl rfl hn hf hdg he hl0 (by rw [hw]; exact kk)
theorem g_X9_81 {a : Nat} {fs : List Value} {v : Value} (hy : y.cls = RX9) (hdg : decode cc pc = .ok (.getfield 81, 3)) (he : w[a]? = some (.inr (9, fs))) (hv : fs[26]? = some v) (kk : R G l y cc nL ret d mc ms Q (pc + 3) lv (v :: st) w k n) : R G l y cc nL ret d mc ms Q pc lv (.ref a :: st) w k n := R_get (C := RX9) (ref := RX9) (T := TX9) (N := 49) (ci := 9) (j := 26) rfl inX9 (by decide) (by rw [hy]; exact w_860) rfl hdg he hv kk
theorem p_X9_81 {a : Nat} {fs : List Value} {v : Value} {w2 : VW} (hy : y.cls = RX9) (hini : y.name = "<init>") (hdg : decode cc pc = .ok (.putfield 81, 3)) (he : w[a]? = some (.inr (9, fs))) (hl0 : 26 < fs.length) (hn : narrow (tyX9 26) v = v) (hf : fits (tyX9 26) v = true) (hw : w.set a (.inr (9, fs.set 26 v)) = w2) (kk : R G l y cc nL ret d mc ms Q (pc + 3) lv st w2 k n) : R G l y cc nL ret d mc ms Q pc lv (v :: .ref a :: st) w k n := R_putF (C := RX9) (ref := RX9) (T := TX9) (ty0 := tyX9) (N := 49) (ci := 9) (j := 26) rfl inX9 tyX9_ok nmX9 (by decide) (by rw [hy]; exact w_860) rfl rfl (by rw [hy]; rfl) hini hn hf hdg he hl0 (by rw [hw]; exact kk)
theorem g_X9_84 {a : Nat} {fs : List Value} {v : Value} (hy : y.cls = RX9) (hdg : decode cc pc = .ok (.getfield 84, 3)) (he : w[a]? = some (.inr (9, fs))) (hv : fs[27]? = some v) (kk : R G l y cc nL ret d mc ms Q (pc + 3) lv (v :: st) w k n) : R G l y cc nL ret d mc ms Q pc lv (.ref a :: st) w k n := R_get (C := RX9) (ref := RX9) (T := TX9) (N := 49) (ci := 9) (j := 27) rfl inX9 (by decide) (by rw [hy]; exact w_861) rfl hdg he hv kk
theorem p_X9_84 {a : Nat} {fs : List Value} {v : Value} {w2 : VW} (hy : y.cls = RX9) (hini : y.name = "<init>") (hdg : decode cc pc = .ok (.putfield 84, 3)) (he : w[a]? = some (.inr (9, fs))) (hl0 : 27 < fs.length) (hn : narrow (tyX9 27) v = v) (hf : fits (tyX9 27) v = true) (hw : w.set a (.inr (9, fs.set 27 v)) = w2) (kk : R G l y cc nL ret d mc ms Q (pc + 3) lv st w2 k n) : R G l y cc nL ret d mc ms Q pc lv (v :: .ref a :: st) w k n := R_putF (C := RX9) (ref := RX9) (T := TX9) (ty0 := tyX9) (N := 49) (ci := 9) (j := 27) rfl inX9 tyX9_ok nmX9 (by decide) (by rw [hy]; exact w_861) rfl rfl (by rw [hy]; rfl) hini hn hf hdg he hl0 (by rw [hw]; exact kk)
theorem g_X9_87 {a : Nat} {fs : List Value} {v : Value} (hy : y.cls = RX9) (hdg : decode cc pc = .ok (.getfield 87, 3)) (he : w[a]? = some (.inr (9, fs))) (hv : fs[28]? = some v) (kk : R G l y cc nL ret d mc ms Q (pc + 3) lv (v :: st) w k n) : R G l y cc nL ret d mc ms Q pc lv (.ref a :: st) w k n := R_get (C := RX9) (ref := RX9) (T := TX9) (N := 49) (ci := 9) (j := 28) rfl inX9 (by decide) (by rw [hy]; exact w_862) rfl hdg he hv kk
theorem p_X9_87 {a : Nat} {fs : List Value} {v : Value} {w2 : VW} (hy : y.cls = RX9) (hini : y.name = "<init>") (hdg : decode cc pc = .ok (.putfield 87, 3)) (he : w[a]? = some (.inr (9, fs))) (hl0 : 28 < fs.length) (hn : narrow (tyX9 28) v = v) (hf : fits (tyX9 28) v = true) (hw : w.set a (.inr (9, fs.set 28 v)) = w2) (kk : R G l y cc nL ret d mc ms Q (pc + 3) lv st w2 k n) : R G l y cc nL ret d mc ms Q pc lv (v :: .ref a :: st) w k n := R_putF (C := RX9) (ref := RX9) (T := TX9) (ty0 := tyX9) (N := 49) (ci := 9) (j := 28) rfl inX9 tyX9_ok nmX9 (by decide) (by rw [hy]; exact w_862) rfl rfl (by rw [hy]; rfl) hini hn hf hdg he hl0 (by rw [hw]; exact kk)
theorem g_X9_90 {a : Nat} {fs : List Value} {v : Value} (hy : y.cls = RX9) (hdg : decode cc pc = .ok (.getfield 90, 3)) (he : w[a]? = some (.inr (9, fs))) (hv : fs[29]? = some v) (kk : R G l y cc nL ret d mc ms Q (pc + 3) lv (v :: st) w k n) : R G l y cc nL ret d mc ms Q pc lv (.ref a :: st) w k n := R_get (C := RX9) (ref := RX9) (T := TX9) (N := 49) (ci := 9) (j := 29) rfl inX9 (by decide) (by rw [hy]; exact w_863) rfl hdg he hv kk
theorem p_X9_90 {a : Nat} {fs : List Value} {v : Value} {w2 : VW} (hy : y.cls = RX9) (hini : y.name = "<init>") (hdg : decode cc pc = .ok (.putfield 90, 3)) (he : w[a]? = some (.inr (9, fs))) (hl0 : 29 < fs.length) (hn : narrow (tyX9 29) v = v) (hf : fits (tyX9 29) v = true) (hw : w.set a (.inr (9, fs.set 29 v)) = w2) (kk : R G l y cc nL ret d mc ms Q (pc + 3) lv st w2 k n) : R G l y cc nL ret d mc ms Q pc lv (v :: .ref a :: st) w k n := R_putF (C := RX9) (ref := RX9) (T := TX9) (ty0 := tyX9) (N := 49) (ci := 9) (j := 29) rfl inX9 tyX9_ok nmX9 (by decide) (by rw [hy]; exact w_863) rfl rfl (by rw [hy]; rfl) hini hn hf hdg he hl0 (by rw [hw]; exact kk)
theorem g_X9_93 {a : Nat} {fs : List Value} {v : Value} (hy : y.cls = RX9) (hdg : decode cc pc = .ok (.getfield 93, 3)) (he : w[a]? = some (.inr (9, fs))) (hv : fs[30]? = some v) (kk : R G l y cc nL ret d mc ms Q (pc + 3) lv (v :: st) w k n) : R G l y cc nL ret d mc ms Q pc lv (.ref a :: st) w k n := R_get (C := RX9) (ref := RX9) (T := TX9) (N := 49) (ci := 9) (j := 30) rfl inX9 (by decide) (by rw [hy]; exact w_864) rfl hdg he hv kk
theorem p_X9_93 {a : Nat} {fs : List Value} {v : Value} {w2 : VW} (hy : y.cls = RX9) (hini : y.name = "<init>") (hdg : decode cc pc = .ok (.putfield 93, 3)) (he : w[a]? = some (.inr (9, fs))) (hl0 : 30 < fs.length) (hn : narrow (tyX9 30) v = v) (hf : fits (tyX9 30) v = true) (hw : w.set a (.inr (9, fs.set 30 v)) = w2) (kk : R G l y cc nL ret d mc ms Q (pc + 3) lv st w2 k n) : R G l y cc nL ret d mc ms Q pc lv (v :: .ref a :: st) w k n := R_putF (C := RX9) (ref := RX9) (T := TX9) (ty0 := tyX9) (N := 49) (ci := 9) (j := 30) rfl inX9 tyX9_ok nmX9 (by decide) (by rw [hy]; exact w_864) rfl rfl (by rw [hy]; rfl) hini hn hf hdg he hl0 (by rw [hw]; exact kk)
theorem g_X9_96 {a : Nat} {fs : List Value} {v : Value} (hy : y.cls = RX9) (hdg : decode cc pc = .ok (.getfield 96, 3)) (he : w[a]? = some (.inr (9, fs))) (hv : fs[31]? = some v) (kk : R G l y cc nL ret d mc ms Q (pc + 3) lv (v :: st) w k n) : R G l y cc nL ret d mc ms Q pc lv (.ref a :: st) w k n := R_get (C := RX9) (ref := RX9) (T := TX9) (N := 49) (ci := 9) (j := 31) rfl inX9 (by decide) (by rw [hy]; exact w_865) rfl hdg he hv kk
theorem p_X9_96 {a : Nat} {fs : List Value} {v : Value} {w2 : VW} (hy : y.cls = RX9) (hini : y.name = "<init>") (hdg : decode cc pc = .ok (.putfield 96, 3)) (he : w[a]? = some (.inr (9, fs))) (hl0 : 31 < fs.length) (hn : narrow (tyX9 31) v = v) (hf : fits (tyX9 31) v = true) (hw : w.set a (.inr (9, fs.set 31 v)) = w2) (kk : R G l y cc nL ret d mc ms Q (pc + 3) lv st w2 k n) : R G l y cc nL ret d mc ms Q pc lv (v :: .ref a :: st) w k n := R_putF (C := RX9) (ref := RX9) (T := TX9) (ty0 := tyX9) (N := 49) (ci := 9) (j := 31) rfl inX9 tyX9_ok nmX9 (by decide) (by rw [hy]; exact w_865) rfl rfl (by rw [hy]; rfl) hini hn hf hdg he hl0 (by rw [hw]; exact kk)
theorem g_X9_204 {a : Nat} {fs : List Value} {v : Value} (hy : y.cls = RX9) (hdg : decode cc pc = .ok (.getfield 204, 3)) (he : w[a]? = some (.inr (9, fs))) (hv : fs[32]? = some v) (kk : R G l y cc nL ret d mc ms Q (pc + 3) lv (v :: st) w k n) : R G l y cc nL ret d mc ms Q pc lv (.ref a :: st) w k n := R_get (C := RX9) (ref := RX9) (T := TX9) (N := 49) (ci := 9) (j := 32) rfl inX9 (by decide) (by rw [hy]; exact w_866) rfl hdg he hv kk
theorem p_X9_204 {a : Nat} {fs : List Value} {v : Value} {w2 : VW} (hy : y.cls = RX9) (hdg : decode cc pc = .ok (.putfield 204, 3)) (he : w[a]? = some (.inr (9, fs))) (hl0 : 32 < fs.length) (hn : narrow (tyX9 32) v = v) (hf : fits (tyX9 32) v = true) (hw : w.set a (.inr (9, fs.set 32 v)) = w2) (kk : R G l y cc nL ret d mc ms Q (pc + 3) lv st w2 k n) : R G l y cc nL ret d mc ms Q pc lv (v :: .ref a :: st) w k n := R_put (C := RX9) (ref := RX9) (T := TX9) (ty0 := tyX9) (N := 49) (ci := 9) (j := 32) rfl inX9 tyX9_ok nmX9 (by decide) (by rw [hy]; exact w_866) rfl rfl hn hf hdg he hl0 (by rw [hw]; exact kk)
theorem g_X9_99 {a : Nat} {fs : List Value} {v : Value} (hy : y.cls = RX9) (hdg : decode cc pc = .ok (.getfield 99, 3)) (he : w[a]? = some (.inr (9, fs))) (hv : fs[33]? = some v) (kk : R G l y cc nL ret d mc ms Q (pc + 3) lv (v :: st) w k n) : R G l y cc nL ret d mc ms Q pc lv (.ref a :: st) w k n := R_get (C := RX9) (ref := RX9) (T := TX9) (N := 49) (ci := 9) (j := 33) rfl inX9 (by decide) (by rw [hy]; exact w_867) rfl hdg he hv kk
theorem p_X9_99 {a : Nat} {fs : List Value} {v : Value} {w2 : VW} (hy : y.cls = RX9) (hini : y.name = "<init>") (hdg : decode cc pc = .ok (.putfield 99, 3)) (he : w[a]? = some (.inr (9, fs))) (hl0 : 33 < fs.length) (hn : narrow (tyX9 33) v = v) (hf : fits (tyX9 33) v = true) (hw : w.set a (.inr (9, fs.set 33 v)) = w2) (kk : R G l y cc nL ret d mc ms Q (pc + 3) lv st w2 k n) : R G l y cc nL ret d mc ms Q pc lv (v :: .ref a :: st) w k n := R_putF (C := RX9) (ref := RX9) (T := TX9) (ty0 := tyX9) (N := 49) (ci := 9) (j := 33) rfl inX9 tyX9_ok nmX9 (by decide) (by rw [hy]; exact w_867) rfl rfl (by rw [hy]; rfl) hini hn hf hdg he hl0 (by rw [hw]; exact kk)
theorem g_X9_232 {a : Nat} {fs : List Value} {v : Value} (hy : y.cls = RX9) (hdg : decode cc pc = .ok (.getfield 232, 3)) (he : w[a]? = some (.inr (9, fs))) (hv : fs[34]? = some v) (kk : R G l y cc nL ret d mc ms Q (pc + 3) lv (v :: st) w k n) : R G l y cc nL ret d mc ms Q pc lv (.ref a :: st) w k n := R_get (C := RX9) (ref := RX9) (T := TX9) (N := 49) (ci := 9) (j := 34) rfl inX9 (by decide) (by rw [hy]; exact w_868) rfl hdg he hv kk
theorem p_X9_232 {a : Nat} {fs : List Value} {v : Value} {w2 : VW} (hy : y.cls = RX9) (hdg : decode cc pc = .ok (.putfield 232, 3)) (he : w[a]? = some (.inr (9, fs))) (hl0 : 34 < fs.length) (hn : narrow (tyX9 34) v = v) (hf : fits (tyX9 34) v = true) (hw : w.set a (.inr (9, fs.set 34 v)) = w2) (kk : R G l y cc nL ret d mc ms Q (pc + 3) lv st w2 k n) : R G l y cc nL ret d mc ms Q pc lv (v :: .ref a :: st) w k n := R_put (C := RX9) (ref := RX9) (T := TX9) (ty0 := tyX9) (N := 49) (ci := 9) (j := 34) rfl inX9 tyX9_ok nmX9 (by decide) (by rw [hy]; exact w_868) rfl rfl hn hf hdg he hl0 (by rw [hw]; exact kk)
theorem g_X9_102 {a : Nat} {fs : List Value} {v : Value} (hy : y.cls = RX9) (hdg : decode cc pc = .ok (.getfield 102, 3)) (he : w[a]? = some (.inr (9, fs))) (hv : fs[35]? = some v) (kk : R G l y cc nL ret d mc ms Q (pc + 3) lv (v :: st) w k n) : R G l y cc nL ret d mc ms Q pc lv (.ref a :: st) w k n := R_get (C := RX9) (ref := RX9) (T := TX9) (N := 49) (ci := 9) (j := 35) rfl inX9 (by decide) (by rw [hy]; exact w_869) rfl hdg he hv kk
theorem p_X9_102 {a : Nat} {fs : List Value} {v : Value} {w2 : VW} (hy : y.cls = RX9) (hini : y.name = "<init>") (hdg : decode cc pc = .ok (.putfield 102, 3)) (he : w[a]? = some (.inr (9, fs))) (hl0 : 35 < fs.length) (hn : narrow (tyX9 35) v = v) (hf : fits (tyX9 35) v = true) (hw : w.set a (.inr (9, fs.set 35 v)) = w2) (kk : R G l y cc nL ret d mc ms Q (pc + 3) lv st w2 k n) : R G l y cc nL ret d mc ms Q pc lv (v :: .ref a :: st) w k n := R_putF (C := RX9) (ref := RX9) (T := TX9) (ty0 := tyX9) (N := 49) (ci := 9) (j := 35) rfl inX9 tyX9_ok nmX9 (by decide) (by rw [hy]; exact w_869) rfl rfl (by rw [hy]; rfl) hini hn hf hdg he hl0 (by rw [hw]; exact kk)
theorem g_X9_105 {a : Nat} {fs : List Value} {v : Value} (hy : y.cls = RX9) (hdg : decode cc pc = .ok (.getfield 105, 3)) (he : w[a]? = some (.inr (9, fs))) (hv : fs[36]? = some v) (kk : R G l y cc nL ret d mc ms Q (pc + 3) lv (v :: st) w k n) : R G l y cc nL ret d mc ms Q pc lv (.ref a :: st) w k n := R_get (C := RX9) (ref := RX9) (T := TX9) (N := 49) (ci := 9) (j := 36) rfl inX9 (by decide) (by rw [hy]; exact w_870) rfl hdg he hv kk
theorem p_X9_105 {a : Nat} {fs : List Value} {v : Value} {w2 : VW} (hy : y.cls = RX9) (hini : y.name = "<init>") (hdg : decode cc pc = .ok (.putfield 105, 3)) (he : w[a]? = some (.inr (9, fs))) (hl0 : 36 < fs.length) (hn : narrow (tyX9 36) v = v) (hf : fits (tyX9 36) v = true) (hw : w.set a (.inr (9, fs.set 36 v)) = w2) (kk : R G l y cc nL ret d mc ms Q (pc + 3) lv st w2 k n) : R G l y cc nL ret d mc ms Q pc lv (v :: .ref a :: st) w k n := R_putF (C := RX9) (ref := RX9) (T := TX9) (ty0 := tyX9) (N := 49) (ci := 9) (j := 36) rfl inX9 tyX9_ok nmX9 (by decide) (by rw [hy]; exact w_870) rfl rfl (by rw [hy]; rfl) hini hn hf hdg he hl0 (by rw [hw]; exact kk)
theorem g_X9_254 {a : Nat} {fs : List Value} {v : Value} (hy : y.cls = RX9) (hdg : decode cc pc = .ok (.getfield 254, 3)) (he : w[a]? = some (.inr (9, fs))) (hv : fs[37]? = some v) (kk : R G l y cc nL ret d mc ms Q (pc + 3) lv (v :: st) w k n) : R G l y cc nL ret d mc ms Q pc lv (.ref a :: st) w k n := R_get (C := RX9) (ref := RX9) (T := TX9) (N := 49) (ci := 9) (j := 37) rfl inX9 (by decide) (by rw [hy]; exact w_871) rfl hdg he hv kk
theorem p_X9_254 {a : Nat} {fs : List Value} {v : Value} {w2 : VW} (hy : y.cls = RX9) (hdg : decode cc pc = .ok (.putfield 254, 3)) (he : w[a]? = some (.inr (9, fs))) (hl0 : 37 < fs.length) (hn : narrow (tyX9 37) v = v) (hf : fits (tyX9 37) v = true) (hw : w.set a (.inr (9, fs.set 37 v)) = w2) (kk : R G l y cc nL ret d mc ms Q (pc + 3) lv st w2 k n) : R G l y cc nL ret d mc ms Q pc lv (v :: .ref a :: st) w k n := R_put (C := RX9) (ref := RX9) (T := TX9) (ty0 := tyX9) (N := 49) (ci := 9) (j := 37) rfl inX9 tyX9_ok nmX9 (by decide) (by rw [hy]; exact w_871) rfl rfl hn hf hdg he hl0 (by rw [hw]; exact kk)
theorem g_X9_108 {a : Nat} {fs : List Value} {v : Value} (hy : y.cls = RX9) (hdg : decode cc pc = .ok (.getfield 108, 3)) (he : w[a]? = some (.inr (9, fs))) (hv : fs[38]? = some v) (kk : R G l y cc nL ret d mc ms Q (pc + 3) lv (v :: st) w k n) : R G l y cc nL ret d mc ms Q pc lv (.ref a :: st) w k n := R_get (C := RX9) (ref := RX9) (T := TX9) (N := 49) (ci := 9) (j := 38) rfl inX9 (by decide) (by rw [hy]; exact w_872) rfl hdg he hv kk
theorem p_X9_108 {a : Nat} {fs : List Value} {v : Value} {w2 : VW} (hy : y.cls = RX9) (hini : y.name = "<init>") (hdg : decode cc pc = .ok (.putfield 108, 3)) (he : w[a]? = some (.inr (9, fs))) (hl0 : 38 < fs.length) (hn : narrow (tyX9 38) v = v) (hf : fits (tyX9 38) v = true) (hw : w.set a (.inr (9, fs.set 38 v)) = w2) (kk : R G l y cc nL ret d mc ms Q (pc + 3) lv st w2 k n) : R G l y cc nL ret d mc ms Q pc lv (v :: .ref a :: st) w k n := R_putF (C := RX9) (ref := RX9) (T := TX9) (ty0 := tyX9) (N := 49) (ci := 9) (j := 38) rfl inX9 tyX9_ok nmX9 (by decide) (by rw [hy]; exact w_872) rfl rfl (by rw [hy]; rfl) hini hn hf hdg he hl0 (by rw [hw]; exact kk)
theorem g_X9_257 {a : Nat} {fs : List Value} {v : Value} (hy : y.cls = RX9) (hdg : decode cc pc = .ok (.getfield 257, 3)) (he : w[a]? = some (.inr (9, fs))) (hv : fs[39]? = some v) (kk : R G l y cc nL ret d mc ms Q (pc + 3) lv (v :: st) w k n) : R G l y cc nL ret d mc ms Q pc lv (.ref a :: st) w k n := R_get (C := RX9) (ref := RX9) (T := TX9) (N := 49) (ci := 9) (j := 39) rfl inX9 (by decide) (by rw [hy]; exact w_873) rfl hdg he hv kk
theorem p_X9_257 {a : Nat} {fs : List Value} {v : Value} {w2 : VW} (hy : y.cls = RX9) (hdg : decode cc pc = .ok (.putfield 257, 3)) (he : w[a]? = some (.inr (9, fs))) (hl0 : 39 < fs.length) (hn : narrow (tyX9 39) v = v) (hf : fits (tyX9 39) v = true) (hw : w.set a (.inr (9, fs.set 39 v)) = w2) (kk : R G l y cc nL ret d mc ms Q (pc + 3) lv st w2 k n) : R G l y cc nL ret d mc ms Q pc lv (v :: .ref a :: st) w k n := R_put (C := RX9) (ref := RX9) (T := TX9) (ty0 := tyX9) (N := 49) (ci := 9) (j := 39) rfl inX9 tyX9_ok nmX9 (by decide) (by rw [hy]; exact w_873) rfl rfl hn hf hdg he hl0 (by rw [hw]; exact kk)
theorem g_X9_260 {a : Nat} {fs : List Value} {v : Value} (hy : y.cls = RX9) (hdg : decode cc pc = .ok (.getfield 260, 3)) (he : w[a]? = some (.inr (9, fs))) (hv : fs[40]? = some v) (kk : R G l y cc nL ret d mc ms Q (pc + 3) lv (v :: st) w k n) : R G l y cc nL ret d mc ms Q pc lv (.ref a :: st) w k n := R_get (C := RX9) (ref := RX9) (T := TX9) (N := 49) (ci := 9) (j := 40) rfl inX9 (by decide) (by rw [hy]; exact w_874) rfl hdg he hv kk
theorem p_X9_260 {a : Nat} {fs : List Value} {v : Value} {w2 : VW} (hy : y.cls = RX9) (hdg : decode cc pc = .ok (.putfield 260, 3)) (he : w[a]? = some (.inr (9, fs))) (hl0 : 40 < fs.length) (hn : narrow (tyX9 40) v = v) (hf : fits (tyX9 40) v = true) (hw : w.set a (.inr (9, fs.set 40 v)) = w2) (kk : R G l y cc nL ret d mc ms Q (pc + 3) lv st w2 k n) : R G l y cc nL ret d mc ms Q pc lv (v :: .ref a :: st) w k n := R_put (C := RX9) (ref := RX9) (T := TX9) (ty0 := tyX9) (N := 49) (ci := 9) (j := 40) rfl inX9 tyX9_ok nmX9 (by decide) (by rw [hy]; exact w_874) rfl rfl hn hf hdg he hl0 (by rw [hw]; exact kk)
theorem g_X9_271 {a : Nat} {fs : List Value} {v : Value} (hy : y.cls = RX9) (hdg : decode cc pc = .ok (.getfield 271, 3)) (he : w[a]? = some (.inr (9, fs))) (hv : fs[41]? = some v) (kk : R G l y cc nL ret d mc ms Q (pc + 3) lv (v :: st) w k n) : R G l y cc nL ret d mc ms Q pc lv (.ref a :: st) w k n := R_get (C := RX9) (ref := RX9) (T := TX9) (N := 49) (ci := 9) (j := 41) rfl inX9 (by decide) (by rw [hy]; exact w_875) rfl hdg he hv kk
theorem p_X9_271 {a : Nat} {fs : List Value} {v : Value} {w2 : VW} (hy : y.cls = RX9) (hdg : decode cc pc = .ok (.putfield 271, 3)) (he : w[a]? = some (.inr (9, fs))) (hl0 : 41 < fs.length) (hn : narrow (tyX9 41) v = v) (hf : fits (tyX9 41) v = true) (hw : w.set a (.inr (9, fs.set 41 v)) = w2) (kk : R G l y cc nL ret d mc ms Q (pc + 3) lv st w2 k n) : R G l y cc nL ret d mc ms Q pc lv (v :: .ref a :: st) w k n := R_put (C := RX9) (ref := RX9) (T := TX9) (ty0 := tyX9) (N := 49) (ci := 9) (j := 41) rfl inX9 tyX9_ok nmX9 (by decide) (by rw [hy]; exact w_875) rfl rfl hn hf hdg he hl0 (by rw [hw]; exact kk)
theorem g_X9_263 {a : Nat} {fs : List Value} {v : Value} (hy : y.cls = RX9) (hdg : decode cc pc = .ok (.getfield 263, 3)) (he : w[a]? = some (.inr (9, fs))) (hv : fs[42]? = some v) (kk : R G l y cc nL ret d mc ms Q (pc + 3) lv (v :: st) w k n) : R G l y cc nL ret d mc ms Q pc lv (.ref a :: st) w k n := R_get (C := RX9) (ref := RX9) (T := TX9) (N := 49) (ci := 9) (j := 42) rfl inX9 (by decide) (by rw [hy]; exact w_876) rfl hdg he hv kk
theorem p_X9_263 {a : Nat} {fs : List Value} {v : Value} {w2 : VW} (hy : y.cls = RX9) (hdg : decode cc pc = .ok (.putfield 263, 3)) (he : w[a]? = some (.inr (9, fs))) (hl0 : 42 < fs.length) (hn : narrow (tyX9 42) v = v) (hf : fits (tyX9 42) v = true) (hw : w.set a (.inr (9, fs.set 42 v)) = w2) (kk : R G l y cc nL ret d mc ms Q (pc + 3) lv st w2 k n) : R G l y cc nL ret d mc ms Q pc lv (v :: .ref a :: st) w k n := R_put (C := RX9) (ref := RX9) (T := TX9) (ty0 := tyX9) (N := 49) (ci := 9) (j := 42) rfl inX9 tyX9_ok nmX9 (by decide) (by rw [hy]; exact w_876) rfl rfl hn hf hdg he hl0 (by rw [hw]; exact kk)
theorem g_X9_266 {a : Nat} {fs : List Value} {v : Value} (hy : y.cls = RX9) (hdg : decode cc pc = .ok (.getfield 266, 3)) (he : w[a]? = some (.inr (9, fs))) (hv : fs[43]? = some v) (kk : R G l y cc nL ret d mc ms Q (pc + 3) lv (v :: st) w k n) : R G l y cc nL ret d mc ms Q pc lv (.ref a :: st) w k n := R_get (C := RX9) (ref := RX9) (T := TX9) (N := 49) (ci := 9) (j := 43) rfl inX9 (by decide) (by rw [hy]; exact w_877) rfl hdg he hv kk
theorem p_X9_266 {a : Nat} {fs : List Value} {v : Value} {w2 : VW} (hy : y.cls = RX9) (hdg : decode cc pc = .ok (.putfield 266, 3)) (he : w[a]? = some (.inr (9, fs))) (hl0 : 43 < fs.length) (hn : narrow (tyX9 43) v = v) (hf : fits (tyX9 43) v = true) (hw : w.set a (.inr (9, fs.set 43 v)) = w2) (kk : R G l y cc nL ret d mc ms Q (pc + 3) lv st w2 k n) : R G l y cc nL ret d mc ms Q pc lv (v :: .ref a :: st) w k n := R_put (C := RX9) (ref := RX9) (T := TX9) (ty0 := tyX9) (N := 49) (ci := 9) (j := 43) rfl inX9 tyX9_ok nmX9 (by decide) (by rw [hy]; exact w_877) rfl rfl hn hf hdg he hl0 (by rw [hw]; exact kk)
theorem g_X9_282 {a : Nat} {fs : List Value} {v : Value} (hy : y.cls = RX9) (hdg : decode cc pc = .ok (.getfield 282, 3)) (he : w[a]? = some (.inr (9, fs))) (hv : fs[44]? = some v) (kk : R G l y cc nL ret d mc ms Q (pc + 3) lv (v :: st) w k n) : R G l y cc nL ret d mc ms Q pc lv (.ref a :: st) w k n := R_get (C := RX9) (ref := RX9) (T := TX9) (N := 49) (ci := 9) (j := 44) rfl inX9 (by decide) (by rw [hy]; exact w_878) rfl hdg he hv kk
theorem p_X9_282 {a : Nat} {fs : List Value} {v : Value} {w2 : VW} (hy : y.cls = RX9) (hdg : decode cc pc = .ok (.putfield 282, 3)) (he : w[a]? = some (.inr (9, fs))) (hl0 : 44 < fs.length) (hn : narrow (tyX9 44) v = v) (hf : fits (tyX9 44) v = true) (hw : w.set a (.inr (9, fs.set 44 v)) = w2) (kk : R G l y cc nL ret d mc ms Q (pc + 3) lv st w2 k n) : R G l y cc nL ret d mc ms Q pc lv (v :: .ref a :: st) w k n := R_put (C := RX9) (ref := RX9) (T := TX9) (ty0 := tyX9) (N := 49) (ci := 9) (j := 44) rfl inX9 tyX9_ok nmX9 (by decide) (by rw [hy]; exact w_878) rfl rfl hn hf hdg he hl0 (by rw [hw]; exact kk)
theorem g_X9_309 {a : Nat} {fs : List Value} {v : Value} (hy : y.cls = RX9) (hdg : decode cc pc = .ok (.getfield 309, 3)) (he : w[a]? = some (.inr (9, fs))) (hv : fs[45]? = some v) (kk : R G l y cc nL ret d mc ms Q (pc + 3) lv (v :: st) w k n) : R G l y cc nL ret d mc ms Q pc lv (.ref a :: st) w k n := R_get (C := RX9) (ref := RX9) (T := TX9) (N := 49) (ci := 9) (j := 45) rfl inX9 (by decide) (by rw [hy]; exact w_879) rfl hdg he hv kk
theorem p_X9_309 {a : Nat} {fs : List Value} {v : Value} {w2 : VW} (hy : y.cls = RX9) (hdg : decode cc pc = .ok (.putfield 309, 3)) (he : w[a]? = some (.inr (9, fs))) (hl0 : 45 < fs.length) (hn : narrow (tyX9 45) v = v) (hf : fits (tyX9 45) v = true) (hw : w.set a (.inr (9, fs.set 45 v)) = w2) (kk : R G l y cc nL ret d mc ms Q (pc + 3) lv st w2 k n) : R G l y cc nL ret d mc ms Q pc lv (v :: .ref a :: st) w k n := R_put (C := RX9) (ref := RX9) (T := TX9) (ty0 := tyX9) (N := 49) (ci := 9) (j := 45) rfl inX9 tyX9_ok nmX9 (by decide) (by rw [hy]; exact w_879) rfl rfl hn hf hdg he hl0 (by rw [hw]; exact kk)
theorem g_X9_111 {a : Nat} {fs : List Value} {v : Value} (hy : y.cls = RX9) (hdg : decode cc pc = .ok (.getfield 111, 3)) (he : w[a]? = some (.inr (9, fs))) (hv : fs[46]? = some v) (kk : R G l y cc nL ret d mc ms Q (pc + 3) lv (v :: st) w k n) : R G l y cc nL ret d mc ms Q pc lv (.ref a :: st) w k n := R_get (C := RX9) (ref := RX9) (T := TX9) (N := 49) (ci := 9) (j := 46) rfl inX9 (by decide) (by rw [hy]; exact w_880) rfl hdg he hv kk
theorem p_X9_111 {a : Nat} {fs : List Value} {v : Value} {w2 : VW} (hy : y.cls = RX9) (hini : y.name = "<init>") (hdg : decode cc pc = .ok (.putfield 111, 3)) (he : w[a]? = some (.inr (9, fs))) (hl0 : 46 < fs.length) (hn : narrow (tyX9 46) v = v) (hf : fits (tyX9 46) v = true) (hw : w.set a (.inr (9, fs.set 46 v)) = w2) (kk : R G l y cc nL ret d mc ms Q (pc + 3) lv st w2 k n) : R G l y cc nL ret d mc ms Q pc lv (v :: .ref a :: st) w k n := R_putF (C := RX9) (ref := RX9) (T := TX9) (ty0 := tyX9) (N := 49) (ci := 9) (j := 46) rfl inX9 tyX9_ok nmX9 (by decide) (by rw [hy]; exact w_880) rfl rfl (by rw [hy]; rfl) hini hn hf hdg he hl0 (by rw [hw]; exact kk)
theorem g_X9_215 {a : Nat} {fs : List Value} {v : Value} (hy : y.cls = RX9) (hdg : decode cc pc = .ok (.getfield 215, 3)) (he : w[a]? = some (.inr (9, fs))) (hv : fs[47]? = some v) (kk : R G l y cc nL ret d mc ms Q (pc + 3) lv (v :: st) w k n) : R G l y cc nL ret d mc ms Q pc lv (.ref a :: st) w k n := R_get (C := RX9) (ref := RX9) (T := TX9) (N := 49) (ci := 9) (j := 47) rfl inX9 (by decide) (by rw [hy]; exact w_881) rfl hdg he hv kk
theorem p_X9_215 {a : Nat} {fs : List Value} {v : Value} {w2 : VW} (hy : y.cls = RX9) (hdg : decode cc pc = .ok (.putfield 215, 3)) (he : w[a]? = some (.inr (9, fs))) (hl0 : 47 < fs.length) (hn : narrow (tyX9 47) v = v) (hf : fits (tyX9 47) v = true) (hw : w.set a (.inr (9, fs.set 47 v)) = w2) (kk : R G l y cc nL ret d mc ms Q (pc + 3) lv st w2 k n) : R G l y cc nL ret d mc ms Q pc lv (v :: .ref a :: st) w k n := R_put (C := RX9) (ref := RX9) (T := TX9) (ty0 := tyX9) (N := 49) (ci := 9) (j := 47) rfl inX9 tyX9_ok nmX9 (by decide) (by rw [hy]; exact w_881) rfl rfl hn hf hdg he hl0 (by rw [hw]; exact kk)
theorem g_X9_114 {a : Nat} {fs : List Value} {v : Value} (hy : y.cls = RX9) (hdg : decode cc pc = .ok (.getfield 114, 3)) (he : w[a]? = some (.inr (9, fs))) (hv : fs[48]? = some v) (kk : R G l y cc nL ret d mc ms Q (pc + 3) lv (v :: st) w k n) : R G l y cc nL ret d mc ms Q pc lv (.ref a :: st) w k n := R_get (C := RX9) (ref := RX9) (T := TX9) (N := 49) (ci := 9) (j := 48) rfl inX9 (by decide) (by rw [hy]; exact w_882) rfl hdg he hv kk
theorem p_X9_114 {a : Nat} {fs : List Value} {v : Value} {w2 : VW} (hy : y.cls = RX9) (hini : y.name = "<init>") (hdg : decode cc pc = .ok (.putfield 114, 3)) (he : w[a]? = some (.inr (9, fs))) (hl0 : 48 < fs.length) (hn : narrow (tyX9 48) v = v) (hf : fits (tyX9 48) v = true) (hw : w.set a (.inr (9, fs.set 48 v)) = w2) (kk : R G l y cc nL ret d mc ms Q (pc + 3) lv st w2 k n) : R G l y cc nL ret d mc ms Q pc lv (v :: .ref a :: st) w k n := R_putF (C := RX9) (ref := RX9) (T := TX9) (ty0 := tyX9) (N := 49) (ci := 9) (j := 48) rfl inX9 tyX9_ok nmX9 (by decide) (by rw [hy]; exact w_882) rfl rfl (by rw [hy]; rfl) hini hn hf hdg he hl0 (by rw [hw]; exact kk)
theorem k_L_9 {b : Nat} {d2 mc2 ms2 : Nat} {post : VW → Prop} (hM : Sp G l yX8_init cX8_init 1 none d2 mc2 ms2 [.ref b] w (QV post)) (hy : y.cls = "ViewCardsLaw") (hdl : d2 < d) (hk : k + mc2 ≤ mc) (hn : n + ms2 ≤ ms) (hst : (st.map fun v => v.category).sum ≤ 8) (hdg : decode cc pc = .ok (.invokespecial 9, 3)) (kk : ∀ (w2 : VW), post w2 → R G l y cc nL ret d mc ms Q (pc + 3) lv st w2 (k + mc2) (n + ms2)) : R G l y cc nL ret d mc ms Q pc lv (.ref b :: st) w k n := R_callI (as := []) hM w_22 (by rw [hy]; exact w_20) w_21 w_1 rfl ⟨by decide, by decide, by rfl⟩ hdl (by decide) hk hn hst hdg (fun r w2 h => by obtain ⟨rfl, h⟩ := h; exact kk w2 h)
theorem k_X8_18 {v0 : Value} {b : Nat} {d2 mc2 ms2 : Nat} {post : VW → Prop} (hM : Sp G l yX3_init cX3_init 2 none d2 mc2 ms2 [.ref b, v0] w (QV post)) (hy : y.cls = RX8) (hdl : d2 < d) (hk : k + mc2 ≤ mc) (hn : n + ms2 ≤ ms) (hst : (st.map fun v => v.category).sum ≤ 8) (hdg : decode cc pc = .ok (.invokespecial 18, 3)) (kk : ∀ (w2 : VW), post w2 → R G l y cc nL ret d mc ms Q (pc + 3) lv st w2 (k + mc2) (n + ms2)) : R G l y cc nL ret d mc ms Q pc lv (v0 :: .ref b :: st) w k n := R_callI (as := [v0]) hM w_102 (by rw [hy]; exact w_100) w_101 w_3 rfl ⟨by decide, by decide, by rfl⟩ hdl (by decide) hk hn hst hdg (fun r w2 h => by obtain ⟨rfl, h⟩ := h; exact kk w2 h)
theorem k_X8_27 {v0 : Value} {b : Nat} {d2 mc2 ms2 : Nat} {post : VW → Prop} (hM : Sp G l yX5_init cX5_init 2 none d2 mc2 ms2 [.ref b, v0] w (QV post)) (hy : y.cls = RX8) (hdl : d2 < d) (hk : k + mc2 ≤ mc) (hn : n + ms2 ≤ ms) (hst : (st.map fun v => v.category).sum ≤ 8) (hdg : decode cc pc = .ok (.invokespecial 27, 3)) (kk : ∀ (w2 : VW), post w2 → R G l y cc nL ret d mc ms Q (pc + 3) lv st w2 (k + mc2) (n + ms2)) : R G l y cc nL ret d mc ms Q pc lv (v0 :: .ref b :: st) w k n := R_callI (as := [v0]) hM w_129 (by rw [hy]; exact w_127) w_128 w_4 rfl ⟨by decide, by decide, by rfl⟩ hdl (by decide) hk hn hst hdg (fun r w2 h => by obtain ⟨rfl, h⟩ := h; exact kk w2 h)
theorem k_X8_34 {v0 v1 : Value} {b : Nat} {d2 mc2 ms2 : Nat} {post : VW → Prop} (hM : Sp G l yX1_init cX1_init 5 none d2 mc2 ms2 [.ref b, v0, v1] w (QV post)) (hy : y.cls = RX8) (hdl : d2 < d) (hk : k + mc2 ≤ mc) (hn : n + ms2 ≤ ms) (hst : (st.map fun v => v.category).sum ≤ 8) (hdg : decode cc pc = .ok (.invokespecial 34, 3)) (kk : ∀ (w2 : VW), post w2 → R G l y cc nL ret d mc ms Q (pc + 3) lv st w2 (k + mc2) (n + ms2)) : R G l y cc nL ret d mc ms Q pc lv (v1 :: v0 :: .ref b :: st) w k n := R_callI (as := [v0, v1]) hM w_155 (by rw [hy]; exact w_153) w_154 w_5 rfl ⟨by decide, by decide, by rfl⟩ hdl (by decide) hk hn hst hdg (fun r w2 h => by obtain ⟨rfl, h⟩ := h; exact kk w2 h)
theorem k_X8_43 {b : Nat} {d2 mc2 ms2 : Nat} {post : VW → Prop} (hM : Sp G l yX2_init cX2_init 2 none d2 mc2 ms2 [.ref b] w (QV post)) (hy : y.cls = RX8) (hdl : d2 < d) (hk : k + mc2 ≤ mc) (hn : n + ms2 ≤ ms) (hst : (st.map fun v => v.category).sum ≤ 8) (hdg : decode cc pc = .ok (.invokespecial 43, 3)) (kk : ∀ (w2 : VW), post w2 → R G l y cc nL ret d mc ms Q (pc + 3) lv st w2 (k + mc2) (n + ms2)) : R G l y cc nL ret d mc ms Q pc lv (.ref b :: st) w k n := R_callI (as := []) hM w_234 (by rw [hy]; exact w_232) w_233 w_7 rfl ⟨by decide, by decide, by rfl⟩ hdl (by decide) hk hn hst hdg (fun r w2 h => by obtain ⟨rfl, h⟩ := h; exact kk w2 h)
theorem k_L_15 {v0 v1 v2 v3 v4 v5 v6 : Value} {b : Nat} {d2 mc2 ms2 : Nat} {post : Int32 → VW → Prop} {fs : List Value} (hM : Sp G l yX8_card cX8_card 10 (some .int) d2 mc2 ms2 [.ref b, v0, v1, v2, v3, v4, v5, v6] w (QI post)) (hy : y.cls = "ViewCardsLaw") (he : w[b]? = some (.inr (8, fs))) (hdl : d2 < d) (hk : k + mc2 ≤ mc) (hn : n + ms2 ≤ ms) (hst : (st.map fun v => v.category).sum ≤ 8) (hdg : decode cc pc = .ok (.invokevirtual 15, 3)) (kk : ∀ (x : Int32) (w2 : VW), post x w2 → R G l y cc nL ret d mc ms Q (pc + 3) lv (.int x :: st) w2 (k + mc2) (n + ms2)) : R G l y cc nL ret d mc ms Q pc lv (v6 :: v5 :: v4 :: v3 :: v2 :: v1 :: v0 :: .ref b :: st) w k n := R_callV (as := [v0, v1, v2, v3, v4, v5, v6]) (ci := 8) hM w_354 (by rw [hy]; exact w_351) w_352 w_353 w_1 ⟨by decide, by decide, by rfl⟩ hdl (by decide) hk hn hst rfl rfl he hdg (fun r w2 h => by obtain ⟨x, rfl, h⟩ := h; exact kk x w2 h)
theorem k_X8_72 {v0 v1 v2 : Value} {d2 mc2 ms2 : Nat} {post : Int32 → VW → Prop} (hM : Sp G l yX8_isWithin cX8_isWithin 3 (some .boolean) d2 mc2 ms2 [v0, v1, v2] w (QI post)) (hy : y.cls = RX8) (hdl : d2 < d) (hk : k + mc2 ≤ mc) (hn : n + ms2 ≤ ms) (hst : (st.map fun v => v.category).sum ≤ 8) (hdg : decode cc pc = .ok (.invokestatic 72, 3)) (kk : ∀ (x : Int32) (w2 : VW), post x w2 → R G l y cc nL ret d mc ms Q (pc + 3) lv (.int x :: st) w2 (k + mc2) (n + ms2)) : R G l y cc nL ret d mc ms Q pc lv (v2 :: v1 :: v0 :: st) w k n := R_callS (as := [v0, v1, v2]) hM w_357 (by rw [hy]; exact w_355) w_356 w_1 ⟨by decide, by decide, by rfl⟩ hdl (by decide) hk hn hst hdg (fun r w2 h => by obtain ⟨x, rfl, h⟩ := h; exact kk x w2 h)
theorem k_X8_79 {v0 v1 v2 v3 v4 v5 v6 : Value} {b : Nat} {d2 mc2 ms2 : Nat} {post : VW → Prop} {fs : List Value} (hM : Sp G l yX0_tell cX0_tell 9 none d2 mc2 ms2 [.ref b, v0, v1, v2, v3, v4, v5, v6] w (QV post)) (hy : y.cls = RX8) (he : w[b]? = some (.inr (0, fs))) (hdl : d2 < d) (hk : k + mc2 ≤ mc) (hn : n + ms2 ≤ ms) (hst : (st.map fun v => v.category).sum ≤ 8) (hdg : decode cc pc = .ok (.invokevirtual 79, 3)) (kk : ∀ (w2 : VW), post w2 → R G l y cc nL ret d mc ms Q (pc + 3) lv st w2 (k + mc2) (n + ms2)) : R G l y cc nL ret d mc ms Q pc lv (v6 :: v5 :: v4 :: v3 :: v2 :: v1 :: v0 :: .ref b :: st) w k n := R_callV (as := [v0, v1, v2, v3, v4, v5, v6]) (ci := 0) hM w_361 (by rw [hy]; exact w_358) w_359 w_360 w_2 ⟨by decide, by decide, by rfl⟩ hdl (by decide) hk hn hst rfl rfl he hdg (fun r w2 h => by obtain ⟨rfl, h⟩ := h; exact kk w2 h)
theorem k_X8_83 {v0 : Value} {b : Nat} {d2 mc2 ms2 : Nat} {post : VW → Prop} {fs : List Value} (hM : Sp G l yX3_comparePicture cX3_comparePicture 4 none d2 mc2 ms2 [.ref b, v0] w (QV post)) (hy : y.cls = RX8) (he : w[b]? = some (.inr (3, fs))) (hdl : d2 < d) (hk : k + mc2 ≤ mc) (hn : n + ms2 ≤ ms) (hst : (st.map fun v => v.category).sum ≤ 8) (hdg : decode cc pc = .ok (.invokevirtual 83, 3)) (kk : ∀ (w2 : VW), post w2 → R G l y cc nL ret d mc ms Q (pc + 3) lv st w2 (k + mc2) (n + ms2)) : R G l y cc nL ret d mc ms Q pc lv (v0 :: .ref b :: st) w k n := R_callV (as := [v0]) (ci := 3) hM w_365 (by rw [hy]; exact w_362) w_363 w_364 w_3 ⟨by decide, by decide, by rfl⟩ hdl (by decide) hk hn hst rfl rfl he hdg (fun r w2 h => by obtain ⟨rfl, h⟩ := h; exact kk w2 h)
theorem k_X3_36 {v0 v1 : Value} {b : Nat} {d2 mc2 ms2 : Nat} {post : Int32 → VW → Prop} {fs : List Value} (hM : Sp G l yX3_fewestOtherwise cX3_fewestOtherwise 11 (some .int) d2 mc2 ms2 [.ref b, v0, v1] w (QI post)) (hy : y.cls = RX3) (he : w[b]? = some (.inr (3, fs))) (hdl : d2 < d) (hk : k + mc2 ≤ mc) (hn : n + ms2 ≤ ms) (hst : (st.map fun v => v.category).sum ≤ 8) (hdg : decode cc pc = .ok (.invokevirtual 36, 3)) (kk : ∀ (x : Int32) (w2 : VW), post x w2 → R G l y cc nL ret d mc ms Q (pc + 3) lv (.int x :: st) w2 (k + mc2) (n + ms2)) : R G l y cc nL ret d mc ms Q pc lv (v1 :: v0 :: .ref b :: st) w k n := R_callV (as := [v0, v1]) (ci := 3) hM w_369 (by rw [hy]; exact w_366) w_368 ws_0 w_3 ⟨by decide, by decide, by rfl⟩ hdl (by decide) hk hn hst rfl rfl he hdg (fun r w2 h => by obtain ⟨x, rfl, h⟩ := h; exact kk x w2 h)
theorem k_X3_43 {v0 v1 v2 v3 : Value} {d2 mc2 ms2 : Nat} {post : Int64 → VW → Prop} (hM : Sp G l yX3_cellsInBoth cX3_cellsInBoth 11 (some .long) d2 mc2 ms2 [v0, v1, v2, v3] w (QL post)) (hy : y.cls = RX3) (hdl : d2 < d) (hk : k + mc2 ≤ mc) (hn : n + ms2 ≤ ms) (hst : (st.map fun v => v.category).sum ≤ 8) (hdg : decode cc pc = .ok (.invokestatic 43, 3)) (kk : ∀ (x : Int64) (w2 : VW), post x w2 → R G l y cc nL ret d mc ms Q (pc + 3) lv (.long x :: st) w2 (k + mc2) (n + ms2)) : R G l y cc nL ret d mc ms Q pc lv (v3 :: v2 :: v1 :: v0 :: st) w k n := R_callS (as := [v0, v1, v2, v3]) hM w_372 (by rw [hy]; exact w_370) w_371 w_3 ⟨by decide, by decide, by rfl⟩ hdl (by decide) hk hn hst hdg (fun r w2 h => by obtain ⟨x, rfl, h⟩ := h; exact kk x w2 h)
theorem k_X3_47 {v0 : Value} {d2 mc2 ms2 : Nat} {post : Int32 → VW → Prop} (hM : Sp G l yJ13_bitCount_95d88 cJ13_bitCount_95d88 2 (some .int) d2 mc2 ms2 [v0] w (QI post)) (hy : y.cls = RX3) (hdl : d2 < d) (hk : k + mc2 ≤ mc) (hn : n + ms2 ≤ ms) (hst : (st.map fun v => v.category).sum ≤ 8) (hdg : decode cc pc = .ok (.invokestatic 47, 3)) (kk : ∀ (x : Int32) (w2 : VW), post x w2 → R G l y cc nL ret d mc ms Q (pc + 3) lv (.int x :: st) w2 (k + mc2) (n + ms2)) : R G l y cc nL ret d mc ms Q pc lv (v0 :: st) w k n := R_callS (as := [v0]) hM w_381 (by rw [hy]; exact w_379) w_380 w_12 ⟨by decide, by decide, by rfl⟩ hdl (by decide) hk hn hst hdg (fun r w2 h => by obtain ⟨x, rfl, h⟩ := h; exact kk x w2 h)
theorem k_X3_57 {v0 v1 : Value} {d2 mc2 ms2 : Nat} {post : Int64 → VW → Prop} (hM : Sp G l yX3_moved cX3_moved 3 (some .long) d2 mc2 ms2 [v0, v1] w (QL post)) (hy : y.cls = RX3) (hdl : d2 < d) (hk : k + mc2 ≤ mc) (hn : n + ms2 ≤ ms) (hst : (st.map fun v => v.category).sum ≤ 8) (hdg : decode cc pc = .ok (.invokestatic 57, 3)) (kk : ∀ (x : Int64) (w2 : VW), post x w2 → R G l y cc nL ret d mc ms Q (pc + 3) lv (.long x :: st) w2 (k + mc2) (n + ms2)) : R G l y cc nL ret d mc ms Q pc lv (v1 :: v0 :: st) w k n := R_callS (as := [v0, v1]) hM w_387 (by rw [hy]; exact w_385) w_386 w_3 ⟨by decide, by decide, by rfl⟩ hdl (by decide) hk hn hst hdg (fun r w2 h => by obtain ⟨x, rfl, h⟩ := h; exact kk x w2 h)
theorem k_X8_87 {v0 : Value} {b : Nat} {d2 mc2 ms2 : Nat} {post : VW → Prop} {fs : List Value} (hM : Sp G l yX3_compareWord cX3_compareWord 4 none d2 mc2 ms2 [.ref b, v0] w (QV post)) (hy : y.cls = RX8) (he : w[b]? = some (.inr (3, fs))) (hdl : d2 < d) (hk : k + mc2 ≤ mc) (hn : n + ms2 ≤ ms) (hst : (st.map fun v => v.category).sum ≤ 8) (hdg : decode cc pc = .ok (.invokevirtual 87, 3)) (kk : ∀ (w2 : VW), post w2 → R G l y cc nL ret d mc ms Q (pc + 3) lv st w2 (k + mc2) (n + ms2)) : R G l y cc nL ret d mc ms Q pc lv (v0 :: .ref b :: st) w k n := R_callV (as := [v0]) (ci := 3) hM w_391 (by rw [hy]; exact w_388) w_389 w_390 w_3 ⟨by decide, by decide, by rfl⟩ hdl (by decide) hk hn hst rfl rfl he hdg (fun r w2 h => by obtain ⟨rfl, h⟩ := h; exact kk w2 h)
theorem k_X3_69 {v0 v1 : Value} {b : Nat} {d2 mc2 ms2 : Nat} {post : Int32 → VW → Prop} {fs : List Value} (hM : Sp G l yX3_fewestChanges cX3_fewestChanges 10 (some .int) d2 mc2 ms2 [.ref b, v0, v1] w (QI post)) (hy : y.cls = RX3) (he : w[b]? = some (.inr (3, fs))) (hdl : d2 < d) (hk : k + mc2 ≤ mc) (hn : n + ms2 ≤ ms) (hst : (st.map fun v => v.category).sum ≤ 8) (hdg : decode cc pc = .ok (.invokevirtual 69, 3)) (kk : ∀ (x : Int32) (w2 : VW), post x w2 → R G l y cc nL ret d mc ms Q (pc + 3) lv (.int x :: st) w2 (k + mc2) (n + ms2)) : R G l y cc nL ret d mc ms Q pc lv (v1 :: v0 :: .ref b :: st) w k n := R_callV (as := [v0, v1]) (ci := 3) hM w_395 (by rw [hy]; exact w_392) w_394 ws_1 w_3 ⟨by decide, by decide, by rfl⟩ hdl (by decide) hk hn hst rfl rfl he hdg (fun r w2 h => by obtain ⟨x, rfl, h⟩ := h; exact kk x w2 h)
theorem k_L_20 {v0 v1 v2 : Value} {b : Nat} {d2 mc2 ms2 : Nat} {post : Int32 → VW → Prop} {fs : List Value} (hM : Sp G l yX8_caption cX8_caption 6 (some .int) d2 mc2 ms2 [.ref b, v0, v1, v2] w (QI post)) (hy : y.cls = "ViewCardsLaw") (he : w[b]? = some (.inr (8, fs))) (hdl : d2 < d) (hk : k + mc2 ≤ mc) (hn : n + ms2 ≤ ms) (hst : (st.map fun v => v.category).sum ≤ 8) (hdg : decode cc pc = .ok (.invokevirtual 20, 3)) (kk : ∀ (x : Int32) (w2 : VW), post x w2 → R G l y cc nL ret d mc ms Q (pc + 3) lv (.int x :: st) w2 (k + mc2) (n + ms2)) : R G l y cc nL ret d mc ms Q pc lv (v2 :: v1 :: v0 :: .ref b :: st) w k n := R_callV (as := [v0, v1, v2]) (ci := 8) hM w_403 (by rw [hy]; exact w_400) w_401 w_402 w_1 ⟨by decide, by decide, by rfl⟩ hdl (by decide) hk hn hst rfl rfl he hdg (fun r w2 h => by obtain ⟨x, rfl, h⟩ := h; exact kk x w2 h)
theorem k_X8_90 {v0 : Value} {b : Nat} {d2 mc2 ms2 : Nat} {post : Int32 → VW → Prop} {fs : List Value} (hM : Sp G l yX0_isThere cX0_isThere 2 (some .boolean) d2 mc2 ms2 [.ref b, v0] w (QI post)) (hy : y.cls = RX8) (he : w[b]? = some (.inr (0, fs))) (hdl : d2 < d) (hk : k + mc2 ≤ mc) (hn : n + ms2 ≤ ms) (hst : (st.map fun v => v.category).sum ≤ 8) (hdg : decode cc pc = .ok (.invokevirtual 90, 3)) (kk : ∀ (x : Int32) (w2 : VW), post x w2 → R G l y cc nL ret d mc ms Q (pc + 3) lv (.int x :: st) w2 (k + mc2) (n + ms2)) : R G l y cc nL ret d mc ms Q pc lv (v0 :: .ref b :: st) w k n := R_callV (as := [v0]) (ci := 0) hM w_407 (by rw [hy]; exact w_404) w_405 w_406 w_2 ⟨by decide, by decide, by rfl⟩ hdl (by decide) hk hn hst rfl rfl he hdg (fun r w2 h => by obtain ⟨x, rfl, h⟩ := h; exact kk x w2 h)
theorem k_X8_94 {v0 v1 : Value} {d2 mc2 ms2 : Nat} {post : Int32 → VW → Prop} (hM : Sp G l yX8_byteOf cX8_byteOf 3 (some .int) d2 mc2 ms2 [v0, v1] w (QI post)) (hy : y.cls = RX8) (hdl : d2 < d) (hk : k + mc2 ≤ mc) (hn : n + ms2 ≤ ms) (hst : (st.map fun v => v.category).sum ≤ 8) (hdg : decode cc pc = .ok (.invokestatic 94, 3)) (kk : ∀ (x : Int32) (w2 : VW), post x w2 → R G l y cc nL ret d mc ms Q (pc + 3) lv (.int x :: st) w2 (k + mc2) (n + ms2)) : R G l y cc nL ret d mc ms Q pc lv (v1 :: v0 :: st) w k n := R_callS (as := [v0, v1]) hM w_398 (by rw [hy]; exact w_408) w_397 w_1 ⟨by decide, by decide, by rfl⟩ hdl (by decide) hk hn hst hdg (fun r w2 h => by obtain ⟨x, rfl, h⟩ := h; exact kk x w2 h)
theorem k_X8_98 {v0 : Value} {d2 mc2 ms2 : Nat} {post : Int32 → VW → Prop} (hM : Sp G l yX8_isLetter cX8_isLetter 1 (some .boolean) d2 mc2 ms2 [v0] w (QI post)) (hy : y.cls = RX8) (hdl : d2 < d) (hk : k + mc2 ≤ mc) (hn : n + ms2 ≤ ms) (hst : (st.map fun v => v.category).sum ≤ 8) (hdg : decode cc pc = .ok (.invokestatic 98, 3)) (kk : ∀ (x : Int32) (w2 : VW), post x w2 → R G l y cc nL ret d mc ms Q (pc + 3) lv (.int x :: st) w2 (k + mc2) (n + ms2)) : R G l y cc nL ret d mc ms Q pc lv (v0 :: st) w k n := R_callS (as := [v0]) hM w_411 (by rw [hy]; exact w_409) w_410 w_1 ⟨by decide, by decide, by rfl⟩ hdl (by decide) hk hn hst hdg (fun r w2 h => by obtain ⟨x, rfl, h⟩ := h; exact kk x w2 h)
theorem k_L_25 {v0 : Value} {b : Nat} {d2 mc2 ms2 : Nat} {post : Int32 → VW → Prop} {fs : List Value} (hM : Sp G l yX8_days cX8_days 2 (some .int) d2 mc2 ms2 [.ref b, v0] w (QI post)) (hy : y.cls = "ViewCardsLaw") (he : w[b]? = some (.inr (8, fs))) (hdl : d2 < d) (hk : k + mc2 ≤ mc) (hn : n + ms2 ≤ ms) (hst : (st.map fun v => v.category).sum ≤ 8) (hdg : decode cc pc = .ok (.invokevirtual 25, 3)) (kk : ∀ (x : Int32) (w2 : VW), post x w2 → R G l y cc nL ret d mc ms Q (pc + 3) lv (.int x :: st) w2 (k + mc2) (n + ms2)) : R G l y cc nL ret d mc ms Q pc lv (v0 :: .ref b :: st) w k n := R_callV (as := [v0]) (ci := 8) hM w_415 (by rw [hy]; exact w_412) w_413 w_414 w_1 ⟨by decide, by decide, by rfl⟩ hdl (by decide) hk hn hst rfl rfl he hdg (fun r w2 h => by obtain ⟨x, rfl, h⟩ := h; exact kk x w2 h)
theorem k_L_30 {v0 v1 : Value} {b : Nat} {d2 mc2 ms2 : Nat} {post : Int32 → VW → Prop} {fs : List Value} (hM : Sp G l yX8_set cX8_set 4 (some .int) d2 mc2 ms2 [.ref b, v0, v1] w (QI post)) (hy : y.cls = "ViewCardsLaw") (he : w[b]? = some (.inr (8, fs))) (hdl : d2 < d) (hk : k + mc2 ≤ mc) (hn : n + ms2 ≤ ms) (hst : (st.map fun v => v.category).sum ≤ 8) (hdg : decode cc pc = .ok (.invokevirtual 30, 3)) (kk : ∀ (x : Int32) (w2 : VW), post x w2 → R G l y cc nL ret d mc ms Q (pc + 3) lv (.int x :: st) w2 (k + mc2) (n + ms2)) : R G l y cc nL ret d mc ms Q pc lv (v1 :: v0 :: .ref b :: st) w k n := R_callV (as := [v0, v1]) (ci := 8) hM w_419 (by rw [hy]; exact w_416) w_417 w_418 w_1 ⟨by decide, by decide, by rfl⟩ hdl (by decide) hk hn hst rfl rfl he hdg (fun r w2 h => by obtain ⟨x, rfl, h⟩ := h; exact kk x w2 h)
theorem k_L_35 {v0 v1 : Value} {b : Nat} {d2 mc2 ms2 : Nat} {post : Int32 → VW → Prop} {fs : List Value} (hM : Sp G l yX8_difference cX8_difference 3 (some .int) d2 mc2 ms2 [.ref b, v0, v1] w (QI post)) (hy : y.cls = "ViewCardsLaw") (he : w[b]? = some (.inr (8, fs))) (hdl : d2 < d) (hk : k + mc2 ≤ mc) (hn : n + ms2 ≤ ms) (hst : (st.map fun v => v.category).sum ≤ 8) (hdg : decode cc pc = .ok (.invokevirtual 35, 3)) (kk : ∀ (x : Int32) (w2 : VW), post x w2 → R G l y cc nL ret d mc ms Q (pc + 3) lv (.int x :: st) w2 (k + mc2) (n + ms2)) : R G l y cc nL ret d mc ms Q pc lv (v1 :: v0 :: .ref b :: st) w k n := R_callV (as := [v0, v1]) (ci := 8) hM w_423 (by rw [hy]; exact w_420) w_421 w_422 w_1 ⟨by decide, by decide, by rfl⟩ hdl (by decide) hk hn hst rfl rfl he hdg (fun r w2 h => by obtain ⟨x, rfl, h⟩ := h; exact kk x w2 h)
theorem k_X8_118 {v0 v1 : Value} {b : Nat} {d2 mc2 ms2 : Nat} {post : Int32 → VW → Prop} {fs : List Value} (hM : Sp G l yX8_areTwoThere cX8_areTwoThere 3 (some .boolean) d2 mc2 ms2 [.ref b, v0, v1] w (QI post)) (hy : y.cls = RX8) (he : w[b]? = some (.inr (8, fs))) (hdl : d2 < d) (hk : k + mc2 ≤ mc) (hn : n + ms2 ≤ ms) (hst : (st.map fun v => v.category).sum ≤ 8) (hdg : decode cc pc = .ok (.invokevirtual 118, 3)) (kk : ∀ (x : Int32) (w2 : VW), post x w2 → R G l y cc nL ret d mc ms Q (pc + 3) lv (.int x :: st) w2 (k + mc2) (n + ms2)) : R G l y cc nL ret d mc ms Q pc lv (v1 :: v0 :: .ref b :: st) w k n := R_callV (as := [v0, v1]) (ci := 8) hM w_427 (by rw [hy]; exact w_424) w_426 ws_2 w_1 ⟨by decide, by decide, by rfl⟩ hdl (by decide) hk hn hst rfl rfl he hdg (fun r w2 h => by obtain ⟨x, rfl, h⟩ := h; exact kk x w2 h)
theorem k_L_39 {v0 : Value} {b : Nat} {d2 mc2 ms2 : Nat} {post : Int32 → VW → Prop} {fs : List Value} (hM : Sp G l yX8_negative cX8_negative 2 (some .int) d2 mc2 ms2 [.ref b, v0] w (QI post)) (hy : y.cls = "ViewCardsLaw") (he : w[b]? = some (.inr (8, fs))) (hdl : d2 < d) (hk : k + mc2 ≤ mc) (hn : n + ms2 ≤ ms) (hst : (st.map fun v => v.category).sum ≤ 8) (hdg : decode cc pc = .ok (.invokevirtual 39, 3)) (kk : ∀ (x : Int32) (w2 : VW), post x w2 → R G l y cc nL ret d mc ms Q (pc + 3) lv (.int x :: st) w2 (k + mc2) (n + ms2)) : R G l y cc nL ret d mc ms Q pc lv (v0 :: .ref b :: st) w k n := R_callV (as := [v0]) (ci := 8) hM w_431 (by rw [hy]; exact w_428) w_429 w_430 w_1 ⟨by decide, by decide, by rfl⟩ hdl (by decide) hk hn hst rfl rfl he hdg (fun r w2 h => by obtain ⟨x, rfl, h⟩ := h; exact kk x w2 h)
theorem k_X8_126 {b : Nat} {d2 mc2 ms2 : Nat} {post : Int32 → VW → Prop} {fs : List Value} (hM : Sp G l yX0_there cX0_there 3 (some .int) d2 mc2 ms2 [.ref b] w (QI post)) (hy : y.cls = RX8) (he : w[b]? = some (.inr (0, fs))) (hdl : d2 < d) (hk : k + mc2 ≤ mc) (hn : n + ms2 ≤ ms) (hst : (st.map fun v => v.category).sum ≤ 8) (hdg : decode cc pc = .ok (.invokevirtual 126, 3)) (kk : ∀ (x : Int32) (w2 : VW), post x w2 → R G l y cc nL ret d mc ms Q (pc + 3) lv (.int x :: st) w2 (k + mc2) (n + ms2)) : R G l y cc nL ret d mc ms Q pc lv (.ref b :: st) w k n := R_callV (as := []) (ci := 0) hM w_435 (by rw [hy]; exact w_432) w_433 w_434 w_2 ⟨by decide, by decide, by rfl⟩ hdl (by decide) hk hn hst rfl rfl he hdg (fun r w2 h => by obtain ⟨x, rfl, h⟩ := h; exact kk x w2 h)
theorem k_X0_53 {v0 : Value} {b : Nat} {d2 mc2 ms2 : Nat} {post : Int32 → VW → Prop} {fs : List Value} (hM : Sp G l yX0_isThere cX0_isThere 2 (some .boolean) d2 mc2 ms2 [.ref b, v0] w (QI post)) (hy : y.cls = RX0) (he : w[b]? = some (.inr (0, fs))) (hdl : d2 < d) (hk : k + mc2 ≤ mc) (hn : n + ms2 ≤ ms) (hst : (st.map fun v => v.category).sum ≤ 8) (hdg : decode cc pc = .ok (.invokevirtual 53, 3)) (kk : ∀ (x : Int32) (w2 : VW), post x w2 → R G l y cc nL ret d mc ms Q (pc + 3) lv (.int x :: st) w2 (k + mc2) (n + ms2)) : R G l y cc nL ret d mc ms Q pc lv (v0 :: .ref b :: st) w k n := R_callV (as := [v0]) (ci := 0) hM w_407 (by rw [hy]; exact w_436) w_405 w_406 w_2 ⟨by decide, by decide, by rfl⟩ hdl (by decide) hk hn hst rfl rfl he hdg (fun r w2 h => by obtain ⟨x, rfl, h⟩ := h; exact kk x w2 h)
theorem k_X8_130 {v0 v1 : Value} {b : Nat} {d2 mc2 ms2 : Nat} {post : Int32 → VW → Prop} {fs : List Value} (hM : Sp G l yX3_sameNegative cX3_sameNegative 3 (some .int) d2 mc2 ms2 [.ref b, v0, v1] w (QI post)) (hy : y.cls = RX8) (he : w[b]? = some (.inr (3, fs))) (hdl : d2 < d) (hk : k + mc2 ≤ mc) (hn : n + ms2 ≤ ms) (hst : (st.map fun v => v.category).sum ≤ 8) (hdg : decode cc pc = .ok (.invokevirtual 130, 3)) (kk : ∀ (x : Int32) (w2 : VW), post x w2 → R G l y cc nL ret d mc ms Q (pc + 3) lv (.int x :: st) w2 (k + mc2) (n + ms2)) : R G l y cc nL ret d mc ms Q pc lv (v1 :: v0 :: .ref b :: st) w k n := R_callV (as := [v0, v1]) (ci := 3) hM w_440 (by rw [hy]; exact w_437) w_438 w_439 w_3 ⟨by decide, by decide, by rfl⟩ hdl (by decide) hk hn hst rfl rfl he hdg (fun r w2 h => by obtain ⟨x, rfl, h⟩ := h; exact kk x w2 h)
theorem k_X3_98 {v0 v1 v2 : Value} {b : Nat} {d2 mc2 ms2 : Nat} {post : Int32 → VW → Prop} {fs : List Value} (hM : Sp G l yX3_chained cX3_chained 10 (some .int) d2 mc2 ms2 [.ref b, v0, v1, v2] w (QI post)) (hy : y.cls = RX3) (he : w[b]? = some (.inr (3, fs))) (hdl : d2 < d) (hk : k + mc2 ≤ mc) (hn : n + ms2 ≤ ms) (hst : (st.map fun v => v.category).sum ≤ 8) (hdg : decode cc pc = .ok (.invokevirtual 98, 3)) (kk : ∀ (x : Int32) (w2 : VW), post x w2 → R G l y cc nL ret d mc ms Q (pc + 3) lv (.int x :: st) w2 (k + mc2) (n + ms2)) : R G l y cc nL ret d mc ms Q pc lv (v2 :: v1 :: v0 :: .ref b :: st) w k n := R_callV (as := [v0, v1, v2]) (ci := 3) hM w_444 (by rw [hy]; exact w_441) w_443 ws_3 w_3 ⟨by decide, by decide, by rfl⟩ hdl (by decide) hk hn hst rfl rfl he hdg (fun r w2 h => by obtain ⟨x, rfl, h⟩ := h; exact kk x w2 h)
theorem k_X8_159 {v0 : Value} {d2 mc2 ms2 : Nat} {post : Int32 → VW → Prop} (hM : Sp G l yJ6_bitCount_0f7a4 cJ6_bitCount_0f7a4 1 (some .int) d2 mc2 ms2 [v0] w (QI post)) (hy : y.cls = RX8) (hdl : d2 < d) (hk : k + mc2 ≤ mc) (hn : n + ms2 ≤ ms) (hst : (st.map fun v => v.category).sum ≤ 8) (hdg : decode cc pc = .ok (.invokestatic 159, 3)) (kk : ∀ (x : Int32) (w2 : VW), post x w2 → R G l y cc nL ret d mc ms Q (pc + 3) lv (.int x :: st) w2 (k + mc2) (n + ms2)) : R G l y cc nL ret d mc ms Q pc lv (v0 :: st) w k n := R_callS (as := [v0]) hM w_450 (by rw [hy]; exact w_448) w_449 w_13 ⟨by decide, by decide, by rfl⟩ hdl (by decide) hk hn hst hdg (fun r w2 h => by obtain ⟨x, rfl, h⟩ := h; exact kk x w2 h)
theorem k_X3_109 {v0 v1 : Value} {b : Nat} {d2 mc2 ms2 : Nat} {post : Int32 → VW → Prop} {fs : List Value} (hM : Sp G l yX3_isMatch cX3_isMatch 4 (some .boolean) d2 mc2 ms2 [.ref b, v0, v1] w (QI post)) (hy : y.cls = RX3) (he : w[b]? = some (.inr (3, fs))) (hdl : d2 < d) (hk : k + mc2 ≤ mc) (hn : n + ms2 ≤ ms) (hst : (st.map fun v => v.category).sum ≤ 8) (hdg : decode cc pc = .ok (.invokevirtual 109, 3)) (kk : ∀ (x : Int32) (w2 : VW), post x w2 → R G l y cc nL ret d mc ms Q (pc + 3) lv (.int x :: st) w2 (k + mc2) (n + ms2)) : R G l y cc nL ret d mc ms Q pc lv (v1 :: v0 :: .ref b :: st) w k n := R_callV (as := [v0, v1]) (ci := 3) hM w_460 (by rw [hy]; exact w_457) w_458 w_459 w_3 ⟨by decide, by decide, by rfl⟩ hdl (by decide) hk hn hst rfl rfl he hdg (fun r w2 h => by obtain ⟨x, rfl, h⟩ := h; exact kk x w2 h)
theorem k_X3_94 {v0 v1 : Value} {b : Nat} {d2 mc2 ms2 : Nat} {post : Int32 → VW → Prop} {fs : List Value} (hM : Sp G l yX3_isLike cX3_isLike 3 (some .boolean) d2 mc2 ms2 [.ref b, v0, v1] w (QI post)) (hy : y.cls = RX3) (he : w[b]? = some (.inr (3, fs))) (hdl : d2 < d) (hk : k + mc2 ≤ mc) (hn : n + ms2 ≤ ms) (hst : (st.map fun v => v.category).sum ≤ 8) (hdg : decode cc pc = .ok (.invokevirtual 94, 3)) (kk : ∀ (x : Int32) (w2 : VW), post x w2 → R G l y cc nL ret d mc ms Q (pc + 3) lv (.int x :: st) w2 (k + mc2) (n + ms2)) : R G l y cc nL ret d mc ms Q pc lv (v1 :: v0 :: .ref b :: st) w k n := R_callV (as := [v0, v1]) (ci := 3) hM w_464 (by rw [hy]; exact w_461) w_462 w_463 w_3 ⟨by decide, by decide, by rfl⟩ hdl (by decide) hk hn hst rfl rfl he hdg (fun r w2 h => by obtain ⟨x, rfl, h⟩ := h; exact kk x w2 h)
theorem k_X8_134 {v0 : Value} {d2 mc2 ms2 : Nat} {post : Int32 → VW → Prop} (hM : Sp G l yX8_lowest cX8_lowest 1 (some .int) d2 mc2 ms2 [v0] w (QI post)) (hy : y.cls = RX8) (hdl : d2 < d) (hk : k + mc2 ≤ mc) (hn : n + ms2 ≤ ms) (hst : (st.map fun v => v.category).sum ≤ 8) (hdg : decode cc pc = .ok (.invokestatic 134, 3)) (kk : ∀ (x : Int32) (w2 : VW), post x w2 → R G l y cc nL ret d mc ms Q (pc + 3) lv (.int x :: st) w2 (k + mc2) (n + ms2)) : R G l y cc nL ret d mc ms Q pc lv (v0 :: st) w k n := R_callS (as := [v0]) hM w_447 (by rw [hy]; exact w_465) w_446 w_1 ⟨by decide, by decide, by rfl⟩ hdl (by decide) hk hn hst hdg (fun r w2 h => by obtain ⟨x, rfl, h⟩ := h; exact kk x w2 h)
theorem k_L_43 {v0 v1 : Value} {b : Nat} {d2 mc2 ms2 : Nat} {post : Int32 → VW → Prop} {fs : List Value} (hM : Sp G l yX8_far cX8_far 3 (some .int) d2 mc2 ms2 [.ref b, v0, v1] w (QI post)) (hy : y.cls = "ViewCardsLaw") (he : w[b]? = some (.inr (8, fs))) (hdl : d2 < d) (hk : k + mc2 ≤ mc) (hn : n + ms2 ≤ ms) (hst : (st.map fun v => v.category).sum ≤ 8) (hdg : decode cc pc = .ok (.invokevirtual 43, 3)) (kk : ∀ (x : Int32) (w2 : VW), post x w2 → R G l y cc nL ret d mc ms Q (pc + 3) lv (.int x :: st) w2 (k + mc2) (n + ms2)) : R G l y cc nL ret d mc ms Q pc lv (v1 :: v0 :: .ref b :: st) w k n := R_callV (as := [v0, v1]) (ci := 8) hM w_469 (by rw [hy]; exact w_466) w_467 w_468 w_1 ⟨by decide, by decide, by rfl⟩ hdl (by decide) hk hn hst rfl rfl he hdg (fun r w2 h => by obtain ⟨x, rfl, h⟩ := h; exact kk x w2 h)
theorem k_L_47 {v0 v1 : Value} {b : Nat} {d2 mc2 ms2 : Nat} {post : Int32 → VW → Prop} {fs : List Value} (hM : Sp G l yX8_match cX8_match 3 (some .int) d2 mc2 ms2 [.ref b, v0, v1] w (QI post)) (hy : y.cls = "ViewCardsLaw") (he : w[b]? = some (.inr (8, fs))) (hdl : d2 < d) (hk : k + mc2 ≤ mc) (hn : n + ms2 ≤ ms) (hst : (st.map fun v => v.category).sum ≤ 8) (hdg : decode cc pc = .ok (.invokevirtual 47, 3)) (kk : ∀ (x : Int32) (w2 : VW), post x w2 → R G l y cc nL ret d mc ms Q (pc + 3) lv (.int x :: st) w2 (k + mc2) (n + ms2)) : R G l y cc nL ret d mc ms Q pc lv (v1 :: v0 :: .ref b :: st) w k n := R_callV (as := [v0, v1]) (ci := 8) hM w_473 (by rw [hy]; exact w_470) w_471 w_472 w_1 ⟨by decide, by decide, by rfl⟩ hdl (by decide) hk hn hst rfl rfl he hdg (fun r w2 h => by obtain ⟨x, rfl, h⟩ := h; exact kk x w2 h)
theorem k_X8_141 {v0 v1 : Value} {b : Nat} {d2 mc2 ms2 : Nat} {post : Int32 → VW → Prop} {fs : List Value} (hM : Sp G l yX3_isMatch cX3_isMatch 4 (some .boolean) d2 mc2 ms2 [.ref b, v0, v1] w (QI post)) (hy : y.cls = RX8) (he : w[b]? = some (.inr (3, fs))) (hdl : d2 < d) (hk : k + mc2 ≤ mc) (hn : n + ms2 ≤ ms) (hst : (st.map fun v => v.category).sum ≤ 8) (hdg : decode cc pc = .ok (.invokevirtual 141, 3)) (kk : ∀ (x : Int32) (w2 : VW), post x w2 → R G l y cc nL ret d mc ms Q (pc + 3) lv (.int x :: st) w2 (k + mc2) (n + ms2)) : R G l y cc nL ret d mc ms Q pc lv (v1 :: v0 :: .ref b :: st) w k n := R_callV (as := [v0, v1]) (ci := 3) hM w_460 (by rw [hy]; exact w_474) w_458 w_459 w_3 ⟨by decide, by decide, by rfl⟩ hdl (by decide) hk hn hst rfl rfl he hdg (fun r w2 h => by obtain ⟨x, rfl, h⟩ := h; exact kk x w2 h)
theorem k_L_51 {v0 v1 : Value} {b : Nat} {d2 mc2 ms2 : Nat} {post : Int32 → VW → Prop} {fs : List Value} (hM : Sp G l yX8_of cX8_of 3 (some .int) d2 mc2 ms2 [.ref b, v0, v1] w (QI post)) (hy : y.cls = "ViewCardsLaw") (he : w[b]? = some (.inr (8, fs))) (hdl : d2 < d) (hk : k + mc2 ≤ mc) (hn : n + ms2 ≤ ms) (hst : (st.map fun v => v.category).sum ≤ 8) (hdg : decode cc pc = .ok (.invokevirtual 51, 3)) (kk : ∀ (x : Int32) (w2 : VW), post x w2 → R G l y cc nL ret d mc ms Q (pc + 3) lv (.int x :: st) w2 (k + mc2) (n + ms2)) : R G l y cc nL ret d mc ms Q pc lv (v1 :: v0 :: .ref b :: st) w k n := R_callV (as := [v0, v1]) (ci := 8) hM w_478 (by rw [hy]; exact w_475) w_476 w_477 w_1 ⟨by decide, by decide, by rfl⟩ hdl (by decide) hk hn hst rfl rfl he hdg (fun r w2 h => by obtain ⟨x, rfl, h⟩ := h; exact kk x w2 h)
theorem k_X8_144 {v0 v1 : Value} {b : Nat} {d2 mc2 ms2 : Nat} {post : Int32 → VW → Prop} {fs : List Value} (hM : Sp G l yX3_sameCard cX3_sameCard 3 (some .int) d2 mc2 ms2 [.ref b, v0, v1] w (QI post)) (hy : y.cls = RX8) (he : w[b]? = some (.inr (3, fs))) (hdl : d2 < d) (hk : k + mc2 ≤ mc) (hn : n + ms2 ≤ ms) (hst : (st.map fun v => v.category).sum ≤ 8) (hdg : decode cc pc = .ok (.invokevirtual 144, 3)) (kk : ∀ (x : Int32) (w2 : VW), post x w2 → R G l y cc nL ret d mc ms Q (pc + 3) lv (.int x :: st) w2 (k + mc2) (n + ms2)) : R G l y cc nL ret d mc ms Q pc lv (v1 :: v0 :: .ref b :: st) w k n := R_callV (as := [v0, v1]) (ci := 3) hM w_482 (by rw [hy]; exact w_479) w_480 w_481 w_3 ⟨by decide, by decide, by rfl⟩ hdl (by decide) hk hn hst rfl rfl he hdg (fun r w2 h => by obtain ⟨x, rfl, h⟩ := h; exact kk x w2 h)
theorem k_X8_147 {v0 : Value} {b : Nat} {d2 mc2 ms2 : Nat} {post : Int32 → VW → Prop} {fs : List Value} (hM : Sp G l yX8_timesSeen cX8_timesSeen 2 (some .int) d2 mc2 ms2 [.ref b, v0] w (QI post)) (hy : y.cls = RX8) (he : w[b]? = some (.inr (8, fs))) (hdl : d2 < d) (hk : k + mc2 ≤ mc) (hn : n + ms2 ≤ ms) (hst : (st.map fun v => v.category).sum ≤ 8) (hdg : decode cc pc = .ok (.invokevirtual 147, 3)) (kk : ∀ (x : Int32) (w2 : VW), post x w2 → R G l y cc nL ret d mc ms Q (pc + 3) lv (.int x :: st) w2 (k + mc2) (n + ms2)) : R G l y cc nL ret d mc ms Q pc lv (v0 :: .ref b :: st) w k n := R_callV (as := [v0]) (ci := 8) hM w_486 (by rw [hy]; exact w_483) w_485 ws_4 w_1 ⟨by decide, by decide, by rfl⟩ hdl (by decide) hk hn hst rfl rfl he hdg (fun r w2 h => by obtain ⟨x, rfl, h⟩ := h; exact kk x w2 h)
theorem k_X8_164 {v0 : Value} {b : Nat} {d2 mc2 ms2 : Nat} {post : Int32 → VW → Prop} {fs : List Value} (hM : Sp G l yX0_listsOf cX0_listsOf 2 (some .int) d2 mc2 ms2 [.ref b, v0] w (QI post)) (hy : y.cls = RX8) (he : w[b]? = some (.inr (0, fs))) (hdl : d2 < d) (hk : k + mc2 ≤ mc) (hn : n + ms2 ≤ ms) (hst : (st.map fun v => v.category).sum ≤ 8) (hdg : decode cc pc = .ok (.invokevirtual 164, 3)) (kk : ∀ (x : Int32) (w2 : VW), post x w2 → R G l y cc nL ret d mc ms Q (pc + 3) lv (.int x :: st) w2 (k + mc2) (n + ms2)) : R G l y cc nL ret d mc ms Q pc lv (v0 :: .ref b :: st) w k n := R_callV (as := [v0]) (ci := 0) hM w_490 (by rw [hy]; exact w_487) w_488 w_489 w_2 ⟨by decide, by decide, by rfl⟩ hdl (by decide) hk hn hst rfl rfl he hdg (fun r w2 h => by obtain ⟨x, rfl, h⟩ := h; exact kk x w2 h)
theorem k_X0_57 {v0 v1 : Value} {d2 mc2 ms2 : Nat} {post : Int32 → VW → Prop} (hM : Sp G l yX0_valuesOf cX0_valuesOf 4 (some .int) d2 mc2 ms2 [v0, v1] w (QI post)) (hy : y.cls = RX0) (hdl : d2 < d) (hk : k + mc2 ≤ mc) (hn : n + ms2 ≤ ms) (hst : (st.map fun v => v.category).sum ≤ 8) (hdg : decode cc pc = .ok (.invokestatic 57, 3)) (kk : ∀ (x : Int32) (w2 : VW), post x w2 → R G l y cc nL ret d mc ms Q (pc + 3) lv (.int x :: st) w2 (k + mc2) (n + ms2)) : R G l y cc nL ret d mc ms Q pc lv (v1 :: v0 :: st) w k n := R_callS (as := [v0, v1]) hM w_493 (by rw [hy]; exact w_491) w_492 w_2 ⟨by decide, by decide, by rfl⟩ hdl (by decide) hk hn hst hdg (fun r w2 h => by obtain ⟨x, rfl, h⟩ := h; exact kk x w2 h)
theorem k_X8_150 {v0 v1 : Value} {b : Nat} {d2 mc2 ms2 : Nat} {post : Int32 → VW → Prop} {fs : List Value} (hM : Sp G l yX3_rivals cX3_rivals 7 (some .int) d2 mc2 ms2 [.ref b, v0, v1] w (QI post)) (hy : y.cls = RX8) (he : w[b]? = some (.inr (3, fs))) (hdl : d2 < d) (hk : k + mc2 ≤ mc) (hn : n + ms2 ≤ ms) (hst : (st.map fun v => v.category).sum ≤ 8) (hdg : decode cc pc = .ok (.invokevirtual 150, 3)) (kk : ∀ (x : Int32) (w2 : VW), post x w2 → R G l y cc nL ret d mc ms Q (pc + 3) lv (.int x :: st) w2 (k + mc2) (n + ms2)) : R G l y cc nL ret d mc ms Q pc lv (v1 :: v0 :: .ref b :: st) w k n := R_callV (as := [v0, v1]) (ci := 3) hM w_498 (by rw [hy]; exact w_495) w_496 w_497 w_3 ⟨by decide, by decide, by rfl⟩ hdl (by decide) hk hn hst rfl rfl he hdg (fun r w2 h => by obtain ⟨x, rfl, h⟩ := h; exact kk x w2 h)
theorem k_X3_116 {v0 : Value} {d2 mc2 ms2 : Nat} {post : Int32 → VW → Prop} (hM : Sp G l yJ6_bitCount_0f7a4 cJ6_bitCount_0f7a4 1 (some .int) d2 mc2 ms2 [v0] w (QI post)) (hy : y.cls = RX3) (hdl : d2 < d) (hk : k + mc2 ≤ mc) (hn : n + ms2 ≤ ms) (hst : (st.map fun v => v.category).sum ≤ 8) (hdg : decode cc pc = .ok (.invokestatic 116, 3)) (kk : ∀ (x : Int32) (w2 : VW), post x w2 → R G l y cc nL ret d mc ms Q (pc + 3) lv (.int x :: st) w2 (k + mc2) (n + ms2)) : R G l y cc nL ret d mc ms Q pc lv (v0 :: st) w k n := R_callS (as := [v0]) hM w_450 (by rw [hy]; exact w_499) w_449 w_13 ⟨by decide, by decide, by rfl⟩ hdl (by decide) hk hn hst hdg (fun r w2 h => by obtain ⟨x, rfl, h⟩ := h; exact kk x w2 h)
theorem k_X8_153 {v0 : Value} {b : Nat} {d2 mc2 ms2 : Nat} {post : Int32 → VW → Prop} {fs : List Value} (hM : Sp G l yX8_priceOf cX8_priceOf 3 (some .int) d2 mc2 ms2 [.ref b, v0] w (QI post)) (hy : y.cls = RX8) (he : w[b]? = some (.inr (8, fs))) (hdl : d2 < d) (hk : k + mc2 ≤ mc) (hn : n + ms2 ≤ ms) (hst : (st.map fun v => v.category).sum ≤ 8) (hdg : decode cc pc = .ok (.invokevirtual 153, 3)) (kk : ∀ (x : Int32) (w2 : VW), post x w2 → R G l y cc nL ret d mc ms Q (pc + 3) lv (.int x :: st) w2 (k + mc2) (n + ms2)) : R G l y cc nL ret d mc ms Q pc lv (v0 :: .ref b :: st) w k n := R_callV (as := [v0]) (ci := 8) hM w_503 (by rw [hy]; exact w_500) w_502 ws_5 w_1 ⟨by decide, by decide, by rfl⟩ hdl (by decide) hk hn hst rfl rfl he hdg (fun r w2 h => by obtain ⟨x, rfl, h⟩ := h; exact kk x w2 h)
theorem k_X8_175 {v0 : Value} {b : Nat} {d2 mc2 ms2 : Nat} {post : VW → Prop} {fs : List Value} (hM : Sp G l yX5_gather cX5_gather 3 none d2 mc2 ms2 [.ref b, v0] w (QV post)) (hy : y.cls = RX8) (he : w[b]? = some (.inr (5, fs))) (hdl : d2 < d) (hk : k + mc2 ≤ mc) (hn : n + ms2 ≤ ms) (hst : (st.map fun v => v.category).sum ≤ 8) (hdg : decode cc pc = .ok (.invokevirtual 175, 3)) (kk : ∀ (w2 : VW), post w2 → R G l y cc nL ret d mc ms Q (pc + 3) lv st w2 (k + mc2) (n + ms2)) : R G l y cc nL ret d mc ms Q pc lv (v0 :: .ref b :: st) w k n := R_callV (as := [v0]) (ci := 5) hM w_508 (by rw [hy]; exact w_505) w_506 w_507 w_4 ⟨by decide, by decide, by rfl⟩ hdl (by decide) hk hn hst rfl rfl he hdg (fun r w2 h => by obtain ⟨rfl, h⟩ := h; exact kk w2 h)
theorem k_X5_25 {v0 : Value} {b : Nat} {d2 mc2 ms2 : Nat} {post : Int32 → VW → Prop} {fs : List Value} (hM : Sp G l yX0_isThere cX0_isThere 2 (some .boolean) d2 mc2 ms2 [.ref b, v0] w (QI post)) (hy : y.cls = RX5) (he : w[b]? = some (.inr (0, fs))) (hdl : d2 < d) (hk : k + mc2 ≤ mc) (hn : n + ms2 ≤ ms) (hst : (st.map fun v => v.category).sum ≤ 8) (hdg : decode cc pc = .ok (.invokevirtual 25, 3)) (kk : ∀ (x : Int32) (w2 : VW), post x w2 → R G l y cc nL ret d mc ms Q (pc + 3) lv (.int x :: st) w2 (k + mc2) (n + ms2)) : R G l y cc nL ret d mc ms Q pc lv (v0 :: .ref b :: st) w k n := R_callV (as := [v0]) (ci := 0) hM w_407 (by rw [hy]; exact w_509) w_405 w_406 w_2 ⟨by decide, by decide, by rfl⟩ hdl (by decide) hk hn hst rfl rfl he hdg (fun r w2 h => by obtain ⟨x, rfl, h⟩ := h; exact kk x w2 h)
theorem k_X8_181 {v0 : Value} {b : Nat} {d2 mc2 ms2 : Nat} {post : Int32 → VW → Prop} {fs : List Value} (hM : Sp G l yX5_isByGap cX5_isByGap 2 (some .boolean) d2 mc2 ms2 [.ref b, v0] w (QI post)) (hy : y.cls = RX8) (he : w[b]? = some (.inr (5, fs))) (hdl : d2 < d) (hk : k + mc2 ≤ mc) (hn : n + ms2 ≤ ms) (hst : (st.map fun v => v.category).sum ≤ 8) (hdg : decode cc pc = .ok (.invokevirtual 181, 3)) (kk : ∀ (x : Int32) (w2 : VW), post x w2 → R G l y cc nL ret d mc ms Q (pc + 3) lv (.int x :: st) w2 (k + mc2) (n + ms2)) : R G l y cc nL ret d mc ms Q pc lv (v0 :: .ref b :: st) w k n := R_callV (as := [v0]) (ci := 5) hM w_513 (by rw [hy]; exact w_510) w_511 w_512 w_4 ⟨by decide, by decide, by rfl⟩ hdl (by decide) hk hn hst rfl rfl he hdg (fun r w2 h => by obtain ⟨x, rfl, h⟩ := h; exact kk x w2 h)
theorem k_X5_43 {v0 : Value} {b : Nat} {d2 mc2 ms2 : Nat} {post : Int32 → VW → Prop} {fs : List Value} (hM : Sp G l yX5_isMissing cX5_isMissing 2 (some .boolean) d2 mc2 ms2 [.ref b, v0] w (QI post)) (hy : y.cls = RX5) (he : w[b]? = some (.inr (5, fs))) (hdl : d2 < d) (hk : k + mc2 ≤ mc) (hn : n + ms2 ≤ ms) (hst : (st.map fun v => v.category).sum ≤ 8) (hdg : decode cc pc = .ok (.invokevirtual 43, 3)) (kk : ∀ (x : Int32) (w2 : VW), post x w2 → R G l y cc nL ret d mc ms Q (pc + 3) lv (.int x :: st) w2 (k + mc2) (n + ms2)) : R G l y cc nL ret d mc ms Q pc lv (v0 :: .ref b :: st) w k n := R_callV (as := [v0]) (ci := 5) hM w_517 (by rw [hy]; exact w_514) w_515 w_516 w_4 ⟨by decide, by decide, by rfl⟩ hdl (by decide) hk hn hst rfl rfl he hdg (fun r w2 h => by obtain ⟨x, rfl, h⟩ := h; exact kk x w2 h)
theorem k_X8_156 {v0 : Value} {b : Nat} {d2 mc2 ms2 : Nat} {post : Int32 → VW → Prop} {fs : List Value} (hM : Sp G l yX0_publishersOf cX0_publishersOf 2 (some .int) d2 mc2 ms2 [.ref b, v0] w (QI post)) (hy : y.cls = RX8) (he : w[b]? = some (.inr (0, fs))) (hdl : d2 < d) (hk : k + mc2 ≤ mc) (hn : n + ms2 ≤ ms) (hst : (st.map fun v => v.category).sum ≤ 8) (hdg : decode cc pc = .ok (.invokevirtual 156, 3)) (kk : ∀ (x : Int32) (w2 : VW), post x w2 → R G l y cc nL ret d mc ms Q (pc + 3) lv (.int x :: st) w2 (k + mc2) (n + ms2)) : R G l y cc nL ret d mc ms Q pc lv (v0 :: .ref b :: st) w k n := R_callV (as := [v0]) (ci := 0) hM w_521 (by rw [hy]; exact w_518) w_519 w_520 w_2 ⟨by decide, by decide, by rfl⟩ hdl (by decide) hk hn hst rfl rfl he hdg (fun r w2 h => by obtain ⟨x, rfl, h⟩ := h; exact kk x w2 h)
theorem k_L_55 {v0 v1 : Value} {b : Nat} {d2 mc2 ms2 : Nat} {post : Int32 → VW → Prop} {fs : List Value} (hM : Sp G l yX8_series cX8_series 3 (some .int) d2 mc2 ms2 [.ref b, v0, v1] w (QI post)) (hy : y.cls = "ViewCardsLaw") (he : w[b]? = some (.inr (8, fs))) (hdl : d2 < d) (hk : k + mc2 ≤ mc) (hn : n + ms2 ≤ ms) (hst : (st.map fun v => v.category).sum ≤ 8) (hdg : decode cc pc = .ok (.invokevirtual 55, 3)) (kk : ∀ (x : Int32) (w2 : VW), post x w2 → R G l y cc nL ret d mc ms Q (pc + 3) lv (.int x :: st) w2 (k + mc2) (n + ms2)) : R G l y cc nL ret d mc ms Q pc lv (v1 :: v0 :: .ref b :: st) w k n := R_callV (as := [v0, v1]) (ci := 8) hM w_525 (by rw [hy]; exact w_522) w_523 w_524 w_1 ⟨by decide, by decide, by rfl⟩ hdl (by decide) hk hn hst rfl rfl he hdg (fun r w2 h => by obtain ⟨x, rfl, h⟩ := h; exact kk x w2 h)
theorem k_X8_191 {b : Nat} {d2 mc2 ms2 : Nat} {post : Int32 → VW → Prop} {fs : List Value} (hM : Sp G l yX5_missing cX5_missing 1 (some .int) d2 mc2 ms2 [.ref b] w (QI post)) (hy : y.cls = RX8) (he : w[b]? = some (.inr (5, fs))) (hdl : d2 < d) (hk : k + mc2 ≤ mc) (hn : n + ms2 ≤ ms) (hst : (st.map fun v => v.category).sum ≤ 8) (hdg : decode cc pc = .ok (.invokevirtual 191, 3)) (kk : ∀ (x : Int32) (w2 : VW), post x w2 → R G l y cc nL ret d mc ms Q (pc + 3) lv (.int x :: st) w2 (k + mc2) (n + ms2)) : R G l y cc nL ret d mc ms Q pc lv (.ref b :: st) w k n := R_callV (as := []) (ci := 5) hM w_529 (by rw [hy]; exact w_526) w_527 w_528 w_4 ⟨by decide, by decide, by rfl⟩ hdl (by decide) hk hn hst rfl rfl he hdg (fun r w2 h => by obtain ⟨x, rfl, h⟩ := h; exact kk x w2 h)
theorem k_X8_194 {b : Nat} {d2 mc2 ms2 : Nat} {post : Int32 → VW → Prop} {fs : List Value} (hM : Sp G l yX5_gaps cX5_gaps 3 (some .int) d2 mc2 ms2 [.ref b] w (QI post)) (hy : y.cls = RX8) (he : w[b]? = some (.inr (5, fs))) (hdl : d2 < d) (hk : k + mc2 ≤ mc) (hn : n + ms2 ≤ ms) (hst : (st.map fun v => v.category).sum ≤ 8) (hdg : decode cc pc = .ok (.invokevirtual 194, 3)) (kk : ∀ (x : Int32) (w2 : VW), post x w2 → R G l y cc nL ret d mc ms Q (pc + 3) lv (.int x :: st) w2 (k + mc2) (n + ms2)) : R G l y cc nL ret d mc ms Q pc lv (.ref b :: st) w k n := R_callV (as := []) (ci := 5) hM w_533 (by rw [hy]; exact w_530) w_531 w_532 w_4 ⟨by decide, by decide, by rfl⟩ hdl (by decide) hk hn hst rfl rfl he hdg (fun r w2 h => by obtain ⟨x, rfl, h⟩ := h; exact kk x w2 h)
theorem k_L_59 {v0 v1 : Value} {b : Nat} {d2 mc2 ms2 : Nat} {post : Int32 → VW → Prop} {fs : List Value} (hM : Sp G l yX8_gap cX8_gap 3 (some .int) d2 mc2 ms2 [.ref b, v0, v1] w (QI post)) (hy : y.cls = "ViewCardsLaw") (he : w[b]? = some (.inr (8, fs))) (hdl : d2 < d) (hk : k + mc2 ≤ mc) (hn : n + ms2 ≤ ms) (hst : (st.map fun v => v.category).sum ≤ 8) (hdg : decode cc pc = .ok (.invokevirtual 59, 3)) (kk : ∀ (x : Int32) (w2 : VW), post x w2 → R G l y cc nL ret d mc ms Q (pc + 3) lv (.int x :: st) w2 (k + mc2) (n + ms2)) : R G l y cc nL ret d mc ms Q pc lv (v1 :: v0 :: .ref b :: st) w k n := R_callV (as := [v0, v1]) (ci := 8) hM w_537 (by rw [hy]; exact w_534) w_535 w_536 w_1 ⟨by decide, by decide, by rfl⟩ hdl (by decide) hk hn hst rfl rfl he hdg (fun r w2 h => by obtain ⟨x, rfl, h⟩ := h; exact kk x w2 h)
theorem k_X8_197 {v0 : Value} {b : Nat} {d2 mc2 ms2 : Nat} {post : Int32 → VW → Prop} {fs : List Value} (hM : Sp G l yX5_gapAt cX5_gapAt 5 (some .int) d2 mc2 ms2 [.ref b, v0] w (QI post)) (hy : y.cls = RX8) (he : w[b]? = some (.inr (5, fs))) (hdl : d2 < d) (hk : k + mc2 ≤ mc) (hn : n + ms2 ≤ ms) (hst : (st.map fun v => v.category).sum ≤ 8) (hdg : decode cc pc = .ok (.invokevirtual 197, 3)) (kk : ∀ (x : Int32) (w2 : VW), post x w2 → R G l y cc nL ret d mc ms Q (pc + 3) lv (.int x :: st) w2 (k + mc2) (n + ms2)) : R G l y cc nL ret d mc ms Q pc lv (v0 :: .ref b :: st) w k n := R_callV (as := [v0]) (ci := 5) hM w_541 (by rw [hy]; exact w_538) w_539 w_540 w_4 ⟨by decide, by decide, by rfl⟩ hdl (by decide) hk hn hst rfl rfl he hdg (fun r w2 h => by obtain ⟨x, rfl, h⟩ := h; exact kk x w2 h)
theorem k_L_63 {v0 : Value} {b : Nat} {d2 mc2 ms2 : Nat} {post : Int32 → VW → Prop} {fs : List Value} (hM : Sp G l yX8_unseen cX8_unseen 7 (some .int) d2 mc2 ms2 [.ref b, v0] w (QI post)) (hy : y.cls = "ViewCardsLaw") (he : w[b]? = some (.inr (8, fs))) (hdl : d2 < d) (hk : k + mc2 ≤ mc) (hn : n + ms2 ≤ ms) (hst : (st.map fun v => v.category).sum ≤ 8) (hdg : decode cc pc = .ok (.invokevirtual 63, 3)) (kk : ∀ (x : Int32) (w2 : VW), post x w2 → R G l y cc nL ret d mc ms Q (pc + 3) lv (.int x :: st) w2 (k + mc2) (n + ms2)) : R G l y cc nL ret d mc ms Q pc lv (v0 :: .ref b :: st) w k n := R_callV (as := [v0]) (ci := 8) hM w_545 (by rw [hy]; exact w_542) w_543 w_544 w_1 ⟨by decide, by decide, by rfl⟩ hdl (by decide) hk hn hst rfl rfl he hdg (fun r w2 h => by obtain ⟨x, rfl, h⟩ := h; exact kk x w2 h)
theorem k_X8_200 {v0 : Value} {b : Nat} {d2 mc2 ms2 : Nat} {post : Int32 → VW → Prop} {fs : List Value} (hM : Sp G l yX8_cardsSeen cX8_cardsSeen 5 (some .int) d2 mc2 ms2 [.ref b, v0] w (QI post)) (hy : y.cls = RX8) (he : w[b]? = some (.inr (8, fs))) (hdl : d2 < d) (hk : k + mc2 ≤ mc) (hn : n + ms2 ≤ ms) (hst : (st.map fun v => v.category).sum ≤ 8) (hdg : decode cc pc = .ok (.invokevirtual 200, 3)) (kk : ∀ (x : Int32) (w2 : VW), post x w2 → R G l y cc nL ret d mc ms Q (pc + 3) lv (.int x :: st) w2 (k + mc2) (n + ms2)) : R G l y cc nL ret d mc ms Q pc lv (v0 :: .ref b :: st) w k n := R_callV (as := [v0]) (ci := 8) hM w_549 (by rw [hy]; exact w_546) w_548 ws_6 w_1 ⟨by decide, by decide, by rfl⟩ hdl (by decide) hk hn hst rfl rfl he hdg (fun r w2 h => by obtain ⟨x, rfl, h⟩ := h; exact kk x w2 h)
theorem k_X8_206 {v0 : Value} {b : Nat} {d2 mc2 ms2 : Nat} {post : Int32 → VW → Prop} {fs : List Value} (hM : Sp G l yX3_differentCards cX3_differentCards 2 (some .int) d2 mc2 ms2 [.ref b, v0] w (QI post)) (hy : y.cls = RX8) (he : w[b]? = some (.inr (3, fs))) (hdl : d2 < d) (hk : k + mc2 ≤ mc) (hn : n + ms2 ≤ ms) (hst : (st.map fun v => v.category).sum ≤ 8) (hdg : decode cc pc = .ok (.invokevirtual 206, 3)) (kk : ∀ (x : Int32) (w2 : VW), post x w2 → R G l y cc nL ret d mc ms Q (pc + 3) lv (.int x :: st) w2 (k + mc2) (n + ms2)) : R G l y cc nL ret d mc ms Q pc lv (v0 :: .ref b :: st) w k n := R_callV (as := [v0]) (ci := 3) hM w_553 (by rw [hy]; exact w_550) w_551 w_552 w_3 ⟨by decide, by decide, by rfl⟩ hdl (by decide) hk hn hst rfl rfl he hdg (fun r w2 h => by obtain ⟨x, rfl, h⟩ := h; exact kk x w2 h)
theorem k_X3_112 {v0 v1 : Value} {b : Nat} {d2 mc2 ms2 : Nat} {post : Int32 → VW → Prop} {fs : List Value} (hM : Sp G l yX3_leastOfChains cX3_leastOfChains 6 (some .int) d2 mc2 ms2 [.ref b, v0, v1] w (QI post)) (hy : y.cls = RX3) (he : w[b]? = some (.inr (3, fs))) (hdl : d2 < d) (hk : k + mc2 ≤ mc) (hn : n + ms2 ≤ ms) (hst : (st.map fun v => v.category).sum ≤ 8) (hdg : decode cc pc = .ok (.invokevirtual 112, 3)) (kk : ∀ (x : Int32) (w2 : VW), post x w2 → R G l y cc nL ret d mc ms Q (pc + 3) lv (.int x :: st) w2 (k + mc2) (n + ms2)) : R G l y cc nL ret d mc ms Q pc lv (v1 :: v0 :: .ref b :: st) w k n := R_callV (as := [v0, v1]) (ci := 3) hM w_557 (by rw [hy]; exact w_554) w_556 ws_7 w_3 ⟨by decide, by decide, by rfl⟩ hdl (by decide) hk hn hst rfl rfl he hdg (fun r w2 h => by obtain ⟨x, rfl, h⟩ := h; exact kk x w2 h)
theorem k_X8_209 {v0 v1 : Value} {d2 mc2 ms2 : Nat} {post : Int32 → VW → Prop} (hM : Sp G l yX8_has cX8_has 2 (some .boolean) d2 mc2 ms2 [v0, v1] w (QI post)) (hy : y.cls = RX8) (hdl : d2 < d) (hk : k + mc2 ≤ mc) (hn : n + ms2 ≤ ms) (hst : (st.map fun v => v.category).sum ≤ 8) (hdg : decode cc pc = .ok (.invokestatic 209, 3)) (kk : ∀ (x : Int32) (w2 : VW), post x w2 → R G l y cc nL ret d mc ms Q (pc + 3) lv (.int x :: st) w2 (k + mc2) (n + ms2)) : R G l y cc nL ret d mc ms Q pc lv (v1 :: v0 :: st) w k n := R_callS (as := [v0, v1]) hM w_456 (by rw [hy]; exact w_558) w_455 w_1 ⟨by decide, by decide, by rfl⟩ hdl (by decide) hk hn hst hdg (fun r w2 h => by obtain ⟨x, rfl, h⟩ := h; exact kk x w2 h)
theorem k_X8_203 {v0 v1 : Value} {d2 mc2 ms2 : Nat} {post : Int32 → VW → Prop} (hM : Sp G l yX8_commonDivisor cX8_commonDivisor 6 (some .int) d2 mc2 ms2 [v0, v1] w (QI post)) (hy : y.cls = RX8) (hdl : d2 < d) (hk : k + mc2 ≤ mc) (hn : n + ms2 ≤ ms) (hst : (st.map fun v => v.category).sum ≤ 8) (hdg : decode cc pc = .ok (.invokestatic 203, 3)) (kk : ∀ (x : Int32) (w2 : VW), post x w2 → R G l y cc nL ret d mc ms Q (pc + 3) lv (.int x :: st) w2 (k + mc2) (n + ms2)) : R G l y cc nL ret d mc ms Q pc lv (v1 :: v0 :: st) w k n := R_callS (as := [v0, v1]) hM w_561 (by rw [hy]; exact w_559) w_560 w_1 ⟨by decide, by decide, by rfl⟩ hdl (by decide) hk hn hst hdg (fun r w2 h => by obtain ⟨x, rfl, h⟩ := h; exact kk x w2 h)
theorem k_L_67 {v0 v1 v2 : Value} {b : Nat} {d2 mc2 ms2 : Nat} {post : Int32 → VW → Prop} {fs : List Value} (hM : Sp G l yX8_overlap cX8_overlap 5 (some .int) d2 mc2 ms2 [.ref b, v0, v1, v2] w (QI post)) (hy : y.cls = "ViewCardsLaw") (he : w[b]? = some (.inr (8, fs))) (hdl : d2 < d) (hk : k + mc2 ≤ mc) (hn : n + ms2 ≤ ms) (hst : (st.map fun v => v.category).sum ≤ 8) (hdg : decode cc pc = .ok (.invokevirtual 67, 3)) (kk : ∀ (x : Int32) (w2 : VW), post x w2 → R G l y cc nL ret d mc ms Q (pc + 3) lv (.int x :: st) w2 (k + mc2) (n + ms2)) : R G l y cc nL ret d mc ms Q pc lv (v2 :: v1 :: v0 :: .ref b :: st) w k n := R_callV (as := [v0, v1, v2]) (ci := 8) hM w_565 (by rw [hy]; exact w_562) w_563 w_564 w_1 ⟨by decide, by decide, by rfl⟩ hdl (by decide) hk hn hst rfl rfl he hdg (fun r w2 h => by obtain ⟨x, rfl, h⟩ := h; exact kk x w2 h)
theorem k_X8_212 {v0 v1 : Value} {b : Nat} {d2 mc2 ms2 : Nat} {post : Int32 → VW → Prop} {fs : List Value} (hM : Sp G l yX8_cardsInBoth cX8_cardsInBoth 7 (some .int) d2 mc2 ms2 [.ref b, v0, v1] w (QI post)) (hy : y.cls = RX8) (he : w[b]? = some (.inr (8, fs))) (hdl : d2 < d) (hk : k + mc2 ≤ mc) (hn : n + ms2 ≤ ms) (hst : (st.map fun v => v.category).sum ≤ 8) (hdg : decode cc pc = .ok (.invokevirtual 212, 3)) (kk : ∀ (x : Int32) (w2 : VW), post x w2 → R G l y cc nL ret d mc ms Q (pc + 3) lv (.int x :: st) w2 (k + mc2) (n + ms2)) : R G l y cc nL ret d mc ms Q pc lv (v1 :: v0 :: .ref b :: st) w k n := R_callV (as := [v0, v1]) (ci := 8) hM w_569 (by rw [hy]; exact w_566) w_568 ws_8 w_1 ⟨by decide, by decide, by rfl⟩ hdl (by decide) hk hn hst rfl rfl he hdg (fun r w2 h => by obtain ⟨x, rfl, h⟩ := h; exact kk x w2 h)
theorem k_L_72 {v0 v1 v2 : Value} {b : Nat} {d2 mc2 ms2 : Nat} {post : Int32 → VW → Prop} {fs : List Value} (hM : Sp G l yX8_feature cX8_feature 4 (some .int) d2 mc2 ms2 [.ref b, v0, v1, v2] w (QI post)) (hy : y.cls = "ViewCardsLaw") (he : w[b]? = some (.inr (8, fs))) (hdl : d2 < d) (hk : k + mc2 ≤ mc) (hn : n + ms2 ≤ ms) (hst : (st.map fun v => v.category).sum ≤ 8) (hdg : decode cc pc = .ok (.invokevirtual 72, 3)) (kk : ∀ (x : Int32) (w2 : VW), post x w2 → R G l y cc nL ret d mc ms Q (pc + 3) lv (.int x :: st) w2 (k + mc2) (n + ms2)) : R G l y cc nL ret d mc ms Q pc lv (v2 :: v1 :: v0 :: .ref b :: st) w k n := R_callV (as := [v0, v1, v2]) (ci := 8) hM w_573 (by rw [hy]; exact w_570) w_571 w_572 w_1 ⟨by decide, by decide, by rfl⟩ hdl (by decide) hk hn hst rfl rfl he hdg (fun r w2 h => by obtain ⟨x, rfl, h⟩ := h; exact kk x w2 h)
theorem k_X8_215 {v0 v1 : Value} {d2 mc2 ms2 : Nat} {post : Int32 → VW → Prop} (hM : Sp G l yX8_isSpan cX8_isSpan 2 (some .boolean) d2 mc2 ms2 [v0, v1] w (QI post)) (hy : y.cls = RX8) (hdl : d2 < d) (hk : k + mc2 ≤ mc) (hn : n + ms2 ≤ ms) (hst : (st.map fun v => v.category).sum ≤ 8) (hdg : decode cc pc = .ok (.invokestatic 215, 3)) (kk : ∀ (x : Int32) (w2 : VW), post x w2 → R G l y cc nL ret d mc ms Q (pc + 3) lv (.int x :: st) w2 (k + mc2) (n + ms2)) : R G l y cc nL ret d mc ms Q pc lv (v1 :: v0 :: st) w k n := R_callS (as := [v0, v1]) hM w_576 (by rw [hy]; exact w_574) w_575 w_1 ⟨by decide, by decide, by rfl⟩ hdl (by decide) hk hn hst hdg (fun r w2 h => by obtain ⟨x, rfl, h⟩ := h; exact kk x w2 h)
theorem k_L_76 {v0 v1 v2 : Value} {b : Nat} {d2 mc2 ms2 : Nat} {post : Int32 → VW → Prop} {fs : List Value} (hM : Sp G l yX8_shows cX8_shows 5 (some .int) d2 mc2 ms2 [.ref b, v0, v1, v2] w (QI post)) (hy : y.cls = "ViewCardsLaw") (he : w[b]? = some (.inr (8, fs))) (hdl : d2 < d) (hk : k + mc2 ≤ mc) (hn : n + ms2 ≤ ms) (hst : (st.map fun v => v.category).sum ≤ 8) (hdg : decode cc pc = .ok (.invokevirtual 76, 3)) (kk : ∀ (x : Int32) (w2 : VW), post x w2 → R G l y cc nL ret d mc ms Q (pc + 3) lv (.int x :: st) w2 (k + mc2) (n + ms2)) : R G l y cc nL ret d mc ms Q pc lv (v2 :: v1 :: v0 :: .ref b :: st) w k n := R_callV (as := [v0, v1, v2]) (ci := 8) hM w_580 (by rw [hy]; exact w_577) w_578 w_579 w_1 ⟨by decide, by decide, by rfl⟩ hdl (by decide) hk hn hst rfl rfl he hdg (fun r w2 h => by obtain ⟨x, rfl, h⟩ := h; exact kk x w2 h)
theorem k_L_80 {v0 v1 v2 : Value} {b : Nat} {d2 mc2 ms2 : Nat} {post : Int32 → VW → Prop} {fs : List Value} (hM : Sp G l yX8_back cX8_back 4 (some .int) d2 mc2 ms2 [.ref b, v0, v1, v2] w (QI post)) (hy : y.cls = "ViewCardsLaw") (he : w[b]? = some (.inr (8, fs))) (hdl : d2 < d) (hk : k + mc2 ≤ mc) (hn : n + ms2 ≤ ms) (hst : (st.map fun v => v.category).sum ≤ 8) (hdg : decode cc pc = .ok (.invokevirtual 80, 3)) (kk : ∀ (x : Int32) (w2 : VW), post x w2 → R G l y cc nL ret d mc ms Q (pc + 3) lv (.int x :: st) w2 (k + mc2) (n + ms2)) : R G l y cc nL ret d mc ms Q pc lv (v2 :: v1 :: v0 :: .ref b :: st) w k n := R_callV (as := [v0, v1, v2]) (ci := 8) hM w_584 (by rw [hy]; exact w_581) w_582 w_583 w_1 ⟨by decide, by decide, by rfl⟩ hdl (by decide) hk hn hst rfl rfl he hdg (fun r w2 h => by obtain ⟨x, rfl, h⟩ := h; exact kk x w2 h)
theorem k_L_84 {v0 v1 : Value} {b : Nat} {d2 mc2 ms2 : Nat} {post : Int32 → VW → Prop} {fs : List Value} (hM : Sp G l yX8_later cX8_later 3 (some .int) d2 mc2 ms2 [.ref b, v0, v1] w (QI post)) (hy : y.cls = "ViewCardsLaw") (he : w[b]? = some (.inr (8, fs))) (hdl : d2 < d) (hk : k + mc2 ≤ mc) (hn : n + ms2 ≤ ms) (hst : (st.map fun v => v.category).sum ≤ 8) (hdg : decode cc pc = .ok (.invokevirtual 84, 3)) (kk : ∀ (x : Int32) (w2 : VW), post x w2 → R G l y cc nL ret d mc ms Q (pc + 3) lv (.int x :: st) w2 (k + mc2) (n + ms2)) : R G l y cc nL ret d mc ms Q pc lv (v1 :: v0 :: .ref b :: st) w k n := R_callV (as := [v0, v1]) (ci := 8) hM w_588 (by rw [hy]; exact w_585) w_586 w_587 w_1 ⟨by decide, by decide, by rfl⟩ hdl (by decide) hk hn hst rfl rfl he hdg (fun r w2 h => by obtain ⟨x, rfl, h⟩ := h; exact kk x w2 h)
theorem k_L_88 {v0 v1 v2 : Value} {b : Nat} {d2 mc2 ms2 : Nat} {post : Int32 → VW → Prop} {fs : List Value} (hM : Sp G l yX8_span cX8_span 5 (some .int) d2 mc2 ms2 [.ref b, v0, v1, v2] w (QI post)) (hy : y.cls = "ViewCardsLaw") (he : w[b]? = some (.inr (8, fs))) (hdl : d2 < d) (hk : k + mc2 ≤ mc) (hn : n + ms2 ≤ ms) (hst : (st.map fun v => v.category).sum ≤ 8) (hdg : decode cc pc = .ok (.invokevirtual 88, 3)) (kk : ∀ (x : Int32) (w2 : VW), post x w2 → R G l y cc nL ret d mc ms Q (pc + 3) lv (.int x :: st) w2 (k + mc2) (n + ms2)) : R G l y cc nL ret d mc ms Q pc lv (v2 :: v1 :: v0 :: .ref b :: st) w k n := R_callV (as := [v0, v1, v2]) (ci := 8) hM w_592 (by rw [hy]; exact w_589) w_590 w_591 w_1 ⟨by decide, by decide, by rfl⟩ hdl (by decide) hk hn hst rfl rfl he hdg (fun r w2 h => by obtain ⟨x, rfl, h⟩ := h; exact kk x w2 h)
theorem k_X8_242 {v0 v1 : Value} {b : Nat} {d2 mc2 ms2 : Nat} {post : Int32 → VW → Prop} {fs : List Value} (hM : Sp G l yX1_settle cX1_settle 5 (some .boolean) d2 mc2 ms2 [.ref b, v0, v1] w (QI post)) (hy : y.cls = RX8) (he : w[b]? = some (.inr (1, fs))) (hdl : d2 < d) (hk : k + mc2 ≤ mc) (hn : n + ms2 ≤ ms) (hst : (st.map fun v => v.category).sum ≤ 8) (hdg : decode cc pc = .ok (.invokevirtual 242, 3)) (kk : ∀ (x : Int32) (w2 : VW), post x w2 → R G l y cc nL ret d mc ms Q (pc + 3) lv (.int x :: st) w2 (k + mc2) (n + ms2)) : R G l y cc nL ret d mc ms Q pc lv (v1 :: v0 :: .ref b :: st) w k n := R_callV (as := [v0, v1]) (ci := 1) hM w_596 (by rw [hy]; exact w_593) w_594 w_595 w_5 ⟨by decide, by decide, by rfl⟩ hdl (by decide) hk hn hst rfl rfl he hdg (fun r w2 h => by obtain ⟨x, rfl, h⟩ := h; exact kk x w2 h)
theorem k_X1_56 {v0 : Value} {b : Nat} {d2 mc2 ms2 : Nat} {post : VW → Prop} {fs : List Value} (hM : Sp G l yX1_findLeaders cX1_findLeaders 6 none d2 mc2 ms2 [.ref b, v0] w (QV post)) (hy : y.cls = RX1) (he : w[b]? = some (.inr (1, fs))) (hdl : d2 < d) (hk : k + mc2 ≤ mc) (hn : n + ms2 ≤ ms) (hst : (st.map fun v => v.category).sum ≤ 8) (hdg : decode cc pc = .ok (.invokevirtual 56, 3)) (kk : ∀ (w2 : VW), post w2 → R G l y cc nL ret d mc ms Q (pc + 3) lv st w2 (k + mc2) (n + ms2)) : R G l y cc nL ret d mc ms Q pc lv (v0 :: .ref b :: st) w k n := R_callV (as := [v0]) (ci := 1) hM w_600 (by rw [hy]; exact w_597) w_599 ws_9 w_5 ⟨by decide, by decide, by rfl⟩ hdl (by decide) hk hn hst rfl rfl he hdg (fun r w2 h => by obtain ⟨rfl, h⟩ := h; exact kk w2 h)
theorem k_X1_75 {v0 v1 v2 : Value} {b : Nat} {d2 mc2 ms2 : Nat} {post : VW → Prop} {fs : List Value} (hM : Sp G l yX7_open cX7_open 4 none d2 mc2 ms2 [.ref b, v0, v1, v2] w (QV post)) (hy : y.cls = RX1) (he : w[b]? = some (.inr (7, fs))) (hdl : d2 < d) (hk : k + mc2 ≤ mc) (hn : n + ms2 ≤ ms) (hst : (st.map fun v => v.category).sum ≤ 8) (hdg : decode cc pc = .ok (.invokevirtual 75, 3)) (kk : ∀ (w2 : VW), post w2 → R G l y cc nL ret d mc ms Q (pc + 3) lv st w2 (k + mc2) (n + ms2)) : R G l y cc nL ret d mc ms Q pc lv (v2 :: v1 :: v0 :: .ref b :: st) w k n := R_callV (as := [v0, v1, v2]) (ci := 7) hM w_605 (by rw [hy]; exact w_602) w_603 w_604 w_6 ⟨by decide, by decide, by rfl⟩ hdl (by decide) hk hn hst rfl rfl he hdg (fun r w2 h => by obtain ⟨rfl, h⟩ := h; exact kk w2 h)
theorem k_X1_79 {v0 v1 : Value} {b : Nat} {d2 mc2 ms2 : Nat} {post : Int32 → VW → Prop} {fs : List Value} (hM : Sp G l yX3_sameNegative cX3_sameNegative 3 (some .int) d2 mc2 ms2 [.ref b, v0, v1] w (QI post)) (hy : y.cls = RX1) (he : w[b]? = some (.inr (3, fs))) (hdl : d2 < d) (hk : k + mc2 ≤ mc) (hn : n + ms2 ≤ ms) (hst : (st.map fun v => v.category).sum ≤ 8) (hdg : decode cc pc = .ok (.invokevirtual 79, 3)) (kk : ∀ (x : Int32) (w2 : VW), post x w2 → R G l y cc nL ret d mc ms Q (pc + 3) lv (.int x :: st) w2 (k + mc2) (n + ms2)) : R G l y cc nL ret d mc ms Q pc lv (v1 :: v0 :: .ref b :: st) w k n := R_callV (as := [v0, v1]) (ci := 3) hM w_440 (by rw [hy]; exact w_606) w_438 w_439 w_3 ⟨by decide, by decide, by rfl⟩ hdl (by decide) hk hn hst rfl rfl he hdg (fun r w2 h => by obtain ⟨x, rfl, h⟩ := h; exact kk x w2 h)
theorem k_X1_64 {v0 v1 : Value} {b : Nat} {d2 mc2 ms2 : Nat} {post : VW → Prop} {fs : List Value} (hM : Sp G l yX1_openPublished cX1_openPublished 5 none d2 mc2 ms2 [.ref b, v0, v1] w (QV post)) (hy : y.cls = RX1) (he : w[b]? = some (.inr (1, fs))) (hdl : d2 < d) (hk : k + mc2 ≤ mc) (hn : n + ms2 ≤ ms) (hst : (st.map fun v => v.category).sum ≤ 8) (hdg : decode cc pc = .ok (.invokevirtual 64, 3)) (kk : ∀ (w2 : VW), post w2 → R G l y cc nL ret d mc ms Q (pc + 3) lv st w2 (k + mc2) (n + ms2)) : R G l y cc nL ret d mc ms Q pc lv (v1 :: v0 :: .ref b :: st) w k n := R_callV (as := [v0, v1]) (ci := 1) hM w_610 (by rw [hy]; exact w_607) w_609 ws_10 w_5 ⟨by decide, by decide, by rfl⟩ hdl (by decide) hk hn hst rfl rfl he hdg (fun r w2 h => by obtain ⟨rfl, h⟩ := h; exact kk w2 h)
theorem k_X1_93 {v0 v1 : Value} {b : Nat} {d2 mc2 ms2 : Nat} {post : VW → Prop} {fs : List Value} (hM : Sp G l yX7_notBehind cX7_notBehind 3 none d2 mc2 ms2 [.ref b, v0, v1] w (QV post)) (hy : y.cls = RX1) (he : w[b]? = some (.inr (7, fs))) (hdl : d2 < d) (hk : k + mc2 ≤ mc) (hn : n + ms2 ≤ ms) (hst : (st.map fun v => v.category).sum ≤ 8) (hdg : decode cc pc = .ok (.invokevirtual 93, 3)) (kk : ∀ (w2 : VW), post w2 → R G l y cc nL ret d mc ms Q (pc + 3) lv st w2 (k + mc2) (n + ms2)) : R G l y cc nL ret d mc ms Q pc lv (v1 :: v0 :: .ref b :: st) w k n := R_callV (as := [v0, v1]) (ci := 7) hM w_614 (by rw [hy]; exact w_611) w_612 w_613 w_6 ⟨by decide, by decide, by rfl⟩ hdl (by decide) hk hn hst rfl rfl he hdg (fun r w2 h => by obtain ⟨rfl, h⟩ := h; exact kk w2 h)
theorem k_X1_113 {v0 v1 v2 : Value} {b : Nat} {d2 mc2 ms2 : Nat} {post : Int32 → VW → Prop} {fs : List Value} (hM : Sp G l yX4_isFor cX4_isFor 4 (some .boolean) d2 mc2 ms2 [.ref b, v0, v1, v2] w (QI post)) (hy : y.cls = RX1) (he : w[b]? = some (.inr (4, fs))) (hdl : d2 < d) (hk : k + mc2 ≤ mc) (hn : n + ms2 ≤ ms) (hst : (st.map fun v => v.category).sum ≤ 8) (hdg : decode cc pc = .ok (.invokevirtual 113, 3)) (kk : ∀ (x : Int32) (w2 : VW), post x w2 → R G l y cc nL ret d mc ms Q (pc + 3) lv (.int x :: st) w2 (k + mc2) (n + ms2)) : R G l y cc nL ret d mc ms Q pc lv (v2 :: v1 :: v0 :: .ref b :: st) w k n := R_callV (as := [v0, v1, v2]) (ci := 4) hM w_618 (by rw [hy]; exact w_615) w_616 w_617 w_9 ⟨by decide, by decide, by rfl⟩ hdl (by decide) hk hn hst rfl rfl he hdg (fun r w2 h => by obtain ⟨x, rfl, h⟩ := h; exact kk x w2 h)
theorem k_X1_120 {v0 v1 : Value} {b : Nat} {d2 mc2 ms2 : Nat} {post : VW → Prop} {fs : List Value} (hM : Sp G l yX7_notBefore cX7_notBefore 3 none d2 mc2 ms2 [.ref b, v0, v1] w (QV post)) (hy : y.cls = RX1) (he : w[b]? = some (.inr (7, fs))) (hdl : d2 < d) (hk : k + mc2 ≤ mc) (hn : n + ms2 ≤ ms) (hst : (st.map fun v => v.category).sum ≤ 8) (hdg : decode cc pc = .ok (.invokevirtual 120, 3)) (kk : ∀ (w2 : VW), post w2 → R G l y cc nL ret d mc ms Q (pc + 3) lv st w2 (k + mc2) (n + ms2)) : R G l y cc nL ret d mc ms Q pc lv (v1 :: v0 :: .ref b :: st) w k n := R_callV (as := [v0, v1]) (ci := 7) hM w_623 (by rw [hy]; exact w_620) w_621 w_622 w_6 ⟨by decide, by decide, by rfl⟩ hdl (by decide) hk hn hst rfl rfl he hdg (fun r w2 h => by obtain ⟨rfl, h⟩ := h; exact kk w2 h)
theorem k_X1_68 {v0 : Value} {b : Nat} {d2 mc2 ms2 : Nat} {post : Int32 → VW → Prop} {fs : List Value} (hM : Sp G l yX1_narrow cX1_narrow 5 (some .boolean) d2 mc2 ms2 [.ref b, v0] w (QI post)) (hy : y.cls = RX1) (he : w[b]? = some (.inr (1, fs))) (hdl : d2 < d) (hk : k + mc2 ≤ mc) (hn : n + ms2 ≤ ms) (hst : (st.map fun v => v.category).sum ≤ 8) (hdg : decode cc pc = .ok (.invokevirtual 68, 3)) (kk : ∀ (x : Int32) (w2 : VW), post x w2 → R G l y cc nL ret d mc ms Q (pc + 3) lv (.int x :: st) w2 (k + mc2) (n + ms2)) : R G l y cc nL ret d mc ms Q pc lv (v0 :: .ref b :: st) w k n := R_callV (as := [v0]) (ci := 1) hM w_627 (by rw [hy]; exact w_624) w_626 ws_11 w_5 ⟨by decide, by decide, by rfl⟩ hdl (by decide) hk hn hst rfl rfl he hdg (fun r w2 h => by obtain ⟨x, rfl, h⟩ := h; exact kk x w2 h)
theorem k_X1_130 {v0 : Value} {b : Nat} {d2 mc2 ms2 : Nat} {post : VW → Prop} {fs : List Value} (hM : Sp G l yX1_narrowByFeatures cX1_narrowByFeatures 6 none d2 mc2 ms2 [.ref b, v0] w (QV post)) (hy : y.cls = RX1) (he : w[b]? = some (.inr (1, fs))) (hdl : d2 < d) (hk : k + mc2 ≤ mc) (hn : n + ms2 ≤ ms) (hst : (st.map fun v => v.category).sum ≤ 8) (hdg : decode cc pc = .ok (.invokevirtual 130, 3)) (kk : ∀ (w2 : VW), post w2 → R G l y cc nL ret d mc ms Q (pc + 3) lv st w2 (k + mc2) (n + ms2)) : R G l y cc nL ret d mc ms Q pc lv (v0 :: .ref b :: st) w k n := R_callV (as := [v0]) (ci := 1) hM w_631 (by rw [hy]; exact w_628) w_630 ws_12 w_5 ⟨by decide, by decide, by rfl⟩ hdl (by decide) hk hn hst rfl rfl he hdg (fun r w2 h => by obtain ⟨rfl, h⟩ := h; exact kk w2 h)
theorem k_X1_72 {v0 : Value} {b : Nat} {d2 mc2 ms2 : Nat} {post : Int32 → VW → Prop} {fs : List Value} (hM : Sp G l yX1_isSomeEmpty cX1_isSomeEmpty 3 (some .boolean) d2 mc2 ms2 [.ref b, v0] w (QI post)) (hy : y.cls = RX1) (he : w[b]? = some (.inr (1, fs))) (hdl : d2 < d) (hk : k + mc2 ≤ mc) (hn : n + ms2 ≤ ms) (hst : (st.map fun v => v.category).sum ≤ 8) (hdg : decode cc pc = .ok (.invokevirtual 72, 3)) (kk : ∀ (x : Int32) (w2 : VW), post x w2 → R G l y cc nL ret d mc ms Q (pc + 3) lv (.int x :: st) w2 (k + mc2) (n + ms2)) : R G l y cc nL ret d mc ms Q pc lv (v0 :: .ref b :: st) w k n := R_callV (as := [v0]) (ci := 1) hM w_636 (by rw [hy]; exact w_633) w_635 ws_13 w_5 ⟨by decide, by decide, by rfl⟩ hdl (by decide) hk hn hst rfl rfl he hdg (fun r w2 h => by obtain ⟨x, rfl, h⟩ := h; exact kk x w2 h)
theorem k_L_92 {b : Nat} {d2 mc2 ms2 : Nat} {post : Int32 → VW → Prop} {fs : List Value} (hM : Sp G l yX8_quarrel cX8_quarrel 1 (some .int) d2 mc2 ms2 [.ref b] w (QI post)) (hy : y.cls = "ViewCardsLaw") (he : w[b]? = some (.inr (8, fs))) (hdl : d2 < d) (hk : k + mc2 ≤ mc) (hn : n + ms2 ≤ ms) (hst : (st.map fun v => v.category).sum ≤ 8) (hdg : decode cc pc = .ok (.invokevirtual 92, 3)) (kk : ∀ (x : Int32) (w2 : VW), post x w2 → R G l y cc nL ret d mc ms Q (pc + 3) lv (.int x :: st) w2 (k + mc2) (n + ms2)) : R G l y cc nL ret d mc ms Q pc lv (.ref b :: st) w k n := R_callV (as := []) (ci := 8) hM w_640 (by rw [hy]; exact w_637) w_638 w_639 w_1 ⟨by decide, by decide, by rfl⟩ hdl (by decide) hk hn hst rfl rfl he hdg (fun r w2 h => by obtain ⟨x, rfl, h⟩ := h; exact kk x w2 h)
theorem k_L_97 {b : Nat} {d2 mc2 ms2 : Nat} {post : Int32 → VW → Prop} {fs : List Value} (hM : Sp G l yX8_culprit cX8_culprit 3 (some .int) d2 mc2 ms2 [.ref b] w (QI post)) (hy : y.cls = "ViewCardsLaw") (he : w[b]? = some (.inr (8, fs))) (hdl : d2 < d) (hk : k + mc2 ≤ mc) (hn : n + ms2 ≤ ms) (hst : (st.map fun v => v.category).sum ≤ 8) (hdg : decode cc pc = .ok (.invokevirtual 97, 3)) (kk : ∀ (x : Int32) (w2 : VW), post x w2 → R G l y cc nL ret d mc ms Q (pc + 3) lv (.int x :: st) w2 (k + mc2) (n + ms2)) : R G l y cc nL ret d mc ms Q pc lv (.ref b :: st) w k n := R_callV (as := []) (ci := 8) hM w_644 (by rw [hy]; exact w_641) w_642 w_643 w_1 ⟨by decide, by decide, by rfl⟩ hdl (by decide) hk hn hst rfl rfl he hdg (fun r w2 h => by obtain ⟨x, rfl, h⟩ := h; exact kk x w2 h)
theorem k_L_101 {v0 v1 : Value} {b : Nat} {d2 mc2 ms2 : Nat} {post : Int32 → VW → Prop} {fs : List Value} (hM : Sp G l yX8_landmark cX8_landmark 3 (some .int) d2 mc2 ms2 [.ref b, v0, v1] w (QI post)) (hy : y.cls = "ViewCardsLaw") (he : w[b]? = some (.inr (8, fs))) (hdl : d2 < d) (hk : k + mc2 ≤ mc) (hn : n + ms2 ≤ ms) (hst : (st.map fun v => v.category).sum ≤ 8) (hdg : decode cc pc = .ok (.invokevirtual 101, 3)) (kk : ∀ (x : Int32) (w2 : VW), post x w2 → R G l y cc nL ret d mc ms Q (pc + 3) lv (.int x :: st) w2 (k + mc2) (n + ms2)) : R G l y cc nL ret d mc ms Q pc lv (v1 :: v0 :: .ref b :: st) w k n := R_callV (as := [v0, v1]) (ci := 8) hM w_648 (by rw [hy]; exact w_645) w_646 w_647 w_1 ⟨by decide, by decide, by rfl⟩ hdl (by decide) hk hn hst rfl rfl he hdg (fun r w2 h => by obtain ⟨x, rfl, h⟩ := h; exact kk x w2 h)
theorem k_L_105 {v0 : Value} {b : Nat} {d2 mc2 ms2 : Nat} {post : Int32 → VW → Prop} {fs : List Value} (hM : Sp G l yX8_walls cX8_walls 3 (some .int) d2 mc2 ms2 [.ref b, v0] w (QI post)) (hy : y.cls = "ViewCardsLaw") (he : w[b]? = some (.inr (8, fs))) (hdl : d2 < d) (hk : k + mc2 ≤ mc) (hn : n + ms2 ≤ ms) (hst : (st.map fun v => v.category).sum ≤ 8) (hdg : decode cc pc = .ok (.invokevirtual 105, 3)) (kk : ∀ (x : Int32) (w2 : VW), post x w2 → R G l y cc nL ret d mc ms Q (pc + 3) lv (.int x :: st) w2 (k + mc2) (n + ms2)) : R G l y cc nL ret d mc ms Q pc lv (v0 :: .ref b :: st) w k n := R_callV (as := [v0]) (ci := 8) hM w_652 (by rw [hy]; exact w_649) w_650 w_651 w_1 ⟨by decide, by decide, by rfl⟩ hdl (by decide) hk hn hst rfl rfl he hdg (fun r w2 h => by obtain ⟨x, rfl, h⟩ := h; exact kk x w2 h)
theorem k_L_110 {v0 v1 : Value} {b : Nat} {d2 mc2 ms2 : Nat} {post : Int32 → VW → Prop} {fs : List Value} (hM : Sp G l yX8_view cX8_view 3 (some .int) d2 mc2 ms2 [.ref b, v0, v1] w (QI post)) (hy : y.cls = "ViewCardsLaw") (he : w[b]? = some (.inr (8, fs))) (hdl : d2 < d) (hk : k + mc2 ≤ mc) (hn : n + ms2 ≤ ms) (hst : (st.map fun v => v.category).sum ≤ 8) (hdg : decode cc pc = .ok (.invokevirtual 110, 3)) (kk : ∀ (x : Int32) (w2 : VW), post x w2 → R G l y cc nL ret d mc ms Q (pc + 3) lv (.int x :: st) w2 (k + mc2) (n + ms2)) : R G l y cc nL ret d mc ms Q pc lv (v1 :: v0 :: .ref b :: st) w k n := R_callV (as := [v0, v1]) (ci := 8) hM w_656 (by rw [hy]; exact w_653) w_654 w_655 w_1 ⟨by decide, by decide, by rfl⟩ hdl (by decide) hk hn hst rfl rfl he hdg (fun r w2 h => by obtain ⟨x, rfl, h⟩ := h; exact kk x w2 h)
theorem k_X8_271 {v0 v1 : Value} {b : Nat} {d2 mc2 ms2 : Nat} {post : Int32 → VW → Prop} {fs : List Value} (hM : Sp G l yX2_isInView cX2_isInView 4 (some .boolean) d2 mc2 ms2 [.ref b, v0, v1] w (QI post)) (hy : y.cls = RX8) (he : w[b]? = some (.inr (2, fs))) (hdl : d2 < d) (hk : k + mc2 ≤ mc) (hn : n + ms2 ≤ ms) (hst : (st.map fun v => v.category).sum ≤ 8) (hdg : decode cc pc = .ok (.invokevirtual 271, 3)) (kk : ∀ (x : Int32) (w2 : VW), post x w2 → R G l y cc nL ret d mc ms Q (pc + 3) lv (.int x :: st) w2 (k + mc2) (n + ms2)) : R G l y cc nL ret d mc ms Q pc lv (v1 :: v0 :: .ref b :: st) w k n := R_callV (as := [v0, v1]) (ci := 2) hM w_660 (by rw [hy]; exact w_657) w_658 w_659 w_7 ⟨by decide, by decide, by rfl⟩ hdl (by decide) hk hn hst rfl rfl he hdg (fun r w2 h => by obtain ⟨x, rfl, h⟩ := h; exact kk x w2 h)
theorem k_L_114 {v0 : Value} {b : Nat} {d2 mc2 ms2 : Nat} {post : Int32 → VW → Prop} {fs : List Value} (hM : Sp G l yX8_unview cX8_unview 3 (some .int) d2 mc2 ms2 [.ref b, v0] w (QI post)) (hy : y.cls = "ViewCardsLaw") (he : w[b]? = some (.inr (8, fs))) (hdl : d2 < d) (hk : k + mc2 ≤ mc) (hn : n + ms2 ≤ ms) (hst : (st.map fun v => v.category).sum ≤ 8) (hdg : decode cc pc = .ok (.invokevirtual 114, 3)) (kk : ∀ (x : Int32) (w2 : VW), post x w2 → R G l y cc nL ret d mc ms Q (pc + 3) lv (.int x :: st) w2 (k + mc2) (n + ms2)) : R G l y cc nL ret d mc ms Q pc lv (v0 :: .ref b :: st) w k n := R_callV (as := [v0]) (ci := 8) hM w_664 (by rw [hy]; exact w_661) w_662 w_663 w_1 ⟨by decide, by decide, by rfl⟩ hdl (by decide) hk hn hst rfl rfl he hdg (fun r w2 h => by obtain ⟨x, rfl, h⟩ := h; exact kk x w2 h)
theorem k_L_118 {v0 : Value} {b : Nat} {d2 mc2 ms2 : Nat} {post : Int64 → VW → Prop} {fs : List Value} (hM : Sp G l yX8_stood cX8_stood 2 (some .long) d2 mc2 ms2 [.ref b, v0] w (QL post)) (hy : y.cls = "ViewCardsLaw") (he : w[b]? = some (.inr (8, fs))) (hdl : d2 < d) (hk : k + mc2 ≤ mc) (hn : n + ms2 ≤ ms) (hst : (st.map fun v => v.category).sum ≤ 8) (hdg : decode cc pc = .ok (.invokevirtual 118, 3)) (kk : ∀ (x : Int64) (w2 : VW), post x w2 → R G l y cc nL ret d mc ms Q (pc + 3) lv (.long x :: st) w2 (k + mc2) (n + ms2)) : R G l y cc nL ret d mc ms Q pc lv (v0 :: .ref b :: st) w k n := R_callV (as := [v0]) (ci := 8) hM w_668 (by rw [hy]; exact w_665) w_666 w_667 w_1 ⟨by decide, by decide, by rfl⟩ hdl (by decide) hk hn hst rfl rfl he hdg (fun r w2 h => by obtain ⟨x, rfl, h⟩ := h; exact kk x w2 h)
theorem k_X8_280 {v0 : Value} {b : Nat} {d2 mc2 ms2 : Nat} {post : Int64 → VW → Prop} {fs : List Value} (hM : Sp G l yX2_standing cX2_standing 7 (some .long) d2 mc2 ms2 [.ref b, v0] w (QL post)) (hy : y.cls = RX8) (he : w[b]? = some (.inr (2, fs))) (hdl : d2 < d) (hk : k + mc2 ≤ mc) (hn : n + ms2 ≤ ms) (hst : (st.map fun v => v.category).sum ≤ 8) (hdg : decode cc pc = .ok (.invokevirtual 280, 3)) (kk : ∀ (x : Int64) (w2 : VW), post x w2 → R G l y cc nL ret d mc ms Q (pc + 3) lv (.long x :: st) w2 (k + mc2) (n + ms2)) : R G l y cc nL ret d mc ms Q pc lv (v0 :: .ref b :: st) w k n := R_callV (as := [v0]) (ci := 2) hM w_672 (by rw [hy]; exact w_669) w_670 w_671 w_7 ⟨by decide, by decide, by rfl⟩ hdl (by decide) hk hn hst rfl rfl he hdg (fun r w2 h => by obtain ⟨x, rfl, h⟩ := h; exact kk x w2 h)
theorem k_X2_29 {v0 v1 : Value} {b : Nat} {d2 mc2 ms2 : Nat} {post : Int32 → VW → Prop} {fs : List Value} (hM : Sp G l yX2_isOrdered cX2_isOrdered 5 (some .boolean) d2 mc2 ms2 [.ref b, v0, v1] w (QI post)) (hy : y.cls = RX2) (he : w[b]? = some (.inr (2, fs))) (hdl : d2 < d) (hk : k + mc2 ≤ mc) (hn : n + ms2 ≤ ms) (hst : (st.map fun v => v.category).sum ≤ 8) (hdg : decode cc pc = .ok (.invokevirtual 29, 3)) (kk : ∀ (x : Int32) (w2 : VW), post x w2 → R G l y cc nL ret d mc ms Q (pc + 3) lv (.int x :: st) w2 (k + mc2) (n + ms2)) : R G l y cc nL ret d mc ms Q pc lv (v1 :: v0 :: .ref b :: st) w k n := R_callV (as := [v0, v1]) (ci := 2) hM w_677 (by rw [hy]; exact w_674) w_676 ws_14 w_7 ⟨by decide, by decide, by rfl⟩ hdl (by decide) hk hn hst rfl rfl he hdg (fun r w2 h => by obtain ⟨x, rfl, h⟩ := h; exact kk x w2 h)
theorem k_X2_36 {v0 v1 v2 : Value} {d2 mc2 ms2 : Nat} {post : Int32 → VW → Prop} (hM : Sp G l yX2_isLeftOf cX2_isLeftOf 7 (some .boolean) d2 mc2 ms2 [v0, v1, v2] w (QI post)) (hy : y.cls = RX2) (hdl : d2 < d) (hk : k + mc2 ≤ mc) (hn : n + ms2 ≤ ms) (hst : (st.map fun v => v.category).sum ≤ 8) (hdg : decode cc pc = .ok (.invokestatic 36, 3)) (kk : ∀ (x : Int32) (w2 : VW), post x w2 → R G l y cc nL ret d mc ms Q (pc + 3) lv (.int x :: st) w2 (k + mc2) (n + ms2)) : R G l y cc nL ret d mc ms Q pc lv (v2 :: v1 :: v0 :: st) w k n := R_callS (as := [v0, v1, v2]) hM w_680 (by rw [hy]; exact w_678) w_679 w_7 ⟨by decide, by decide, by rfl⟩ hdl (by decide) hk hn hst hdg (fun r w2 h => by obtain ⟨x, rfl, h⟩ := h; exact kk x w2 h)
theorem k_X2_33 {v0 v1 : Value} {b : Nat} {d2 mc2 ms2 : Nat} {post : Int32 → VW → Prop} {fs : List Value} (hM : Sp G l yX2_seesAll cX2_seesAll 4 (some .boolean) d2 mc2 ms2 [.ref b, v0, v1] w (QI post)) (hy : y.cls = RX2) (he : w[b]? = some (.inr (2, fs))) (hdl : d2 < d) (hk : k + mc2 ≤ mc) (hn : n + ms2 ≤ ms) (hst : (st.map fun v => v.category).sum ≤ 8) (hdg : decode cc pc = .ok (.invokevirtual 33, 3)) (kk : ∀ (x : Int32) (w2 : VW), post x w2 → R G l y cc nL ret d mc ms Q (pc + 3) lv (.int x :: st) w2 (k + mc2) (n + ms2)) : R G l y cc nL ret d mc ms Q pc lv (v1 :: v0 :: .ref b :: st) w k n := R_callV (as := [v0, v1]) (ci := 2) hM w_684 (by rw [hy]; exact w_681) w_683 ws_15 w_7 ⟨by decide, by decide, by rfl⟩ hdl (by decide) hk hn hst rfl rfl he hdg (fun r w2 h => by obtain ⟨x, rfl, h⟩ := h; exact kk x w2 h)
theorem k_X2_40 {v0 v1 : Value} {b : Nat} {d2 mc2 ms2 : Nat} {post : Int32 → VW → Prop} {fs : List Value} (hM : Sp G l yX2_sees cX2_sees 8 (some .boolean) d2 mc2 ms2 [.ref b, v0, v1] w (QI post)) (hy : y.cls = RX2) (he : w[b]? = some (.inr (2, fs))) (hdl : d2 < d) (hk : k + mc2 ≤ mc) (hn : n + ms2 ≤ ms) (hst : (st.map fun v => v.category).sum ≤ 8) (hdg : decode cc pc = .ok (.invokevirtual 40, 3)) (kk : ∀ (x : Int32) (w2 : VW), post x w2 → R G l y cc nL ret d mc ms Q (pc + 3) lv (.int x :: st) w2 (k + mc2) (n + ms2)) : R G l y cc nL ret d mc ms Q pc lv (v1 :: v0 :: .ref b :: st) w k n := R_callV (as := [v0, v1]) (ci := 2) hM w_688 (by rw [hy]; exact w_685) w_687 ws_16 w_7 ⟨by decide, by decide, by rfl⟩ hdl (by decide) hk hn hst rfl rfl he hdg (fun r w2 h => by obtain ⟨x, rfl, h⟩ := h; exact kk x w2 h)
theorem k_L_123 {v0 : Value} {b : Nat} {d2 mc2 ms2 : Nat} {post : Int32 → VW → Prop} {fs : List Value} (hM : Sp G l yX8_together cX8_together 6 (some .int) d2 mc2 ms2 [.ref b, v0] w (QI post)) (hy : y.cls = "ViewCardsLaw") (he : w[b]? = some (.inr (8, fs))) (hdl : d2 < d) (hk : k + mc2 ≤ mc) (hn : n + ms2 ≤ ms) (hst : (st.map fun v => v.category).sum ≤ 8) (hdg : decode cc pc = .ok (.invokevirtual 123, 3)) (kk : ∀ (x : Int32) (w2 : VW), post x w2 → R G l y cc nL ret d mc ms Q (pc + 3) lv (.int x :: st) w2 (k + mc2) (n + ms2)) : R G l y cc nL ret d mc ms Q pc lv (v0 :: .ref b :: st) w k n := R_callV (as := [v0]) (ci := 8) hM w_696 (by rw [hy]; exact w_693) w_694 w_695 w_1 ⟨by decide, by decide, by rfl⟩ hdl (by decide) hk hn hst rfl rfl he hdg (fun r w2 h => by obtain ⟨x, rfl, h⟩ := h; exact kk x w2 h)
theorem k_X8_286 {v0 : Value} {d2 mc2 ms2 : Nat} {post : Int32 → VW → Prop} (hM : Sp G l yJ13_bitCount_95d88 cJ13_bitCount_95d88 2 (some .int) d2 mc2 ms2 [v0] w (QI post)) (hy : y.cls = RX8) (hdl : d2 < d) (hk : k + mc2 ≤ mc) (hn : n + ms2 ≤ ms) (hst : (st.map fun v => v.category).sum ≤ 8) (hdg : decode cc pc = .ok (.invokestatic 286, 3)) (kk : ∀ (x : Int32) (w2 : VW), post x w2 → R G l y cc nL ret d mc ms Q (pc + 3) lv (.int x :: st) w2 (k + mc2) (n + ms2)) : R G l y cc nL ret d mc ms Q pc lv (v0 :: st) w k n := R_callS (as := [v0]) hM w_381 (by rw [hy]; exact w_698) w_380 w_12 ⟨by decide, by decide, by rfl⟩ hdl (by decide) hk hn hst hdg (fun r w2 h => by obtain ⟨x, rfl, h⟩ := h; exact kk x w2 h)
theorem k_L_127 {v0 v1 : Value} {b : Nat} {d2 mc2 ms2 : Nat} {post : Int32 → VW → Prop} {fs : List Value} (hM : Sp G l yX8_write cX8_write 5 (some .int) d2 mc2 ms2 [.ref b, v0, v1] w (QI post)) (hy : y.cls = "ViewCardsLaw") (he : w[b]? = some (.inr (8, fs))) (hdl : d2 < d) (hk : k + mc2 ≤ mc) (hn : n + ms2 ≤ ms) (hst : (st.map fun v => v.category).sum ≤ 8) (hdg : decode cc pc = .ok (.invokevirtual 127, 3)) (kk : ∀ (x : Int32) (w2 : VW), post x w2 → R G l y cc nL ret d mc ms Q (pc + 3) lv (.int x :: st) w2 (k + mc2) (n + ms2)) : R G l y cc nL ret d mc ms Q pc lv (v1 :: v0 :: .ref b :: st) w k n := R_callV (as := [v0, v1]) (ci := 8) hM w_702 (by rw [hy]; exact w_699) w_700 w_701 w_1 ⟨by decide, by decide, by rfl⟩ hdl (by decide) hk hn hst rfl rfl he hdg (fun r w2 h => by obtain ⟨x, rfl, h⟩ := h; exact kk x w2 h)
theorem k_L_132 {b : Nat} {d2 mc2 ms2 : Nat} {post : Int32 → VW → Prop} {fs : List Value} (hM : Sp G l yX8_erase cX8_erase 2 (some .int) d2 mc2 ms2 [.ref b] w (QI post)) (hy : y.cls = "ViewCardsLaw") (he : w[b]? = some (.inr (8, fs))) (hdl : d2 < d) (hk : k + mc2 ≤ mc) (hn : n + ms2 ≤ ms) (hst : (st.map fun v => v.category).sum ≤ 8) (hdg : decode cc pc = .ok (.invokevirtual 132, 3)) (kk : ∀ (x : Int32) (w2 : VW), post x w2 → R G l y cc nL ret d mc ms Q (pc + 3) lv (.int x :: st) w2 (k + mc2) (n + ms2)) : R G l y cc nL ret d mc ms Q pc lv (.ref b :: st) w k n := R_callV (as := []) (ci := 8) hM w_706 (by rw [hy]; exact w_703) w_704 w_705 w_1 ⟨by decide, by decide, by rfl⟩ hdl (by decide) hk hn hst rfl rfl he hdg (fun r w2 h => by obtain ⟨x, rfl, h⟩ := h; exact kk x w2 h)
theorem k_L_136 {b : Nat} {d2 mc2 ms2 : Nat} {post : Int32 → VW → Prop} {fs : List Value} (hM : Sp G l yX8_fault cX8_fault 1 (some .int) d2 mc2 ms2 [.ref b] w (QI post)) (hy : y.cls = "ViewCardsLaw") (he : w[b]? = some (.inr (8, fs))) (hdl : d2 < d) (hk : k + mc2 ≤ mc) (hn : n + ms2 ≤ ms) (hst : (st.map fun v => v.category).sum ≤ 8) (hdg : decode cc pc = .ok (.invokevirtual 136, 3)) (kk : ∀ (x : Int32) (w2 : VW), post x w2 → R G l y cc nL ret d mc ms Q (pc + 3) lv (.int x :: st) w2 (k + mc2) (n + ms2)) : R G l y cc nL ret d mc ms Q pc lv (.ref b :: st) w k n := R_callV (as := []) (ci := 8) hM w_710 (by rw [hy]; exact w_707) w_708 w_709 w_1 ⟨by decide, by decide, by rfl⟩ hdl (by decide) hk hn hst rfl rfl he hdg (fun r w2 h => by obtain ⟨x, rfl, h⟩ := h; exact kk x w2 h)
theorem k_X8_295 {v0 : Value} {b : Nat} {d2 mc2 ms2 : Nat} {post : Int32 → VW → Prop} {fs : List Value} (hM : Sp G l yX6_read cX6_read 3 (some .int) d2 mc2 ms2 [.ref b, v0] w (QI post)) (hy : y.cls = RX8) (he : w[b]? = some (.inr (6, fs))) (hdl : d2 < d) (hk : k + mc2 ≤ mc) (hn : n + ms2 ≤ ms) (hst : (st.map fun v => v.category).sum ≤ 8) (hdg : decode cc pc = .ok (.invokevirtual 295, 3)) (kk : ∀ (x : Int32) (w2 : VW), post x w2 → R G l y cc nL ret d mc ms Q (pc + 3) lv (.int x :: st) w2 (k + mc2) (n + ms2)) : R G l y cc nL ret d mc ms Q pc lv (v0 :: .ref b :: st) w k n := R_callV (as := [v0]) (ci := 6) hM w_714 (by rw [hy]; exact w_711) w_712 w_713 w_8 ⟨by decide, by decide, by rfl⟩ hdl (by decide) hk hn hst rfl rfl he hdg (fun r w2 h => by obtain ⟨x, rfl, h⟩ := h; exact kk x w2 h)
theorem k_X6_27 {b : Nat} {d2 mc2 ms2 : Nat} {post : VW → Prop} {fs : List Value} (hM : Sp G l yX6_goOn cX6_goOn 1 none d2 mc2 ms2 [.ref b] w (QV post)) (hy : y.cls = RX6) (he : w[b]? = some (.inr (6, fs))) (hdl : d2 < d) (hk : k + mc2 ≤ mc) (hn : n + ms2 ≤ ms) (hst : (st.map fun v => v.category).sum ≤ 8) (hdg : decode cc pc = .ok (.invokevirtual 27, 3)) (kk : ∀ (w2 : VW), post w2 → R G l y cc nL ret d mc ms Q (pc + 3) lv st w2 (k + mc2) (n + ms2)) : R G l y cc nL ret d mc ms Q pc lv (.ref b :: st) w k n := R_callV (as := []) (ci := 6) hM w_718 (by rw [hy]; exact w_715) w_717 ws_17 w_8 ⟨by decide, by decide, by rfl⟩ hdl (by decide) hk hn hst rfl rfl he hdg (fun r w2 h => by obtain ⟨rfl, h⟩ := h; exact kk w2 h)
theorem k_X6_110 {v0 v1 : Value} {d2 mc2 ms2 : Nat} {post : Int32 → VW → Prop} (hM : Sp G l yX6_isOneRow cX6_isOneRow 2 (some .boolean) d2 mc2 ms2 [v0, v1] w (QI post)) (hy : y.cls = RX6) (hdl : d2 < d) (hk : k + mc2 ≤ mc) (hn : n + ms2 ≤ ms) (hst : (st.map fun v => v.category).sum ≤ 8) (hdg : decode cc pc = .ok (.invokestatic 110, 3)) (kk : ∀ (x : Int32) (w2 : VW), post x w2 → R G l y cc nL ret d mc ms Q (pc + 3) lv (.int x :: st) w2 (k + mc2) (n + ms2)) : R G l y cc nL ret d mc ms Q pc lv (v1 :: v0 :: st) w k n := R_callS (as := [v0, v1]) hM w_722 (by rw [hy]; exact w_720) w_721 w_8 ⟨by decide, by decide, by rfl⟩ hdl (by decide) hk hn hst hdg (fun r w2 h => by obtain ⟨x, rfl, h⟩ := h; exact kk x w2 h)
theorem k_X6_30 {v0 : Value} {b : Nat} {d2 mc2 ms2 : Nat} {post : VW → Prop} {fs : List Value} (hM : Sp G l yX6_readLine cX6_readLine 8 none d2 mc2 ms2 [.ref b, v0] w (QV post)) (hy : y.cls = RX6) (he : w[b]? = some (.inr (6, fs))) (hdl : d2 < d) (hk : k + mc2 ≤ mc) (hn : n + ms2 ≤ ms) (hst : (st.map fun v => v.category).sum ≤ 8) (hdg : decode cc pc = .ok (.invokevirtual 30, 3)) (kk : ∀ (w2 : VW), post w2 → R G l y cc nL ret d mc ms Q (pc + 3) lv st w2 (k + mc2) (n + ms2)) : R G l y cc nL ret d mc ms Q pc lv (v0 :: .ref b :: st) w k n := R_callV (as := [v0]) (ci := 6) hM w_730 (by rw [hy]; exact w_727) w_729 ws_18 w_8 ⟨by decide, by decide, by rfl⟩ hdl (by decide) hk hn hst rfl rfl he hdg (fun r w2 h => by obtain ⟨rfl, h⟩ := h; exact kk w2 h)
theorem k_X6_49 {v0 : Value} {b : Nat} {d2 mc2 ms2 : Nat} {post : VW → Prop} {fs : List Value} (hM : Sp G l yX6_readWord cX6_readWord 2 none d2 mc2 ms2 [.ref b, v0] w (QV post)) (hy : y.cls = RX6) (he : w[b]? = some (.inr (6, fs))) (hdl : d2 < d) (hk : k + mc2 ≤ mc) (hn : n + ms2 ≤ ms) (hst : (st.map fun v => v.category).sum ≤ 8) (hdg : decode cc pc = .ok (.invokevirtual 49, 3)) (kk : ∀ (w2 : VW), post w2 → R G l y cc nL ret d mc ms Q (pc + 3) lv st w2 (k + mc2) (n + ms2)) : R G l y cc nL ret d mc ms Q pc lv (v0 :: .ref b :: st) w k n := R_callV (as := [v0]) (ci := 6) hM w_735 (by rw [hy]; exact w_732) w_734 ws_19 w_8 ⟨by decide, by decide, by rfl⟩ hdl (by decide) hk hn hst rfl rfl he hdg (fun r w2 h => by obtain ⟨rfl, h⟩ := h; exact kk w2 h)
theorem k_X6_36 {v0 : Value} {b : Nat} {d2 mc2 ms2 : Nat} {post : Int32 → VW → Prop} {fs : List Value} (hM : Sp G l yX6_isAt cX6_isAt 3 (some .boolean) d2 mc2 ms2 [.ref b, v0] w (QI post)) (hy : y.cls = RX6) (he : w[b]? = some (.inr (6, fs))) (hdl : d2 < d) (hk : k + mc2 ≤ mc) (hn : n + ms2 ≤ ms) (hst : (st.map fun v => v.category).sum ≤ 8) (hdg : decode cc pc = .ok (.invokevirtual 36, 3)) (kk : ∀ (x : Int32) (w2 : VW), post x w2 → R G l y cc nL ret d mc ms Q (pc + 3) lv (.int x :: st) w2 (k + mc2) (n + ms2)) : R G l y cc nL ret d mc ms Q pc lv (v0 :: .ref b :: st) w k n := R_callV (as := [v0]) (ci := 6) hM w_739 (by rw [hy]; exact w_736) w_738 ws_20 w_8 ⟨by decide, by decide, by rfl⟩ hdl (by decide) hk hn hst rfl rfl he hdg (fun r w2 h => by obtain ⟨x, rfl, h⟩ := h; exact kk x w2 h)
theorem k_X6_44 {b : Nat} {d2 mc2 ms2 : Nat} {post : VW → Prop} {fs : List Value} (hM : Sp G l yX6_findWrong cX6_findWrong 1 none d2 mc2 ms2 [.ref b] w (QV post)) (hy : y.cls = RX6) (he : w[b]? = some (.inr (6, fs))) (hdl : d2 < d) (hk : k + mc2 ≤ mc) (hn : n + ms2 ≤ ms) (hst : (st.map fun v => v.category).sum ≤ 8) (hdg : decode cc pc = .ok (.invokevirtual 44, 3)) (kk : ∀ (w2 : VW), post w2 → R G l y cc nL ret d mc ms Q (pc + 3) lv st w2 (k + mc2) (n + ms2)) : R G l y cc nL ret d mc ms Q pc lv (.ref b :: st) w k n := R_callV (as := []) (ci := 6) hM w_791 (by rw [hy]; exact w_788) w_790 ws_21 w_8 ⟨by decide, by decide, by rfl⟩ hdl (by decide) hk hn hst rfl rfl he hdg (fun r w2 h => by obtain ⟨rfl, h⟩ := h; exact kk w2 h)
theorem k_X6_53 {v0 v1 : Value} {b : Nat} {d2 mc2 ms2 : Nat} {post : Int32 → VW → Prop} {fs : List Value} (hM : Sp G l yX6_readNumber cX6_readNumber 4 (some .int) d2 mc2 ms2 [.ref b, v0, v1] w (QI post)) (hy : y.cls = RX6) (he : w[b]? = some (.inr (6, fs))) (hdl : d2 < d) (hk : k + mc2 ≤ mc) (hn : n + ms2 ≤ ms) (hst : (st.map fun v => v.category).sum ≤ 8) (hdg : decode cc pc = .ok (.invokevirtual 53, 3)) (kk : ∀ (x : Int32) (w2 : VW), post x w2 → R G l y cc nL ret d mc ms Q (pc + 3) lv (.int x :: st) w2 (k + mc2) (n + ms2)) : R G l y cc nL ret d mc ms Q pc lv (v1 :: v0 :: .ref b :: st) w k n := R_callV (as := [v0, v1]) (ci := 6) hM w_795 (by rw [hy]; exact w_792) w_794 ws_22 w_8 ⟨by decide, by decide, by rfl⟩ hdl (by decide) hk hn hst rfl rfl he hdg (fun r w2 h => by obtain ⟨x, rfl, h⟩ := h; exact kk x w2 h)
theorem k_X6_84 {b : Nat} {d2 mc2 ms2 : Nat} {post : Int32 → VW → Prop} {fs : List Value} (hM : Sp G l yX6_numberAt cX6_numberAt 4 (some .int) d2 mc2 ms2 [.ref b] w (QI post)) (hy : y.cls = RX6) (he : w[b]? = some (.inr (6, fs))) (hdl : d2 < d) (hk : k + mc2 ≤ mc) (hn : n + ms2 ≤ ms) (hst : (st.map fun v => v.category).sum ≤ 8) (hdg : decode cc pc = .ok (.invokevirtual 84, 3)) (kk : ∀ (x : Int32) (w2 : VW), post x w2 → R G l y cc nL ret d mc ms Q (pc + 3) lv (.int x :: st) w2 (k + mc2) (n + ms2)) : R G l y cc nL ret d mc ms Q pc lv (.ref b :: st) w k n := R_callV (as := []) (ci := 6) hM w_799 (by rw [hy]; exact w_796) w_798 ws_23 w_8 ⟨by decide, by decide, by rfl⟩ hdl (by decide) hk hn hst rfl rfl he hdg (fun r w2 h => by obtain ⟨x, rfl, h⟩ := h; exact kk x w2 h)
theorem k_L_140 {b : Nat} {d2 mc2 ms2 : Nat} {post : Int32 → VW → Prop} {fs : List Value} (hM : Sp G l yX8_catalogue cX8_catalogue 2 (some .int) d2 mc2 ms2 [.ref b] w (QI post)) (hy : y.cls = "ViewCardsLaw") (he : w[b]? = some (.inr (8, fs))) (hdl : d2 < d) (hk : k + mc2 ≤ mc) (hn : n + ms2 ≤ ms) (hst : (st.map fun v => v.category).sum ≤ 8) (hdg : decode cc pc = .ok (.invokevirtual 140, 3)) (kk : ∀ (x : Int32) (w2 : VW), post x w2 → R G l y cc nL ret d mc ms Q (pc + 3) lv (.int x :: st) w2 (k + mc2) (n + ms2)) : R G l y cc nL ret d mc ms Q pc lv (.ref b :: st) w k n := R_callV (as := []) (ci := 8) hM w_810 (by rw [hy]; exact w_807) w_808 w_809 w_1 ⟨by decide, by decide, by rfl⟩ hdl (by decide) hk hn hst rfl rfl he hdg (fun r w2 h => by obtain ⟨x, rfl, h⟩ := h; exact kk x w2 h)
theorem k_L_144 {v0 : Value} {b : Nat} {d2 mc2 ms2 : Nat} {post : Int32 → VW → Prop} {fs : List Value} (hM : Sp G l yX8_breaks cX8_breaks 7 (some .int) d2 mc2 ms2 [.ref b, v0] w (QI post)) (hy : y.cls = "ViewCardsLaw") (he : w[b]? = some (.inr (8, fs))) (hdl : d2 < d) (hk : k + mc2 ≤ mc) (hn : n + ms2 ≤ ms) (hst : (st.map fun v => v.category).sum ≤ 8) (hdg : decode cc pc = .ok (.invokevirtual 144, 3)) (kk : ∀ (x : Int32) (w2 : VW), post x w2 → R G l y cc nL ret d mc ms Q (pc + 3) lv (.int x :: st) w2 (k + mc2) (n + ms2)) : R G l y cc nL ret d mc ms Q pc lv (v0 :: .ref b :: st) w k n := R_callV (as := [v0]) (ci := 8) hM w_814 (by rw [hy]; exact w_811) w_812 w_813 w_1 ⟨by decide, by decide, by rfl⟩ hdl (by decide) hk hn hst rfl rfl he hdg (fun r w2 h => by obtain ⟨x, rfl, h⟩ := h; exact kk x w2 h)
theorem k_X8_304 {v0 v1 v2 : Value} {b : Nat} {d2 mc2 ms2 : Nat} {post : Int32 → VW → Prop} {fs : List Value} (hM : Sp G l yX4_isFor cX4_isFor 4 (some .boolean) d2 mc2 ms2 [.ref b, v0, v1, v2] w (QI post)) (hy : y.cls = RX8) (he : w[b]? = some (.inr (4, fs))) (hdl : d2 < d) (hk : k + mc2 ≤ mc) (hn : n + ms2 ≤ ms) (hst : (st.map fun v => v.category).sum ≤ 8) (hdg : decode cc pc = .ok (.invokevirtual 304, 3)) (kk : ∀ (x : Int32) (w2 : VW), post x w2 → R G l y cc nL ret d mc ms Q (pc + 3) lv (.int x :: st) w2 (k + mc2) (n + ms2)) : R G l y cc nL ret d mc ms Q pc lv (v2 :: v1 :: v0 :: .ref b :: st) w k n := R_callV (as := [v0, v1, v2]) (ci := 4) hM w_618 (by rw [hy]; exact w_815) w_616 w_617 w_9 ⟨by decide, by decide, by rfl⟩ hdl (by decide) hk hn hst rfl rfl he hdg (fun r w2 h => by obtain ⟨x, rfl, h⟩ := h; exact kk x w2 h)
theorem k_X8_313 {v0 v1 v2 : Value} {b : Nat} {d2 mc2 ms2 : Nat} {post : Int32 → VW → Prop} {fs : List Value} (hM : Sp G l yX1_canBePublished cX1_canBePublished 4 (some .boolean) d2 mc2 ms2 [.ref b, v0, v1, v2] w (QI post)) (hy : y.cls = RX8) (he : w[b]? = some (.inr (1, fs))) (hdl : d2 < d) (hk : k + mc2 ≤ mc) (hn : n + ms2 ≤ ms) (hst : (st.map fun v => v.category).sum ≤ 8) (hdg : decode cc pc = .ok (.invokevirtual 313, 3)) (kk : ∀ (x : Int32) (w2 : VW), post x w2 → R G l y cc nL ret d mc ms Q (pc + 3) lv (.int x :: st) w2 (k + mc2) (n + ms2)) : R G l y cc nL ret d mc ms Q pc lv (v2 :: v1 :: v0 :: .ref b :: st) w k n := R_callV (as := [v0, v1, v2]) (ci := 1) hM w_819 (by rw [hy]; exact w_816) w_817 w_818 w_5 ⟨by decide, by decide, by rfl⟩ hdl (by decide) hk hn hst rfl rfl he hdg (fun r w2 h => by obtain ⟨x, rfl, h⟩ := h; exact kk x w2 h)
theorem k_L_148 {v0 : Value} {b : Nat} {d2 mc2 ms2 : Nat} {post : Int32 → VW → Prop} {fs : List Value} (hM : Sp G l yX8_count cX8_count 2 (some .int) d2 mc2 ms2 [.ref b, v0] w (QI post)) (hy : y.cls = "ViewCardsLaw") (he : w[b]? = some (.inr (8, fs))) (hdl : d2 < d) (hk : k + mc2 ≤ mc) (hn : n + ms2 ≤ ms) (hst : (st.map fun v => v.category).sum ≤ 8) (hdg : decode cc pc = .ok (.invokevirtual 148, 3)) (kk : ∀ (x : Int32) (w2 : VW), post x w2 → R G l y cc nL ret d mc ms Q (pc + 3) lv (.int x :: st) w2 (k + mc2) (n + ms2)) : R G l y cc nL ret d mc ms Q pc lv (v0 :: .ref b :: st) w k n := R_callV (as := [v0]) (ci := 8) hM w_823 (by rw [hy]; exact w_820) w_821 w_822 w_1 ⟨by decide, by decide, by rfl⟩ hdl (by decide) hk hn hst rfl rfl he hdg (fun r w2 h => by obtain ⟨x, rfl, h⟩ := h; exact kk x w2 h)
theorem k_X8_319 {v0 : Value} {b : Nat} {d2 mc2 ms2 : Nat} {post : Int32 → VW → Prop} {fs : List Value} (hM : Sp G l yX3_negatives cX3_negatives 2 (some .int) d2 mc2 ms2 [.ref b, v0] w (QI post)) (hy : y.cls = RX8) (he : w[b]? = some (.inr (3, fs))) (hdl : d2 < d) (hk : k + mc2 ≤ mc) (hn : n + ms2 ≤ ms) (hst : (st.map fun v => v.category).sum ≤ 8) (hdg : decode cc pc = .ok (.invokevirtual 319, 3)) (kk : ∀ (x : Int32) (w2 : VW), post x w2 → R G l y cc nL ret d mc ms Q (pc + 3) lv (.int x :: st) w2 (k + mc2) (n + ms2)) : R G l y cc nL ret d mc ms Q pc lv (v0 :: .ref b :: st) w k n := R_callV (as := [v0]) (ci := 3) hM w_827 (by rw [hy]; exact w_824) w_825 w_826 w_3 ⟨by decide, by decide, by rfl⟩ hdl (by decide) hk hn hst rfl rfl he hdg (fun r w2 h => by obtain ⟨x, rfl, h⟩ := h; exact kk x w2 h)
theorem k_L_12 {b : Nat} {d2 mc2 ms2 : Nat} {post : VW → Prop} (hM : Sp G l yX9_init cX9_init 2 none d2 mc2 ms2 [.ref b] w (QV post)) (hy : y.cls = "ViewCardsLaw") (hdl : d2 < d) (hk : k + mc2 ≤ mc) (hn : n + ms2 ≤ ms) (hst : (st.map fun v => v.category).sum ≤ 8) (hdg : decode cc pc = .ok (.invokespecial 12, 3)) (kk : ∀ (w2 : VW), post w2 → R G l y cc nL ret d mc ms Q (pc + 3) lv st w2 (k + mc2) (n + ms2)) : R G l y cc nL ret d mc ms Q pc lv (.ref b :: st) w k n := R_callI (as := []) hM w_832 (by rw [hy]; exact w_830) w_831 w_10 rfl ⟨by decide, by decide, by rfl⟩ hdl (by decide) hk hn hst hdg (fun r w2 h => by obtain ⟨rfl, h⟩ := h; exact kk w2 h)
theorem k_L_19 {v0 v1 v2 v3 v4 v5 v6 : Value} {b : Nat} {d2 mc2 ms2 : Nat} {post : Int32 → VW → Prop} {fs : List Value} (hM : Sp G l yX9_card cX9_card 11 (some .int) d2 mc2 ms2 [.ref b, v0, v1, v2, v3, v4, v5, v6] w (QI post)) (hy : y.cls = "ViewCardsLaw") (he : w[b]? = some (.inr (9, fs))) (hdl : d2 < d) (hk : k + mc2 ≤ mc) (hn : n + ms2 ≤ ms) (hst : (st.map fun v => v.category).sum ≤ 8) (hdg : decode cc pc = .ok (.invokevirtual 19, 3)) (kk : ∀ (x : Int32) (w2 : VW), post x w2 → R G l y cc nL ret d mc ms Q (pc + 3) lv (.int x :: st) w2 (k + mc2) (n + ms2)) : R G l y cc nL ret d mc ms Q pc lv (v6 :: v5 :: v4 :: v3 :: v2 :: v1 :: v0 :: .ref b :: st) w k n := R_callV (as := [v0, v1, v2, v3, v4, v5, v6]) (ci := 9) hM w_985 (by rw [hy]; exact w_982) w_983 w_984 w_10 ⟨by decide, by decide, by rfl⟩ hdl (by decide) hk hn hst rfl rfl he hdg (fun r w2 h => by obtain ⟨x, rfl, h⟩ := h; exact kk x w2 h)
theorem k_X9_124 {v0 v1 v2 : Value} {d2 mc2 ms2 : Nat} {post : Int32 → VW → Prop} (hM : Sp G l yX9_in cX9_in 3 (some .boolean) d2 mc2 ms2 [v0, v1, v2] w (QI post)) (hy : y.cls = RX9) (hdl : d2 < d) (hk : k + mc2 ≤ mc) (hn : n + ms2 ≤ ms) (hst : (st.map fun v => v.category).sum ≤ 8) (hdg : decode cc pc = .ok (.invokestatic 124, 3)) (kk : ∀ (x : Int32) (w2 : VW), post x w2 → R G l y cc nL ret d mc ms Q (pc + 3) lv (.int x :: st) w2 (k + mc2) (n + ms2)) : R G l y cc nL ret d mc ms Q pc lv (v2 :: v1 :: v0 :: st) w k n := R_callS (as := [v0, v1, v2]) hM w_988 (by rw [hy]; exact w_986) w_987 w_10 ⟨by decide, by decide, by rfl⟩ hdl (by decide) hk hn hst hdg (fun r w2 h => by obtain ⟨x, rfl, h⟩ := h; exact kk x w2 h)
theorem k_X9_128 {v0 : Value} {d2 mc2 ms2 : Nat} {post : Int32 → VW → Prop} (hM : Sp G l yX9_isPublisher cX9_isPublisher 1 (some .boolean) d2 mc2 ms2 [v0] w (QI post)) (hy : y.cls = RX9) (hdl : d2 < d) (hk : k + mc2 ≤ mc) (hn : n + ms2 ≤ ms) (hst : (st.map fun v => v.category).sum ≤ 8) (hdg : decode cc pc = .ok (.invokestatic 128, 3)) (kk : ∀ (x : Int32) (w2 : VW), post x w2 → R G l y cc nL ret d mc ms Q (pc + 3) lv (.int x :: st) w2 (k + mc2) (n + ms2)) : R G l y cc nL ret d mc ms Q pc lv (v0 :: st) w k n := R_callS (as := [v0]) hM w_991 (by rw [hy]; exact w_989) w_990 w_10 ⟨by decide, by decide, by rfl⟩ hdl (by decide) hk hn hst hdg (fun r w2 h => by obtain ⟨x, rfl, h⟩ := h; exact kk x w2 h)
theorem k_L_24 {v0 v1 v2 : Value} {b : Nat} {d2 mc2 ms2 : Nat} {post : Int32 → VW → Prop} {fs : List Value} (hM : Sp G l yX9_caption cX9_caption 6 (some .int) d2 mc2 ms2 [.ref b, v0, v1, v2] w (QI post)) (hy : y.cls = "ViewCardsLaw") (he : w[b]? = some (.inr (9, fs))) (hdl : d2 < d) (hk : k + mc2 ≤ mc) (hn : n + ms2 ≤ ms) (hst : (st.map fun v => v.category).sum ≤ 8) (hdg : decode cc pc = .ok (.invokevirtual 24, 3)) (kk : ∀ (x : Int32) (w2 : VW), post x w2 → R G l y cc nL ret d mc ms Q (pc + 3) lv (.int x :: st) w2 (k + mc2) (n + ms2)) : R G l y cc nL ret d mc ms Q pc lv (v2 :: v1 :: v0 :: .ref b :: st) w k n := R_callV (as := [v0, v1, v2]) (ci := 9) hM w_995 (by rw [hy]; exact w_992) w_993 w_994 w_10 ⟨by decide, by decide, by rfl⟩ hdl (by decide) hk hn hst rfl rfl he hdg (fun r w2 h => by obtain ⟨x, rfl, h⟩ := h; exact kk x w2 h)
theorem k_X9_135 {v0 : Value} {b : Nat} {d2 mc2 ms2 : Nat} {post : Int32 → VW → Prop} {fs : List Value} (hM : Sp G l yX9_isThere cX9_isThere 2 (some .boolean) d2 mc2 ms2 [.ref b, v0] w (QI post)) (hy : y.cls = RX9) (he : w[b]? = some (.inr (9, fs))) (hdl : d2 < d) (hk : k + mc2 ≤ mc) (hn : n + ms2 ≤ ms) (hst : (st.map fun v => v.category).sum ≤ 8) (hdg : decode cc pc = .ok (.invokevirtual 135, 3)) (kk : ∀ (x : Int32) (w2 : VW), post x w2 → R G l y cc nL ret d mc ms Q (pc + 3) lv (.int x :: st) w2 (k + mc2) (n + ms2)) : R G l y cc nL ret d mc ms Q pc lv (v0 :: .ref b :: st) w k n := R_callV (as := [v0]) (ci := 9) hM w_999 (by rw [hy]; exact w_996) w_998 ws_24 w_10 ⟨by decide, by decide, by rfl⟩ hdl (by decide) hk hn hst rfl rfl he hdg (fun r w2 h => by obtain ⟨x, rfl, h⟩ := h; exact kk x w2 h)
theorem k_X9_120 {b : Nat} {d2 mc2 ms2 : Nat} {post : Int32 → VW → Prop} {fs : List Value} (hM : Sp G l yX9_thereMany cX9_thereMany 2 (some .int) d2 mc2 ms2 [.ref b] w (QI post)) (hy : y.cls = RX9) (he : w[b]? = some (.inr (9, fs))) (hdl : d2 < d) (hk : k + mc2 ≤ mc) (hn : n + ms2 ≤ ms) (hst : (st.map fun v => v.category).sum ≤ 8) (hdg : decode cc pc = .ok (.invokevirtual 120, 3)) (kk : ∀ (x : Int32) (w2 : VW), post x w2 → R G l y cc nL ret d mc ms Q (pc + 3) lv (.int x :: st) w2 (k + mc2) (n + ms2)) : R G l y cc nL ret d mc ms Q pc lv (.ref b :: st) w k n := R_callV (as := []) (ci := 9) hM w_1003 (by rw [hy]; exact w_1000) w_1002 ws_25 w_10 ⟨by decide, by decide, by rfl⟩ hdl (by decide) hk hn hst rfl rfl he hdg (fun r w2 h => by obtain ⟨x, rfl, h⟩ := h; exact kk x w2 h)
theorem k_L_29 {v0 : Value} {b : Nat} {d2 mc2 ms2 : Nat} {post : Int32 → VW → Prop} {fs : List Value} (hM : Sp G l yX9_days cX9_days 2 (some .int) d2 mc2 ms2 [.ref b, v0] w (QI post)) (hy : y.cls = "ViewCardsLaw") (he : w[b]? = some (.inr (9, fs))) (hdl : d2 < d) (hk : k + mc2 ≤ mc) (hn : n + ms2 ≤ ms) (hst : (st.map fun v => v.category).sum ≤ 8) (hdg : decode cc pc = .ok (.invokevirtual 29, 3)) (kk : ∀ (x : Int32) (w2 : VW), post x w2 → R G l y cc nL ret d mc ms Q (pc + 3) lv (.int x :: st) w2 (k + mc2) (n + ms2)) : R G l y cc nL ret d mc ms Q pc lv (v0 :: .ref b :: st) w k n := R_callV (as := [v0]) (ci := 9) hM w_1008 (by rw [hy]; exact w_1005) w_1006 w_1007 w_10 ⟨by decide, by decide, by rfl⟩ hdl (by decide) hk hn hst rfl rfl he hdg (fun r w2 h => by obtain ⟨x, rfl, h⟩ := h; exact kk x w2 h)
theorem k_L_34 {v0 v1 : Value} {b : Nat} {d2 mc2 ms2 : Nat} {post : Int32 → VW → Prop} {fs : List Value} (hM : Sp G l yX9_set cX9_set 4 (some .int) d2 mc2 ms2 [.ref b, v0, v1] w (QI post)) (hy : y.cls = "ViewCardsLaw") (he : w[b]? = some (.inr (9, fs))) (hdl : d2 < d) (hk : k + mc2 ≤ mc) (hn : n + ms2 ≤ ms) (hst : (st.map fun v => v.category).sum ≤ 8) (hdg : decode cc pc = .ok (.invokevirtual 34, 3)) (kk : ∀ (x : Int32) (w2 : VW), post x w2 → R G l y cc nL ret d mc ms Q (pc + 3) lv (.int x :: st) w2 (k + mc2) (n + ms2)) : R G l y cc nL ret d mc ms Q pc lv (v1 :: v0 :: .ref b :: st) w k n := R_callV (as := [v0, v1]) (ci := 9) hM w_1012 (by rw [hy]; exact w_1009) w_1010 w_1011 w_10 ⟨by decide, by decide, by rfl⟩ hdl (by decide) hk hn hst rfl rfl he hdg (fun r w2 h => by obtain ⟨x, rfl, h⟩ := h; exact kk x w2 h)
theorem k_L_38 {v0 v1 : Value} {b : Nat} {d2 mc2 ms2 : Nat} {post : Int32 → VW → Prop} {fs : List Value} (hM : Sp G l yX9_difference cX9_difference 3 (some .int) d2 mc2 ms2 [.ref b, v0, v1] w (QI post)) (hy : y.cls = "ViewCardsLaw") (he : w[b]? = some (.inr (9, fs))) (hdl : d2 < d) (hk : k + mc2 ≤ mc) (hn : n + ms2 ≤ ms) (hst : (st.map fun v => v.category).sum ≤ 8) (hdg : decode cc pc = .ok (.invokevirtual 38, 3)) (kk : ∀ (x : Int32) (w2 : VW), post x w2 → R G l y cc nL ret d mc ms Q (pc + 3) lv (.int x :: st) w2 (k + mc2) (n + ms2)) : R G l y cc nL ret d mc ms Q pc lv (v1 :: v0 :: .ref b :: st) w k n := R_callV (as := [v0, v1]) (ci := 9) hM w_1016 (by rw [hy]; exact w_1013) w_1014 w_1015 w_10 ⟨by decide, by decide, by rfl⟩ hdl (by decide) hk hn hst rfl rfl he hdg (fun r w2 h => by obtain ⟨x, rfl, h⟩ := h; exact kk x w2 h)
theorem k_X9_148 {v0 v1 : Value} {b : Nat} {d2 mc2 ms2 : Nat} {post : Int32 → VW → Prop} {fs : List Value} (hM : Sp G l yX9_unlikeOf cX9_unlikeOf 6 (some .int) d2 mc2 ms2 [.ref b, v0, v1] w (QI post)) (hy : y.cls = RX9) (he : w[b]? = some (.inr (9, fs))) (hdl : d2 < d) (hk : k + mc2 ≤ mc) (hn : n + ms2 ≤ ms) (hst : (st.map fun v => v.category).sum ≤ 8) (hdg : decode cc pc = .ok (.invokevirtual 148, 3)) (kk : ∀ (x : Int32) (w2 : VW), post x w2 → R G l y cc nL ret d mc ms Q (pc + 3) lv (.int x :: st) w2 (k + mc2) (n + ms2)) : R G l y cc nL ret d mc ms Q pc lv (v1 :: v0 :: .ref b :: st) w k n := R_callV (as := [v0, v1]) (ci := 9) hM w_1020 (by rw [hy]; exact w_1017) w_1019 ws_26 w_10 ⟨by decide, by decide, by rfl⟩ hdl (by decide) hk hn hst rfl rfl he hdg (fun r w2 h => by obtain ⟨x, rfl, h⟩ := h; exact kk x w2 h)
theorem k_X9_144 {v0 v1 v2 v3 : Value} {b : Nat} {d2 mc2 ms2 : Nat} {post : Int32 → VW → Prop} {fs : List Value} (hM : Sp G l yX9_unlikeBy cX9_unlikeBy 9 (some .int) d2 mc2 ms2 [.ref b, v0, v1, v2, v3] w (QI post)) (hy : y.cls = RX9) (he : w[b]? = some (.inr (9, fs))) (hdl : d2 < d) (hk : k + mc2 ≤ mc) (hn : n + ms2 ≤ ms) (hst : (st.map fun v => v.category).sum ≤ 8) (hdg : decode cc pc = .ok (.invokevirtual 144, 3)) (kk : ∀ (x : Int32) (w2 : VW), post x w2 → R G l y cc nL ret d mc ms Q (pc + 3) lv (.int x :: st) w2 (k + mc2) (n + ms2)) : R G l y cc nL ret d mc ms Q pc lv (v3 :: v2 :: v1 :: v0 :: .ref b :: st) w k n := R_callV (as := [v0, v1, v2, v3]) (ci := 9) hM w_1024 (by rw [hy]; exact w_1021) w_1023 ws_27 w_10 ⟨by decide, by decide, by rfl⟩ hdl (by decide) hk hn hst rfl rfl he hdg (fun r w2 h => by obtain ⟨x, rfl, h⟩ := h; exact kk x w2 h)
theorem k_X9_140 {v0 v1 v2 : Value} {d2 mc2 ms2 : Nat} {post : Int32 → VW → Prop} (hM : Sp G l yX9_bit cX9_bit 4 (some .int) d2 mc2 ms2 [v0, v1, v2] w (QI post)) (hy : y.cls = RX9) (hdl : d2 < d) (hk : k + mc2 ≤ mc) (hn : n + ms2 ≤ ms) (hst : (st.map fun v => v.category).sum ≤ 8) (hdg : decode cc pc = .ok (.invokestatic 140, 3)) (kk : ∀ (x : Int32) (w2 : VW), post x w2 → R G l y cc nL ret d mc ms Q (pc + 3) lv (.int x :: st) w2 (k + mc2) (n + ms2)) : R G l y cc nL ret d mc ms Q pc lv (v2 :: v1 :: v0 :: st) w k n := R_callS (as := [v0, v1, v2]) hM w_1027 (by rw [hy]; exact w_1025) w_1026 w_10 ⟨by decide, by decide, by rfl⟩ hdl (by decide) hk hn hst hdg (fun r w2 h => by obtain ⟨x, rfl, h⟩ := h; exact kk x w2 h)
theorem k_L_46 {v0 v1 : Value} {b : Nat} {d2 mc2 ms2 : Nat} {post : Int32 → VW → Prop} {fs : List Value} (hM : Sp G l yX9_far cX9_far 3 (some .int) d2 mc2 ms2 [.ref b, v0, v1] w (QI post)) (hy : y.cls = "ViewCardsLaw") (he : w[b]? = some (.inr (9, fs))) (hdl : d2 < d) (hk : k + mc2 ≤ mc) (hn : n + ms2 ≤ ms) (hst : (st.map fun v => v.category).sum ≤ 8) (hdg : decode cc pc = .ok (.invokevirtual 46, 3)) (kk : ∀ (x : Int32) (w2 : VW), post x w2 → R G l y cc nL ret d mc ms Q (pc + 3) lv (.int x :: st) w2 (k + mc2) (n + ms2)) : R G l y cc nL ret d mc ms Q pc lv (v1 :: v0 :: .ref b :: st) w k n := R_callV (as := [v0, v1]) (ci := 9) hM w_1031 (by rw [hy]; exact w_1028) w_1029 w_1030 w_10 ⟨by decide, by decide, by rfl⟩ hdl (by decide) hk hn hst rfl rfl he hdg (fun r w2 h => by obtain ⟨x, rfl, h⟩ := h; exact kk x w2 h)
theorem k_X9_152 {v0 v1 : Value} {b : Nat} {d2 mc2 ms2 : Nat} {post : Int32 → VW → Prop} {fs : List Value} (hM : Sp G l yX9_farOf cX9_farOf 6 (some .int) d2 mc2 ms2 [.ref b, v0, v1] w (QI post)) (hy : y.cls = RX9) (he : w[b]? = some (.inr (9, fs))) (hdl : d2 < d) (hk : k + mc2 ≤ mc) (hn : n + ms2 ≤ ms) (hst : (st.map fun v => v.category).sum ≤ 8) (hdg : decode cc pc = .ok (.invokevirtual 152, 3)) (kk : ∀ (x : Int32) (w2 : VW), post x w2 → R G l y cc nL ret d mc ms Q (pc + 3) lv (.int x :: st) w2 (k + mc2) (n + ms2)) : R G l y cc nL ret d mc ms Q pc lv (v1 :: v0 :: .ref b :: st) w k n := R_callV (as := [v0, v1]) (ci := 9) hM w_1035 (by rw [hy]; exact w_1032) w_1034 ws_28 w_10 ⟨by decide, by decide, by rfl⟩ hdl (by decide) hk hn hst rfl rfl he hdg (fun r w2 h => by obtain ⟨x, rfl, h⟩ := h; exact kk x w2 h)
theorem k_L_50 {v0 v1 : Value} {b : Nat} {d2 mc2 ms2 : Nat} {post : Int32 → VW → Prop} {fs : List Value} (hM : Sp G l yX9_match cX9_match 3 (some .int) d2 mc2 ms2 [.ref b, v0, v1] w (QI post)) (hy : y.cls = "ViewCardsLaw") (he : w[b]? = some (.inr (9, fs))) (hdl : d2 < d) (hk : k + mc2 ≤ mc) (hn : n + ms2 ≤ ms) (hst : (st.map fun v => v.category).sum ≤ 8) (hdg : decode cc pc = .ok (.invokevirtual 50, 3)) (kk : ∀ (x : Int32) (w2 : VW), post x w2 → R G l y cc nL ret d mc ms Q (pc + 3) lv (.int x :: st) w2 (k + mc2) (n + ms2)) : R G l y cc nL ret d mc ms Q pc lv (v1 :: v0 :: .ref b :: st) w k n := R_callV (as := [v0, v1]) (ci := 9) hM w_1039 (by rw [hy]; exact w_1036) w_1037 w_1038 w_10 ⟨by decide, by decide, by rfl⟩ hdl (by decide) hk hn hst rfl rfl he hdg (fun r w2 h => by obtain ⟨x, rfl, h⟩ := h; exact kk x w2 h)
theorem k_X9_162 {b : Nat} {d2 mc2 ms2 : Nat} {post : VW → Prop} {fs : List Value} (hM : Sp G l yX9_findUnlike cX9_findUnlike 3 none d2 mc2 ms2 [.ref b] w (QV post)) (hy : y.cls = RX9) (he : w[b]? = some (.inr (9, fs))) (hdl : d2 < d) (hk : k + mc2 ≤ mc) (hn : n + ms2 ≤ ms) (hst : (st.map fun v => v.category).sum ≤ 8) (hdg : decode cc pc = .ok (.invokevirtual 162, 3)) (kk : ∀ (w2 : VW), post w2 → R G l y cc nL ret d mc ms Q (pc + 3) lv st w2 (k + mc2) (n + ms2)) : R G l y cc nL ret d mc ms Q pc lv (.ref b :: st) w k n := R_callV (as := []) (ci := 9) hM w_1043 (by rw [hy]; exact w_1040) w_1042 ws_29 w_10 ⟨by decide, by decide, by rfl⟩ hdl (by decide) hk hn hst rfl rfl he hdg (fun r w2 h => by obtain ⟨rfl, h⟩ := h; exact kk w2 h)
theorem k_X9_159 {v0 v1 : Value} {b : Nat} {d2 mc2 ms2 : Nat} {post : Int32 → VW → Prop} {fs : List Value} (hM : Sp G l yX9_isMatch cX9_isMatch 4 (some .boolean) d2 mc2 ms2 [.ref b, v0, v1] w (QI post)) (hy : y.cls = RX9) (he : w[b]? = some (.inr (9, fs))) (hdl : d2 < d) (hk : k + mc2 ≤ mc) (hn : n + ms2 ≤ ms) (hst : (st.map fun v => v.category).sum ≤ 8) (hdg : decode cc pc = .ok (.invokevirtual 159, 3)) (kk : ∀ (x : Int32) (w2 : VW), post x w2 → R G l y cc nL ret d mc ms Q (pc + 3) lv (.int x :: st) w2 (k + mc2) (n + ms2)) : R G l y cc nL ret d mc ms Q pc lv (v1 :: v0 :: .ref b :: st) w k n := R_callV (as := [v0, v1]) (ci := 9) hM w_1047 (by rw [hy]; exact w_1044) w_1046 ws_30 w_10 ⟨by decide, by decide, by rfl⟩ hdl (by decide) hk hn hst rfl rfl he hdg (fun r w2 h => by obtain ⟨x, rfl, h⟩ := h; exact kk x w2 h)
theorem k_X9_155 {v0 v1 : Value} {b : Nat} {d2 mc2 ms2 : Nat} {post : Int32 → VW → Prop} {fs : List Value} (hM : Sp G l yX9_isLike cX9_isLike 3 (some .boolean) d2 mc2 ms2 [.ref b, v0, v1] w (QI post)) (hy : y.cls = RX9) (he : w[b]? = some (.inr (9, fs))) (hdl : d2 < d) (hk : k + mc2 ≤ mc) (hn : n + ms2 ≤ ms) (hst : (st.map fun v => v.category).sum ≤ 8) (hdg : decode cc pc = .ok (.invokevirtual 155, 3)) (kk : ∀ (x : Int32) (w2 : VW), post x w2 → R G l y cc nL ret d mc ms Q (pc + 3) lv (.int x :: st) w2 (k + mc2) (n + ms2)) : R G l y cc nL ret d mc ms Q pc lv (v1 :: v0 :: .ref b :: st) w k n := R_callV (as := [v0, v1]) (ci := 9) hM w_1051 (by rw [hy]; exact w_1048) w_1050 ws_31 w_10 ⟨by decide, by decide, by rfl⟩ hdl (by decide) hk hn hst rfl rfl he hdg (fun r w2 h => by obtain ⟨x, rfl, h⟩ := h; exact kk x w2 h)
theorem k_L_42 {v0 : Value} {b : Nat} {d2 mc2 ms2 : Nat} {post : Int32 → VW → Prop} {fs : List Value} (hM : Sp G l yX9_negative cX9_negative 2 (some .int) d2 mc2 ms2 [.ref b, v0] w (QI post)) (hy : y.cls = "ViewCardsLaw") (he : w[b]? = some (.inr (9, fs))) (hdl : d2 < d) (hk : k + mc2 ≤ mc) (hn : n + ms2 ≤ ms) (hst : (st.map fun v => v.category).sum ≤ 8) (hdg : decode cc pc = .ok (.invokevirtual 42, 3)) (kk : ∀ (x : Int32) (w2 : VW), post x w2 → R G l y cc nL ret d mc ms Q (pc + 3) lv (.int x :: st) w2 (k + mc2) (n + ms2)) : R G l y cc nL ret d mc ms Q pc lv (v0 :: .ref b :: st) w k n := R_callV (as := [v0]) (ci := 9) hM w_1055 (by rw [hy]; exact w_1052) w_1053 w_1054 w_10 ⟨by decide, by decide, by rfl⟩ hdl (by decide) hk hn hst rfl rfl he hdg (fun r w2 h => by obtain ⟨x, rfl, h⟩ := h; exact kk x w2 h)
theorem k_X9_165 {v0 v1 v2 : Value} {b : Nat} {d2 mc2 ms2 : Nat} {post : VW → Prop} {fs : List Value} (hM : Sp G l yX9_findChains cX9_findChains 11 none d2 mc2 ms2 [.ref b, v0, v1, v2] w (QV post)) (hy : y.cls = RX9) (he : w[b]? = some (.inr (9, fs))) (hdl : d2 < d) (hk : k + mc2 ≤ mc) (hn : n + ms2 ≤ ms) (hst : (st.map fun v => v.category).sum ≤ 8) (hdg : decode cc pc = .ok (.invokevirtual 165, 3)) (kk : ∀ (w2 : VW), post w2 → R G l y cc nL ret d mc ms Q (pc + 3) lv st w2 (k + mc2) (n + ms2)) : R G l y cc nL ret d mc ms Q pc lv (v2 :: v1 :: v0 :: .ref b :: st) w k n := R_callV (as := [v0, v1, v2]) (ci := 9) hM w_1059 (by rw [hy]; exact w_1056) w_1058 ws_32 w_10 ⟨by decide, by decide, by rfl⟩ hdl (by decide) hk hn hst rfl rfl he hdg (fun r w2 h => by obtain ⟨rfl, h⟩ := h; exact kk w2 h)
theorem k_L_54 {v0 v1 : Value} {b : Nat} {d2 mc2 ms2 : Nat} {post : Int32 → VW → Prop} {fs : List Value} (hM : Sp G l yX9_of cX9_of 5 (some .int) d2 mc2 ms2 [.ref b, v0, v1] w (QI post)) (hy : y.cls = "ViewCardsLaw") (he : w[b]? = some (.inr (9, fs))) (hdl : d2 < d) (hk : k + mc2 ≤ mc) (hn : n + ms2 ≤ ms) (hst : (st.map fun v => v.category).sum ≤ 8) (hdg : decode cc pc = .ok (.invokevirtual 54, 3)) (kk : ∀ (x : Int32) (w2 : VW), post x w2 → R G l y cc nL ret d mc ms Q (pc + 3) lv (.int x :: st) w2 (k + mc2) (n + ms2)) : R G l y cc nL ret d mc ms Q pc lv (v1 :: v0 :: .ref b :: st) w k n := R_callV (as := [v0, v1]) (ci := 9) hM w_1063 (by rw [hy]; exact w_1060) w_1061 w_1062 w_10 ⟨by decide, by decide, by rfl⟩ hdl (by decide) hk hn hst rfl rfl he hdg (fun r w2 h => by obtain ⟨x, rfl, h⟩ := h; exact kk x w2 h)
theorem k_X9_173 {v0 : Value} {d2 mc2 ms2 : Nat} {post : Int32 → VW → Prop} (hM : Sp G l yX9_bits cX9_bits 3 (some .int) d2 mc2 ms2 [v0] w (QI post)) (hy : y.cls = RX9) (hdl : d2 < d) (hk : k + mc2 ≤ mc) (hn : n + ms2 ≤ ms) (hst : (st.map fun v => v.category).sum ≤ 8) (hdg : decode cc pc = .ok (.invokestatic 173, 3)) (kk : ∀ (x : Int32) (w2 : VW), post x w2 → R G l y cc nL ret d mc ms Q (pc + 3) lv (.int x :: st) w2 (k + mc2) (n + ms2)) : R G l y cc nL ret d mc ms Q pc lv (v0 :: st) w k n := R_callS (as := [v0]) hM w_1066 (by rw [hy]; exact w_1064) w_1065 w_10 ⟨by decide, by decide, by rfl⟩ hdl (by decide) hk hn hst hdg (fun r w2 h => by obtain ⟨x, rfl, h⟩ := h; exact kk x w2 h)
theorem k_X9_169 {v0 : Value} {b : Nat} {d2 mc2 ms2 : Nat} {post : Int32 → VW → Prop} {fs : List Value} (hM : Sp G l yX9_listsOf cX9_listsOf 4 (some .int) d2 mc2 ms2 [.ref b, v0] w (QI post)) (hy : y.cls = RX9) (he : w[b]? = some (.inr (9, fs))) (hdl : d2 < d) (hk : k + mc2 ≤ mc) (hn : n + ms2 ≤ ms) (hst : (st.map fun v => v.category).sum ≤ 8) (hdg : decode cc pc = .ok (.invokevirtual 169, 3)) (kk : ∀ (x : Int32) (w2 : VW), post x w2 → R G l y cc nL ret d mc ms Q (pc + 3) lv (.int x :: st) w2 (k + mc2) (n + ms2)) : R G l y cc nL ret d mc ms Q pc lv (v0 :: .ref b :: st) w k n := R_callV (as := [v0]) (ci := 9) hM w_1070 (by rw [hy]; exact w_1067) w_1069 ws_33 w_10 ⟨by decide, by decide, by rfl⟩ hdl (by decide) hk hn hst rfl rfl he hdg (fun r w2 h => by obtain ⟨x, rfl, h⟩ := h; exact kk x w2 h)
theorem k_X9_179 {v0 : Value} {b : Nat} {d2 mc2 ms2 : Nat} {post : Int32 → VW → Prop} {fs : List Value} (hM : Sp G l yX9_rivalsOf cX9_rivalsOf 6 (some .int) d2 mc2 ms2 [.ref b, v0] w (QI post)) (hy : y.cls = RX9) (he : w[b]? = some (.inr (9, fs))) (hdl : d2 < d) (hk : k + mc2 ≤ mc) (hn : n + ms2 ≤ ms) (hst : (st.map fun v => v.category).sum ≤ 8) (hdg : decode cc pc = .ok (.invokevirtual 179, 3)) (kk : ∀ (x : Int32) (w2 : VW), post x w2 → R G l y cc nL ret d mc ms Q (pc + 3) lv (.int x :: st) w2 (k + mc2) (n + ms2)) : R G l y cc nL ret d mc ms Q pc lv (v0 :: .ref b :: st) w k n := R_callV (as := [v0]) (ci := 9) hM w_1074 (by rw [hy]; exact w_1071) w_1073 ws_34 w_10 ⟨by decide, by decide, by rfl⟩ hdl (by decide) hk hn hst rfl rfl he hdg (fun r w2 h => by obtain ⟨x, rfl, h⟩ := h; exact kk x w2 h)
theorem k_X9_182 {v0 : Value} {b : Nat} {d2 mc2 ms2 : Nat} {post : Int32 → VW → Prop} {fs : List Value} (hM : Sp G l yX9_priceOf cX9_priceOf 5 (some .int) d2 mc2 ms2 [.ref b, v0] w (QI post)) (hy : y.cls = RX9) (he : w[b]? = some (.inr (9, fs))) (hdl : d2 < d) (hk : k + mc2 ≤ mc) (hn : n + ms2 ≤ ms) (hst : (st.map fun v => v.category).sum ≤ 8) (hdg : decode cc pc = .ok (.invokevirtual 182, 3)) (kk : ∀ (x : Int32) (w2 : VW), post x w2 → R G l y cc nL ret d mc ms Q (pc + 3) lv (.int x :: st) w2 (k + mc2) (n + ms2)) : R G l y cc nL ret d mc ms Q pc lv (v0 :: .ref b :: st) w k n := R_callV (as := [v0]) (ci := 9) hM w_1078 (by rw [hy]; exact w_1075) w_1077 ws_35 w_10 ⟨by decide, by decide, by rfl⟩ hdl (by decide) hk hn hst rfl rfl he hdg (fun r w2 h => by obtain ⟨x, rfl, h⟩ := h; exact kk x w2 h)
theorem k_X9_176 {v0 v1 : Value} {b : Nat} {d2 mc2 ms2 : Nat} {post : Int32 → VW → Prop} {fs : List Value} (hM : Sp G l yX9_isMissing cX9_isMissing 3 (some .boolean) d2 mc2 ms2 [.ref b, v0, v1] w (QI post)) (hy : y.cls = RX9) (he : w[b]? = some (.inr (9, fs))) (hdl : d2 < d) (hk : k + mc2 ≤ mc) (hn : n + ms2 ≤ ms) (hst : (st.map fun v => v.category).sum ≤ 8) (hdg : decode cc pc = .ok (.invokevirtual 176, 3)) (kk : ∀ (x : Int32) (w2 : VW), post x w2 → R G l y cc nL ret d mc ms Q (pc + 3) lv (.int x :: st) w2 (k + mc2) (n + ms2)) : R G l y cc nL ret d mc ms Q pc lv (v1 :: v0 :: .ref b :: st) w k n := R_callV (as := [v0, v1]) (ci := 9) hM w_1082 (by rw [hy]; exact w_1079) w_1081 ws_36 w_10 ⟨by decide, by decide, by rfl⟩ hdl (by decide) hk hn hst rfl rfl he hdg (fun r w2 h => by obtain ⟨x, rfl, h⟩ := h; exact kk x w2 h)
theorem k_X9_188 {v0 v1 : Value} {b : Nat} {d2 mc2 ms2 : Nat} {post : Int32 → VW → Prop} {fs : List Value} (hM : Sp G l yX9_endOf cX9_endOf 4 (some .int) d2 mc2 ms2 [.ref b, v0, v1] w (QI post)) (hy : y.cls = RX9) (he : w[b]? = some (.inr (9, fs))) (hdl : d2 < d) (hk : k + mc2 ≤ mc) (hn : n + ms2 ≤ ms) (hst : (st.map fun v => v.category).sum ≤ 8) (hdg : decode cc pc = .ok (.invokevirtual 188, 3)) (kk : ∀ (x : Int32) (w2 : VW), post x w2 → R G l y cc nL ret d mc ms Q (pc + 3) lv (.int x :: st) w2 (k + mc2) (n + ms2)) : R G l y cc nL ret d mc ms Q pc lv (v1 :: v0 :: .ref b :: st) w k n := R_callV (as := [v0, v1]) (ci := 9) hM w_1086 (by rw [hy]; exact w_1083) w_1085 ws_37 w_10 ⟨by decide, by decide, by rfl⟩ hdl (by decide) hk hn hst rfl rfl he hdg (fun r w2 h => by obtain ⟨x, rfl, h⟩ := h; exact kk x w2 h)
theorem k_X9_185 {v0 v1 : Value} {b : Nat} {d2 mc2 ms2 : Nat} {post : Int32 → VW → Prop} {fs : List Value} (hM : Sp G l yX9_hasNumber cX9_hasNumber 5 (some .boolean) d2 mc2 ms2 [.ref b, v0, v1] w (QI post)) (hy : y.cls = RX9) (he : w[b]? = some (.inr (9, fs))) (hdl : d2 < d) (hk : k + mc2 ≤ mc) (hn : n + ms2 ≤ ms) (hst : (st.map fun v => v.category).sum ≤ 8) (hdg : decode cc pc = .ok (.invokevirtual 185, 3)) (kk : ∀ (x : Int32) (w2 : VW), post x w2 → R G l y cc nL ret d mc ms Q (pc + 3) lv (.int x :: st) w2 (k + mc2) (n + ms2)) : R G l y cc nL ret d mc ms Q pc lv (v1 :: v0 :: .ref b :: st) w k n := R_callV (as := [v0, v1]) (ci := 9) hM w_1090 (by rw [hy]; exact w_1087) w_1089 ws_38 w_10 ⟨by decide, by decide, by rfl⟩ hdl (by decide) hk hn hst rfl rfl he hdg (fun r w2 h => by obtain ⟨x, rfl, h⟩ := h; exact kk x w2 h)
theorem k_L_58 {v0 v1 : Value} {b : Nat} {d2 mc2 ms2 : Nat} {post : Int32 → VW → Prop} {fs : List Value} (hM : Sp G l yX9_series cX9_series 9 (some .int) d2 mc2 ms2 [.ref b, v0, v1] w (QI post)) (hy : y.cls = "ViewCardsLaw") (he : w[b]? = some (.inr (9, fs))) (hdl : d2 < d) (hk : k + mc2 ≤ mc) (hn : n + ms2 ≤ ms) (hst : (st.map fun v => v.category).sum ≤ 8) (hdg : decode cc pc = .ok (.invokevirtual 58, 3)) (kk : ∀ (x : Int32) (w2 : VW), post x w2 → R G l y cc nL ret d mc ms Q (pc + 3) lv (.int x :: st) w2 (k + mc2) (n + ms2)) : R G l y cc nL ret d mc ms Q pc lv (v1 :: v0 :: .ref b :: st) w k n := R_callV (as := [v0, v1]) (ci := 9) hM w_1094 (by rw [hy]; exact w_1091) w_1092 w_1093 w_10 ⟨by decide, by decide, by rfl⟩ hdl (by decide) hk hn hst rfl rfl he hdg (fun r w2 h => by obtain ⟨x, rfl, h⟩ := h; exact kk x w2 h)
theorem k_L_62 {v0 v1 : Value} {b : Nat} {d2 mc2 ms2 : Nat} {post : Int32 → VW → Prop} {fs : List Value} (hM : Sp G l yX9_gap cX9_gap 6 (some .int) d2 mc2 ms2 [.ref b, v0, v1] w (QI post)) (hy : y.cls = "ViewCardsLaw") (he : w[b]? = some (.inr (9, fs))) (hdl : d2 < d) (hk : k + mc2 ≤ mc) (hn : n + ms2 ≤ ms) (hst : (st.map fun v => v.category).sum ≤ 8) (hdg : decode cc pc = .ok (.invokevirtual 62, 3)) (kk : ∀ (x : Int32) (w2 : VW), post x w2 → R G l y cc nL ret d mc ms Q (pc + 3) lv (.int x :: st) w2 (k + mc2) (n + ms2)) : R G l y cc nL ret d mc ms Q pc lv (v1 :: v0 :: .ref b :: st) w k n := R_callV (as := [v0, v1]) (ci := 9) hM w_1098 (by rw [hy]; exact w_1095) w_1096 w_1097 w_10 ⟨by decide, by decide, by rfl⟩ hdl (by decide) hk hn hst rfl rfl he hdg (fun r w2 h => by obtain ⟨x, rfl, h⟩ := h; exact kk x w2 h)
theorem k_L_66 {v0 : Value} {b : Nat} {d2 mc2 ms2 : Nat} {post : Int32 → VW → Prop} {fs : List Value} (hM : Sp G l yX9_unseen cX9_unseen 6 (some .int) d2 mc2 ms2 [.ref b, v0] w (QI post)) (hy : y.cls = "ViewCardsLaw") (he : w[b]? = some (.inr (9, fs))) (hdl : d2 < d) (hk : k + mc2 ≤ mc) (hn : n + ms2 ≤ ms) (hst : (st.map fun v => v.category).sum ≤ 8) (hdg : decode cc pc = .ok (.invokevirtual 66, 3)) (kk : ∀ (x : Int32) (w2 : VW), post x w2 → R G l y cc nL ret d mc ms Q (pc + 3) lv (.int x :: st) w2 (k + mc2) (n + ms2)) : R G l y cc nL ret d mc ms Q pc lv (v0 :: .ref b :: st) w k n := R_callV (as := [v0]) (ci := 9) hM w_1102 (by rw [hy]; exact w_1099) w_1100 w_1101 w_10 ⟨by decide, by decide, by rfl⟩ hdl (by decide) hk hn hst rfl rfl he hdg (fun r w2 h => by obtain ⟨x, rfl, h⟩ := h; exact kk x w2 h)
theorem k_X9_194 {v0 v1 v2 : Value} {d2 mc2 ms2 : Nat} {post : Int32 → VW → Prop} (hM : Sp G l yX9_lowest cX9_lowest 4 (some .int) d2 mc2 ms2 [v0, v1, v2] w (QI post)) (hy : y.cls = RX9) (hdl : d2 < d) (hk : k + mc2 ≤ mc) (hn : n + ms2 ≤ ms) (hst : (st.map fun v => v.category).sum ≤ 8) (hdg : decode cc pc = .ok (.invokestatic 194, 3)) (kk : ∀ (x : Int32) (w2 : VW), post x w2 → R G l y cc nL ret d mc ms Q (pc + 3) lv (.int x :: st) w2 (k + mc2) (n + ms2)) : R G l y cc nL ret d mc ms Q pc lv (v2 :: v1 :: v0 :: st) w k n := R_callS (as := [v0, v1, v2]) hM w_1105 (by rw [hy]; exact w_1103) w_1104 w_10 ⟨by decide, by decide, by rfl⟩ hdl (by decide) hk hn hst hdg (fun r w2 h => by obtain ⟨x, rfl, h⟩ := h; exact kk x w2 h)
theorem k_X9_191 {v0 v1 : Value} {d2 mc2 ms2 : Nat} {post : Int32 → VW → Prop} (hM : Sp G l yX9_common cX9_common 5 (some .int) d2 mc2 ms2 [v0, v1] w (QI post)) (hy : y.cls = RX9) (hdl : d2 < d) (hk : k + mc2 ≤ mc) (hn : n + ms2 ≤ ms) (hst : (st.map fun v => v.category).sum ≤ 8) (hdg : decode cc pc = .ok (.invokestatic 191, 3)) (kk : ∀ (x : Int32) (w2 : VW), post x w2 → R G l y cc nL ret d mc ms Q (pc + 3) lv (.int x :: st) w2 (k + mc2) (n + ms2)) : R G l y cc nL ret d mc ms Q pc lv (v1 :: v0 :: st) w k n := R_callS (as := [v0, v1]) hM w_1108 (by rw [hy]; exact w_1106) w_1107 w_10 ⟨by decide, by decide, by rfl⟩ hdl (by decide) hk hn hst hdg (fun r w2 h => by obtain ⟨x, rfl, h⟩ := h; exact kk x w2 h)
theorem k_L_71 {v0 v1 v2 : Value} {b : Nat} {d2 mc2 ms2 : Nat} {post : Int32 → VW → Prop} {fs : List Value} (hM : Sp G l yX9_overlap cX9_overlap 9 (some .int) d2 mc2 ms2 [.ref b, v0, v1, v2] w (QI post)) (hy : y.cls = "ViewCardsLaw") (he : w[b]? = some (.inr (9, fs))) (hdl : d2 < d) (hk : k + mc2 ≤ mc) (hn : n + ms2 ≤ ms) (hst : (st.map fun v => v.category).sum ≤ 8) (hdg : decode cc pc = .ok (.invokevirtual 71, 3)) (kk : ∀ (x : Int32) (w2 : VW), post x w2 → R G l y cc nL ret d mc ms Q (pc + 3) lv (.int x :: st) w2 (k + mc2) (n + ms2)) : R G l y cc nL ret d mc ms Q pc lv (v2 :: v1 :: v0 :: .ref b :: st) w k n := R_callV (as := [v0, v1, v2]) (ci := 9) hM w_1112 (by rw [hy]; exact w_1109) w_1110 w_1111 w_10 ⟨by decide, by decide, by rfl⟩ hdl (by decide) hk hn hst rfl rfl he hdg (fun r w2 h => by obtain ⟨x, rfl, h⟩ := h; exact kk x w2 h)
theorem k_L_75 {v0 v1 v2 : Value} {b : Nat} {d2 mc2 ms2 : Nat} {post : Int32 → VW → Prop} {fs : List Value} (hM : Sp G l yX9_feature cX9_feature 4 (some .int) d2 mc2 ms2 [.ref b, v0, v1, v2] w (QI post)) (hy : y.cls = "ViewCardsLaw") (he : w[b]? = some (.inr (9, fs))) (hdl : d2 < d) (hk : k + mc2 ≤ mc) (hn : n + ms2 ≤ ms) (hst : (st.map fun v => v.category).sum ≤ 8) (hdg : decode cc pc = .ok (.invokevirtual 75, 3)) (kk : ∀ (x : Int32) (w2 : VW), post x w2 → R G l y cc nL ret d mc ms Q (pc + 3) lv (.int x :: st) w2 (k + mc2) (n + ms2)) : R G l y cc nL ret d mc ms Q pc lv (v2 :: v1 :: v0 :: .ref b :: st) w k n := R_callV (as := [v0, v1, v2]) (ci := 9) hM w_1116 (by rw [hy]; exact w_1113) w_1114 w_1115 w_10 ⟨by decide, by decide, by rfl⟩ hdl (by decide) hk hn hst rfl rfl he hdg (fun r w2 h => by obtain ⟨x, rfl, h⟩ := h; exact kk x w2 h)
theorem k_X9_198 {v0 : Value} {d2 mc2 ms2 : Nat} {post : Int32 → VW → Prop} (hM : Sp G l yX9_isDay cX9_isDay 1 (some .boolean) d2 mc2 ms2 [v0] w (QI post)) (hy : y.cls = RX9) (hdl : d2 < d) (hk : k + mc2 ≤ mc) (hn : n + ms2 ≤ ms) (hst : (st.map fun v => v.category).sum ≤ 8) (hdg : decode cc pc = .ok (.invokestatic 198, 3)) (kk : ∀ (x : Int32) (w2 : VW), post x w2 → R G l y cc nL ret d mc ms Q (pc + 3) lv (.int x :: st) w2 (k + mc2) (n + ms2)) : R G l y cc nL ret d mc ms Q pc lv (v0 :: st) w k n := R_callS (as := [v0]) hM w_1119 (by rw [hy]; exact w_1117) w_1118 w_10 ⟨by decide, by decide, by rfl⟩ hdl (by decide) hk hn hst hdg (fun r w2 h => by obtain ⟨x, rfl, h⟩ := h; exact kk x w2 h)
theorem k_L_79 {v0 v1 v2 : Value} {b : Nat} {d2 mc2 ms2 : Nat} {post : Int32 → VW → Prop} {fs : List Value} (hM : Sp G l yX9_shows cX9_shows 5 (some .int) d2 mc2 ms2 [.ref b, v0, v1, v2] w (QI post)) (hy : y.cls = "ViewCardsLaw") (he : w[b]? = some (.inr (9, fs))) (hdl : d2 < d) (hk : k + mc2 ≤ mc) (hn : n + ms2 ≤ ms) (hst : (st.map fun v => v.category).sum ≤ 8) (hdg : decode cc pc = .ok (.invokevirtual 79, 3)) (kk : ∀ (x : Int32) (w2 : VW), post x w2 → R G l y cc nL ret d mc ms Q (pc + 3) lv (.int x :: st) w2 (k + mc2) (n + ms2)) : R G l y cc nL ret d mc ms Q pc lv (v2 :: v1 :: v0 :: .ref b :: st) w k n := R_callV (as := [v0, v1, v2]) (ci := 9) hM w_1123 (by rw [hy]; exact w_1120) w_1121 w_1122 w_10 ⟨by decide, by decide, by rfl⟩ hdl (by decide) hk hn hst rfl rfl he hdg (fun r w2 h => by obtain ⟨x, rfl, h⟩ := h; exact kk x w2 h)
theorem k_L_83 {v0 v1 v2 : Value} {b : Nat} {d2 mc2 ms2 : Nat} {post : Int32 → VW → Prop} {fs : List Value} (hM : Sp G l yX9_back cX9_back 4 (some .int) d2 mc2 ms2 [.ref b, v0, v1, v2] w (QI post)) (hy : y.cls = "ViewCardsLaw") (he : w[b]? = some (.inr (9, fs))) (hdl : d2 < d) (hk : k + mc2 ≤ mc) (hn : n + ms2 ≤ ms) (hst : (st.map fun v => v.category).sum ≤ 8) (hdg : decode cc pc = .ok (.invokevirtual 83, 3)) (kk : ∀ (x : Int32) (w2 : VW), post x w2 → R G l y cc nL ret d mc ms Q (pc + 3) lv (.int x :: st) w2 (k + mc2) (n + ms2)) : R G l y cc nL ret d mc ms Q pc lv (v2 :: v1 :: v0 :: .ref b :: st) w k n := R_callV (as := [v0, v1, v2]) (ci := 9) hM w_1127 (by rw [hy]; exact w_1124) w_1125 w_1126 w_10 ⟨by decide, by decide, by rfl⟩ hdl (by decide) hk hn hst rfl rfl he hdg (fun r w2 h => by obtain ⟨x, rfl, h⟩ := h; exact kk x w2 h)
theorem k_L_87 {v0 v1 : Value} {b : Nat} {d2 mc2 ms2 : Nat} {post : Int32 → VW → Prop} {fs : List Value} (hM : Sp G l yX9_later cX9_later 3 (some .int) d2 mc2 ms2 [.ref b, v0, v1] w (QI post)) (hy : y.cls = "ViewCardsLaw") (he : w[b]? = some (.inr (9, fs))) (hdl : d2 < d) (hk : k + mc2 ≤ mc) (hn : n + ms2 ≤ ms) (hst : (st.map fun v => v.category).sum ≤ 8) (hdg : decode cc pc = .ok (.invokevirtual 87, 3)) (kk : ∀ (x : Int32) (w2 : VW), post x w2 → R G l y cc nL ret d mc ms Q (pc + 3) lv (.int x :: st) w2 (k + mc2) (n + ms2)) : R G l y cc nL ret d mc ms Q pc lv (v1 :: v0 :: .ref b :: st) w k n := R_callV (as := [v0, v1]) (ci := 9) hM w_1131 (by rw [hy]; exact w_1128) w_1129 w_1130 w_10 ⟨by decide, by decide, by rfl⟩ hdl (by decide) hk hn hst rfl rfl he hdg (fun r w2 h => by obtain ⟨x, rfl, h⟩ := h; exact kk x w2 h)
theorem k_L_91 {v0 v1 v2 : Value} {b : Nat} {d2 mc2 ms2 : Nat} {post : Int32 → VW → Prop} {fs : List Value} (hM : Sp G l yX9_span cX9_span 4 (some .int) d2 mc2 ms2 [.ref b, v0, v1, v2] w (QI post)) (hy : y.cls = "ViewCardsLaw") (he : w[b]? = some (.inr (9, fs))) (hdl : d2 < d) (hk : k + mc2 ≤ mc) (hn : n + ms2 ≤ ms) (hst : (st.map fun v => v.category).sum ≤ 8) (hdg : decode cc pc = .ok (.invokevirtual 91, 3)) (kk : ∀ (x : Int32) (w2 : VW), post x w2 → R G l y cc nL ret d mc ms Q (pc + 3) lv (.int x :: st) w2 (k + mc2) (n + ms2)) : R G l y cc nL ret d mc ms Q pc lv (v2 :: v1 :: v0 :: .ref b :: st) w k n := R_callV (as := [v0, v1, v2]) (ci := 9) hM w_1135 (by rw [hy]; exact w_1132) w_1133 w_1134 w_10 ⟨by decide, by decide, by rfl⟩ hdl (by decide) hk hn hst rfl rfl he hdg (fun r w2 h => by obtain ⟨x, rfl, h⟩ := h; exact kk x w2 h)
theorem k_X9_228 {v0 v1 : Value} {b : Nat} {d2 mc2 ms2 : Nat} {post : Int32 → VW → Prop} {fs : List Value} (hM : Sp G l yX9_areSpans cX9_areSpans 6 (some .boolean) d2 mc2 ms2 [.ref b, v0, v1] w (QI post)) (hy : y.cls = RX9) (he : w[b]? = some (.inr (9, fs))) (hdl : d2 < d) (hk : k + mc2 ≤ mc) (hn : n + ms2 ≤ ms) (hst : (st.map fun v => v.category).sum ≤ 8) (hdg : decode cc pc = .ok (.invokevirtual 228, 3)) (kk : ∀ (x : Int32) (w2 : VW), post x w2 → R G l y cc nL ret d mc ms Q (pc + 3) lv (.int x :: st) w2 (k + mc2) (n + ms2)) : R G l y cc nL ret d mc ms Q pc lv (v1 :: v0 :: .ref b :: st) w k n := R_callV (as := [v0, v1]) (ci := 9) hM w_1139 (by rw [hy]; exact w_1136) w_1138 ws_39 w_10 ⟨by decide, by decide, by rfl⟩ hdl (by decide) hk hn hst rfl rfl he hdg (fun r w2 h => by obtain ⟨x, rfl, h⟩ := h; exact kk x w2 h)
theorem k_X9_221 {v0 : Value} {b : Nat} {d2 mc2 ms2 : Nat} {post : Int32 → VW → Prop} {fs : List Value} (hM : Sp G l yX9_isEmpty cX9_isEmpty 4 (some .boolean) d2 mc2 ms2 [.ref b, v0] w (QI post)) (hy : y.cls = RX9) (he : w[b]? = some (.inr (9, fs))) (hdl : d2 < d) (hk : k + mc2 ≤ mc) (hn : n + ms2 ≤ ms) (hst : (st.map fun v => v.category).sum ≤ 8) (hdg : decode cc pc = .ok (.invokevirtual 221, 3)) (kk : ∀ (x : Int32) (w2 : VW), post x w2 → R G l y cc nL ret d mc ms Q (pc + 3) lv (.int x :: st) w2 (k + mc2) (n + ms2)) : R G l y cc nL ret d mc ms Q pc lv (v0 :: .ref b :: st) w k n := R_callV (as := [v0]) (ci := 9) hM w_1143 (by rw [hy]; exact w_1140) w_1142 ws_40 w_10 ⟨by decide, by decide, by rfl⟩ hdl (by decide) hk hn hst rfl rfl he hdg (fun r w2 h => by obtain ⟨x, rfl, h⟩ := h; exact kk x w2 h)
theorem k_X9_224 {v0 v1 : Value} {b : Nat} {d2 mc2 ms2 : Nat} {post : VW → Prop} {fs : List Value} (hM : Sp G l yX9_narrow cX9_narrow 5 none d2 mc2 ms2 [.ref b, v0, v1] w (QV post)) (hy : y.cls = RX9) (he : w[b]? = some (.inr (9, fs))) (hdl : d2 < d) (hk : k + mc2 ≤ mc) (hn : n + ms2 ≤ ms) (hst : (st.map fun v => v.category).sum ≤ 8) (hdg : decode cc pc = .ok (.invokevirtual 224, 3)) (kk : ∀ (w2 : VW), post w2 → R G l y cc nL ret d mc ms Q (pc + 3) lv st w2 (k + mc2) (n + ms2)) : R G l y cc nL ret d mc ms Q pc lv (v1 :: v0 :: .ref b :: st) w k n := R_callV (as := [v0, v1]) (ci := 9) hM w_1147 (by rw [hy]; exact w_1144) w_1146 ws_41 w_10 ⟨by decide, by decide, by rfl⟩ hdl (by decide) hk hn hst rfl rfl he hdg (fun r w2 h => by obtain ⟨rfl, h⟩ := h; exact kk w2 h)
theorem k_X9_208 {v0 v1 v2 : Value} {b : Nat} {d2 mc2 ms2 : Nat} {post : VW → Prop} {fs : List Value} (hM : Sp G l yX9_takenIn cX9_takenIn 4 none d2 mc2 ms2 [.ref b, v0, v1, v2] w (QV post)) (hy : y.cls = RX9) (he : w[b]? = some (.inr (9, fs))) (hdl : d2 < d) (hk : k + mc2 ≤ mc) (hn : n + ms2 ≤ ms) (hst : (st.map fun v => v.category).sum ≤ 8) (hdg : decode cc pc = .ok (.invokevirtual 208, 3)) (kk : ∀ (w2 : VW), post w2 → R G l y cc nL ret d mc ms Q (pc + 3) lv st w2 (k + mc2) (n + ms2)) : R G l y cc nL ret d mc ms Q pc lv (v2 :: v1 :: v0 :: .ref b :: st) w k n := R_callV (as := [v0, v1, v2]) (ci := 9) hM w_1151 (by rw [hy]; exact w_1148) w_1150 ws_42 w_10 ⟨by decide, by decide, by rfl⟩ hdl (by decide) hk hn hst rfl rfl he hdg (fun r w2 h => by obtain ⟨rfl, h⟩ := h; exact kk w2 h)
theorem k_X9_212 {v0 v1 v2 : Value} {b : Nat} {d2 mc2 ms2 : Nat} {post : VW → Prop} {fs : List Value} (hM : Sp G l yX9_outIn cX9_outIn 4 none d2 mc2 ms2 [.ref b, v0, v1, v2] w (QV post)) (hy : y.cls = RX9) (he : w[b]? = some (.inr (9, fs))) (hdl : d2 < d) (hk : k + mc2 ≤ mc) (hn : n + ms2 ≤ ms) (hst : (st.map fun v => v.category).sum ≤ 8) (hdg : decode cc pc = .ok (.invokevirtual 212, 3)) (kk : ∀ (w2 : VW), post w2 → R G l y cc nL ret d mc ms Q (pc + 3) lv st w2 (k + mc2) (n + ms2)) : R G l y cc nL ret d mc ms Q pc lv (v2 :: v1 :: v0 :: .ref b :: st) w k n := R_callV (as := [v0, v1, v2]) (ci := 9) hM w_1155 (by rw [hy]; exact w_1152) w_1154 ws_43 w_10 ⟨by decide, by decide, by rfl⟩ hdl (by decide) hk hn hst rfl rfl he hdg (fun r w2 h => by obtain ⟨rfl, h⟩ := h; exact kk w2 h)
theorem k_X9_218 {v0 v1 : Value} {b : Nat} {d2 mc2 ms2 : Nat} {post : Int32 → VW → Prop} {fs : List Value} (hM : Sp G l yX9_isOf cX9_isOf 3 (some .boolean) d2 mc2 ms2 [.ref b, v0, v1] w (QI post)) (hy : y.cls = RX9) (he : w[b]? = some (.inr (9, fs))) (hdl : d2 < d) (hk : k + mc2 ≤ mc) (hn : n + ms2 ≤ ms) (hst : (st.map fun v => v.category).sum ≤ 8) (hdg : decode cc pc = .ok (.invokevirtual 218, 3)) (kk : ∀ (x : Int32) (w2 : VW), post x w2 → R G l y cc nL ret d mc ms Q (pc + 3) lv (.int x :: st) w2 (k + mc2) (n + ms2)) : R G l y cc nL ret d mc ms Q pc lv (v1 :: v0 :: .ref b :: st) w k n := R_callV (as := [v0, v1]) (ci := 9) hM w_1159 (by rw [hy]; exact w_1156) w_1158 ws_44 w_10 ⟨by decide, by decide, by rfl⟩ hdl (by decide) hk hn hst rfl rfl he hdg (fun r w2 h => by obtain ⟨x, rfl, h⟩ := h; exact kk x w2 h)
theorem k_L_96 {b : Nat} {d2 mc2 ms2 : Nat} {post : Int32 → VW → Prop} {fs : List Value} (hM : Sp G l yX9_quarrel cX9_quarrel 1 (some .int) d2 mc2 ms2 [.ref b] w (QI post)) (hy : y.cls = "ViewCardsLaw") (he : w[b]? = some (.inr (9, fs))) (hdl : d2 < d) (hk : k + mc2 ≤ mc) (hn : n + ms2 ≤ ms) (hst : (st.map fun v => v.category).sum ≤ 8) (hdg : decode cc pc = .ok (.invokevirtual 96, 3)) (kk : ∀ (x : Int32) (w2 : VW), post x w2 → R G l y cc nL ret d mc ms Q (pc + 3) lv (.int x :: st) w2 (k + mc2) (n + ms2)) : R G l y cc nL ret d mc ms Q pc lv (.ref b :: st) w k n := R_callV (as := []) (ci := 9) hM w_1163 (by rw [hy]; exact w_1160) w_1161 w_1162 w_10 ⟨by decide, by decide, by rfl⟩ hdl (by decide) hk hn hst rfl rfl he hdg (fun r w2 h => by obtain ⟨x, rfl, h⟩ := h; exact kk x w2 h)
theorem k_L_100 {b : Nat} {d2 mc2 ms2 : Nat} {post : Int32 → VW → Prop} {fs : List Value} (hM : Sp G l yX9_culprit cX9_culprit 2 (some .int) d2 mc2 ms2 [.ref b] w (QI post)) (hy : y.cls = "ViewCardsLaw") (he : w[b]? = some (.inr (9, fs))) (hdl : d2 < d) (hk : k + mc2 ≤ mc) (hn : n + ms2 ≤ ms) (hst : (st.map fun v => v.category).sum ≤ 8) (hdg : decode cc pc = .ok (.invokevirtual 100, 3)) (kk : ∀ (x : Int32) (w2 : VW), post x w2 → R G l y cc nL ret d mc ms Q (pc + 3) lv (.int x :: st) w2 (k + mc2) (n + ms2)) : R G l y cc nL ret d mc ms Q pc lv (.ref b :: st) w k n := R_callV (as := []) (ci := 9) hM w_1167 (by rw [hy]; exact w_1164) w_1165 w_1166 w_10 ⟨by decide, by decide, by rfl⟩ hdl (by decide) hk hn hst rfl rfl he hdg (fun r w2 h => by obtain ⟨x, rfl, h⟩ := h; exact kk x w2 h)
theorem k_L_104 {v0 v1 : Value} {b : Nat} {d2 mc2 ms2 : Nat} {post : Int32 → VW → Prop} {fs : List Value} (hM : Sp G l yX9_landmark cX9_landmark 3 (some .int) d2 mc2 ms2 [.ref b, v0, v1] w (QI post)) (hy : y.cls = "ViewCardsLaw") (he : w[b]? = some (.inr (9, fs))) (hdl : d2 < d) (hk : k + mc2 ≤ mc) (hn : n + ms2 ≤ ms) (hst : (st.map fun v => v.category).sum ≤ 8) (hdg : decode cc pc = .ok (.invokevirtual 104, 3)) (kk : ∀ (x : Int32) (w2 : VW), post x w2 → R G l y cc nL ret d mc ms Q (pc + 3) lv (.int x :: st) w2 (k + mc2) (n + ms2)) : R G l y cc nL ret d mc ms Q pc lv (v1 :: v0 :: .ref b :: st) w k n := R_callV (as := [v0, v1]) (ci := 9) hM w_1171 (by rw [hy]; exact w_1168) w_1169 w_1170 w_10 ⟨by decide, by decide, by rfl⟩ hdl (by decide) hk hn hst rfl rfl he hdg (fun r w2 h => by obtain ⟨x, rfl, h⟩ := h; exact kk x w2 h)
theorem k_L_109 {v0 : Value} {b : Nat} {d2 mc2 ms2 : Nat} {post : Int32 → VW → Prop} {fs : List Value} (hM : Sp G l yX9_walls cX9_walls 3 (some .int) d2 mc2 ms2 [.ref b, v0] w (QI post)) (hy : y.cls = "ViewCardsLaw") (he : w[b]? = some (.inr (9, fs))) (hdl : d2 < d) (hk : k + mc2 ≤ mc) (hn : n + ms2 ≤ ms) (hst : (st.map fun v => v.category).sum ≤ 8) (hdg : decode cc pc = .ok (.invokevirtual 109, 3)) (kk : ∀ (x : Int32) (w2 : VW), post x w2 → R G l y cc nL ret d mc ms Q (pc + 3) lv (.int x :: st) w2 (k + mc2) (n + ms2)) : R G l y cc nL ret d mc ms Q pc lv (v0 :: .ref b :: st) w k n := R_callV (as := [v0]) (ci := 9) hM w_1175 (by rw [hy]; exact w_1172) w_1173 w_1174 w_10 ⟨by decide, by decide, by rfl⟩ hdl (by decide) hk hn hst rfl rfl he hdg (fun r w2 h => by obtain ⟨x, rfl, h⟩ := h; exact kk x w2 h)
theorem k_L_113 {v0 v1 : Value} {b : Nat} {d2 mc2 ms2 : Nat} {post : Int32 → VW → Prop} {fs : List Value} (hM : Sp G l yX9_view cX9_view 4 (some .int) d2 mc2 ms2 [.ref b, v0, v1] w (QI post)) (hy : y.cls = "ViewCardsLaw") (he : w[b]? = some (.inr (9, fs))) (hdl : d2 < d) (hk : k + mc2 ≤ mc) (hn : n + ms2 ≤ ms) (hst : (st.map fun v => v.category).sum ≤ 8) (hdg : decode cc pc = .ok (.invokevirtual 113, 3)) (kk : ∀ (x : Int32) (w2 : VW), post x w2 → R G l y cc nL ret d mc ms Q (pc + 3) lv (.int x :: st) w2 (k + mc2) (n + ms2)) : R G l y cc nL ret d mc ms Q pc lv (v1 :: v0 :: .ref b :: st) w k n := R_callV (as := [v0, v1]) (ci := 9) hM w_1179 (by rw [hy]; exact w_1176) w_1177 w_1178 w_10 ⟨by decide, by decide, by rfl⟩ hdl (by decide) hk hn hst rfl rfl he hdg (fun r w2 h => by obtain ⟨x, rfl, h⟩ := h; exact kk x w2 h)
theorem k_L_117 {v0 : Value} {b : Nat} {d2 mc2 ms2 : Nat} {post : Int32 → VW → Prop} {fs : List Value} (hM : Sp G l yX9_unview cX9_unview 3 (some .int) d2 mc2 ms2 [.ref b, v0] w (QI post)) (hy : y.cls = "ViewCardsLaw") (he : w[b]? = some (.inr (9, fs))) (hdl : d2 < d) (hk : k + mc2 ≤ mc) (hn : n + ms2 ≤ ms) (hst : (st.map fun v => v.category).sum ≤ 8) (hdg : decode cc pc = .ok (.invokevirtual 117, 3)) (kk : ∀ (x : Int32) (w2 : VW), post x w2 → R G l y cc nL ret d mc ms Q (pc + 3) lv (.int x :: st) w2 (k + mc2) (n + ms2)) : R G l y cc nL ret d mc ms Q pc lv (v0 :: .ref b :: st) w k n := R_callV (as := [v0]) (ci := 9) hM w_1183 (by rw [hy]; exact w_1180) w_1181 w_1182 w_10 ⟨by decide, by decide, by rfl⟩ hdl (by decide) hk hn hst rfl rfl he hdg (fun r w2 h => by obtain ⟨x, rfl, h⟩ := h; exact kk x w2 h)
theorem k_L_122 {v0 : Value} {b : Nat} {d2 mc2 ms2 : Nat} {post : Int64 → VW → Prop} {fs : List Value} (hM : Sp G l yX9_stood cX9_stood 2 (some .long) d2 mc2 ms2 [.ref b, v0] w (QL post)) (hy : y.cls = "ViewCardsLaw") (he : w[b]? = some (.inr (9, fs))) (hdl : d2 < d) (hk : k + mc2 ≤ mc) (hn : n + ms2 ≤ ms) (hst : (st.map fun v => v.category).sum ≤ 8) (hdg : decode cc pc = .ok (.invokevirtual 122, 3)) (kk : ∀ (x : Int64) (w2 : VW), post x w2 → R G l y cc nL ret d mc ms Q (pc + 3) lv (.long x :: st) w2 (k + mc2) (n + ms2)) : R G l y cc nL ret d mc ms Q pc lv (v0 :: .ref b :: st) w k n := R_callV (as := [v0]) (ci := 9) hM w_1187 (by rw [hy]; exact w_1184) w_1185 w_1186 w_10 ⟨by decide, by decide, by rfl⟩ hdl (by decide) hk hn hst rfl rfl he hdg (fun r w2 h => by obtain ⟨x, rfl, h⟩ := h; exact kk x w2 h)
theorem k_X9_248 {v0 : Value} {b : Nat} {d2 mc2 ms2 : Nat} {post : Int64 → VW → Prop} {fs : List Value} (hM : Sp G l yX9_stoodOf cX9_stoodOf 5 (some .long) d2 mc2 ms2 [.ref b, v0] w (QL post)) (hy : y.cls = RX9) (he : w[b]? = some (.inr (9, fs))) (hdl : d2 < d) (hk : k + mc2 ≤ mc) (hn : n + ms2 ≤ ms) (hst : (st.map fun v => v.category).sum ≤ 8) (hdg : decode cc pc = .ok (.invokevirtual 248, 3)) (kk : ∀ (x : Int64) (w2 : VW), post x w2 → R G l y cc nL ret d mc ms Q (pc + 3) lv (.long x :: st) w2 (k + mc2) (n + ms2)) : R G l y cc nL ret d mc ms Q pc lv (v0 :: .ref b :: st) w k n := R_callV (as := [v0]) (ci := 9) hM w_1191 (by rw [hy]; exact w_1188) w_1190 ws_45 w_10 ⟨by decide, by decide, by rfl⟩ hdl (by decide) hk hn hst rfl rfl he hdg (fun r w2 h => by obtain ⟨x, rfl, h⟩ := h; exact kk x w2 h)
theorem k_X9_245 {v0 v1 : Value} {b : Nat} {d2 mc2 ms2 : Nat} {post : Int32 → VW → Prop} {fs : List Value} (hM : Sp G l yX9_mayStand cX9_mayStand 8 (some .boolean) d2 mc2 ms2 [.ref b, v0, v1] w (QI post)) (hy : y.cls = RX9) (he : w[b]? = some (.inr (9, fs))) (hdl : d2 < d) (hk : k + mc2 ≤ mc) (hn : n + ms2 ≤ ms) (hst : (st.map fun v => v.category).sum ≤ 8) (hdg : decode cc pc = .ok (.invokevirtual 245, 3)) (kk : ∀ (x : Int32) (w2 : VW), post x w2 → R G l y cc nL ret d mc ms Q (pc + 3) lv (.int x :: st) w2 (k + mc2) (n + ms2)) : R G l y cc nL ret d mc ms Q pc lv (v1 :: v0 :: .ref b :: st) w k n := R_callV (as := [v0, v1]) (ci := 9) hM w_1195 (by rw [hy]; exact w_1192) w_1194 ws_46 w_10 ⟨by decide, by decide, by rfl⟩ hdl (by decide) hk hn hst rfl rfl he hdg (fun r w2 h => by obtain ⟨x, rfl, h⟩ := h; exact kk x w2 h)
theorem k_X9_236 {v0 : Value} {b : Nat} {d2 mc2 ms2 : Nat} {post : Int32 → VW → Prop} {fs : List Value} (hM : Sp G l yX9_isWall cX9_isWall 2 (some .boolean) d2 mc2 ms2 [.ref b, v0] w (QI post)) (hy : y.cls = RX9) (he : w[b]? = some (.inr (9, fs))) (hdl : d2 < d) (hk : k + mc2 ≤ mc) (hn : n + ms2 ≤ ms) (hst : (st.map fun v => v.category).sum ≤ 8) (hdg : decode cc pc = .ok (.invokevirtual 236, 3)) (kk : ∀ (x : Int32) (w2 : VW), post x w2 → R G l y cc nL ret d mc ms Q (pc + 3) lv (.int x :: st) w2 (k + mc2) (n + ms2)) : R G l y cc nL ret d mc ms Q pc lv (v0 :: .ref b :: st) w k n := R_callV (as := [v0]) (ci := 9) hM w_1199 (by rw [hy]; exact w_1196) w_1198 ws_47 w_10 ⟨by decide, by decide, by rfl⟩ hdl (by decide) hk hn hst rfl rfl he hdg (fun r w2 h => by obtain ⟨x, rfl, h⟩ := h; exact kk x w2 h)
theorem k_X9_239 {v0 v1 : Value} {b : Nat} {d2 mc2 ms2 : Nat} {post : Int32 → VW → Prop} {fs : List Value} (hM : Sp G l yX9_isSeen cX9_isSeen 8 (some .boolean) d2 mc2 ms2 [.ref b, v0, v1] w (QI post)) (hy : y.cls = RX9) (he : w[b]? = some (.inr (9, fs))) (hdl : d2 < d) (hk : k + mc2 ≤ mc) (hn : n + ms2 ≤ ms) (hst : (st.map fun v => v.category).sum ≤ 8) (hdg : decode cc pc = .ok (.invokevirtual 239, 3)) (kk : ∀ (x : Int32) (w2 : VW), post x w2 → R G l y cc nL ret d mc ms Q (pc + 3) lv (.int x :: st) w2 (k + mc2) (n + ms2)) : R G l y cc nL ret d mc ms Q pc lv (v1 :: v0 :: .ref b :: st) w k n := R_callV (as := [v0, v1]) (ci := 9) hM w_1203 (by rw [hy]; exact w_1200) w_1202 ws_48 w_10 ⟨by decide, by decide, by rfl⟩ hdl (by decide) hk hn hst rfl rfl he hdg (fun r w2 h => by obtain ⟨x, rfl, h⟩ := h; exact kk x w2 h)
theorem k_X9_242 {v0 v1 v2 : Value} {b : Nat} {d2 mc2 ms2 : Nat} {post : Int32 → VW → Prop} {fs : List Value} (hM : Sp G l yX9_isOrdered cX9_isOrdered 8 (some .boolean) d2 mc2 ms2 [.ref b, v0, v1, v2] w (QI post)) (hy : y.cls = RX9) (he : w[b]? = some (.inr (9, fs))) (hdl : d2 < d) (hk : k + mc2 ≤ mc) (hn : n + ms2 ≤ ms) (hst : (st.map fun v => v.category).sum ≤ 8) (hdg : decode cc pc = .ok (.invokevirtual 242, 3)) (kk : ∀ (x : Int32) (w2 : VW), post x w2 → R G l y cc nL ret d mc ms Q (pc + 3) lv (.int x :: st) w2 (k + mc2) (n + ms2)) : R G l y cc nL ret d mc ms Q pc lv (v2 :: v1 :: v0 :: .ref b :: st) w k n := R_callV (as := [v0, v1, v2]) (ci := 9) hM w_1207 (by rw [hy]; exact w_1204) w_1206 ws_49 w_10 ⟨by decide, by decide, by rfl⟩ hdl (by decide) hk hn hst rfl rfl he hdg (fun r w2 h => by obtain ⟨x, rfl, h⟩ := h; exact kk x w2 h)
theorem k_L_126 {v0 : Value} {b : Nat} {d2 mc2 ms2 : Nat} {post : Int32 → VW → Prop} {fs : List Value} (hM : Sp G l yX9_together cX9_together 6 (some .int) d2 mc2 ms2 [.ref b, v0] w (QI post)) (hy : y.cls = "ViewCardsLaw") (he : w[b]? = some (.inr (9, fs))) (hdl : d2 < d) (hk : k + mc2 ≤ mc) (hn : n + ms2 ≤ ms) (hst : (st.map fun v => v.category).sum ≤ 8) (hdg : decode cc pc = .ok (.invokevirtual 126, 3)) (kk : ∀ (x : Int32) (w2 : VW), post x w2 → R G l y cc nL ret d mc ms Q (pc + 3) lv (.int x :: st) w2 (k + mc2) (n + ms2)) : R G l y cc nL ret d mc ms Q pc lv (v0 :: .ref b :: st) w k n := R_callV (as := [v0]) (ci := 9) hM w_1211 (by rw [hy]; exact w_1208) w_1209 w_1210 w_10 ⟨by decide, by decide, by rfl⟩ hdl (by decide) hk hn hst rfl rfl he hdg (fun r w2 h => by obtain ⟨x, rfl, h⟩ := h; exact kk x w2 h)
theorem k_L_131 {v0 v1 : Value} {b : Nat} {d2 mc2 ms2 : Nat} {post : Int32 → VW → Prop} {fs : List Value} (hM : Sp G l yX9_write cX9_write 5 (some .int) d2 mc2 ms2 [.ref b, v0, v1] w (QI post)) (hy : y.cls = "ViewCardsLaw") (he : w[b]? = some (.inr (9, fs))) (hdl : d2 < d) (hk : k + mc2 ≤ mc) (hn : n + ms2 ≤ ms) (hst : (st.map fun v => v.category).sum ≤ 8) (hdg : decode cc pc = .ok (.invokevirtual 131, 3)) (kk : ∀ (x : Int32) (w2 : VW), post x w2 → R G l y cc nL ret d mc ms Q (pc + 3) lv (.int x :: st) w2 (k + mc2) (n + ms2)) : R G l y cc nL ret d mc ms Q pc lv (v1 :: v0 :: .ref b :: st) w k n := R_callV (as := [v0, v1]) (ci := 9) hM w_1216 (by rw [hy]; exact w_1213) w_1214 w_1215 w_10 ⟨by decide, by decide, by rfl⟩ hdl (by decide) hk hn hst rfl rfl he hdg (fun r w2 h => by obtain ⟨x, rfl, h⟩ := h; exact kk x w2 h)
theorem k_L_135 {b : Nat} {d2 mc2 ms2 : Nat} {post : Int32 → VW → Prop} {fs : List Value} (hM : Sp G l yX9_erase cX9_erase 2 (some .int) d2 mc2 ms2 [.ref b] w (QI post)) (hy : y.cls = "ViewCardsLaw") (he : w[b]? = some (.inr (9, fs))) (hdl : d2 < d) (hk : k + mc2 ≤ mc) (hn : n + ms2 ≤ ms) (hst : (st.map fun v => v.category).sum ≤ 8) (hdg : decode cc pc = .ok (.invokevirtual 135, 3)) (kk : ∀ (x : Int32) (w2 : VW), post x w2 → R G l y cc nL ret d mc ms Q (pc + 3) lv (.int x :: st) w2 (k + mc2) (n + ms2)) : R G l y cc nL ret d mc ms Q pc lv (.ref b :: st) w k n := R_callV (as := []) (ci := 9) hM w_1220 (by rw [hy]; exact w_1217) w_1218 w_1219 w_10 ⟨by decide, by decide, by rfl⟩ hdl (by decide) hk hn hst rfl rfl he hdg (fun r w2 h => by obtain ⟨x, rfl, h⟩ := h; exact kk x w2 h)
theorem k_L_139 {b : Nat} {d2 mc2 ms2 : Nat} {post : Int32 → VW → Prop} {fs : List Value} (hM : Sp G l yX9_fault cX9_fault 1 (some .int) d2 mc2 ms2 [.ref b] w (QI post)) (hy : y.cls = "ViewCardsLaw") (he : w[b]? = some (.inr (9, fs))) (hdl : d2 < d) (hk : k + mc2 ≤ mc) (hn : n + ms2 ≤ ms) (hst : (st.map fun v => v.category).sum ≤ 8) (hdg : decode cc pc = .ok (.invokevirtual 139, 3)) (kk : ∀ (x : Int32) (w2 : VW), post x w2 → R G l y cc nL ret d mc ms Q (pc + 3) lv (.int x :: st) w2 (k + mc2) (n + ms2)) : R G l y cc nL ret d mc ms Q pc lv (.ref b :: st) w k n := R_callV (as := []) (ci := 9) hM w_1224 (by rw [hy]; exact w_1221) w_1222 w_1223 w_10 ⟨by decide, by decide, by rfl⟩ hdl (by decide) hk hn hst rfl rfl he hdg (fun r w2 h => by obtain ⟨x, rfl, h⟩ := h; exact kk x w2 h)
theorem k_X9_315 {b : Nat} {d2 mc2 ms2 : Nat} {post : Int32 → VW → Prop} {fs : List Value} (hM : Sp G l yX9_isRead cX9_isRead 2 (some .boolean) d2 mc2 ms2 [.ref b] w (QI post)) (hy : y.cls = RX9) (he : w[b]? = some (.inr (9, fs))) (hdl : d2 < d) (hk : k + mc2 ≤ mc) (hn : n + ms2 ≤ ms) (hst : (st.map fun v => v.category).sum ≤ 8) (hdg : decode cc pc = .ok (.invokevirtual 315, 3)) (kk : ∀ (x : Int32) (w2 : VW), post x w2 → R G l y cc nL ret d mc ms Q (pc + 3) lv (.int x :: st) w2 (k + mc2) (n + ms2)) : R G l y cc nL ret d mc ms Q pc lv (.ref b :: st) w k n := R_callV (as := []) (ci := 9) hM w_1228 (by rw [hy]; exact w_1225) w_1227 ws_50 w_10 ⟨by decide, by decide, by rfl⟩ hdl (by decide) hk hn hst rfl rfl he hdg (fun r w2 h => by obtain ⟨x, rfl, h⟩ := h; exact kk x w2 h)
theorem k_X9_312 {v0 : Value} {b : Nat} {d2 mc2 ms2 : Nat} {post : Int32 → VW → Prop} {fs : List Value} (hM : Sp G l yX9_isLine cX9_isLine 2 (some .boolean) d2 mc2 ms2 [.ref b, v0] w (QI post)) (hy : y.cls = RX9) (he : w[b]? = some (.inr (9, fs))) (hdl : d2 < d) (hk : k + mc2 ≤ mc) (hn : n + ms2 ≤ ms) (hst : (st.map fun v => v.category).sum ≤ 8) (hdg : decode cc pc = .ok (.invokevirtual 312, 3)) (kk : ∀ (x : Int32) (w2 : VW), post x w2 → R G l y cc nL ret d mc ms Q (pc + 3) lv (.int x :: st) w2 (k + mc2) (n + ms2)) : R G l y cc nL ret d mc ms Q pc lv (v0 :: .ref b :: st) w k n := R_callV (as := [v0]) (ci := 9) hM w_1232 (by rw [hy]; exact w_1229) w_1231 ws_51 w_10 ⟨by decide, by decide, by rfl⟩ hdl (by decide) hk hn hst rfl rfl he hdg (fun r w2 h => by obtain ⟨x, rfl, h⟩ := h; exact kk x w2 h)
theorem k_X9_294 {v0 : Value} {b : Nat} {d2 mc2 ms2 : Nat} {post : Int32 → VW → Prop} {fs : List Value} (hM : Sp G l yX9_isWord cX9_isWord 3 (some .boolean) d2 mc2 ms2 [.ref b, v0] w (QI post)) (hy : y.cls = RX9) (he : w[b]? = some (.inr (9, fs))) (hdl : d2 < d) (hk : k + mc2 ≤ mc) (hn : n + ms2 ≤ ms) (hst : (st.map fun v => v.category).sum ≤ 8) (hdg : decode cc pc = .ok (.invokevirtual 294, 3)) (kk : ∀ (x : Int32) (w2 : VW), post x w2 → R G l y cc nL ret d mc ms Q (pc + 3) lv (.int x :: st) w2 (k + mc2) (n + ms2)) : R G l y cc nL ret d mc ms Q pc lv (v0 :: .ref b :: st) w k n := R_callV (as := [v0]) (ci := 9) hM w_1237 (by rw [hy]; exact w_1234) w_1236 ws_52 w_10 ⟨by decide, by decide, by rfl⟩ hdl (by decide) hk hn hst rfl rfl he hdg (fun r w2 h => by obtain ⟨x, rfl, h⟩ := h; exact kk x w2 h)
theorem k_X9_285 {b : Nat} {d2 mc2 ms2 : Nat} {post : VW → Prop} {fs : List Value} (hM : Sp G l yX9_nextToken cX9_nextToken 1 none d2 mc2 ms2 [.ref b] w (QV post)) (hy : y.cls = RX9) (he : w[b]? = some (.inr (9, fs))) (hdl : d2 < d) (hk : k + mc2 ≤ mc) (hn : n + ms2 ≤ ms) (hst : (st.map fun v => v.category).sum ≤ 8) (hdg : decode cc pc = .ok (.invokevirtual 285, 3)) (kk : ∀ (w2 : VW), post w2 → R G l y cc nL ret d mc ms Q (pc + 3) lv st w2 (k + mc2) (n + ms2)) : R G l y cc nL ret d mc ms Q pc lv (.ref b :: st) w k n := R_callV (as := []) (ci := 9) hM w_1241 (by rw [hy]; exact w_1238) w_1240 ws_53 w_10 ⟨by decide, by decide, by rfl⟩ hdl (by decide) hk hn hst rfl rfl he hdg (fun r w2 h => by obtain ⟨rfl, h⟩ := h; exact kk w2 h)
theorem k_X9_288 {b : Nat} {d2 mc2 ms2 : Nat} {post : Int32 → VW → Prop} {fs : List Value} (hM : Sp G l yX9_fails cX9_fails 1 (some .boolean) d2 mc2 ms2 [.ref b] w (QI post)) (hy : y.cls = RX9) (he : w[b]? = some (.inr (9, fs))) (hdl : d2 < d) (hk : k + mc2 ≤ mc) (hn : n + ms2 ≤ ms) (hst : (st.map fun v => v.category).sum ≤ 8) (hdg : decode cc pc = .ok (.invokevirtual 288, 3)) (kk : ∀ (x : Int32) (w2 : VW), post x w2 → R G l y cc nL ret d mc ms Q (pc + 3) lv (.int x :: st) w2 (k + mc2) (n + ms2)) : R G l y cc nL ret d mc ms Q pc lv (.ref b :: st) w k n := R_callV (as := []) (ci := 9) hM w_1250 (by rw [hy]; exact w_1247) w_1249 ws_54 w_10 ⟨by decide, by decide, by rfl⟩ hdl (by decide) hk hn hst rfl rfl he hdg (fun r w2 h => by obtain ⟨x, rfl, h⟩ := h; exact kk x w2 h)
theorem k_X9_298 {v0 v1 v2 : Value} {b : Nat} {d2 mc2 ms2 : Nat} {post : Int32 → VW → Prop} {fs : List Value} (hM : Sp G l yX9_isNumber cX9_isNumber 4 (some .boolean) d2 mc2 ms2 [.ref b, v0, v1, v2] w (QI post)) (hy : y.cls = RX9) (he : w[b]? = some (.inr (9, fs))) (hdl : d2 < d) (hk : k + mc2 ≤ mc) (hn : n + ms2 ≤ ms) (hst : (st.map fun v => v.category).sum ≤ 8) (hdg : decode cc pc = .ok (.invokevirtual 298, 3)) (kk : ∀ (x : Int32) (w2 : VW), post x w2 → R G l y cc nL ret d mc ms Q (pc + 3) lv (.int x :: st) w2 (k + mc2) (n + ms2)) : R G l y cc nL ret d mc ms Q pc lv (v2 :: v1 :: v0 :: .ref b :: st) w k n := R_callV (as := [v0, v1, v2]) (ci := 9) hM w_1254 (by rw [hy]; exact w_1251) w_1253 ws_55 w_10 ⟨by decide, by decide, by rfl⟩ hdl (by decide) hk hn hst rfl rfl he hdg (fun r w2 h => by obtain ⟨x, rfl, h⟩ := h; exact kk x w2 h)
theorem k_L_143 {b : Nat} {d2 mc2 ms2 : Nat} {post : Int32 → VW → Prop} {fs : List Value} (hM : Sp G l yX9_catalogue cX9_catalogue 2 (some .int) d2 mc2 ms2 [.ref b] w (QI post)) (hy : y.cls = "ViewCardsLaw") (he : w[b]? = some (.inr (9, fs))) (hdl : d2 < d) (hk : k + mc2 ≤ mc) (hn : n + ms2 ≤ ms) (hst : (st.map fun v => v.category).sum ≤ 8) (hdg : decode cc pc = .ok (.invokevirtual 143, 3)) (kk : ∀ (x : Int32) (w2 : VW), post x w2 → R G l y cc nL ret d mc ms Q (pc + 3) lv (.int x :: st) w2 (k + mc2) (n + ms2)) : R G l y cc nL ret d mc ms Q pc lv (.ref b :: st) w k n := R_callV (as := []) (ci := 9) hM w_1262 (by rw [hy]; exact w_1259) w_1260 w_1261 w_10 ⟨by decide, by decide, by rfl⟩ hdl (by decide) hk hn hst rfl rfl he hdg (fun r w2 h => by obtain ⟨x, rfl, h⟩ := h; exact kk x w2 h)
theorem k_L_147 {v0 : Value} {b : Nat} {d2 mc2 ms2 : Nat} {post : Int32 → VW → Prop} {fs : List Value} (hM : Sp G l yX9_breaks cX9_breaks 6 (some .int) d2 mc2 ms2 [.ref b, v0] w (QI post)) (hy : y.cls = "ViewCardsLaw") (he : w[b]? = some (.inr (9, fs))) (hdl : d2 < d) (hk : k + mc2 ≤ mc) (hn : n + ms2 ≤ ms) (hst : (st.map fun v => v.category).sum ≤ 8) (hdg : decode cc pc = .ok (.invokevirtual 147, 3)) (kk : ∀ (x : Int32) (w2 : VW), post x w2 → R G l y cc nL ret d mc ms Q (pc + 3) lv (.int x :: st) w2 (k + mc2) (n + ms2)) : R G l y cc nL ret d mc ms Q pc lv (v0 :: .ref b :: st) w k n := R_callV (as := [v0]) (ci := 9) hM w_1266 (by rw [hy]; exact w_1263) w_1264 w_1265 w_10 ⟨by decide, by decide, by rfl⟩ hdl (by decide) hk hn hst rfl rfl he hdg (fun r w2 h => by obtain ⟨x, rfl, h⟩ := h; exact kk x w2 h)
theorem k_L_151 {v0 : Value} {b : Nat} {d2 mc2 ms2 : Nat} {post : Int32 → VW → Prop} {fs : List Value} (hM : Sp G l yX9_count cX9_count 4 (some .int) d2 mc2 ms2 [.ref b, v0] w (QI post)) (hy : y.cls = "ViewCardsLaw") (he : w[b]? = some (.inr (9, fs))) (hdl : d2 < d) (hk : k + mc2 ≤ mc) (hn : n + ms2 ≤ ms) (hst : (st.map fun v => v.category).sum ≤ 8) (hdg : decode cc pc = .ok (.invokevirtual 151, 3)) (kk : ∀ (x : Int32) (w2 : VW), post x w2 → R G l y cc nL ret d mc ms Q (pc + 3) lv (.int x :: st) w2 (k + mc2) (n + ms2)) : R G l y cc nL ret d mc ms Q pc lv (v0 :: .ref b :: st) w k n := R_callV (as := [v0]) (ci := 9) hM w_1270 (by rw [hy]; exact w_1267) w_1268 w_1269 w_10 ⟨by decide, by decide, by rfl⟩ hdl (by decide) hk hn hst rfl rfl he hdg (fun r w2 h => by obtain ⟨x, rfl, h⟩ := h; exact kk x w2 h)
theorem k_X8_9 {b : Nat} {d2 mc2 ms2 : Nat} {post : VW → Prop} (hM : Sp G l yX0_init cX0_init 1 none d2 mc2 ms2 [.ref b] w (QV post)) (hy : y.cls = RX8) (hdl : d2 < d) (hk : k + mc2 ≤ mc) (hn : n + ms2 ≤ ms) (hst : (st.map fun v => v.category).sum ≤ 8) (hdg : decode cc pc = .ok (.invokespecial 9, 3)) (kk : ∀ (w2 : VW), post w2 → R G l y cc nL ret d mc ms Q (pc + 3) lv st w2 (k + mc2) (n + ms2)) : R G l y cc nL ret d mc ms Q pc lv (.ref b :: st) w k n := R_callIN (as := []) hM w_30 (by rw [hy]; decide) w_29 w_2 rfl ⟨by decide, by decide, by rfl⟩ hdl (by decide) hk hn hst hdg (fun r w2 h => by obtain ⟨rfl, h⟩ := h; exact kk w2 h)
theorem k_X1_37 {b : Nat} {d2 mc2 ms2 : Nat} {post : VW → Prop} (hM : Sp G l yX7_init cX7_init 1 none d2 mc2 ms2 [.ref b] w (QV post)) (hy : y.cls = RX1) (hdl : d2 < d) (hk : k + mc2 ≤ mc) (hn : n + ms2 ≤ ms) (hst : (st.map fun v => v.category).sum ≤ 8) (hdg : decode cc pc = .ok (.invokespecial 37, 3)) (kk : ∀ (w2 : VW), post w2 → R G l y cc nL ret d mc ms Q (pc + 3) lv st w2 (k + mc2) (n + ms2)) : R G l y cc nL ret d mc ms Q pc lv (.ref b :: st) w k n := R_callIN (as := []) hM w_162 (by rw [hy]; decide) w_161 w_6 rfl ⟨by decide, by decide, by rfl⟩ hdl (by decide) hk hn hst hdg (fun r w2 h => by obtain ⟨rfl, h⟩ := h; exact kk w2 h)
theorem k_X8_50 {b : Nat} {d2 mc2 ms2 : Nat} {post : VW → Prop} (hM : Sp G l yX6_init cX6_init 1 none d2 mc2 ms2 [.ref b] w (QV post)) (hy : y.cls = RX8) (hdl : d2 < d) (hk : k + mc2 ≤ mc) (hn : n + ms2 ≤ ms) (hst : (st.map fun v => v.category).sum ≤ 8) (hdg : decode cc pc = .ok (.invokespecial 50, 3)) (kk : ∀ (w2 : VW), post w2 → R G l y cc nL ret d mc ms Q (pc + 3) lv st w2 (k + mc2) (n + ms2)) : R G l y cc nL ret d mc ms Q pc lv (.ref b :: st) w k n := R_callIN (as := []) hM w_258 (by rw [hy]; decide) w_257 w_8 rfl ⟨by decide, by decide, by rfl⟩ hdl (by decide) hk hn hst hdg (fun r w2 h => by obtain ⟨rfl, h⟩ := h; exact kk w2 h)
theorem k_X8_57 {b : Nat} {d2 mc2 ms2 : Nat} {post : VW → Prop} (hM : Sp G l yX4_init cX4_init 1 none d2 mc2 ms2 [.ref b] w (QV post)) (hy : y.cls = RX8) (hdl : d2 < d) (hk : k + mc2 ≤ mc) (hn : n + ms2 ≤ ms) (hst : (st.map fun v => v.category).sum ≤ 8) (hdg : decode cc pc = .ok (.invokespecial 57, 3)) (kk : ∀ (w2 : VW), post w2 → R G l y cc nL ret d mc ms Q (pc + 3) lv st w2 (k + mc2) (n + ms2)) : R G l y cc nL ret d mc ms Q pc lv (.ref b :: st) w k n := R_callIN (as := []) hM w_282 (by rw [hy]; decide) w_281 w_9 rfl ⟨by decide, by decide, by rfl⟩ hdl (by decide) hk hn hst hdg (fun r w2 h => by obtain ⟨rfl, h⟩ := h; exact kk w2 h)
theorem k_X3_78 {v0 v1 : Value} {d2 mc2 ms2 : Nat} {post : Int32 → VW → Prop} (hM : Sp G l yX8_byteOf cX8_byteOf 3 (some .int) d2 mc2 ms2 [v0, v1] w (QI post)) (hy : y.cls = RX3) (hdl : d2 < d) (hk : k + mc2 ≤ mc) (hn : n + ms2 ≤ ms) (hst : (st.map fun v => v.category).sum ≤ 8) (hdg : decode cc pc = .ok (.invokestatic 78, 3)) (kk : ∀ (x : Int32) (w2 : VW), post x w2 → R G l y cc nL ret d mc ms Q (pc + 3) lv (.int x :: st) w2 (k + mc2) (n + ms2)) : R G l y cc nL ret d mc ms Q pc lv (v1 :: v0 :: st) w k n := R_callSN (as := [v0, v1]) hM w_398 (by rw [hy]; decide) w_397 w_1 ⟨by decide, by decide, by rfl⟩ hdl (by decide) hk hn hst hdg (fun r w2 h => by obtain ⟨x, rfl, h⟩ := h; exact kk x w2 h)
theorem k_X3_102 {v0 : Value} {d2 mc2 ms2 : Nat} {post : Int32 → VW → Prop} (hM : Sp G l yX8_lowest cX8_lowest 1 (some .int) d2 mc2 ms2 [v0] w (QI post)) (hy : y.cls = RX3) (hdl : d2 < d) (hk : k + mc2 ≤ mc) (hn : n + ms2 ≤ ms) (hst : (st.map fun v => v.category).sum ≤ 8) (hdg : decode cc pc = .ok (.invokestatic 102, 3)) (kk : ∀ (x : Int32) (w2 : VW), post x w2 → R G l y cc nL ret d mc ms Q (pc + 3) lv (.int x :: st) w2 (k + mc2) (n + ms2)) : R G l y cc nL ret d mc ms Q pc lv (v0 :: st) w k n := R_callSN (as := [v0]) hM w_447 (by rw [hy]; decide) w_446 w_1 ⟨by decide, by decide, by rfl⟩ hdl (by decide) hk hn hst hdg (fun r w2 h => by obtain ⟨x, rfl, h⟩ := h; exact kk x w2 h)
theorem k_X3_106 {v0 v1 : Value} {d2 mc2 ms2 : Nat} {post : Int32 → VW → Prop} (hM : Sp G l yX8_has cX8_has 2 (some .boolean) d2 mc2 ms2 [v0, v1] w (QI post)) (hy : y.cls = RX3) (hdl : d2 < d) (hk : k + mc2 ≤ mc) (hn : n + ms2 ≤ ms) (hst : (st.map fun v => v.category).sum ≤ 8) (hdg : decode cc pc = .ok (.invokestatic 106, 3)) (kk : ∀ (x : Int32) (w2 : VW), post x w2 → R G l y cc nL ret d mc ms Q (pc + 3) lv (.int x :: st) w2 (k + mc2) (n + ms2)) : R G l y cc nL ret d mc ms Q pc lv (v1 :: v0 :: st) w k n := R_callSN (as := [v0, v1]) hM w_456 (by rw [hy]; decide) w_455 w_1 ⟨by decide, by decide, by rfl⟩ hdl (by decide) hk hn hst hdg (fun r w2 h => by obtain ⟨x, rfl, h⟩ := h; exact kk x w2 h)
theorem k_X0_61 {v0 v1 : Value} {d2 mc2 ms2 : Nat} {post : Int32 → VW → Prop} (hM : Sp G l yX8_has cX8_has 2 (some .boolean) d2 mc2 ms2 [v0, v1] w (QI post)) (hy : y.cls = RX0) (hdl : d2 < d) (hk : k + mc2 ≤ mc) (hn : n + ms2 ≤ ms) (hst : (st.map fun v => v.category).sum ≤ 8) (hdg : decode cc pc = .ok (.invokestatic 61, 3)) (kk : ∀ (x : Int32) (w2 : VW), post x w2 → R G l y cc nL ret d mc ms Q (pc + 3) lv (.int x :: st) w2 (k + mc2) (n + ms2)) : R G l y cc nL ret d mc ms Q pc lv (v1 :: v0 :: st) w k n := R_callSN (as := [v0, v1]) hM w_456 (by rw [hy]; decide) w_455 w_1 ⟨by decide, by decide, by rfl⟩ hdl (by decide) hk hn hst hdg (fun r w2 h => by obtain ⟨x, rfl, h⟩ := h; exact kk x w2 h)
theorem k_X1_60 {v0 v1 : Value} {d2 mc2 ms2 : Nat} {post : Int32 → VW → Prop} (hM : Sp G l yX8_has cX8_has 2 (some .boolean) d2 mc2 ms2 [v0, v1] w (QI post)) (hy : y.cls = RX1) (hdl : d2 < d) (hk : k + mc2 ≤ mc) (hn : n + ms2 ≤ ms) (hst : (st.map fun v => v.category).sum ≤ 8) (hdg : decode cc pc = .ok (.invokestatic 60, 3)) (kk : ∀ (x : Int32) (w2 : VW), post x w2 → R G l y cc nL ret d mc ms Q (pc + 3) lv (.int x :: st) w2 (k + mc2) (n + ms2)) : R G l y cc nL ret d mc ms Q pc lv (v1 :: v0 :: st) w k n := R_callSN (as := [v0, v1]) hM w_456 (by rw [hy]; decide) w_455 w_1 ⟨by decide, by decide, by rfl⟩ hdl (by decide) hk hn hst hdg (fun r w2 h => by obtain ⟨x, rfl, h⟩ := h; exact kk x w2 h)
theorem k_X4_31 {v0 v1 v2 : Value} {d2 mc2 ms2 : Nat} {post : Int32 → VW → Prop} (hM : Sp G l yX8_isWithin cX8_isWithin 3 (some .boolean) d2 mc2 ms2 [v0, v1, v2] w (QI post)) (hy : y.cls = RX4) (hdl : d2 < d) (hk : k + mc2 ≤ mc) (hn : n + ms2 ≤ ms) (hst : (st.map fun v => v.category).sum ≤ 8) (hdg : decode cc pc = .ok (.invokestatic 31, 3)) (kk : ∀ (x : Int32) (w2 : VW), post x w2 → R G l y cc nL ret d mc ms Q (pc + 3) lv (.int x :: st) w2 (k + mc2) (n + ms2)) : R G l y cc nL ret d mc ms Q pc lv (v2 :: v1 :: v0 :: st) w k n := R_callSN (as := [v0, v1, v2]) hM w_357 (by rw [hy]; decide) w_356 w_1 ⟨by decide, by decide, by rfl⟩ hdl (by decide) hk hn hst hdg (fun r w2 h => by obtain ⟨x, rfl, h⟩ := h; exact kk x w2 h)
theorem k_X1_142 {v0 v1 v2 : Value} {d2 mc2 ms2 : Nat} {post : Int32 → VW → Prop} (hM : Sp G l yX8_isWithin cX8_isWithin 3 (some .boolean) d2 mc2 ms2 [v0, v1, v2] w (QI post)) (hy : y.cls = RX1) (hdl : d2 < d) (hk : k + mc2 ≤ mc) (hn : n + ms2 ≤ ms) (hst : (st.map fun v => v.category).sum ≤ 8) (hdg : decode cc pc = .ok (.invokestatic 142, 3)) (kk : ∀ (x : Int32) (w2 : VW), post x w2 → R G l y cc nL ret d mc ms Q (pc + 3) lv (.int x :: st) w2 (k + mc2) (n + ms2)) : R G l y cc nL ret d mc ms Q pc lv (v2 :: v1 :: v0 :: st) w k n := R_callSN (as := [v0, v1, v2]) hM w_357 (by rw [hy]; decide) w_356 w_1 ⟨by decide, by decide, by rfl⟩ hdl (by decide) hk hn hst hdg (fun r w2 h => by obtain ⟨x, rfl, h⟩ := h; exact kk x w2 h)
theorem k_X2_49 {v0 v1 : Value} {d2 mc2 ms2 : Nat} {post : Int32 → VW → Prop} (hM : Sp G l yX8_commonDivisor cX8_commonDivisor 6 (some .int) d2 mc2 ms2 [v0, v1] w (QI post)) (hy : y.cls = RX2) (hdl : d2 < d) (hk : k + mc2 ≤ mc) (hn : n + ms2 ≤ ms) (hst : (st.map fun v => v.category).sum ≤ 8) (hdg : decode cc pc = .ok (.invokestatic 49, 3)) (kk : ∀ (x : Int32) (w2 : VW), post x w2 → R G l y cc nL ret d mc ms Q (pc + 3) lv (.int x :: st) w2 (k + mc2) (n + ms2)) : R G l y cc nL ret d mc ms Q pc lv (v1 :: v0 :: st) w k n := R_callSN (as := [v0, v1]) hM w_561 (by rw [hy]; decide) w_560 w_1 ⟨by decide, by decide, by rfl⟩ hdl (by decide) hk hn hst hdg (fun r w2 h => by obtain ⟨x, rfl, h⟩ := h; exact kk x w2 h)
theorem k_X6_114 {v0 : Value} {d2 mc2 ms2 : Nat} {post : Int32 → VW → Prop} (hM : Sp G l yX8_isLetter cX8_isLetter 1 (some .boolean) d2 mc2 ms2 [v0] w (QI post)) (hy : y.cls = RX6) (hdl : d2 < d) (hk : k + mc2 ≤ mc) (hn : n + ms2 ≤ ms) (hst : (st.map fun v => v.category).sum ≤ 8) (hdg : decode cc pc = .ok (.invokestatic 114, 3)) (kk : ∀ (x : Int32) (w2 : VW), post x w2 → R G l y cc nL ret d mc ms Q (pc + 3) lv (.int x :: st) w2 (k + mc2) (n + ms2)) : R G l y cc nL ret d mc ms Q pc lv (v0 :: st) w k n := R_callSN (as := [v0]) hM w_411 (by rw [hy]; decide) w_410 w_1 ⟨by decide, by decide, by rfl⟩ hdl (by decide) hk hn hst hdg (fun r w2 h => by obtain ⟨x, rfl, h⟩ := h; exact kk x w2 h)
theorem k_X6_101 {v0 : Value} {d2 mc2 ms2 : Nat} {post : Int32 → VW → Prop} (hM : Sp G l yX8_isDigit cX8_isDigit 1 (some .boolean) d2 mc2 ms2 [v0] w (QI post)) (hy : y.cls = RX6) (hdl : d2 < d) (hk : k + mc2 ≤ mc) (hn : n + ms2 ≤ ms) (hst : (st.map fun v => v.category).sum ≤ 8) (hdg : decode cc pc = .ok (.invokestatic 101, 3)) (kk : ∀ (x : Int32) (w2 : VW), post x w2 → R G l y cc nL ret d mc ms Q (pc + 3) lv (.int x :: st) w2 (k + mc2) (n + ms2)) : R G l y cc nL ret d mc ms Q pc lv (v0 :: st) w k n := R_callSN (as := [v0]) hM w_726 (by rw [hy]; decide) w_725 w_1 ⟨by decide, by decide, by rfl⟩ hdl (by decide) hk hn hst hdg (fun r w2 h => by obtain ⟨x, rfl, h⟩ := h; exact kk x w2 h)
theorem k_X6_88 {v0 v1 v2 : Value} {d2 mc2 ms2 : Nat} {post : Int32 → VW → Prop} (hM : Sp G l yX8_isWithin cX8_isWithin 3 (some .boolean) d2 mc2 ms2 [v0, v1, v2] w (QI post)) (hy : y.cls = RX6) (hdl : d2 < d) (hk : k + mc2 ≤ mc) (hn : n + ms2 ≤ ms) (hst : (st.map fun v => v.category).sum ≤ 8) (hdg : decode cc pc = .ok (.invokestatic 88, 3)) (kk : ∀ (x : Int32) (w2 : VW), post x w2 → R G l y cc nL ret d mc ms Q (pc + 3) lv (.int x :: st) w2 (k + mc2) (n + ms2)) : R G l y cc nL ret d mc ms Q pc lv (v2 :: v1 :: v0 :: st) w k n := R_callSN (as := [v0, v1, v2]) hM w_357 (by rw [hy]; decide) w_356 w_1 ⟨by decide, by decide, by rfl⟩ hdl (by decide) hk hn hst hdg (fun r w2 h => by obtain ⟨x, rfl, h⟩ := h; exact kk x w2 h)
end LINKS
