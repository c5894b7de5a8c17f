/-! the words of the tables that a callee may be handed on; a row each for those that the walks need (written by words.py) -/
def TG : List Cond := lw_tbl.filter goodWord
theorem tg_mem {x : Cond} (h : x ∈ lw_tbl) (hg : goodWord x = true) : x ∈ TG := List.mem_filter.mpr ⟨h, hg⟩
theorem tg_0 {x : Cond} (i : Nat) (h : (k2_sels lw_privs)[i]? = some x) (hg : goodWord x = true) : x ∈ TG := tg_mem (List.mem_append_left _ (List.mem_of_getElem? h)) hg
theorem tg_1 {x : Cond} (i : Nat) (h : tables_1_1[i]? = some x) (hg : goodWord x = true) : x ∈ TG := tg_mem (List.mem_append_right _ (List.mem_append_left _ (List.mem_of_getElem? h))) hg
theorem tg_2 {x : Cond} (i : Nat) (h : tables_1_2[i]? = some x) (hg : goodWord x = true) : x ∈ TG := tg_mem (List.mem_append_right _ (List.mem_append_right _ (List.mem_append_left _ (List.mem_of_getElem? h)))) hg
theorem tg_3 {x : Cond} (i : Nat) (h : tables_1_3[i]? = some x) (hg : goodWord x = true) : x ∈ TG := tg_mem (List.mem_append_right _ (List.mem_append_right _ (List.mem_append_right _ (List.mem_append_left _ (List.mem_of_getElem? h))))) hg
theorem tg_4 {x : Cond} (i : Nat) (h : tables_1_4[i]? = some x) (hg : goodWord x = true) : x ∈ TG := tg_mem (List.mem_append_right _ (List.mem_append_right _ (List.mem_append_right _ (List.mem_append_right _ (List.mem_append_left _ (List.mem_of_getElem? h)))))) hg
theorem tg_5 {x : Cond} (i : Nat) (h : tables_1_5[i]? = some x) (hg : goodWord x = true) : x ∈ TG := tg_mem (List.mem_append_right _ (List.mem_append_right _ (List.mem_append_right _ (List.mem_append_right _ (List.mem_append_right _ (List.mem_of_getElem? h)))))) hg
theorem tg_good : ∀ x ∈ TG, (x.onTables && x.keeps) = true ∨ ∃ ty, x = .arrayClass ty := fun x hx => good_of_word (List.mem_filter.mp hx).2
theorem in_L : Cond.initialized RL ∈ TG := tg_1 0 rfl rfl
theorem in_X9 : Cond.initialized RX9 ∈ TG := tg_1 1 rfl rfl
theorem in_X8 : Cond.initialized RX8 ∈ TG := tg_1 2 rfl rfl
theorem in_X0 : Cond.initialized RX0 ∈ TG := tg_1 3 rfl rfl
theorem in_X4 : Cond.initialized RX4 ∈ TG := tg_1 4 rfl rfl
theorem in_X2 : Cond.initialized RX2 ∈ TG := tg_1 5 rfl rfl
theorem in_X1 : Cond.initialized RX1 ∈ TG := tg_1 6 rfl rfl
theorem in_X3 : Cond.initialized RX3 ∈ TG := tg_1 7 rfl rfl
theorem in_X7 : Cond.initialized RX7 ∈ TG := tg_1 8 rfl rfl
theorem in_X5 : Cond.initialized RX5 ∈ TG := tg_1 9 rfl rfl
theorem in_X6 : Cond.initialized RX6 ∈ TG := tg_1 10 rfl rfl
theorem in_X10 : Cond.initialized RX10 ∈ TG := tg_1 11 rfl rfl
theorem in_System : Cond.initialized "java/lang/System" ∈ TG := tg_1 12 rfl rfl
theorem in_J10 : Cond.initialized RJ10 ∈ TG := tg_1 12 rfl rfl
theorem in_J7 : Cond.initialized RJ7 ∈ TG := tg_1 13 rfl rfl
theorem in_J9 : Cond.initialized RJ9 ∈ TG := tg_1 14 rfl rfl
theorem in_Jx00060 : Cond.initialized RJx00060 ∈ TG := tg_1 19 rfl rfl
theorem kl_L_8 : Cond.classLink RL 8 RX9 ∈ TG := tg_1 20 rfl rfl
theorem is_X9 : Cond.instantiable RX9 4 ∈ TG := tg_1 21 rfl rfl
theorem ml_L_15 : Cond.methodLink RL 15 yX9_init ∈ TG := tg_1 22 rfl rfl
theorem im_X9_init : Cond.instanceMethod yX9_init ∈ TG := tg_1 23 rfl rfl
theorem cd_X9_init : Cond.code yX9_init cX9_init 1 none ∈ TG := tg_1 24 rfl rfl
theorem ml_X9_1 : Cond.methodLink RX9 1 objectInit ∈ TG := tg_1 25 rfl rfl
theorem im_objectInit : Cond.instanceMethod objectInit ∈ TG := tg_1 26 rfl rfl
theorem cd_objectInit : Cond.code objectInit ⟨#[0xb1]⟩ 1 none ∈ TG := tg_1 27 rfl rfl
theorem kl_X9_7 : Cond.classLink RX9 7 RX8 ∈ TG := tg_1 28 rfl rfl
theorem is_X8 : Cond.instantiable RX8 5 ∈ TG := tg_1 29 rfl rfl
theorem im_X8_init : Cond.instanceMethod yX8_init ∈ TG := tg_1 31 rfl rfl
theorem cd_X8_init : Cond.code yX8_init cX8_init 1 none ∈ TG := tg_1 32 rfl rfl
theorem ml_X8_3 : Cond.methodLink RX8 3 objectInit ∈ TG := tg_1 33 rfl rfl
theorem kl_X8_9 : Cond.classLink RX8 9 RX0 ∈ TG := tg_1 34 rfl rfl
theorem is_X0 : Cond.instantiable RX0 5 ∈ TG := tg_1 35 rfl rfl
theorem im_X0_init : Cond.instanceMethod yX0_init ∈ TG := tg_1 37 rfl rfl
theorem cd_X0_init : Cond.code yX0_init cX0_init 1 none ∈ TG := tg_1 38 rfl rfl
theorem ml_X0_3 : Cond.methodLink RX0 3 objectInit ∈ TG := tg_1 39 rfl rfl
theorem fl_X0_9 : Cond.fieldLink RX0 9 "PlaySearch$Cells" "weights" "[I" ∈ TG := tg_1 40 rfl rfl
theorem fl_X9_66 : Cond.fieldLink RX9 66 "PlaySearch$Cells" "weights" "[I" ∈ TG := tg_1 41 rfl rfl
theorem fl_X0_15 : Cond.fieldLink RX0 15 "PlaySearch$Cells" "count" "I" ∈ TG := tg_1 42 rfl rfl
theorem fl_X9_37 : Cond.fieldLink RX9 37 "PlaySearch$Cells" "count" "I" ∈ TG := tg_1 43 rfl rfl
theorem fl_X5_58 : Cond.fieldLink RX5 58 "PlaySearch$Cells" "count" "I" ∈ TG := tg_1 44 rfl rfl
theorem fl_X8_71 : Cond.fieldLink RX8 71 "PlaySearch$Cells" "count" "I" ∈ TG := tg_1 45 rfl rfl
theorem fl_X0_23 : Cond.fieldLink RX0 23 "PlaySearch$Cells" "firstWorld" "J" ∈ TG := tg_1 46 rfl rfl
theorem fl_X7_100 : Cond.fieldLink RX7 100 "PlaySearch$Cells" "firstWorld" "J" ∈ TG := tg_1 47 rfl rfl
theorem fl_X9_149 : Cond.fieldLink RX9 149 "PlaySearch$Cells" "firstWorld" "J" ∈ TG := tg_1 48 rfl rfl
theorem fl_X5_64 : Cond.fieldLink RX5 64 "PlaySearch$Cells" "notClocks" "J" ∈ TG := tg_1 49 rfl rfl
theorem fl_X0_35 : Cond.fieldLink RX0 35 "PlaySearch$Cells" "notClocks" "J" ∈ TG := tg_1 50 rfl rfl
theorem fl_X7_70 : Cond.fieldLink RX7 70 "PlaySearch$Cells" "hasClock" "Z" ∈ TG := tg_1 51 rfl rfl
theorem fl_X0_31 : Cond.fieldLink RX0 31 "PlaySearch$Cells" "hasClock" "Z" ∈ TG := tg_1 52 rfl rfl
theorem ac_int : Cond.arrayClass .int ∈ TG := tg_1 64 rfl rfl
theorem kl_X8_18 : Cond.classLink RX8 18 RX4 ∈ TG := tg_1 65 rfl rfl
theorem is_X4 : Cond.instantiable RX4 11 ∈ TG := tg_1 66 rfl rfl
theorem im_X4_init : Cond.instanceMethod yX4_init ∈ TG := tg_1 68 rfl rfl
theorem cd_X4_init : Cond.code yX4_init cX4_init 1 none ∈ TG := tg_1 69 rfl rfl
theorem ml_X4_3 : Cond.methodLink RX4 3 objectInit ∈ TG := tg_1 70 rfl rfl
theorem fl_X4_9 : Cond.fieldLink RX4 9 "PlaySearch$Moves" "texts" "[I" ∈ TG := tg_1 71 rfl rfl
theorem fl_X9_97 : Cond.fieldLink RX9 97 "PlaySearch$Moves" "texts" "[I" ∈ TG := tg_1 72 rfl rfl
theorem fl_X4_15 : Cond.fieldLink RX4 15 "PlaySearch$Moves" "endings" "[I" ∈ TG := tg_1 73 rfl rfl
theorem fl_X9_100 : Cond.fieldLink RX9 100 "PlaySearch$Moves" "endings" "[I" ∈ TG := tg_1 74 rfl rfl
theorem fl_X8_46 : Cond.fieldLink RX8 46 "PlaySearch$Moves" "count" "I" ∈ TG := tg_1 75 rfl rfl
theorem fl_X4_50 : Cond.fieldLink RX4 50 "PlaySearch$Moves" "count" "I" ∈ TG := tg_1 76 rfl rfl
theorem fl_X9_74 : Cond.fieldLink RX9 74 "PlaySearch$Moves" "count" "I" ∈ TG := tg_1 77 rfl rfl
theorem fl_X4_18 : Cond.fieldLink RX4 18 "PlaySearch$Moves" "conditionCounts" "[I" ∈ TG := tg_1 78 rfl rfl
theorem fl_X4_21 : Cond.fieldLink RX4 21 "PlaySearch$Moves" "conditionCells" "[I" ∈ TG := tg_1 79 rfl rfl
theorem fl_X4_24 : Cond.fieldLink RX4 24 "PlaySearch$Moves" "conditionRelations" "[I" ∈ TG := tg_1 80 rfl rfl
theorem fl_X4_27 : Cond.fieldLink RX4 27 "PlaySearch$Moves" "conditionValues" "[I" ∈ TG := tg_1 81 rfl rfl
theorem fl_X4_30 : Cond.fieldLink RX4 30 "PlaySearch$Moves" "effectCounts" "[I" ∈ TG := tg_1 82 rfl rfl
theorem fl_X4_33 : Cond.fieldLink RX4 33 "PlaySearch$Moves" "effectKinds" "[I" ∈ TG := tg_1 83 rfl rfl
theorem fl_X4_36 : Cond.fieldLink RX4 36 "PlaySearch$Moves" "effectCells" "[I" ∈ TG := tg_1 84 rfl rfl
theorem fl_X4_39 : Cond.fieldLink RX4 39 "PlaySearch$Moves" "effectValues" "[I" ∈ TG := tg_1 85 rfl rfl
theorem kl_X8_25 : Cond.classLink RX8 25 RX2 ∈ TG := tg_1 109 rfl rfl
theorem is_X2 : Cond.instantiable RX2 5 ∈ TG := tg_1 110 rfl rfl
theorem im_X2_init : Cond.instanceMethod yX2_init ∈ TG := tg_1 112 rfl rfl
theorem cd_X2_init : Cond.code yX2_init cX2_init 1 none ∈ TG := tg_1 113 rfl rfl
theorem ml_X2_3 : Cond.methodLink RX2 3 objectInit ∈ TG := tg_1 114 rfl rfl
theorem fl_X8_50 : Cond.fieldLink RX8 50 "PlaySearch$Macros" "count" "I" ∈ TG := tg_1 115 rfl rfl
theorem fl_X2_25 : Cond.fieldLink RX2 25 "PlaySearch$Macros" "count" "I" ∈ TG := tg_1 116 rfl rfl
theorem fl_X9_227 : Cond.fieldLink RX9 227 "PlaySearch$Macros" "count" "I" ∈ TG := tg_1 117 rfl rfl
theorem fl_X2_21 : Cond.fieldLink RX2 21 "PlaySearch$Macros" "draftSize" "I" ∈ TG := tg_1 118 rfl rfl
theorem fl_X9_228 : Cond.fieldLink RX9 228 "PlaySearch$Macros" "draftSize" "I" ∈ TG := tg_1 119 rfl rfl
theorem fl_X2_9 : Cond.fieldLink RX2 9 "PlaySearch$Macros" "draft" "[I" ∈ TG := tg_1 120 rfl rfl
theorem fl_X2_15 : Cond.fieldLink RX2 15 "PlaySearch$Macros" "sizes" "[I" ∈ TG := tg_1 121 rfl rfl
theorem fl_X2_18 : Cond.fieldLink RX2 18 "PlaySearch$Macros" "rows" "[I" ∈ TG := tg_1 122 rfl rfl
theorem kl_X8_32 : Cond.classLink RX8 32 RX1 ∈ TG := tg_1 134 rfl rfl
theorem is_X1 : Cond.instantiable RX1 4 ∈ TG := tg_1 135 rfl rfl
theorem im_X1_init : Cond.instanceMethod yX1_init ∈ TG := tg_1 137 rfl rfl
theorem cd_X1_init : Cond.code yX1_init cX1_init 1 none ∈ TG := tg_1 138 rfl rfl
theorem ml_X1_3 : Cond.methodLink RX1 3 objectInit ∈ TG := tg_1 139 rfl rfl
theorem fl_X1_32 : Cond.fieldLink RX1 32 "PlaySearch$Goal" "count" "I" ∈ TG := tg_1 140 rfl rfl
theorem fl_X9_128 : Cond.fieldLink RX9 128 "PlaySearch$Goal" "count" "I" ∈ TG := tg_1 141 rfl rfl
theorem fl_X1_9 : Cond.fieldLink RX1 9 "PlaySearch$Goal" "kinds" "[I" ∈ TG := tg_1 142 rfl rfl
theorem fl_X1_15 : Cond.fieldLink RX1 15 "PlaySearch$Goal" "firsts" "[I" ∈ TG := tg_1 143 rfl rfl
theorem fl_X1_18 : Cond.fieldLink RX1 18 "PlaySearch$Goal" "seconds" "[I" ∈ TG := tg_1 144 rfl rfl
theorem kl_X8_39 : Cond.classLink RX8 39 RX3 ∈ TG := tg_1 154 rfl rfl
theorem is_X3 : Cond.instantiable RX3 4 ∈ TG := tg_1 155 rfl rfl
theorem im_X3_init : Cond.instanceMethod yX3_init ∈ TG := tg_1 157 rfl rfl
theorem cd_X3_init : Cond.code yX3_init cX3_init 1 none ∈ TG := tg_1 158 rfl rfl
theorem ml_X3_3 : Cond.methodLink RX3 3 objectInit ∈ TG := tg_1 159 rfl rfl
theorem fl_X3_15 : Cond.fieldLink RX3 15 "PlaySearch$Moment" "world" "J" ∈ TG := tg_1 160 rfl rfl
theorem fl_X9_51 : Cond.fieldLink RX9 51 "PlaySearch$Moment" "world" "J" ∈ TG := tg_1 161 rfl rfl
theorem fl_X7_111 : Cond.fieldLink RX7 111 "PlaySearch$Moment" "world" "J" ∈ TG := tg_1 162 rfl rfl
theorem fl_X5_73 : Cond.fieldLink RX5 73 "PlaySearch$Moment" "world" "J" ∈ TG := tg_1 163 rfl rfl
theorem fl_X1_40 : Cond.fieldLink RX1 40 "PlaySearch$Moment" "world" "J" ∈ TG := tg_1 164 rfl rfl
theorem fl_X8_87 : Cond.fieldLink RX8 87 "PlaySearch$Moment" "world" "J" ∈ TG := tg_1 165 rfl rfl
theorem fl_X4_59 : Cond.fieldLink RX4 59 "PlaySearch$Moment" "world" "J" ∈ TG := tg_1 166 rfl rfl
theorem fl_X3_19 : Cond.fieldLink RX3 19 "PlaySearch$Moment" "ending" "I" ∈ TG := tg_1 167 rfl rfl
theorem fl_X5_78 : Cond.fieldLink RX5 78 "PlaySearch$Moment" "ending" "I" ∈ TG := tg_1 168 rfl rfl
theorem fl_X1_53 : Cond.fieldLink RX1 53 "PlaySearch$Moment" "ending" "I" ∈ TG := tg_1 169 rfl rfl
theorem fl_X4_54 : Cond.fieldLink RX4 54 "PlaySearch$Moment" "ending" "I" ∈ TG := tg_1 170 rfl rfl
theorem fl_X9_216 : Cond.fieldLink RX9 216 "PlaySearch$Moment" "ending" "I" ∈ TG := tg_1 171 rfl rfl
theorem fl_X3_9 : Cond.fieldLink RX3 9 "PlaySearch$Moment" "lastText" "I" ∈ TG := tg_1 172 rfl rfl
theorem fl_X1_50 : Cond.fieldLink RX1 50 "PlaySearch$Moment" "lastText" "I" ∈ TG := tg_1 173 rfl rfl
theorem fl_X3_22 : Cond.fieldLink RX3 22 "PlaySearch$Moment" "shownTexts" "I" ∈ TG := tg_1 174 rfl rfl
theorem fl_X7_149 : Cond.fieldLink RX7 149 "PlaySearch$Moment" "shownTexts" "I" ∈ TG := tg_1 175 rfl rfl
theorem fl_X8_12 : Cond.fieldLink RX8 12 "PlaySearch$Story" "cells" "LPlaySearch$Cells;" ∈ TG := tg_1 185 rfl rfl
theorem fl_X9_33 : Cond.fieldLink RX9 33 "PlaySearch$Story" "cells" "LPlaySearch$Cells;" ∈ TG := tg_1 186 rfl rfl
theorem fl_X7_66 : Cond.fieldLink RX7 66 "PlaySearch$Story" "cells" "LPlaySearch$Cells;" ∈ TG := tg_1 187 rfl rfl
theorem fl_X8_21 : Cond.fieldLink RX8 21 "PlaySearch$Story" "moves" "LPlaySearch$Moves;" ∈ TG := tg_1 188 rfl rfl
theorem fl_X7_88 : Cond.fieldLink RX7 88 "PlaySearch$Story" "moves" "LPlaySearch$Moves;" ∈ TG := tg_1 189 rfl rfl
theorem fl_X9_70 : Cond.fieldLink RX9 70 "PlaySearch$Story" "moves" "LPlaySearch$Moves;" ∈ TG := tg_1 190 rfl rfl
theorem fl_X8_28 : Cond.fieldLink RX8 28 "PlaySearch$Story" "macros" "LPlaySearch$Macros;" ∈ TG := tg_1 191 rfl rfl
theorem fl_X7_56 : Cond.fieldLink RX7 56 "PlaySearch$Story" "macros" "LPlaySearch$Macros;" ∈ TG := tg_1 192 rfl rfl
theorem fl_X9_103 : Cond.fieldLink RX9 103 "PlaySearch$Story" "macros" "LPlaySearch$Macros;" ∈ TG := tg_1 193 rfl rfl
theorem fl_X8_35 : Cond.fieldLink RX8 35 "PlaySearch$Story" "goal" "LPlaySearch$Goal;" ∈ TG := tg_1 194 rfl rfl
theorem fl_X7_152 : Cond.fieldLink RX7 152 "PlaySearch$Story" "goal" "LPlaySearch$Goal;" ∈ TG := tg_1 195 rfl rfl
theorem fl_X9_121 : Cond.fieldLink RX9 121 "PlaySearch$Story" "goal" "LPlaySearch$Goal;" ∈ TG := tg_1 196 rfl rfl
theorem fl_X8_42 : Cond.fieldLink RX8 42 "PlaySearch$Story" "outcome" "LPlaySearch$Moment;" ∈ TG := tg_1 197 rfl rfl
theorem fl_X7_146 : Cond.fieldLink RX7 146 "PlaySearch$Story" "outcome" "LPlaySearch$Moment;" ∈ TG := tg_1 198 rfl rfl
theorem fl_X9_160 : Cond.fieldLink RX9 160 "PlaySearch$Story" "outcome" "LPlaySearch$Moment;" ∈ TG := tg_1 199 rfl rfl
theorem kl_X9_16 : Cond.classLink RX9 16 RX7 ∈ TG := tg_1 211 rfl rfl
theorem is_X7 : Cond.instantiable RX7 8 ∈ TG := tg_1 212 rfl rfl
theorem im_X7_init : Cond.instanceMethod yX7_init ∈ TG := tg_1 214 rfl rfl
theorem cd_X7_init : Cond.code yX7_init cX7_init 1 none ∈ TG := tg_1 215 rfl rfl
theorem ml_X7_3 : Cond.methodLink RX7 3 objectInit ∈ TG := tg_1 216 rfl rfl
theorem kl_X7_9 : Cond.classLink RX7 9 RX5 ∈ TG := tg_1 217 rfl rfl
theorem is_X5 : Cond.instantiable RX5 13 ∈ TG := tg_1 218 rfl rfl
theorem im_X5_init : Cond.instanceMethod yX5_init ∈ TG := tg_1 220 rfl rfl
theorem cd_X5_init : Cond.code yX5_init cX5_init 1 none ∈ TG := tg_1 221 rfl rfl
theorem ml_X5_3 : Cond.methodLink RX5 3 objectInit ∈ TG := tg_1 222 rfl rfl
theorem fl_X5_9 : Cond.fieldLink RX5 9 "PlaySearch$Nodes" "worlds" "[J" ∈ TG := tg_1 223 rfl rfl
theorem fl_X7_125 : Cond.fieldLink RX7 125 "PlaySearch$Nodes" "worlds" "[J" ∈ TG := tg_1 224 rfl rfl
theorem fl_X9_182 : Cond.fieldLink RX9 182 "PlaySearch$Nodes" "worlds" "[J" ∈ TG := tg_1 225 rfl rfl
theorem fl_X5_15 : Cond.fieldLink RX5 15 "PlaySearch$Nodes" "befores" "[I" ∈ TG := tg_1 226 rfl rfl
theorem fl_X6_40 : Cond.fieldLink RX6 40 "PlaySearch$Nodes" "befores" "[I" ∈ TG := tg_1 227 rfl rfl
theorem fl_X5_19 : Cond.fieldLink RX5 19 "PlaySearch$Nodes" "steps" "[I" ∈ TG := tg_1 228 rfl rfl
theorem fl_X6_27 : Cond.fieldLink RX6 27 "PlaySearch$Nodes" "steps" "[I" ∈ TG := tg_1 229 rfl rfl
theorem fl_X5_22 : Cond.fieldLink RX5 22 "PlaySearch$Nodes" "depths" "[I" ∈ TG := tg_1 230 rfl rfl
theorem fl_X6_22 : Cond.fieldLink RX6 22 "PlaySearch$Nodes" "depths" "[I" ∈ TG := tg_1 231 rfl rfl
theorem fl_X5_41 : Cond.fieldLink RX5 41 "PlaySearch$Nodes" "count" "I" ∈ TG := tg_1 232 rfl rfl
theorem fl_X7_52 : Cond.fieldLink RX7 52 "PlaySearch$Nodes" "count" "I" ∈ TG := tg_1 233 rfl rfl
theorem fl_X9_231 : Cond.fieldLink RX9 231 "PlaySearch$Nodes" "count" "I" ∈ TG := tg_1 234 rfl rfl
theorem fl_X5_55 : Cond.fieldLink RX5 55 "PlaySearch$Nodes" "deadCount" "I" ∈ TG := tg_1 235 rfl rfl
theorem fl_X9_232 : Cond.fieldLink RX9 232 "PlaySearch$Nodes" "deadCount" "I" ∈ TG := tg_1 236 rfl rfl
theorem fl_X5_25 : Cond.fieldLink RX5 25 "PlaySearch$Nodes" "endings" "[I" ∈ TG := tg_1 237 rfl rfl
theorem fl_X5_28 : Cond.fieldLink RX5 28 "PlaySearch$Nodes" "scores" "[I" ∈ TG := tg_1 238 rfl rfl
theorem fl_X5_31 : Cond.fieldLink RX5 31 "PlaySearch$Nodes" "taken" "[Z" ∈ TG := tg_1 239 rfl rfl
theorem fl_X5_35 : Cond.fieldLink RX5 35 "PlaySearch$Nodes" "dead" "[Z" ∈ TG := tg_2 0 rfl rfl
theorem fl_X5_38 : Cond.fieldLink RX5 38 "PlaySearch$Nodes" "slots" "[I" ∈ TG := tg_2 1 rfl rfl
theorem fl_X5_61 : Cond.fieldLink RX5 61 "PlaySearch$Nodes" "cellCount" "I" ∈ TG := tg_2 2 rfl rfl
theorem fl_X5_68 : Cond.fieldLink RX5 68 "PlaySearch$Nodes" "notClocks" "J" ∈ TG := tg_2 3 rfl rfl
theorem ac_long : Cond.arrayClass .long ∈ TG := tg_2 31 rfl rfl
theorem ac_boolean : Cond.arrayClass .boolean ∈ TG := tg_2 32 rfl rfl
theorem kl_X7_18 : Cond.classLink RX7 18 RX6 ∈ TG := tg_2 33 rfl rfl
theorem is_X6 : Cond.instantiable RX6 3 ∈ TG := tg_2 34 rfl rfl
theorem im_X6_init : Cond.instanceMethod yX6_init ∈ TG := tg_2 36 rfl rfl
theorem cd_X6_init : Cond.code yX6_init cX6_init 1 none ∈ TG := tg_2 37 rfl rfl
theorem ml_X6_3 : Cond.methodLink RX6 3 objectInit ∈ TG := tg_2 38 rfl rfl
theorem fl_X6_9 : Cond.fieldLink RX6 9 "PlaySearch$Play" "length" "I" ∈ TG := tg_2 39 rfl rfl
theorem fl_X9_137 : Cond.fieldLink RX9 137 "PlaySearch$Play" "length" "I" ∈ TG := tg_2 40 rfl rfl
theorem fl_X6_15 : Cond.fieldLink RX6 15 "PlaySearch$Play" "moves" "[I" ∈ TG := tg_2 41 rfl rfl
theorem fl_X6_19 : Cond.fieldLink RX6 19 "PlaySearch$Play" "start" "I" ∈ TG := tg_2 42 rfl rfl
theorem kl_X7_29 : Cond.classLink RX7 29 RX3 ∈ TG := tg_2 50 rfl rfl
theorem fl_X7_12 : Cond.fieldLink RX7 12 "PlaySearch$Search" "nodes" "LPlaySearch$Nodes;" ∈ TG := tg_2 52 rfl rfl
theorem fl_X9_171 : Cond.fieldLink RX9 171 "PlaySearch$Search" "nodes" "LPlaySearch$Nodes;" ∈ TG := tg_2 53 rfl rfl
theorem fl_X7_21 : Cond.fieldLink RX7 21 "PlaySearch$Search" "play" "LPlaySearch$Play;" ∈ TG := tg_2 54 rfl rfl
theorem fl_X9_133 : Cond.fieldLink RX9 133 "PlaySearch$Search" "play" "LPlaySearch$Play;" ∈ TG := tg_2 55 rfl rfl
theorem fl_X7_25 : Cond.fieldLink RX7 25 "PlaySearch$Search" "queue" "[I" ∈ TG := tg_2 56 rfl rfl
theorem fl_X9_206 : Cond.fieldLink RX9 206 "PlaySearch$Search" "queue" "[I" ∈ TG := tg_2 57 rfl rfl
theorem fl_X7_82 : Cond.fieldLink RX7 82 "PlaySearch$Search" "takenCount" "I" ∈ TG := tg_2 58 rfl rfl
theorem fl_X9_196 : Cond.fieldLink RX9 196 "PlaySearch$Search" "takenCount" "I" ∈ TG := tg_2 59 rfl rfl
theorem fl_X7_85 : Cond.fieldLink RX7 85 "PlaySearch$Search" "seenTexts" "I" ∈ TG := tg_2 60 rfl rfl
theorem fl_X9_186 : Cond.fieldLink RX9 186 "PlaySearch$Search" "seenTexts" "I" ∈ TG := tg_2 61 rfl rfl
theorem fl_X7_97 : Cond.fieldLink RX7 97 "PlaySearch$Search" "knownTexts" "I" ∈ TG := tg_2 62 rfl rfl
theorem fl_X9_193 : Cond.fieldLink RX9 193 "PlaySearch$Search" "knownTexts" "I" ∈ TG := tg_2 63 rfl rfl
theorem fl_X7_76 : Cond.fieldLink RX7 76 "PlaySearch$Search" "isShortest" "Z" ∈ TG := tg_2 64 rfl rfl
theorem fl_X9_145 : Cond.fieldLink RX9 145 "PlaySearch$Search" "isShortest" "Z" ∈ TG := tg_2 65 rfl rfl
theorem fl_X7_32 : Cond.fieldLink RX7 32 "PlaySearch$Search" "here" "LPlaySearch$Moment;" ∈ TG := tg_2 66 rfl rfl
theorem kl_X9_23 : Cond.classLink RX9 23 RX3 ∈ TG := tg_2 84 rfl rfl
theorem fl_X9_10 : Cond.fieldLink RX9 10 "PlaySearch" "story" "LPlaySearch$Story;" ∈ TG := tg_2 86 rfl rfl
theorem fl_X9_19 : Cond.fieldLink RX9 19 "PlaySearch" "latest" "LPlaySearch$Search;" ∈ TG := tg_2 87 rfl rfl
theorem fl_X9_26 : Cond.fieldLink RX9 26 "PlaySearch" "present" "LPlaySearch$Moment;" ∈ TG := tg_2 88 rfl rfl
theorem fl_X9_30 : Cond.fieldLink RX9 30 "PlaySearch" "replayed" "LPlaySearch$Moment;" ∈ TG := tg_2 89 rfl rfl
theorem ml_L_19 : Cond.methodLink RL 19 yX9_cell ∈ TG := tg_2 99 rfl rfl
theorem im_X9_cell : Cond.instanceMethod yX9_cell ∈ TG := tg_2 100 rfl rfl
theorem se_X9_cell : Cond.selects RX9 yX9_cell yX9_cell ∈ TG := tg_2 101 rfl rfl
theorem cd_X9_cell : Cond.code yX9_cell cX9_cell 4 (some .int) ∈ TG := tg_2 102 rfl rfl
theorem ml_X9_43 : Cond.methodLink RX9 43 yX9_isValue ∈ TG := tg_2 103 rfl rfl
theorem st_X9_isValue : Cond.static yX9_isValue ∈ TG := tg_2 104 rfl rfl
theorem cd_X9_isValue : Cond.code yX9_isValue cX9_isValue 1 (some .boolean) ∈ TG := tg_2 105 rfl rfl
theorem ml_X9_62 : Cond.methodLink RX9 62 yX9_isWithin ∈ TG := tg_2 106 rfl rfl
theorem st_X9_isWithin : Cond.static yX9_isWithin ∈ TG := tg_2 107 rfl rfl
theorem cd_X9_isWithin : Cond.code yX9_isWithin cX9_isWithin 3 (some .boolean) ∈ TG := tg_2 108 rfl rfl
theorem ml_X9_47 : Cond.methodLink RX9 47 yX0_add ∈ TG := tg_2 109 rfl rfl
theorem im_X0_add : Cond.instanceMethod yX0_add ∈ TG := tg_2 110 rfl rfl
theorem se_X0_add : Cond.selects RX0 yX0_add yX0_add ∈ TG := tg_2 111 rfl rfl
theorem cd_X0_add : Cond.code yX0_add cX0_add 3 (some .int) ∈ TG := tg_2 112 rfl rfl
theorem st_X9_withValue : Cond.static yX9_withValue ∈ TG := tg_2 114 rfl rfl
theorem cd_X9_withValue : Cond.code yX9_withValue cX9_withValue 6 (some .long) ∈ TG := tg_2 115 rfl rfl
theorem cn_X9_235 : Cond.constantLong RX9 235 (15) ∈ TG := tg_2 116 rfl rfl
theorem cn_X9_237 : Cond.constantLong RX9 237 (-1) ∈ TG := tg_2 117 rfl rfl
theorem cn_X0_38 : Cond.constantLong RX0 38 (15) ∈ TG := tg_2 118 rfl rfl
theorem ml_X9_55 : Cond.methodLink RX9 55 yX9_withValue ∈ TG := tg_2 119 rfl rfl
theorem ml_L_24 : Cond.methodLink RL 24 yX9_weigh ∈ TG := tg_2 120 rfl rfl
theorem im_X9_weigh : Cond.instanceMethod yX9_weigh ∈ TG := tg_2 121 rfl rfl
theorem se_X9_weigh : Cond.selects RX9 yX9_weigh yX9_weigh ∈ TG := tg_2 122 rfl rfl
theorem cd_X9_weigh : Cond.code yX9_weigh cX9_weigh 3 (some .boolean) ∈ TG := tg_2 123 rfl rfl
theorem ml_X9_59 : Cond.methodLink RX9 59 yX0_has ∈ TG := tg_2 124 rfl rfl
theorem im_X0_has : Cond.instanceMethod yX0_has ∈ TG := tg_2 125 rfl rfl
theorem se_X0_has : Cond.selects RX0 yX0_has yX0_has ∈ TG := tg_2 126 rfl rfl
theorem cd_X0_has : Cond.code yX0_has cX0_has 2 (some .boolean) ∈ TG := tg_2 127 rfl rfl
theorem ml_L_29 : Cond.methodLink RL 29 yX9_move ∈ TG := tg_2 129 rfl rfl
theorem im_X9_move : Cond.instanceMethod yX9_move ∈ TG := tg_2 130 rfl rfl
theorem se_X9_move : Cond.selects RX9 yX9_move yX9_move ∈ TG := tg_2 131 rfl rfl
theorem cd_X9_move : Cond.code yX9_move cX9_move 1 (some .int) ∈ TG := tg_2 132 rfl rfl
theorem ml_X9_77 : Cond.methodLink RX9 77 yX4_add ∈ TG := tg_2 133 rfl rfl
theorem im_X4_add : Cond.instanceMethod yX4_add ∈ TG := tg_2 134 rfl rfl
theorem se_X4_add : Cond.selects RX4 yX4_add yX4_add ∈ TG := tg_2 135 rfl rfl
theorem cd_X4_add : Cond.code yX4_add cX4_add 1 (some .int) ∈ TG := tg_2 136 rfl rfl
theorem ml_L_34 : Cond.methodLink RL 34 yX9_when ∈ TG := tg_2 137 rfl rfl
theorem im_X9_when : Cond.instanceMethod yX9_when ∈ TG := tg_2 138 rfl rfl
theorem se_X9_when : Cond.selects RX9 yX9_when yX9_when ∈ TG := tg_2 139 rfl rfl
theorem cd_X9_when : Cond.code yX9_when cX9_when 5 (some .boolean) ∈ TG := tg_2 140 rfl rfl
theorem ml_X9_80 : Cond.methodLink RX9 80 yX4_has ∈ TG := tg_2 141 rfl rfl
theorem im_X4_has : Cond.instanceMethod yX4_has ∈ TG := tg_2 142 rfl rfl
theorem se_X4_has : Cond.selects RX4 yX4_has yX4_has ∈ TG := tg_2 143 rfl rfl
theorem cd_X4_has : Cond.code yX4_has cX4_has 2 (some .boolean) ∈ TG := tg_2 144 rfl rfl
theorem ml_X9_81 : Cond.methodLink RX9 81 yX4_isRelation ∈ TG := tg_2 146 rfl rfl
theorem st_X4_isRelation : Cond.static yX4_isRelation ∈ TG := tg_2 147 rfl rfl
theorem cd_X4_isRelation : Cond.code yX4_isRelation cX4_isRelation 1 (some .boolean) ∈ TG := tg_2 148 rfl rfl
theorem ml_X9_84 : Cond.methodLink RX9 84 yX4_addCondition ∈ TG := tg_2 149 rfl rfl
theorem im_X4_addCondition : Cond.instanceMethod yX4_addCondition ∈ TG := tg_2 150 rfl rfl
theorem se_X4_addCondition : Cond.selects RX4 yX4_addCondition yX4_addCondition ∈ TG := tg_2 151 rfl rfl
theorem cd_X4_addCondition : Cond.code yX4_addCondition cX4_addCondition 6 (some .boolean) ∈ TG := tg_2 152 rfl rfl
theorem ml_L_39 : Cond.methodLink RL 39 yX9_then ∈ TG := tg_2 153 rfl rfl
theorem im_X9_then : Cond.instanceMethod yX9_then ∈ TG := tg_2 154 rfl rfl
theorem se_X9_then : Cond.selects RX9 yX9_then yX9_then ∈ TG := tg_2 155 rfl rfl
theorem cd_X9_then : Cond.code yX9_then cX9_then 5 (some .boolean) ∈ TG := tg_2 156 rfl rfl
theorem ml_X9_88 : Cond.methodLink RX9 88 yX4_isEffect ∈ TG := tg_2 157 rfl rfl
theorem st_X4_isEffect : Cond.static yX4_isEffect ∈ TG := tg_2 158 rfl rfl
theorem cd_X4_isEffect : Cond.code yX4_isEffect cX4_isEffect 3 (some .boolean) ∈ TG := tg_2 159 rfl rfl
theorem ml_X9_91 : Cond.methodLink RX9 91 yX4_addEffect ∈ TG := tg_2 161 rfl rfl
theorem im_X4_addEffect : Cond.instanceMethod yX4_addEffect ∈ TG := tg_2 162 rfl rfl
theorem se_X4_addEffect : Cond.selects RX4 yX4_addEffect yX4_addEffect ∈ TG := tg_2 163 rfl rfl
theorem cd_X4_addEffect : Cond.code yX4_addEffect cX4_addEffect 6 (some .boolean) ∈ TG := tg_2 164 rfl rfl
theorem ml_L_43 : Cond.methodLink RL 43 yX9_show ∈ TG := tg_2 165 rfl rfl
theorem im_X9_show : Cond.instanceMethod yX9_show ∈ TG := tg_2 166 rfl rfl
theorem se_X9_show : Cond.selects RX9 yX9_show yX9_show ∈ TG := tg_2 167 rfl rfl
theorem cd_X9_show : Cond.code yX9_show cX9_show 3 (some .boolean) ∈ TG := tg_2 168 rfl rfl
theorem ml_X9_94 : Cond.methodLink RX9 94 yX9_isText ∈ TG := tg_2 169 rfl rfl
theorem st_X9_isText : Cond.static yX9_isText ∈ TG := tg_2 170 rfl rfl
theorem cd_X9_isText : Cond.code yX9_isText cX9_isText 1 (some .boolean) ∈ TG := tg_2 171 rfl rfl
theorem ml_L_47 : Cond.methodLink RL 47 yX9_ends ∈ TG := tg_2 172 rfl rfl
theorem im_X9_ends : Cond.instanceMethod yX9_ends ∈ TG := tg_2 173 rfl rfl
theorem se_X9_ends : Cond.selects RX9 yX9_ends yX9_ends ∈ TG := tg_2 174 rfl rfl
theorem cd_X9_ends : Cond.code yX9_ends cX9_ends 3 (some .boolean) ∈ TG := tg_2 175 rfl rfl
theorem ml_L_51 : Cond.methodLink RL 51 yX9_of ∈ TG := tg_2 176 rfl rfl
theorem im_X9_of : Cond.instanceMethod yX9_of ∈ TG := tg_2 177 rfl rfl
theorem se_X9_of : Cond.selects RX9 yX9_of yX9_of ∈ TG := tg_2 178 rfl rfl
theorem cd_X9_of : Cond.code yX9_of cX9_of 2 (some .int) ∈ TG := tg_2 179 rfl rfl
theorem ml_X9_107 : Cond.methodLink RX9 107 yX2_addToDraft ∈ TG := tg_2 180 rfl rfl
theorem im_X2_addToDraft : Cond.instanceMethod yX2_addToDraft ∈ TG := tg_2 181 rfl rfl
theorem se_X2_addToDraft : Cond.selects RX2 yX2_addToDraft yX2_addToDraft ∈ TG := tg_2 182 rfl rfl
theorem cd_X2_addToDraft : Cond.code yX2_addToDraft cX2_addToDraft 2 (some .int) ∈ TG := tg_2 183 rfl rfl
theorem ml_L_55 : Cond.methodLink RL 55 yX9_macro ∈ TG := tg_2 184 rfl rfl
theorem im_X9_macro : Cond.instanceMethod yX9_macro ∈ TG := tg_2 185 rfl rfl
theorem se_X9_macro : Cond.selects RX9 yX9_macro yX9_macro ∈ TG := tg_2 186 rfl rfl
theorem cd_X9_macro : Cond.code yX9_macro cX9_macro 1 (some .int) ∈ TG := tg_2 187 rfl rfl
theorem ml_X9_113 : Cond.methodLink RX9 113 yX2_addDraft ∈ TG := tg_2 188 rfl rfl
theorem im_X2_addDraft : Cond.instanceMethod yX2_addDraft ∈ TG := tg_2 189 rfl rfl
theorem se_X2_addDraft : Cond.selects RX2 yX2_addDraft yX2_addDraft ∈ TG := tg_2 190 rfl rfl
theorem cd_X2_addDraft : Cond.code yX2_addDraft cX2_addDraft 1 (some .int) ∈ TG := tg_2 191 rfl rfl
theorem ml_X2_28 : Cond.methodLink RX2 28 arraycopyName ∈ TG := tg_2 192 rfl rfl
theorem st_arraycopyName : Cond.static arraycopyName ∈ TG := tg_2 193 rfl rfl
theorem na_arraycopyName : Cond.native arraycopyName ∈ TG := tg_2 194 rfl rfl
theorem ml_L_59 : Cond.methodLink RL 59 yX9_goal ∈ TG := tg_2 195 rfl rfl
theorem im_X9_goal : Cond.instanceMethod yX9_goal ∈ TG := tg_2 196 rfl rfl
theorem se_X9_goal : Cond.selects RX9 yX9_goal yX9_goal ∈ TG := tg_2 197 rfl rfl
theorem cd_X9_goal : Cond.code yX9_goal cX9_goal 4 (some .int) ∈ TG := tg_2 198 rfl rfl
theorem ml_X9_116 : Cond.methodLink RX9 116 yX1_isPart ∈ TG := tg_2 199 rfl rfl
theorem st_X1_isPart : Cond.static yX1_isPart ∈ TG := tg_2 200 rfl rfl
theorem cd_X1_isPart : Cond.code yX1_isPart cX1_isPart 4 (some .boolean) ∈ TG := tg_2 201 rfl rfl
theorem ml_X9_125 : Cond.methodLink RX9 125 yX1_add ∈ TG := tg_2 205 rfl rfl
theorem im_X1_add : Cond.instanceMethod yX1_add ∈ TG := tg_2 206 rfl rfl
theorem se_X1_add : Cond.selects RX1 yX1_add yX1_add ∈ TG := tg_2 207 rfl rfl
theorem cd_X1_add : Cond.code yX1_add cX1_add 4 (some .int) ∈ TG := tg_2 208 rfl rfl
theorem ml_L_64 : Cond.methodLink RL 64 yX9_clear ∈ TG := tg_2 209 rfl rfl
theorem im_X9_clear : Cond.instanceMethod yX9_clear ∈ TG := tg_2 210 rfl rfl
theorem se_X9_clear : Cond.selects RX9 yX9_clear yX9_clear ∈ TG := tg_2 211 rfl rfl
theorem cd_X9_clear : Cond.code yX9_clear cX9_clear 2 (some .int) ∈ TG := tg_2 212 rfl rfl
theorem ml_L_68 : Cond.methodLink RL 68 yX9_search ∈ TG := tg_2 213 rfl rfl
theorem im_X9_search : Cond.instanceMethod yX9_search ∈ TG := tg_2 214 rfl rfl
theorem se_X9_search : Cond.selects RX9 yX9_search yX9_search ∈ TG := tg_2 215 rfl rfl
theorem cd_X9_search : Cond.code yX9_search cX9_search 3 (some .int) ∈ TG := tg_2 216 rfl rfl
theorem ml_X9_129 : Cond.methodLink RX9 129 yX7_run ∈ TG := tg_2 217 rfl rfl
theorem im_X7_run : Cond.instanceMethod yX7_run ∈ TG := tg_2 218 rfl rfl
theorem se_X7_run : Cond.selects RX7 yX7_run yX7_run ∈ TG := tg_2 219 rfl rfl
theorem cd_X7_run : Cond.code yX7_run cX7_run 7 (some .int) ∈ TG := tg_2 220 rfl rfl
theorem ml_X7_36 : Cond.methodLink RX7 36 yX7_startWith ∈ TG := tg_2 221 rfl rfl
theorem im_X7_startWith : Cond.instanceMethod yX7_startWith ∈ TG := tg_2 223 rfl rfl
theorem cd_X7_startWith : Cond.code yX7_startWith cX7_startWith 2 none ∈ TG := tg_2 224 rfl rfl
theorem ml_X7_79 : Cond.methodLink RX7 79 yX6_forget ∈ TG := tg_2 225 rfl rfl
theorem im_X6_forget : Cond.instanceMethod yX6_forget ∈ TG := tg_2 226 rfl rfl
theorem se_X6_forget : Cond.selects RX6 yX6_forget yX6_forget ∈ TG := tg_2 227 rfl rfl
theorem cd_X6_forget : Cond.code yX6_forget cX6_forget 1 none ∈ TG := tg_2 228 rfl rfl
theorem ml_X7_92 : Cond.methodLink RX7 92 yX4_textsOfAll ∈ TG := tg_2 229 rfl rfl
theorem im_X4_textsOfAll : Cond.instanceMethod yX4_textsOfAll ∈ TG := tg_2 230 rfl rfl
theorem se_X4_textsOfAll : Cond.selects RX4 yX4_textsOfAll yX4_textsOfAll ∈ TG := tg_2 231 rfl rfl
theorem cd_X4_textsOfAll : Cond.code yX4_textsOfAll cX4_textsOfAll 3 (some .int) ∈ TG := tg_2 232 rfl rfl
theorem ml_X7_104 : Cond.methodLink RX7 104 yX3_start ∈ TG := tg_2 233 rfl rfl
theorem im_X3_start : Cond.instanceMethod yX3_start ∈ TG := tg_2 234 rfl rfl
theorem se_X3_start : Cond.selects RX3 yX3_start yX3_start ∈ TG := tg_2 235 rfl rfl
theorem cd_X3_start : Cond.code yX3_start cX3_start 3 none ∈ TG := tg_2 236 rfl rfl
theorem ml_X7_108 : Cond.methodLink RX7 108 yX5_startWith ∈ TG := tg_2 237 rfl rfl
theorem im_X5_startWith : Cond.instanceMethod yX5_startWith ∈ TG := tg_2 238 rfl rfl
theorem se_X5_startWith : Cond.selects RX5 yX5_startWith yX5_startWith ∈ TG := tg_2 239 rfl rfl
theorem cd_X5_startWith : Cond.code yX5_startWith cX5_startWith 2 none ∈ TG := tg_3 0 rfl rfl
theorem ml_X5_49 : Cond.methodLink RX5 49 yJ7_fill_53178 ∈ TG := tg_3 1 rfl rfl
theorem st_J7_fill_53178 : Cond.static yJ7_fill_53178 ∈ TG := tg_3 2 rfl rfl
theorem cd_J7_fill_53178 : Cond.code yJ7_fill_53178 cJ7_fill_53178 4 none ∈ TG := tg_3 3 rfl rfl
theorem ml_X7_114 : Cond.methodLink RX7 114 yX0_score ∈ TG := tg_3 4 rfl rfl
theorem im_X0_score : Cond.instanceMethod yX0_score ∈ TG := tg_3 5 rfl rfl
theorem se_X0_score : Cond.selects RX0 yX0_score yX0_score ∈ TG := tg_3 6 rfl rfl
theorem cd_X0_score : Cond.code yX0_score cX0_score 5 (some .int) ∈ TG := tg_3 7 rfl rfl
theorem st_X9_valueIn : Cond.static yX9_valueIn ∈ TG := tg_3 9 rfl rfl
theorem cd_X9_valueIn : Cond.code yX9_valueIn cX9_valueIn 3 (some .int) ∈ TG := tg_3 10 rfl rfl
theorem ml_X7_118 : Cond.methodLink RX7 118 yX5_add ∈ TG := tg_3 11 rfl rfl
theorem im_X5_add : Cond.instanceMethod yX5_add ∈ TG := tg_3 12 rfl rfl
theorem se_X5_add : Cond.selects RX5 yX5_add yX5_add ∈ TG := tg_3 13 rfl rfl
theorem cd_X5_add : Cond.code yX5_add cX5_add 6 none ∈ TG := tg_3 14 rfl rfl
theorem ml_X5_69 : Cond.methodLink RX5 69 yX5_slotFor ∈ TG := tg_3 15 rfl rfl
theorem im_X5_slotFor : Cond.instanceMethod yX5_slotFor ∈ TG := tg_3 17 rfl rfl
theorem cd_X5_slotFor : Cond.code yX5_slotFor cX5_slotFor 7 (some .int) ∈ TG := tg_3 18 rfl rfl
theorem cn_X5_81 : Cond.constantLong RX5 81 (-7046029254386353131) ∈ TG := tg_3 19 rfl rfl
theorem ml_X5_83 : Cond.methodLink RX5 83 yX5_isAlike ∈ TG := tg_3 20 rfl rfl
theorem im_X5_isAlike : Cond.instanceMethod yX5_isAlike ∈ TG := tg_3 22 rfl rfl
theorem cd_X5_isAlike : Cond.code yX5_isAlike cX5_isAlike 3 (some .boolean) ∈ TG := tg_3 23 rfl rfl
theorem ml_X7_40 : Cond.methodLink RX7 40 yX5_bestOpen ∈ TG := tg_3 24 rfl rfl
theorem im_X5_bestOpen : Cond.instanceMethod yX5_bestOpen ∈ TG := tg_3 25 rfl rfl
theorem se_X5_bestOpen : Cond.selects RX5 yX5_bestOpen yX5_bestOpen ∈ TG := tg_3 26 rfl rfl
theorem cd_X5_bestOpen : Cond.code yX5_bestOpen cX5_bestOpen 3 (some .int) ∈ TG := tg_3 27 rfl rfl
theorem ml_X5_87 : Cond.methodLink RX5 87 yX5_isOpen ∈ TG := tg_3 28 rfl rfl
theorem im_X5_isOpen : Cond.instanceMethod yX5_isOpen ∈ TG := tg_3 30 rfl rfl
theorem cd_X5_isOpen : Cond.code yX5_isOpen cX5_isOpen 2 (some .boolean) ∈ TG := tg_3 31 rfl rfl
theorem ml_X7_44 : Cond.methodLink RX7 44 yX5_leastOpen ∈ TG := tg_3 32 rfl rfl
theorem im_X5_leastOpen : Cond.instanceMethod yX5_leastOpen ∈ TG := tg_3 33 rfl rfl
theorem se_X5_leastOpen : Cond.selects RX5 yX5_leastOpen yX5_leastOpen ∈ TG := tg_3 34 rfl rfl
theorem cd_X5_leastOpen : Cond.code yX5_leastOpen cX5_leastOpen 3 (some .int) ∈ TG := tg_3 35 rfl rfl
theorem ml_X7_48 : Cond.methodLink RX7 48 yX7_takeNode ∈ TG := tg_3 36 rfl rfl
theorem im_X7_takeNode : Cond.instanceMethod yX7_takeNode ∈ TG := tg_3 38 rfl rfl
theorem cd_X7_takeNode : Cond.code yX7_takeNode cX7_takeNode 8 (some .int) ∈ TG := tg_3 39 rfl rfl
theorem ml_X7_122 : Cond.methodLink RX7 122 yX5_take ∈ TG := tg_3 40 rfl rfl
theorem im_X5_take : Cond.instanceMethod yX5_take ∈ TG := tg_3 41 rfl rfl
theorem se_X5_take : Cond.selects RX5 yX5_take yX5_take ∈ TG := tg_3 42 rfl rfl
theorem cd_X5_take : Cond.code yX5_take cX5_take 2 none ∈ TG := tg_3 43 rfl rfl
theorem ml_X7_129 : Cond.methodLink RX7 129 yX8_stepCount ∈ TG := tg_3 44 rfl rfl
theorem im_X8_stepCount : Cond.instanceMethod yX8_stepCount ∈ TG := tg_3 45 rfl rfl
theorem se_X8_stepCount : Cond.selects RX8 yX8_stepCount yX8_stepCount ∈ TG := tg_3 46 rfl rfl
theorem cd_X8_stepCount : Cond.code yX8_stepCount cX8_stepCount 1 (some .int) ∈ TG := tg_3 47 rfl rfl
theorem ml_X7_132 : Cond.methodLink RX7 132 yX8_stepBy ∈ TG := tg_3 48 rfl rfl
theorem im_X8_stepBy : Cond.instanceMethod yX8_stepBy ∈ TG := tg_3 49 rfl rfl
theorem se_X8_stepBy : Cond.selects RX8 yX8_stepBy yX8_stepBy ∈ TG := tg_3 50 rfl rfl
theorem cd_X8_stepBy : Cond.code yX8_stepBy cX8_stepBy 2 (some .int) ∈ TG := tg_3 51 rfl rfl
theorem ml_X7_135 : Cond.methodLink RX7 135 yX8_tries ∈ TG := tg_3 52 rfl rfl
theorem im_X8_tries : Cond.instanceMethod yX8_tries ∈ TG := tg_3 53 rfl rfl
theorem se_X8_tries : Cond.selects RX8 yX8_tries yX8_tries ∈ TG := tg_3 54 rfl rfl
theorem cd_X8_tries : Cond.code yX8_tries cX8_tries 5 (some .boolean) ∈ TG := tg_3 55 rfl rfl
theorem ml_X8_59 : Cond.methodLink RX8 59 yX3_become ∈ TG := tg_3 56 rfl rfl
theorem im_X3_become : Cond.instanceMethod yX3_become ∈ TG := tg_3 57 rfl rfl
theorem se_X3_become : Cond.selects RX3 yX3_become yX3_become ∈ TG := tg_3 58 rfl rfl
theorem cd_X3_become : Cond.code yX3_become cX3_become 2 none ∈ TG := tg_3 59 rfl rfl
theorem ml_X8_63 : Cond.methodLink RX8 63 yX2_sizeOf ∈ TG := tg_3 60 rfl rfl
theorem im_X2_sizeOf : Cond.instanceMethod yX2_sizeOf ∈ TG := tg_3 61 rfl rfl
theorem se_X2_sizeOf : Cond.selects RX2 yX2_sizeOf yX2_sizeOf ∈ TG := tg_3 62 rfl rfl
theorem cd_X2_sizeOf : Cond.code yX2_sizeOf cX2_sizeOf 2 (some .int) ∈ TG := tg_3 63 rfl rfl
theorem ml_X8_67 : Cond.methodLink RX8 67 yX2_moveOf ∈ TG := tg_3 64 rfl rfl
theorem im_X2_moveOf : Cond.instanceMethod yX2_moveOf ∈ TG := tg_3 65 rfl rfl
theorem se_X2_moveOf : Cond.selects RX2 yX2_moveOf yX2_moveOf ∈ TG := tg_3 66 rfl rfl
theorem cd_X2_moveOf : Cond.code yX2_moveOf cX2_moveOf 3 (some .int) ∈ TG := tg_3 67 rfl rfl
theorem ml_X8_72 : Cond.methodLink RX8 72 yX4_carryOut ∈ TG := tg_3 68 rfl rfl
theorem im_X4_carryOut : Cond.instanceMethod yX4_carryOut ∈ TG := tg_3 69 rfl rfl
theorem se_X4_carryOut : Cond.selects RX4 yX4_carryOut yX4_carryOut ∈ TG := tg_3 70 rfl rfl
theorem cd_X4_carryOut : Cond.code yX4_carryOut cX4_carryOut 4 (some .boolean) ∈ TG := tg_3 71 rfl rfl
theorem ml_X4_63 : Cond.methodLink RX4 63 yX4_conditionsHold ∈ TG := tg_3 72 rfl rfl
theorem im_X4_conditionsHold : Cond.instanceMethod yX4_conditionsHold ∈ TG := tg_3 74 rfl rfl
theorem cd_X4_conditionsHold : Cond.code yX4_conditionsHold cX4_conditionsHold 7 (some .boolean) ∈ TG := tg_3 75 rfl rfl
theorem ml_X4_79 : Cond.methodLink RX4 79 yX4_holds ∈ TG := tg_3 77 rfl rfl
theorem st_X4_holds : Cond.static yX4_holds ∈ TG := tg_3 78 rfl rfl
theorem cd_X4_holds : Cond.code yX4_holds cX4_holds 3 (some .boolean) ∈ TG := tg_3 79 rfl rfl
theorem ml_X4_67 : Cond.methodLink RX4 67 yX4_behindEffects ∈ TG := tg_3 80 rfl rfl
theorem im_X4_behindEffects : Cond.instanceMethod yX4_behindEffects ∈ TG := tg_3 82 rfl rfl
theorem cd_X4_behindEffects : Cond.code yX4_behindEffects cX4_behindEffects 12 (some .long) ∈ TG := tg_3 83 rfl rfl
theorem ml_X4_82 : Cond.methodLink RX4 82 yJ9_floorMod_7cf53 ∈ TG := tg_3 84 rfl rfl
theorem st_J9_floorMod_7cf53 : Cond.static yJ9_floorMod_7cf53 ∈ TG := tg_3 85 rfl rfl
theorem cd_J9_floorMod_7cf53 : Cond.code yJ9_floorMod_7cf53 cJ9_floorMod_7cf53 3 (some .int) ∈ TG := tg_3 86 rfl rfl
theorem ml_X4_88 : Cond.methodLink RX4 88 yX4_chance ∈ TG := tg_3 87 rfl rfl
theorem st_X4_chance : Cond.static yX4_chance ∈ TG := tg_3 88 rfl rfl
theorem cd_X4_chance : Cond.code yX4_chance cX4_chance 7 (some .int) ∈ TG := tg_3 89 rfl rfl
theorem cn_X4_96 : Cond.constantLong RX4 96 (131) ∈ TG := tg_3 90 rfl rfl
theorem cn_X4_98 : Cond.constantLong RX4 98 (2147483647) ∈ TG := tg_3 91 rfl rfl
theorem ml_X4_71 : Cond.methodLink RX4 71 yX3_hear ∈ TG := tg_3 93 rfl rfl
theorem im_X3_hear : Cond.instanceMethod yX3_hear ∈ TG := tg_3 94 rfl rfl
theorem se_X3_hear : Cond.selects RX3 yX3_hear yX3_hear ∈ TG := tg_3 95 rfl rfl
theorem cd_X3_hear : Cond.code yX3_hear cX3_hear 2 none ∈ TG := tg_3 96 rfl rfl
theorem ml_X7_139 : Cond.methodLink RX7 139 yX7_takeOutcome ∈ TG := tg_3 97 rfl rfl
theorem im_X7_takeOutcome : Cond.instanceMethod yX7_takeOutcome ∈ TG := tg_3 99 rfl rfl
theorem cd_X7_takeOutcome : Cond.code yX7_takeOutcome cX7_takeOutcome 8 (some .int) ∈ TG := tg_3 100 rfl rfl
theorem ml_X7_156 : Cond.methodLink RX7 156 yX1_isMet ∈ TG := tg_3 101 rfl rfl
theorem im_X1_isMet : Cond.instanceMethod yX1_isMet ∈ TG := tg_3 102 rfl rfl
theorem se_X1_isMet : Cond.selects RX1 yX1_isMet yX1_isMet ∈ TG := tg_3 103 rfl rfl
theorem cd_X1_isMet : Cond.code yX1_isMet cX1_isMet 5 (some .boolean) ∈ TG := tg_3 104 rfl rfl
theorem ml_X1_36 : Cond.methodLink RX1 36 yX1_isPartMet ∈ TG := tg_3 105 rfl rfl
theorem im_X1_isPartMet : Cond.instanceMethod yX1_isPartMet ∈ TG := tg_3 107 rfl rfl
theorem cd_X1_isPartMet : Cond.code yX1_isPartMet cX1_isPartMet 6 (some .boolean) ∈ TG := tg_3 108 rfl rfl
theorem ml_X7_162 : Cond.methodLink RX7 162 yX5_hasAlike ∈ TG := tg_3 110 rfl rfl
theorem im_X5_hasAlike : Cond.instanceMethod yX5_hasAlike ∈ TG := tg_3 111 rfl rfl
theorem se_X5_hasAlike : Cond.selects RX5 yX5_hasAlike yX5_hasAlike ∈ TG := tg_3 112 rfl rfl
theorem cd_X5_hasAlike : Cond.code yX5_hasAlike cX5_hasAlike 2 (some .boolean) ∈ TG := tg_3 113 rfl rfl
theorem ml_X7_143 : Cond.methodLink RX7 143 yX5_markDead ∈ TG := tg_3 114 rfl rfl
theorem im_X5_markDead : Cond.instanceMethod yX5_markDead ∈ TG := tg_3 115 rfl rfl
theorem se_X5_markDead : Cond.selects RX5 yX5_markDead yX5_markDead ∈ TG := tg_3 116 rfl rfl
theorem cd_X5_markDead : Cond.code yX5_markDead cX5_markDead 2 none ∈ TG := tg_3 117 rfl rfl
theorem ml_X7_62 : Cond.methodLink RX7 62 yX6_take ∈ TG := tg_3 118 rfl rfl
theorem im_X6_take : Cond.instanceMethod yX6_take ∈ TG := tg_3 119 rfl rfl
theorem se_X6_take : Cond.selects RX6 yX6_take yX6_take ∈ TG := tg_3 120 rfl rfl
theorem cd_X6_take : Cond.code yX6_take cX6_take 9 none ∈ TG := tg_3 121 rfl rfl
theorem ml_X6_30 : Cond.methodLink RX6 30 yX2_sizeOf ∈ TG := tg_3 122 rfl rfl
theorem ml_X6_36 : Cond.methodLink RX6 36 yX2_moveOf ∈ TG := tg_3 123 rfl rfl
theorem ml_L_73 : Cond.methodLink RL 73 yX9_length ∈ TG := tg_3 124 rfl rfl
theorem im_X9_length : Cond.instanceMethod yX9_length ∈ TG := tg_3 125 rfl rfl
theorem se_X9_length : Cond.selects RX9 yX9_length yX9_length ∈ TG := tg_3 126 rfl rfl
theorem cd_X9_length : Cond.code yX9_length cX9_length 1 (some .int) ∈ TG := tg_3 127 rfl rfl
theorem ml_L_77 : Cond.methodLink RL 77 yX9_at ∈ TG := tg_3 128 rfl rfl
theorem im_X9_at : Cond.instanceMethod yX9_at ∈ TG := tg_3 129 rfl rfl
theorem se_X9_at : Cond.selects RX9 yX9_at yX9_at ∈ TG := tg_3 130 rfl rfl
theorem cd_X9_at : Cond.code yX9_at cX9_at 2 (some .int) ∈ TG := tg_3 131 rfl rfl
theorem ml_X9_142 : Cond.methodLink RX9 142 yX6_moveAt ∈ TG := tg_3 132 rfl rfl
theorem im_X6_moveAt : Cond.instanceMethod yX6_moveAt ∈ TG := tg_3 133 rfl rfl
theorem se_X6_moveAt : Cond.selects RX6 yX6_moveAt yX6_moveAt ∈ TG := tg_3 134 rfl rfl
theorem cd_X6_moveAt : Cond.code yX6_moveAt cX6_moveAt 2 (some .int) ∈ TG := tg_3 135 rfl rfl
theorem ml_L_81 : Cond.methodLink RL 81 yX9_shortest ∈ TG := tg_3 137 rfl rfl
theorem im_X9_shortest : Cond.instanceMethod yX9_shortest ∈ TG := tg_3 138 rfl rfl
theorem se_X9_shortest : Cond.selects RX9 yX9_shortest yX9_shortest ∈ TG := tg_3 139 rfl rfl
theorem cd_X9_shortest : Cond.code yX9_shortest cX9_shortest 1 (some .boolean) ∈ TG := tg_3 140 rfl rfl
theorem ml_L_86 : Cond.methodLink RL 86 yX9_replays ∈ TG := tg_3 141 rfl rfl
theorem im_X9_replays : Cond.instanceMethod yX9_replays ∈ TG := tg_3 142 rfl rfl
theorem se_X9_replays : Cond.selects RX9 yX9_replays yX9_replays ∈ TG := tg_3 143 rfl rfl
theorem cd_X9_replays : Cond.code yX9_replays cX9_replays 3 (some .int) ∈ TG := tg_3 144 rfl rfl
theorem ml_X9_152 : Cond.methodLink RX9 152 yX3_start ∈ TG := tg_3 145 rfl rfl
theorem ml_X9_156 : Cond.methodLink RX9 156 yX8_tries ∈ TG := tg_3 146 rfl rfl
theorem ml_X9_163 : Cond.methodLink RX9 163 yX3_become ∈ TG := tg_3 147 rfl rfl
theorem ml_X9_167 : Cond.methodLink RX9 167 yX8_isGoal ∈ TG := tg_3 148 rfl rfl
theorem im_X8_isGoal : Cond.instanceMethod yX8_isGoal ∈ TG := tg_3 149 rfl rfl
theorem se_X8_isGoal : Cond.selects RX8 yX8_isGoal yX8_isGoal ∈ TG := tg_3 150 rfl rfl
theorem cd_X8_isGoal : Cond.code yX8_isGoal cX8_isGoal 3 (some .boolean) ∈ TG := tg_3 151 rfl rfl
theorem ml_X8_91 : Cond.methodLink RX8 91 yX0_score ∈ TG := tg_3 152 rfl rfl
theorem ml_X8_95 : Cond.methodLink RX8 95 yX1_isMet ∈ TG := tg_3 153 rfl rfl
theorem ml_L_90 : Cond.methodLink RL 90 yX9_node ∈ TG := tg_3 154 rfl rfl
theorem im_X9_node : Cond.instanceMethod yX9_node ∈ TG := tg_3 155 rfl rfl
theorem se_X9_node : Cond.selects RX9 yX9_node yX9_node ∈ TG := tg_3 156 rfl rfl
theorem cd_X9_node : Cond.code yX9_node cX9_node 3 (some .int) ∈ TG := tg_3 157 rfl rfl
theorem ml_X9_175 : Cond.methodLink RX9 175 yX5_has ∈ TG := tg_3 158 rfl rfl
theorem im_X5_has : Cond.instanceMethod yX5_has ∈ TG := tg_3 159 rfl rfl
theorem se_X5_has : Cond.selects RX5 yX5_has yX5_has ∈ TG := tg_3 160 rfl rfl
theorem cd_X5_has : Cond.code yX5_has cX5_has 2 (some .boolean) ∈ TG := tg_3 161 rfl rfl
theorem ml_X9_178 : Cond.methodLink RX9 178 yX5_tell ∈ TG := tg_3 163 rfl rfl
theorem im_X5_tell : Cond.instanceMethod yX5_tell ∈ TG := tg_3 164 rfl rfl
theorem se_X5_tell : Cond.selects RX5 yX5_tell yX5_tell ∈ TG := tg_3 165 rfl rfl
theorem cd_X5_tell : Cond.code yX5_tell cX5_tell 3 (some .int) ∈ TG := tg_3 166 rfl rfl
theorem st_X9_valueAsked : Cond.static yX9_valueAsked ∈ TG := tg_3 168 rfl rfl
theorem cd_X9_valueAsked : Cond.code yX9_valueAsked cX9_valueAsked 5 (some .int) ∈ TG := tg_3 169 rfl rfl
theorem ml_X9_239 : Cond.methodLink RX9 239 yX9_valueIn ∈ TG := tg_3 170 rfl rfl
theorem ml_L_94 : Cond.methodLink RL 94 yX9_meet ∈ TG := tg_3 171 rfl rfl
theorem im_X9_meet : Cond.instanceMethod yX9_meet ∈ TG := tg_3 172 rfl rfl
theorem se_X9_meet : Cond.selects RX9 yX9_meet yX9_meet ∈ TG := tg_3 173 rfl rfl
theorem cd_X9_meet : Cond.code yX9_meet cX9_meet 4 (some .int) ∈ TG := tg_3 174 rfl rfl
theorem ml_L_98 : Cond.methodLink RL 98 yX9_seen ∈ TG := tg_3 175 rfl rfl
theorem im_X9_seen : Cond.instanceMethod yX9_seen ∈ TG := tg_3 176 rfl rfl
theorem se_X9_seen : Cond.selects RX9 yX9_seen yX9_seen ∈ TG := tg_3 177 rfl rfl
theorem cd_X9_seen : Cond.code yX9_seen cX9_seen 2 (some .boolean) ∈ TG := tg_3 178 rfl rfl
theorem ml_X9_189 : Cond.methodLink RX9 189 yX9_hasBit ∈ TG := tg_3 179 rfl rfl
theorem st_X9_hasBit : Cond.static yX9_hasBit ∈ TG := tg_3 180 rfl rfl
theorem cd_X9_hasBit : Cond.code yX9_hasBit cX9_hasBit 2 (some .boolean) ∈ TG := tg_3 181 rfl rfl
theorem ml_L_103 : Cond.methodLink RL 103 yX9_never ∈ TG := tg_3 182 rfl rfl
theorem im_X9_never : Cond.instanceMethod yX9_never ∈ TG := tg_3 183 rfl rfl
theorem se_X9_never : Cond.selects RX9 yX9_never yX9_never ∈ TG := tg_3 184 rfl rfl
theorem cd_X9_never : Cond.code yX9_never cX9_never 5 (some .int) ∈ TG := tg_3 185 rfl rfl
theorem ml_L_116 : Cond.methodLink RL 116 yX9_begin ∈ TG := tg_3 186 rfl rfl
theorem im_X9_begin : Cond.instanceMethod yX9_begin ∈ TG := tg_3 187 rfl rfl
theorem se_X9_begin : Cond.selects RX9 yX9_begin yX9_begin ∈ TG := tg_3 188 rfl rfl
theorem cd_X9_begin : Cond.code yX9_begin cX9_begin 1 none ∈ TG := tg_3 189 rfl rfl
theorem ml_L_120 : Cond.methodLink RL 120 yX9_step ∈ TG := tg_3 190 rfl rfl
theorem im_X9_step : Cond.instanceMethod yX9_step ∈ TG := tg_3 191 rfl rfl
theorem se_X9_step : Cond.selects RX9 yX9_step yX9_step ∈ TG := tg_3 192 rfl rfl
theorem cd_X9_step : Cond.code yX9_step cX9_step 2 (some .int) ∈ TG := tg_3 193 rfl rfl
theorem ml_X9_209 : Cond.methodLink RX9 209 yX8_hasStep ∈ TG := tg_3 194 rfl rfl
theorem im_X8_hasStep : Cond.instanceMethod yX8_hasStep ∈ TG := tg_3 195 rfl rfl
theorem se_X8_hasStep : Cond.selects RX8 yX8_hasStep yX8_hasStep ∈ TG := tg_3 196 rfl rfl
theorem cd_X8_hasStep : Cond.code yX8_hasStep cX8_hasStep 2 (some .boolean) ∈ TG := tg_3 197 rfl rfl
theorem ml_X8_51 : Cond.methodLink RX8 51 yX4_has ∈ TG := tg_3 198 rfl rfl
theorem ml_L_124 : Cond.methodLink RL 124 yX9_now ∈ TG := tg_3 200 rfl rfl
theorem im_X9_now : Cond.instanceMethod yX9_now ∈ TG := tg_3 201 rfl rfl
theorem se_X9_now : Cond.selects RX9 yX9_now yX9_now ∈ TG := tg_3 202 rfl rfl
theorem cd_X9_now : Cond.code yX9_now cX9_now 2 (some .int) ∈ TG := tg_3 203 rfl rfl
theorem ml_X9_212 : Cond.methodLink RX9 212 yX0_score ∈ TG := tg_3 204 rfl rfl
theorem ml_X9_219 : Cond.methodLink RX9 219 yX8_countSteps ∈ TG := tg_3 205 rfl rfl
theorem im_X8_countSteps : Cond.instanceMethod yX8_countSteps ∈ TG := tg_3 206 rfl rfl
theorem se_X8_countSteps : Cond.selects RX8 yX8_countSteps yX8_countSteps ∈ TG := tg_3 207 rfl rfl
theorem cd_X8_countSteps : Cond.code yX8_countSteps cX8_countSteps 4 (some .int) ∈ TG := tg_3 208 rfl rfl
theorem ml_X8_76 : Cond.methodLink RX8 76 yX8_stepCount ∈ TG := tg_3 209 rfl rfl
theorem ml_X8_80 : Cond.methodLink RX8 80 yX8_stepBy ∈ TG := tg_3 210 rfl rfl
theorem ml_X8_83 : Cond.methodLink RX8 83 yX8_tries ∈ TG := tg_3 211 rfl rfl
theorem ml_X9_223 : Cond.methodLink RX9 223 yX9_valueAsked ∈ TG := tg_3 212 rfl rfl
theorem ml_L_128 : Cond.methodLink RL 128 yX9_told ∈ TG := tg_3 213 rfl rfl
theorem im_X9_told : Cond.instanceMethod yX9_told ∈ TG := tg_3 214 rfl rfl
theorem se_X9_told : Cond.selects RX9 yX9_told yX9_told ∈ TG := tg_3 215 rfl rfl
theorem cd_X9_told : Cond.code yX9_told cX9_told 2 (some .int) ∈ TG := tg_3 216 rfl rfl
theorem ml_L_107 : Cond.methodLink RL 107 yL_queue ∈ TG := tg_3 217 rfl rfl
theorem st_L_queue : Cond.static yL_queue ∈ TG := tg_3 218 rfl rfl
theorem kl_L_13 : Cond.classLink RL 13 RJx00060 ∈ TG := tg_3 220 rfl rfl
theorem ml_L_7 : Cond.methodLink RL 7 yX9_queue ∈ TG := tg_3 221 rfl rfl
theorem im_X9_queue : Cond.instanceMethod yX9_queue ∈ TG := tg_3 222 rfl rfl
theorem se_X9_queue : Cond.selects RX9 yX9_queue yX9_queue ∈ TG := tg_3 223 rfl rfl
theorem cd_X9_queue : Cond.code yX9_queue cX9_queue 2 (some .int) ∈ TG := tg_3 224 rfl rfl
theorem kl_X9_199 : Cond.classLink RX9 199 RJx00060 ∈ TG := tg_3 225 rfl rfl
theorem is_Jx00060 : Cond.instantiable RJx00060 6 ∈ TG := tg_3 226 rfl rfl
theorem ml_X9_203 : Cond.methodLink RX9 203 yJx00060_init_a7421 ∈ TG := tg_4 27 rfl rfl
theorem im_Jx00060_init_a7421 : Cond.instanceMethod yJx00060_init_a7421 ∈ TG := tg_4 28 rfl rfl
theorem cd_Jx00060_init_a7421 : Cond.code yJx00060_init_a7421 cJx00060_init_a7421 2 none ∈ TG := tg_4 29 rfl rfl
theorem ac_byte : Cond.arrayClass .byte ∈ TG := tg_4 55 rfl rfl
theorem kl_L_16 : Cond.classLink RL 16 RX10 ∈ TG := tg_4 56 rfl rfl
theorem is_X10 : Cond.instantiable RX10 52 ∈ TG := tg_4 57 rfl rfl
theorem ml_L_18 : Cond.methodLink RL 18 yX10_init ∈ TG := tg_4 58 rfl rfl
theorem im_X10_init : Cond.instanceMethod yX10_init ∈ TG := tg_4 59 rfl rfl
theorem cd_X10_init : Cond.code yX10_init cX10_init 1 none ∈ TG := tg_4 60 rfl rfl
theorem ml_X10_1 : Cond.methodLink RX10 1 objectInit ∈ TG := tg_4 61 rfl rfl
theorem fl_X10_111 : Cond.fieldLink RX10 111 "PlaySearchModel" "thrown" "I" ∈ TG := tg_4 62 rfl rfl
theorem fl_X10_115 : Cond.fieldLink RX10 115 "PlaySearchModel" "cells" "I" ∈ TG := tg_4 63 rfl rfl
theorem fl_X10_7 : Cond.fieldLink RX10 7 "PlaySearchModel" "first" "[I" ∈ TG := tg_4 64 rfl rfl
theorem fl_X10_13 : Cond.fieldLink RX10 13 "PlaySearchModel" "isClock" "[Z" ∈ TG := tg_4 65 rfl rfl
theorem fl_X10_17 : Cond.fieldLink RX10 17 "PlaySearchModel" "weight" "[I" ∈ TG := tg_4 66 rfl rfl
theorem fl_X10_118 : Cond.fieldLink RX10 118 "PlaySearchModel" "moves" "I" ∈ TG := tg_4 67 rfl rfl
theorem fl_X10_20 : Cond.fieldLink RX10 20 "PlaySearchModel" "conditions" "[I" ∈ TG := tg_4 68 rfl rfl
theorem fl_X10_23 : Cond.fieldLink RX10 23 "PlaySearchModel" "conditionCell" "[I" ∈ TG := tg_4 69 rfl rfl
theorem fl_X10_26 : Cond.fieldLink RX10 26 "PlaySearchModel" "relation" "[I" ∈ TG := tg_4 70 rfl rfl
theorem fl_X10_29 : Cond.fieldLink RX10 29 "PlaySearchModel" "conditionValue" "[I" ∈ TG := tg_4 71 rfl rfl
theorem fl_X10_32 : Cond.fieldLink RX10 32 "PlaySearchModel" "effects" "[I" ∈ TG := tg_4 72 rfl rfl
theorem fl_X10_35 : Cond.fieldLink RX10 35 "PlaySearchModel" "effectKind" "[I" ∈ TG := tg_4 73 rfl rfl
theorem fl_X10_38 : Cond.fieldLink RX10 38 "PlaySearchModel" "effectCell" "[I" ∈ TG := tg_4 74 rfl rfl
theorem fl_X10_41 : Cond.fieldLink RX10 41 "PlaySearchModel" "effectValue" "[I" ∈ TG := tg_4 75 rfl rfl
theorem fl_X10_44 : Cond.fieldLink RX10 44 "PlaySearchModel" "text" "[I" ∈ TG := tg_4 76 rfl rfl
theorem fl_X10_47 : Cond.fieldLink RX10 47 "PlaySearchModel" "ending" "[I" ∈ TG := tg_4 77 rfl rfl
theorem fl_X10_135 : Cond.fieldLink RX10 135 "PlaySearchModel" "macros" "I" ∈ TG := tg_4 78 rfl rfl
theorem fl_X10_50 : Cond.fieldLink RX10 50 "PlaySearchModel" "macroSize" "[I" ∈ TG := tg_4 79 rfl rfl
theorem fl_X10_53 : Cond.fieldLink RX10 53 "PlaySearchModel" "macroMove" "[I" ∈ TG := tg_4 80 rfl rfl
theorem fl_X10_56 : Cond.fieldLink RX10 56 "PlaySearchModel" "draft" "[I" ∈ TG := tg_4 81 rfl rfl
theorem fl_X10_132 : Cond.fieldLink RX10 132 "PlaySearchModel" "drafted" "I" ∈ TG := tg_4 82 rfl rfl
theorem fl_X10_138 : Cond.fieldLink RX10 138 "PlaySearchModel" "goals" "I" ∈ TG := tg_4 83 rfl rfl
theorem fl_X10_59 : Cond.fieldLink RX10 59 "PlaySearchModel" "goalKind" "[I" ∈ TG := tg_4 84 rfl rfl
theorem fl_X10_62 : Cond.fieldLink RX10 62 "PlaySearchModel" "goalA" "[I" ∈ TG := tg_4 85 rfl rfl
theorem fl_X10_65 : Cond.fieldLink RX10 65 "PlaySearchModel" "goalB" "[I" ∈ TG := tg_4 86 rfl rfl
theorem fl_X10_68 : Cond.fieldLink RX10 68 "PlaySearchModel" "world" "[I" ∈ TG := tg_4 87 rfl rfl
theorem fl_X10_141 : Cond.fieldLink RX10 141 "PlaySearchModel" "ended" "I" ∈ TG := tg_4 88 rfl rfl
theorem fl_X10_152 : Cond.fieldLink RX10 152 "PlaySearchModel" "lastText" "I" ∈ TG := tg_4 89 rfl rfl
theorem fl_X10_71 : Cond.fieldLink RX10 71 "PlaySearchModel" "now" "[I" ∈ TG := tg_4 90 rfl rfl
theorem fl_X10_247 : Cond.fieldLink RX10 247 "PlaySearchModel" "nowEnded" "I" ∈ TG := tg_4 91 rfl rfl
theorem fl_X10_185 : Cond.fieldLink RX10 185 "PlaySearchModel" "nodes" "I" ∈ TG := tg_4 92 rfl rfl
theorem fl_X10_74 : Cond.fieldLink RX10 74 "PlaySearchModel" "nodeWorld" "[J" ∈ TG := tg_4 93 rfl rfl
theorem fl_X10_78 : Cond.fieldLink RX10 78 "PlaySearchModel" "nodeEnded" "[I" ∈ TG := tg_4 94 rfl rfl
theorem fl_X10_81 : Cond.fieldLink RX10 81 "PlaySearchModel" "nodeBefore" "[I" ∈ TG := tg_4 95 rfl rfl
theorem fl_X10_84 : Cond.fieldLink RX10 84 "PlaySearchModel" "nodeStep" "[I" ∈ TG := tg_4 96 rfl rfl
theorem fl_X10_87 : Cond.fieldLink RX10 87 "PlaySearchModel" "nodeScore" "[I" ∈ TG := tg_4 97 rfl rfl
theorem fl_X10_90 : Cond.fieldLink RX10 90 "PlaySearchModel" "nodeDepth" "[I" ∈ TG := tg_4 98 rfl rfl
theorem fl_X10_93 : Cond.fieldLink RX10 93 "PlaySearchModel" "isTaken" "[Z" ∈ TG := tg_4 99 rfl rfl
theorem fl_X10_96 : Cond.fieldLink RX10 96 "PlaySearchModel" "isDead" "[Z" ∈ TG := tg_4 100 rfl rfl
theorem fl_X10_99 : Cond.fieldLink RX10 99 "PlaySearchModel" "order" "[I" ∈ TG := tg_4 101 rfl rfl
theorem fl_X10_188 : Cond.fieldLink RX10 188 "PlaySearchModel" "taken" "I" ∈ TG := tg_4 102 rfl rfl
theorem fl_X10_102 : Cond.fieldLink RX10 102 "PlaySearchModel" "table" "[I" ∈ TG := tg_4 103 rfl rfl
theorem fl_X10_201 : Cond.fieldLink RX10 201 "PlaySearchModel" "searchCells" "I" ∈ TG := tg_4 104 rfl rfl
theorem fl_X10_169 : Cond.fieldLink RX10 169 "PlaySearchModel" "mask" "J" ∈ TG := tg_4 105 rfl rfl
theorem fl_X10_191 : Cond.fieldLink RX10 191 "PlaySearchModel" "found" "Z" ∈ TG := tg_4 106 rfl rfl
theorem fl_X10_210 : Cond.fieldLink RX10 210 "PlaySearchModel" "isShortest" "Z" ∈ TG := tg_4 107 rfl rfl
theorem fl_X10_213 : Cond.fieldLink RX10 213 "PlaySearchModel" "playSize" "I" ∈ TG := tg_4 108 rfl rfl
theorem fl_X10_105 : Cond.fieldLink RX10 105 "PlaySearchModel" "play" "[I" ∈ TG := tg_4 109 rfl rfl
theorem fl_X10_108 : Cond.fieldLink RX10 108 "PlaySearchModel" "path" "[I" ∈ TG := tg_4 110 rfl rfl
theorem fl_X10_195 : Cond.fieldLink RX10 195 "PlaySearchModel" "seen" "I" ∈ TG := tg_4 111 rfl rfl
theorem fl_X10_198 : Cond.fieldLink RX10 198 "PlaySearchModel" "had" "I" ∈ TG := tg_4 112 rfl rfl
theorem fl_X10_155 : Cond.fieldLink RX10 155 "PlaySearchModel" "shown" "I" ∈ TG := tg_4 113 rfl rfl
theorem ml_L_113 : Cond.methodLink RL 113 yX10_thrown ∈ TG := tg_4 219 rfl rfl
theorem im_X10_thrown : Cond.instanceMethod yX10_thrown ∈ TG := tg_4 220 rfl rfl
theorem se_X10_thrown : Cond.selects RX10 yX10_thrown yX10_thrown ∈ TG := tg_4 221 rfl rfl
theorem cd_X10_thrown : Cond.code yX10_thrown cX10_thrown 1 (some .int) ∈ TG := tg_4 222 rfl rfl
theorem ml_L_23 : Cond.methodLink RL 23 yX10_cell ∈ TG := tg_4 223 rfl rfl
theorem im_X10_cell : Cond.instanceMethod yX10_cell ∈ TG := tg_4 224 rfl rfl
theorem se_X10_cell : Cond.selects RX10 yX10_cell yX10_cell ∈ TG := tg_4 225 rfl rfl
theorem cd_X10_cell : Cond.code yX10_cell cX10_cell 3 (some .int) ∈ TG := tg_4 226 rfl rfl
theorem ml_L_28 : Cond.methodLink RL 28 yX10_weigh ∈ TG := tg_4 227 rfl rfl
theorem im_X10_weigh : Cond.instanceMethod yX10_weigh ∈ TG := tg_4 228 rfl rfl
theorem se_X10_weigh : Cond.selects RX10 yX10_weigh yX10_weigh ∈ TG := tg_4 229 rfl rfl
theorem cd_X10_weigh : Cond.code yX10_weigh cX10_weigh 3 (some .boolean) ∈ TG := tg_4 230 rfl rfl
theorem ml_X10_121 : Cond.methodLink RX10 121 yX10_noCell ∈ TG := tg_4 231 rfl rfl
theorem im_X10_noCell : Cond.instanceMethod yX10_noCell ∈ TG := tg_4 233 rfl rfl
theorem cd_X10_noCell : Cond.code yX10_noCell cX10_noCell 2 (some .boolean) ∈ TG := tg_4 234 rfl rfl
theorem ml_L_33 : Cond.methodLink RL 33 yX10_move ∈ TG := tg_4 235 rfl rfl
theorem im_X10_move : Cond.instanceMethod yX10_move ∈ TG := tg_4 236 rfl rfl
theorem se_X10_move : Cond.selects RX10 yX10_move yX10_move ∈ TG := tg_4 237 rfl rfl
theorem cd_X10_move : Cond.code yX10_move cX10_move 1 (some .int) ∈ TG := tg_4 238 rfl rfl
theorem ml_L_38 : Cond.methodLink RL 38 yX10_when ∈ TG := tg_4 239 rfl rfl
theorem im_X10_when : Cond.instanceMethod yX10_when ∈ TG := tg_5 0 rfl rfl
theorem se_X10_when : Cond.selects RX10 yX10_when yX10_when ∈ TG := tg_5 1 rfl rfl
theorem cd_X10_when : Cond.code yX10_when cX10_when 6 (some .boolean) ∈ TG := tg_5 2 rfl rfl
theorem ml_X10_125 : Cond.methodLink RX10 125 yX10_noMove ∈ TG := tg_5 3 rfl rfl
theorem im_X10_noMove : Cond.instanceMethod yX10_noMove ∈ TG := tg_5 5 rfl rfl
theorem cd_X10_noMove : Cond.code yX10_noMove cX10_noMove 2 (some .boolean) ∈ TG := tg_5 6 rfl rfl
theorem ml_L_42 : Cond.methodLink RL 42 yX10_then ∈ TG := tg_5 7 rfl rfl
theorem im_X10_then : Cond.instanceMethod yX10_then ∈ TG := tg_5 8 rfl rfl
theorem se_X10_then : Cond.selects RX10 yX10_then yX10_then ∈ TG := tg_5 9 rfl rfl
theorem cd_X10_then : Cond.code yX10_then cX10_then 6 (some .boolean) ∈ TG := tg_5 10 rfl rfl
theorem ml_X10_128 : Cond.methodLink RX10 128 yX10_isEffect ∈ TG := tg_5 11 rfl rfl
theorem im_X10_isEffect : Cond.instanceMethod yX10_isEffect ∈ TG := tg_5 13 rfl rfl
theorem cd_X10_isEffect : Cond.code yX10_isEffect cX10_isEffect 3 (some .boolean) ∈ TG := tg_5 14 rfl rfl
theorem ml_L_46 : Cond.methodLink RL 46 yX10_show ∈ TG := tg_5 15 rfl rfl
theorem im_X10_show : Cond.instanceMethod yX10_show ∈ TG := tg_5 16 rfl rfl
theorem se_X10_show : Cond.selects RX10 yX10_show yX10_show ∈ TG := tg_5 17 rfl rfl
theorem cd_X10_show : Cond.code yX10_show cX10_show 3 (some .boolean) ∈ TG := tg_5 18 rfl rfl
theorem ml_L_50 : Cond.methodLink RL 50 yX10_ends ∈ TG := tg_5 19 rfl rfl
theorem im_X10_ends : Cond.instanceMethod yX10_ends ∈ TG := tg_5 20 rfl rfl
theorem se_X10_ends : Cond.selects RX10 yX10_ends yX10_ends ∈ TG := tg_5 21 rfl rfl
theorem cd_X10_ends : Cond.code yX10_ends cX10_ends 3 (some .boolean) ∈ TG := tg_5 22 rfl rfl
theorem ml_L_54 : Cond.methodLink RL 54 yX10_of ∈ TG := tg_5 23 rfl rfl
theorem im_X10_of : Cond.instanceMethod yX10_of ∈ TG := tg_5 24 rfl rfl
theorem se_X10_of : Cond.selects RX10 yX10_of yX10_of ∈ TG := tg_5 25 rfl rfl
theorem cd_X10_of : Cond.code yX10_of cX10_of 2 (some .int) ∈ TG := tg_5 26 rfl rfl
theorem ml_L_58 : Cond.methodLink RL 58 yX10_macro ∈ TG := tg_5 27 rfl rfl
theorem im_X10_macro : Cond.instanceMethod yX10_macro ∈ TG := tg_5 28 rfl rfl
theorem se_X10_macro : Cond.selects RX10 yX10_macro yX10_macro ∈ TG := tg_5 29 rfl rfl
theorem cd_X10_macro : Cond.code yX10_macro cX10_macro 2 (some .int) ∈ TG := tg_5 30 rfl rfl
theorem ml_L_63 : Cond.methodLink RL 63 yX10_goal ∈ TG := tg_5 31 rfl rfl
theorem im_X10_goal : Cond.instanceMethod yX10_goal ∈ TG := tg_5 32 rfl rfl
theorem se_X10_goal : Cond.selects RX10 yX10_goal yX10_goal ∈ TG := tg_5 33 rfl rfl
theorem cd_X10_goal : Cond.code yX10_goal cX10_goal 5 (some .int) ∈ TG := tg_5 34 rfl rfl
theorem ml_L_67 : Cond.methodLink RL 67 yX10_clear ∈ TG := tg_5 35 rfl rfl
theorem im_X10_clear : Cond.instanceMethod yX10_clear ∈ TG := tg_5 36 rfl rfl
theorem se_X10_clear : Cond.selects RX10 yX10_clear yX10_clear ∈ TG := tg_5 37 rfl rfl
theorem cd_X10_clear : Cond.code yX10_clear cX10_clear 2 (some .int) ∈ TG := tg_5 38 rfl rfl
theorem ml_L_72 : Cond.methodLink RL 72 yX10_search ∈ TG := tg_5 39 rfl rfl
theorem im_X10_search : Cond.instanceMethod yX10_search ∈ TG := tg_5 40 rfl rfl
theorem se_X10_search : Cond.selects RX10 yX10_search yX10_search ∈ TG := tg_5 41 rfl rfl
theorem cd_X10_search : Cond.code yX10_search cX10_search 5 (some .int) ∈ TG := tg_5 42 rfl rfl
theorem ml_X10_234 : Cond.methodLink RX10 234 yX10_beginSearch ∈ TG := tg_5 43 rfl rfl
theorem im_X10_beginSearch : Cond.instanceMethod yX10_beginSearch ∈ TG := tg_5 45 rfl rfl
theorem cd_X10_beginSearch : Cond.code yX10_beginSearch cX10_beginSearch 2 none ∈ TG := tg_5 46 rfl rfl
theorem cn_X10_204 : Cond.constantLong RX10 204 (15) ∈ TG := tg_5 47 rfl rfl
theorem ml_X10_206 : Cond.methodLink RX10 206 yX10_addNode ∈ TG := tg_5 48 rfl rfl
theorem im_X10_addNode : Cond.instanceMethod yX10_addNode ∈ TG := tg_5 50 rfl rfl
theorem cd_X10_addNode : Cond.code yX10_addNode cX10_addNode 6 none ∈ TG := tg_5 51 rfl rfl
theorem ml_X10_177 : Cond.methodLink RX10 177 yX10_packed ∈ TG := tg_5 52 rfl rfl
theorem im_X10_packed : Cond.instanceMethod yX10_packed ∈ TG := tg_5 54 rfl rfl
theorem cd_X10_packed : Cond.code yX10_packed cX10_packed 4 (some .long) ∈ TG := tg_5 55 rfl rfl
theorem ml_X10_181 : Cond.methodLink RX10 181 yX10_placeOf ∈ TG := tg_5 56 rfl rfl
theorem im_X10_placeOf : Cond.instanceMethod yX10_placeOf ∈ TG := tg_5 58 rfl rfl
theorem cd_X10_placeOf : Cond.code yX10_placeOf cX10_placeOf 7 (some .int) ∈ TG := tg_5 59 rfl rfl
theorem cn_X10_173 : Cond.constantLong RX10 173 (16) ∈ TG := tg_5 60 rfl rfl
theorem cn_X10_175 : Cond.constantLong RX10 175 (-7046029254386353131) ∈ TG := tg_5 61 rfl rfl
theorem ml_X10_165 : Cond.methodLink RX10 165 yX10_scoreOf ∈ TG := tg_5 62 rfl rfl
theorem im_X10_scoreOf : Cond.instanceMethod yX10_scoreOf ∈ TG := tg_5 64 rfl rfl
theorem cd_X10_scoreOf : Cond.code yX10_scoreOf cX10_scoreOf 3 (some .int) ∈ TG := tg_5 65 rfl rfl
theorem ml_X10_237 : Cond.methodLink RX10 237 yX10_nextNode ∈ TG := tg_5 66 rfl rfl
theorem im_X10_nextNode : Cond.instanceMethod yX10_nextNode ∈ TG := tg_5 68 rfl rfl
theorem cd_X10_nextNode : Cond.code yX10_nextNode cX10_nextNode 4 (some .int) ∈ TG := tg_5 69 rfl rfl
theorem ml_X10_240 : Cond.methodLink RX10 240 yX10_tryAll ∈ TG := tg_5 70 rfl rfl
theorem im_X10_tryAll : Cond.instanceMethod yX10_tryAll ∈ TG := tg_5 72 rfl rfl
theorem cd_X10_tryAll : Cond.code yX10_tryAll cX10_tryAll 7 (some .int) ∈ TG := tg_5 73 rfl rfl
theorem ml_X10_216 : Cond.methodLink RX10 216 yX10_unpack ∈ TG := tg_5 74 rfl rfl
theorem im_X10_unpack : Cond.instanceMethod yX10_unpack ∈ TG := tg_5 76 rfl rfl
theorem cd_X10_unpack : Cond.code yX10_unpack cX10_unpack 4 none ∈ TG := tg_5 77 rfl rfl
theorem ml_X10_220 : Cond.methodLink RX10 220 yX10_stepAt ∈ TG := tg_5 78 rfl rfl
theorem im_X10_stepAt : Cond.instanceMethod yX10_stepAt ∈ TG := tg_5 80 rfl rfl
theorem cd_X10_stepAt : Cond.code yX10_stepAt cX10_stepAt 2 (some .int) ∈ TG := tg_5 81 rfl rfl
theorem ml_X10_224 : Cond.methodLink RX10 224 yX10_doStep ∈ TG := tg_5 82 rfl rfl
theorem im_X10_doStep : Cond.instanceMethod yX10_doStep ∈ TG := tg_5 84 rfl rfl
theorem cd_X10_doStep : Cond.code yX10_doStep cX10_doStep 5 (some .boolean) ∈ TG := tg_5 85 rfl rfl
theorem ml_X10_158 : Cond.methodLink RX10 158 yX10_canMove ∈ TG := tg_5 86 rfl rfl
theorem im_X10_canMove : Cond.instanceMethod yX10_canMove ∈ TG := tg_5 88 rfl rfl
theorem cd_X10_canMove : Cond.code yX10_canMove cX10_canMove 6 (some .boolean) ∈ TG := tg_5 89 rfl rfl
theorem ml_X10_161 : Cond.methodLink RX10 161 yX10_doMove ∈ TG := tg_5 90 rfl rfl
theorem im_X10_doMove : Cond.instanceMethod yX10_doMove ∈ TG := tg_5 92 rfl rfl
theorem cd_X10_doMove : Cond.code yX10_doMove cX10_doMove 7 none ∈ TG := tg_5 93 rfl rfl
theorem ml_X10_148 : Cond.methodLink RX10 148 yX10_chance ∈ TG := tg_5 94 rfl rfl
theorem im_X10_chance : Cond.instanceMethod yX10_chance ∈ TG := tg_5 96 rfl rfl
theorem cd_X10_chance : Cond.code yX10_chance cX10_chance 5 (some .long) ∈ TG := tg_5 97 rfl rfl
theorem cn_X10_144 : Cond.constantLong RX10 144 (131) ∈ TG := tg_5 98 rfl rfl
theorem cn_X10_146 : Cond.constantLong RX10 146 (2147483647) ∈ TG := tg_5 99 rfl rfl
theorem ml_X10_227 : Cond.methodLink RX10 227 yX10_meets ∈ TG := tg_5 100 rfl rfl
theorem im_X10_meets : Cond.instanceMethod yX10_meets ∈ TG := tg_5 102 rfl rfl
theorem cd_X10_meets : Cond.code yX10_meets cX10_meets 5 (some .boolean) ∈ TG := tg_5 103 rfl rfl
theorem ml_X10_231 : Cond.methodLink RX10 231 yX10_tellPlay ∈ TG := tg_5 104 rfl rfl
theorem im_X10_tellPlay : Cond.instanceMethod yX10_tellPlay ∈ TG := tg_5 106 rfl rfl
theorem cd_X10_tellPlay : Cond.code yX10_tellPlay cX10_tellPlay 7 none ∈ TG := tg_5 107 rfl rfl
theorem ml_L_76 : Cond.methodLink RL 76 yX10_length ∈ TG := tg_5 108 rfl rfl
theorem im_X10_length : Cond.instanceMethod yX10_length ∈ TG := tg_5 109 rfl rfl
theorem se_X10_length : Cond.selects RX10 yX10_length yX10_length ∈ TG := tg_5 110 rfl rfl
theorem cd_X10_length : Cond.code yX10_length cX10_length 1 (some .int) ∈ TG := tg_5 111 rfl rfl
theorem ml_L_80 : Cond.methodLink RL 80 yX10_at ∈ TG := tg_5 112 rfl rfl
theorem im_X10_at : Cond.instanceMethod yX10_at ∈ TG := tg_5 113 rfl rfl
theorem se_X10_at : Cond.selects RX10 yX10_at yX10_at ∈ TG := tg_5 114 rfl rfl
theorem cd_X10_at : Cond.code yX10_at cX10_at 2 (some .int) ∈ TG := tg_5 115 rfl rfl
theorem ml_L_85 : Cond.methodLink RL 85 yX10_shortest ∈ TG := tg_5 116 rfl rfl
theorem im_X10_shortest : Cond.instanceMethod yX10_shortest ∈ TG := tg_5 117 rfl rfl
theorem se_X10_shortest : Cond.selects RX10 yX10_shortest yX10_shortest ∈ TG := tg_5 118 rfl rfl
theorem cd_X10_shortest : Cond.code yX10_shortest cX10_shortest 1 (some .boolean) ∈ TG := tg_5 119 rfl rfl
theorem ml_L_89 : Cond.methodLink RL 89 yX10_replays ∈ TG := tg_5 120 rfl rfl
theorem im_X10_replays : Cond.instanceMethod yX10_replays ∈ TG := tg_5 121 rfl rfl
theorem se_X10_replays : Cond.selects RX10 yX10_replays yX10_replays ∈ TG := tg_5 122 rfl rfl
theorem cd_X10_replays : Cond.code yX10_replays cX10_replays 2 (some .int) ∈ TG := tg_5 123 rfl rfl
theorem ml_L_93 : Cond.methodLink RL 93 yX10_node ∈ TG := tg_5 124 rfl rfl
theorem im_X10_node : Cond.instanceMethod yX10_node ∈ TG := tg_5 125 rfl rfl
theorem se_X10_node : Cond.selects RX10 yX10_node yX10_node ∈ TG := tg_5 126 rfl rfl
theorem cd_X10_node : Cond.code yX10_node cX10_node 3 (some .int) ∈ TG := tg_5 127 rfl rfl
theorem ml_X10_244 : Cond.methodLink RX10 244 yX10_noNode ∈ TG := tg_5 128 rfl rfl
theorem im_X10_noNode : Cond.instanceMethod yX10_noNode ∈ TG := tg_5 130 rfl rfl
theorem cd_X10_noNode : Cond.code yX10_noNode cX10_noNode 2 (some .boolean) ∈ TG := tg_5 131 rfl rfl
theorem ml_L_97 : Cond.methodLink RL 97 yX10_meet ∈ TG := tg_5 132 rfl rfl
theorem im_X10_meet : Cond.instanceMethod yX10_meet ∈ TG := tg_5 133 rfl rfl
theorem se_X10_meet : Cond.selects RX10 yX10_meet yX10_meet ∈ TG := tg_5 134 rfl rfl
theorem cd_X10_meet : Cond.code yX10_meet cX10_meet 3 (some .int) ∈ TG := tg_5 135 rfl rfl
theorem ml_L_102 : Cond.methodLink RL 102 yX10_seen ∈ TG := tg_5 136 rfl rfl
theorem im_X10_seen : Cond.instanceMethod yX10_seen ∈ TG := tg_5 137 rfl rfl
theorem se_X10_seen : Cond.selects RX10 yX10_seen yX10_seen ∈ TG := tg_5 138 rfl rfl
theorem cd_X10_seen : Cond.code yX10_seen cX10_seen 2 (some .boolean) ∈ TG := tg_5 139 rfl rfl
theorem ml_L_106 : Cond.methodLink RL 106 yX10_never ∈ TG := tg_5 140 rfl rfl
theorem im_X10_never : Cond.instanceMethod yX10_never ∈ TG := tg_5 141 rfl rfl
theorem se_X10_never : Cond.selects RX10 yX10_never yX10_never ∈ TG := tg_5 142 rfl rfl
theorem cd_X10_never : Cond.code yX10_never cX10_never 4 (some .int) ∈ TG := tg_5 143 rfl rfl
theorem ml_L_112 : Cond.methodLink RL 112 yX10_queue ∈ TG := tg_5 144 rfl rfl
theorem im_X10_queue : Cond.instanceMethod yX10_queue ∈ TG := tg_5 145 rfl rfl
theorem se_X10_queue : Cond.selects RX10 yX10_queue yX10_queue ∈ TG := tg_5 146 rfl rfl
theorem cd_X10_queue : Cond.code yX10_queue cX10_queue 2 (some .int) ∈ TG := tg_5 147 rfl rfl
theorem ml_L_119 : Cond.methodLink RL 119 yX10_begin ∈ TG := tg_5 148 rfl rfl
theorem im_X10_begin : Cond.instanceMethod yX10_begin ∈ TG := tg_5 149 rfl rfl
theorem se_X10_begin : Cond.selects RX10 yX10_begin yX10_begin ∈ TG := tg_5 150 rfl rfl
theorem cd_X10_begin : Cond.code yX10_begin cX10_begin 2 none ∈ TG := tg_5 151 rfl rfl
theorem ml_L_123 : Cond.methodLink RL 123 yX10_step ∈ TG := tg_5 152 rfl rfl
theorem im_X10_step : Cond.instanceMethod yX10_step ∈ TG := tg_5 153 rfl rfl
theorem se_X10_step : Cond.selects RX10 yX10_step yX10_step ∈ TG := tg_5 154 rfl rfl
theorem cd_X10_step : Cond.code yX10_step cX10_step 4 (some .int) ∈ TG := tg_5 155 rfl rfl
theorem ml_X10_250 : Cond.methodLink RX10 250 yX10_takeNow ∈ TG := tg_5 156 rfl rfl
theorem im_X10_takeNow : Cond.instanceMethod yX10_takeNow ∈ TG := tg_5 158 rfl rfl
theorem cd_X10_takeNow : Cond.code yX10_takeNow cX10_takeNow 2 none ∈ TG := tg_5 159 rfl rfl
theorem ml_L_127 : Cond.methodLink RL 127 yX10_now ∈ TG := tg_5 160 rfl rfl
theorem im_X10_now : Cond.instanceMethod yX10_now ∈ TG := tg_5 161 rfl rfl
theorem se_X10_now : Cond.selects RX10 yX10_now yX10_now ∈ TG := tg_5 162 rfl rfl
theorem cd_X10_now : Cond.code yX10_now cX10_now 2 (some .int) ∈ TG := tg_5 163 rfl rfl
theorem ml_X10_253 : Cond.methodLink RX10 253 yX10_steps ∈ TG := tg_5 164 rfl rfl
theorem im_X10_steps : Cond.instanceMethod yX10_steps ∈ TG := tg_5 166 rfl rfl
theorem cd_X10_steps : Cond.code yX10_steps cX10_steps 3 (some .int) ∈ TG := tg_5 167 rfl rfl
theorem ml_L_131 : Cond.methodLink RL 131 yX10_told ∈ TG := tg_5 168 rfl rfl
theorem im_X10_told : Cond.instanceMethod yX10_told ∈ TG := tg_5 169 rfl rfl
theorem se_X10_told : Cond.selects RX10 yX10_told yX10_told ∈ TG := tg_5 170 rfl rfl
theorem cd_X10_told : Cond.code yX10_told cX10_told 4 (some .int) ∈ TG := tg_5 171 rfl rfl
theorem se_X7_startWith : Cond.selects RX7 yX7_startWith yX7_startWith ∈ TG := tg_0 0 rfl rfl
theorem se_X5_slotFor : Cond.selects RX5 yX5_slotFor yX5_slotFor ∈ TG := tg_0 1 rfl rfl
theorem se_X5_isAlike : Cond.selects RX5 yX5_isAlike yX5_isAlike ∈ TG := tg_0 2 rfl rfl
theorem se_X5_isOpen : Cond.selects RX5 yX5_isOpen yX5_isOpen ∈ TG := tg_0 3 rfl rfl
theorem se_X7_takeNode : Cond.selects RX7 yX7_takeNode yX7_takeNode ∈ TG := tg_0 4 rfl rfl
theorem se_X4_conditionsHold : Cond.selects RX4 yX4_conditionsHold yX4_conditionsHold ∈ TG := tg_0 5 rfl rfl
theorem se_X4_behindEffects : Cond.selects RX4 yX4_behindEffects yX4_behindEffects ∈ TG := tg_0 6 rfl rfl
theorem se_X7_takeOutcome : Cond.selects RX7 yX7_takeOutcome yX7_takeOutcome ∈ TG := tg_0 7 rfl rfl
theorem se_X1_isPartMet : Cond.selects RX1 yX1_isPartMet yX1_isPartMet ∈ TG := tg_0 8 rfl rfl
theorem se_X10_noCell : Cond.selects RX10 yX10_noCell yX10_noCell ∈ TG := tg_0 10 rfl rfl
theorem se_X10_noMove : Cond.selects RX10 yX10_noMove yX10_noMove ∈ TG := tg_0 11 rfl rfl
theorem se_X10_isEffect : Cond.selects RX10 yX10_isEffect yX10_isEffect ∈ TG := tg_0 12 rfl rfl
theorem se_X10_beginSearch : Cond.selects RX10 yX10_beginSearch yX10_beginSearch ∈ TG := tg_0 13 rfl rfl
theorem se_X10_addNode : Cond.selects RX10 yX10_addNode yX10_addNode ∈ TG := tg_0 14 rfl rfl
theorem se_X10_packed : Cond.selects RX10 yX10_packed yX10_packed ∈ TG := tg_0 15 rfl rfl
theorem se_X10_placeOf : Cond.selects RX10 yX10_placeOf yX10_placeOf ∈ TG := tg_0 16 rfl rfl
theorem se_X10_scoreOf : Cond.selects RX10 yX10_scoreOf yX10_scoreOf ∈ TG := tg_0 17 rfl rfl
theorem se_X10_nextNode : Cond.selects RX10 yX10_nextNode yX10_nextNode ∈ TG := tg_0 18 rfl rfl
theorem se_X10_tryAll : Cond.selects RX10 yX10_tryAll yX10_tryAll ∈ TG := tg_0 19 rfl rfl
theorem se_X10_unpack : Cond.selects RX10 yX10_unpack yX10_unpack ∈ TG := tg_0 20 rfl rfl
theorem se_X10_stepAt : Cond.selects RX10 yX10_stepAt yX10_stepAt ∈ TG := tg_0 21 rfl rfl
theorem se_X10_doStep : Cond.selects RX10 yX10_doStep yX10_doStep ∈ TG := tg_0 22 rfl rfl
theorem se_X10_canMove : Cond.selects RX10 yX10_canMove yX10_canMove ∈ TG := tg_0 23 rfl rfl
theorem se_X10_doMove : Cond.selects RX10 yX10_doMove yX10_doMove ∈ TG := tg_0 24 rfl rfl
theorem se_X10_chance : Cond.selects RX10 yX10_chance yX10_chance ∈ TG := tg_0 25 rfl rfl
theorem se_X10_meets : Cond.selects RX10 yX10_meets yX10_meets ∈ TG := tg_0 26 rfl rfl
theorem se_X10_tellPlay : Cond.selects RX10 yX10_tellPlay yX10_tellPlay ∈ TG := tg_0 27 rfl rfl
theorem se_X10_noNode : Cond.selects RX10 yX10_noNode yX10_noNode ∈ TG := tg_0 28 rfl rfl
theorem se_X10_takeNow : Cond.selects RX10 yX10_takeNow yX10_takeNow ∈ TG := tg_0 29 rfl rfl
theorem se_X10_steps : Cond.selects RX10 yX10_steps yX10_steps ∈ TG := tg_0 30 rfl rfl
theorem ly_X0 : ∀ x ∈ u_ws RX0 TX0 5, x ∈ TG := by
  intro x hx
  obtain ⟨k, hk, rfl⟩ := List.mem_map.mp hx
  have hk := List.mem_range.mp hk
  match k, hk with
  | 0, _ => exact tg_1 53 rfl rfl
  | 1, _ => exact tg_1 55 rfl rfl
  | 2, _ => exact tg_1 57 rfl rfl
  | 3, _ => exact tg_1 59 rfl rfl
  | 4, _ => exact tg_1 61 rfl rfl
  | k + 5, hk => exact absurd hk (by omega)
theorem ly_X1 : ∀ x ∈ u_ws RX1 TX1 4, x ∈ TG := by
  intro x hx
  obtain ⟨k, hk, rfl⟩ := List.mem_map.mp hx
  have hk := List.mem_range.mp hk
  match k, hk with
  | 0, _ => exact tg_1 145 rfl rfl
  | 1, _ => exact tg_1 147 rfl rfl
  | 2, _ => exact tg_1 149 rfl rfl
  | 3, _ => exact tg_1 151 rfl rfl
  | k + 4, hk => exact absurd hk (by omega)
theorem ly_X2 : ∀ x ∈ u_ws RX2 TX2 5, x ∈ TG := by
  intro x hx
  obtain ⟨k, hk, rfl⟩ := List.mem_map.mp hx
  have hk := List.mem_range.mp hk
  match k, hk with
  | 0, _ => exact tg_1 123 rfl rfl
  | 1, _ => exact tg_1 125 rfl rfl
  | 2, _ => exact tg_1 127 rfl rfl
  | 3, _ => exact tg_1 129 rfl rfl
  | 4, _ => exact tg_1 131 rfl rfl
  | k + 5, hk => exact absurd hk (by omega)
theorem ly_X3 : ∀ x ∈ u_ws RX3 TX3 4, x ∈ TG := by
  intro x hx
  obtain ⟨k, hk, rfl⟩ := List.mem_map.mp hx
  have hk := List.mem_range.mp hk
  match k, hk with
  | 0, _ => exact tg_1 176 rfl rfl
  | 1, _ => exact tg_1 178 rfl rfl
  | 2, _ => exact tg_1 180 rfl rfl
  | 3, _ => exact tg_1 182 rfl rfl
  | k + 4, hk => exact absurd hk (by omega)
theorem ly_X4 : ∀ x ∈ u_ws RX4 TX4 11, x ∈ TG := by
  intro x hx
  obtain ⟨k, hk, rfl⟩ := List.mem_map.mp hx
  have hk := List.mem_range.mp hk
  match k, hk with
  | 0, _ => exact tg_1 86 rfl rfl
  | 1, _ => exact tg_1 88 rfl rfl
  | 2, _ => exact tg_1 90 rfl rfl
  | 3, _ => exact tg_1 92 rfl rfl
  | 4, _ => exact tg_1 94 rfl rfl
  | 5, _ => exact tg_1 96 rfl rfl
  | 6, _ => exact tg_1 98 rfl rfl
  | 7, _ => exact tg_1 100 rfl rfl
  | 8, _ => exact tg_1 102 rfl rfl
  | 9, _ => exact tg_1 104 rfl rfl
  | 10, _ => exact tg_1 106 rfl rfl
  | k + 11, hk => exact absurd hk (by omega)
theorem ly_X5 : ∀ x ∈ u_ws RX5 TX5 13, x ∈ TG := by
  intro x hx
  obtain ⟨k, hk, rfl⟩ := List.mem_map.mp hx
  have hk := List.mem_range.mp hk
  match k, hk with
  | 0, _ => exact tg_2 4 rfl rfl
  | 1, _ => exact tg_2 6 rfl rfl
  | 2, _ => exact tg_2 8 rfl rfl
  | 3, _ => exact tg_2 10 rfl rfl
  | 4, _ => exact tg_2 12 rfl rfl
  | 5, _ => exact tg_2 14 rfl rfl
  | 6, _ => exact tg_2 16 rfl rfl
  | 7, _ => exact tg_2 18 rfl rfl
  | 8, _ => exact tg_2 20 rfl rfl
  | 9, _ => exact tg_2 22 rfl rfl
  | 10, _ => exact tg_2 24 rfl rfl
  | 11, _ => exact tg_2 26 rfl rfl
  | 12, _ => exact tg_2 28 rfl rfl
  | k + 13, hk => exact absurd hk (by omega)
theorem ly_X6 : ∀ x ∈ u_ws RX6 TX6 3, x ∈ TG := by
  intro x hx
  obtain ⟨k, hk, rfl⟩ := List.mem_map.mp hx
  have hk := List.mem_range.mp hk
  match k, hk with
  | 0, _ => exact tg_2 43 rfl rfl
  | 1, _ => exact tg_2 45 rfl rfl
  | 2, _ => exact tg_2 47 rfl rfl
  | k + 3, hk => exact absurd hk (by omega)
theorem ly_X7 : ∀ x ∈ u_ws RX7 TX7 8, x ∈ TG := by
  intro x hx
  obtain ⟨k, hk, rfl⟩ := List.mem_map.mp hx
  have hk := List.mem_range.mp hk
  match k, hk with
  | 0, _ => exact tg_2 67 rfl rfl
  | 1, _ => exact tg_2 69 rfl rfl
  | 2, _ => exact tg_2 71 rfl rfl
  | 3, _ => exact tg_2 73 rfl rfl
  | 4, _ => exact tg_2 75 rfl rfl
  | 5, _ => exact tg_2 77 rfl rfl
  | 6, _ => exact tg_2 79 rfl rfl
  | 7, _ => exact tg_2 81 rfl rfl
  | k + 8, hk => exact absurd hk (by omega)
theorem ly_X8 : ∀ x ∈ u_ws RX8 TX8 5, x ∈ TG := by
  intro x hx
  obtain ⟨k, hk, rfl⟩ := List.mem_map.mp hx
  have hk := List.mem_range.mp hk
  match k, hk with
  | 0, _ => exact tg_1 200 rfl rfl
  | 1, _ => exact tg_1 202 rfl rfl
  | 2, _ => exact tg_1 204 rfl rfl
  | 3, _ => exact tg_1 206 rfl rfl
  | 4, _ => exact tg_1 208 rfl rfl
  | k + 5, hk => exact absurd hk (by omega)
theorem ly_X9 : ∀ x ∈ u_ws RX9 TX9 4, x ∈ TG := by
  intro x hx
  obtain ⟨k, hk, rfl⟩ := List.mem_map.mp hx
  have hk := List.mem_range.mp hk
  match k, hk with
  | 0, _ => exact tg_2 90 rfl rfl
  | 1, _ => exact tg_2 92 rfl rfl
  | 2, _ => exact tg_2 94 rfl rfl
  | 3, _ => exact tg_2 96 rfl rfl
  | k + 4, hk => exact absurd hk (by omega)
theorem ly_X10 : ∀ x ∈ u_ws RX10 TX10 52, x ∈ TG := by
  intro x hx
  obtain ⟨k, hk, rfl⟩ := List.mem_map.mp hx
  have hk := List.mem_range.mp hk
  match k, hk with
  | 0, _ => exact tg_4 114 rfl rfl
  | 1, _ => exact tg_4 116 rfl rfl
  | 2, _ => exact tg_4 118 rfl rfl
  | 3, _ => exact tg_4 120 rfl rfl
  | 4, _ => exact tg_4 122 rfl rfl
  | 5, _ => exact tg_4 124 rfl rfl
  | 6, _ => exact tg_4 126 rfl rfl
  | 7, _ => exact tg_4 128 rfl rfl
  | 8, _ => exact tg_4 130 rfl rfl
  | 9, _ => exact tg_4 132 rfl rfl
  | 10, _ => exact tg_4 134 rfl rfl
  | 11, _ => exact tg_4 136 rfl rfl
  | 12, _ => exact tg_4 138 rfl rfl
  | 13, _ => exact tg_4 140 rfl rfl
  | 14, _ => exact tg_4 142 rfl rfl
  | 15, _ => exact tg_4 144 rfl rfl
  | 16, _ => exact tg_4 146 rfl rfl
  | 17, _ => exact tg_4 148 rfl rfl
  | 18, _ => exact tg_4 150 rfl rfl
  | 19, _ => exact tg_4 152 rfl rfl
  | 20, _ => exact tg_4 154 rfl rfl
  | 21, _ => exact tg_4 156 rfl rfl
  | 22, _ => exact tg_4 158 rfl rfl
  | 23, _ => exact tg_4 160 rfl rfl
  | 24, _ => exact tg_4 162 rfl rfl
  | 25, _ => exact tg_4 164 rfl rfl
  | 26, _ => exact tg_4 166 rfl rfl
  | 27, _ => exact tg_4 168 rfl rfl
  | 28, _ => exact tg_4 170 rfl rfl
  | 29, _ => exact tg_4 172 rfl rfl
  | 30, _ => exact tg_4 174 rfl rfl
  | 31, _ => exact tg_4 176 rfl rfl
  | 32, _ => exact tg_4 178 rfl rfl
  | 33, _ => exact tg_4 180 rfl rfl
  | 34, _ => exact tg_4 182 rfl rfl
  | 35, _ => exact tg_4 184 rfl rfl
  | 36, _ => exact tg_4 186 rfl rfl
  | 37, _ => exact tg_4 188 rfl rfl
  | 38, _ => exact tg_4 190 rfl rfl
  | 39, _ => exact tg_4 192 rfl rfl
  | 40, _ => exact tg_4 194 rfl rfl
  | 41, _ => exact tg_4 196 rfl rfl
  | 42, _ => exact tg_4 198 rfl rfl
  | 43, _ => exact tg_4 200 rfl rfl
  | 44, _ => exact tg_4 202 rfl rfl
  | 45, _ => exact tg_4 204 rfl rfl
  | 46, _ => exact tg_4 206 rfl rfl
  | 47, _ => exact tg_4 208 rfl rfl
  | 48, _ => exact tg_4 210 rfl rfl
  | 49, _ => exact tg_4 212 rfl rfl
  | 50, _ => exact tg_4 214 rfl rfl
  | 51, _ => exact tg_4 216 rfl rfl
  | k + 52, hk => exact absurd hk (by omega)
theorem ly_Jx00060 : ∀ x ∈ u_ws RJx00060 TJx00060 6, x ∈ TG := by
  intro x hx
  obtain ⟨k, hk, rfl⟩ := List.mem_map.mp hx
  have hk := List.mem_range.mp hk
  match k, hk with
  | 0, _ => exact tg_3 238 rfl rfl
  | 1, _ => exact tg_4 0 rfl rfl
  | 2, _ => exact tg_4 2 rfl rfl
  | 3, _ => exact tg_4 4 rfl rfl
  | 4, _ => exact tg_4 6 rfl rfl
  | 5, _ => exact tg_4 51 rfl rfl
  | k + 6, hk => exact absurd hk (by omega)
theorem hd_X0_init : yX0_init.cls ≠ "java/lang/invoke/MethodHandle" ∧ yX0_init.cls ≠ "java/lang/invoke/VarHandle" ∧ (parseMethodDescriptor yX0_init.desc).map (fun d => d.parameters.length) = some 0 := by decide +kernel
theorem hd_X0_has : yX0_has.cls ≠ "java/lang/invoke/MethodHandle" ∧ yX0_has.cls ≠ "java/lang/invoke/VarHandle" ∧ (parseMethodDescriptor yX0_has.desc).map (fun d => d.parameters.length) = some 1 := by decide +kernel
theorem hd_X0_add : yX0_add.cls ≠ "java/lang/invoke/MethodHandle" ∧ yX0_add.cls ≠ "java/lang/invoke/VarHandle" ∧ (parseMethodDescriptor yX0_add.desc).map (fun d => d.parameters.length) = some 2 := by decide +kernel
theorem hd_X0_score : yX0_score.cls ≠ "java/lang/invoke/MethodHandle" ∧ yX0_score.cls ≠ "java/lang/invoke/VarHandle" ∧ (parseMethodDescriptor yX0_score.desc).map (fun d => d.parameters.length) = some 1 := by decide +kernel
theorem hd_X1_init : yX1_init.cls ≠ "java/lang/invoke/MethodHandle" ∧ yX1_init.cls ≠ "java/lang/invoke/VarHandle" ∧ (parseMethodDescriptor yX1_init.desc).map (fun d => d.parameters.length) = some 0 := by decide +kernel
theorem hd_X1_isPart : yX1_isPart.cls ≠ "java/lang/invoke/MethodHandle" ∧ yX1_isPart.cls ≠ "java/lang/invoke/VarHandle" ∧ (parseMethodDescriptor yX1_isPart.desc).map (fun d => d.parameters.length) = some 4 := by decide +kernel
theorem hd_X1_add : yX1_add.cls ≠ "java/lang/invoke/MethodHandle" ∧ yX1_add.cls ≠ "java/lang/invoke/VarHandle" ∧ (parseMethodDescriptor yX1_add.desc).map (fun d => d.parameters.length) = some 3 := by decide +kernel
theorem hd_X1_isMet : yX1_isMet.cls ≠ "java/lang/invoke/MethodHandle" ∧ yX1_isMet.cls ≠ "java/lang/invoke/VarHandle" ∧ (parseMethodDescriptor yX1_isMet.desc).map (fun d => d.parameters.length) = some 3 := by decide +kernel
theorem hd_X1_isPartMet : yX1_isPartMet.cls ≠ "java/lang/invoke/MethodHandle" ∧ yX1_isPartMet.cls ≠ "java/lang/invoke/VarHandle" ∧ (parseMethodDescriptor yX1_isPartMet.desc).map (fun d => d.parameters.length) = some 4 := by decide +kernel
theorem hd_X2_init : yX2_init.cls ≠ "java/lang/invoke/MethodHandle" ∧ yX2_init.cls ≠ "java/lang/invoke/VarHandle" ∧ (parseMethodDescriptor yX2_init.desc).map (fun d => d.parameters.length) = some 0 := by decide +kernel
theorem hd_X2_addToDraft : yX2_addToDraft.cls ≠ "java/lang/invoke/MethodHandle" ∧ yX2_addToDraft.cls ≠ "java/lang/invoke/VarHandle" ∧ (parseMethodDescriptor yX2_addToDraft.desc).map (fun d => d.parameters.length) = some 1 := by decide +kernel
theorem hd_X2_addDraft : yX2_addDraft.cls ≠ "java/lang/invoke/MethodHandle" ∧ yX2_addDraft.cls ≠ "java/lang/invoke/VarHandle" ∧ (parseMethodDescriptor yX2_addDraft.desc).map (fun d => d.parameters.length) = some 0 := by decide +kernel
theorem hd_X2_sizeOf : yX2_sizeOf.cls ≠ "java/lang/invoke/MethodHandle" ∧ yX2_sizeOf.cls ≠ "java/lang/invoke/VarHandle" ∧ (parseMethodDescriptor yX2_sizeOf.desc).map (fun d => d.parameters.length) = some 1 := by decide +kernel
theorem hd_X2_moveOf : yX2_moveOf.cls ≠ "java/lang/invoke/MethodHandle" ∧ yX2_moveOf.cls ≠ "java/lang/invoke/VarHandle" ∧ (parseMethodDescriptor yX2_moveOf.desc).map (fun d => d.parameters.length) = some 2 := by decide +kernel
theorem hd_X3_init : yX3_init.cls ≠ "java/lang/invoke/MethodHandle" ∧ yX3_init.cls ≠ "java/lang/invoke/VarHandle" ∧ (parseMethodDescriptor yX3_init.desc).map (fun d => d.parameters.length) = some 0 := by decide +kernel
theorem hd_X3_start : yX3_start.cls ≠ "java/lang/invoke/MethodHandle" ∧ yX3_start.cls ≠ "java/lang/invoke/VarHandle" ∧ (parseMethodDescriptor yX3_start.desc).map (fun d => d.parameters.length) = some 1 := by decide +kernel
theorem hd_X3_become : yX3_become.cls ≠ "java/lang/invoke/MethodHandle" ∧ yX3_become.cls ≠ "java/lang/invoke/VarHandle" ∧ (parseMethodDescriptor yX3_become.desc).map (fun d => d.parameters.length) = some 1 := by decide +kernel
theorem hd_X3_hear : yX3_hear.cls ≠ "java/lang/invoke/MethodHandle" ∧ yX3_hear.cls ≠ "java/lang/invoke/VarHandle" ∧ (parseMethodDescriptor yX3_hear.desc).map (fun d => d.parameters.length) = some 1 := by decide +kernel
theorem hd_X4_init : yX4_init.cls ≠ "java/lang/invoke/MethodHandle" ∧ yX4_init.cls ≠ "java/lang/invoke/VarHandle" ∧ (parseMethodDescriptor yX4_init.desc).map (fun d => d.parameters.length) = some 0 := by decide +kernel
theorem hd_X4_isRelation : yX4_isRelation.cls ≠ "java/lang/invoke/MethodHandle" ∧ yX4_isRelation.cls ≠ "java/lang/invoke/VarHandle" ∧ (parseMethodDescriptor yX4_isRelation.desc).map (fun d => d.parameters.length) = some 1 := by decide +kernel
theorem hd_X4_isEffect : yX4_isEffect.cls ≠ "java/lang/invoke/MethodHandle" ∧ yX4_isEffect.cls ≠ "java/lang/invoke/VarHandle" ∧ (parseMethodDescriptor yX4_isEffect.desc).map (fun d => d.parameters.length) = some 3 := by decide +kernel
theorem hd_X4_has : yX4_has.cls ≠ "java/lang/invoke/MethodHandle" ∧ yX4_has.cls ≠ "java/lang/invoke/VarHandle" ∧ (parseMethodDescriptor yX4_has.desc).map (fun d => d.parameters.length) = some 1 := by decide +kernel
theorem hd_X4_add : yX4_add.cls ≠ "java/lang/invoke/MethodHandle" ∧ yX4_add.cls ≠ "java/lang/invoke/VarHandle" ∧ (parseMethodDescriptor yX4_add.desc).map (fun d => d.parameters.length) = some 0 := by decide +kernel
theorem hd_X4_addCondition : yX4_addCondition.cls ≠ "java/lang/invoke/MethodHandle" ∧ yX4_addCondition.cls ≠ "java/lang/invoke/VarHandle" ∧ (parseMethodDescriptor yX4_addCondition.desc).map (fun d => d.parameters.length) = some 4 := by decide +kernel
theorem hd_X4_addEffect : yX4_addEffect.cls ≠ "java/lang/invoke/MethodHandle" ∧ yX4_addEffect.cls ≠ "java/lang/invoke/VarHandle" ∧ (parseMethodDescriptor yX4_addEffect.desc).map (fun d => d.parameters.length) = some 4 := by decide +kernel
theorem hd_X4_textsOfAll : yX4_textsOfAll.cls ≠ "java/lang/invoke/MethodHandle" ∧ yX4_textsOfAll.cls ≠ "java/lang/invoke/VarHandle" ∧ (parseMethodDescriptor yX4_textsOfAll.desc).map (fun d => d.parameters.length) = some 0 := by decide +kernel
theorem hd_X4_carryOut : yX4_carryOut.cls ≠ "java/lang/invoke/MethodHandle" ∧ yX4_carryOut.cls ≠ "java/lang/invoke/VarHandle" ∧ (parseMethodDescriptor yX4_carryOut.desc).map (fun d => d.parameters.length) = some 3 := by decide +kernel
theorem hd_X4_conditionsHold : yX4_conditionsHold.cls ≠ "java/lang/invoke/MethodHandle" ∧ yX4_conditionsHold.cls ≠ "java/lang/invoke/VarHandle" ∧ (parseMethodDescriptor yX4_conditionsHold.desc).map (fun d => d.parameters.length) = some 2 := by decide +kernel
theorem hd_X4_holds : yX4_holds.cls ≠ "java/lang/invoke/MethodHandle" ∧ yX4_holds.cls ≠ "java/lang/invoke/VarHandle" ∧ (parseMethodDescriptor yX4_holds.desc).map (fun d => d.parameters.length) = some 3 := by decide +kernel
theorem hd_X4_behindEffects : yX4_behindEffects.cls ≠ "java/lang/invoke/MethodHandle" ∧ yX4_behindEffects.cls ≠ "java/lang/invoke/VarHandle" ∧ (parseMethodDescriptor yX4_behindEffects.desc).map (fun d => d.parameters.length) = some 3 := by decide +kernel
theorem hd_X4_chance : yX4_chance.cls ≠ "java/lang/invoke/MethodHandle" ∧ yX4_chance.cls ≠ "java/lang/invoke/VarHandle" ∧ (parseMethodDescriptor yX4_chance.desc).map (fun d => d.parameters.length) = some 3 := by decide +kernel
theorem hd_X5_init : yX5_init.cls ≠ "java/lang/invoke/MethodHandle" ∧ yX5_init.cls ≠ "java/lang/invoke/VarHandle" ∧ (parseMethodDescriptor yX5_init.desc).map (fun d => d.parameters.length) = some 0 := by decide +kernel
theorem hd_X5_has : yX5_has.cls ≠ "java/lang/invoke/MethodHandle" ∧ yX5_has.cls ≠ "java/lang/invoke/VarHandle" ∧ (parseMethodDescriptor yX5_has.desc).map (fun d => d.parameters.length) = some 1 := by decide +kernel
theorem hd_X5_startWith : yX5_startWith.cls ≠ "java/lang/invoke/MethodHandle" ∧ yX5_startWith.cls ≠ "java/lang/invoke/VarHandle" ∧ (parseMethodDescriptor yX5_startWith.desc).map (fun d => d.parameters.length) = some 1 := by decide +kernel
theorem hd_X5_add : yX5_add.cls ≠ "java/lang/invoke/MethodHandle" ∧ yX5_add.cls ≠ "java/lang/invoke/VarHandle" ∧ (parseMethodDescriptor yX5_add.desc).map (fun d => d.parameters.length) = some 4 := by decide +kernel
theorem hd_X5_hasAlike : yX5_hasAlike.cls ≠ "java/lang/invoke/MethodHandle" ∧ yX5_hasAlike.cls ≠ "java/lang/invoke/VarHandle" ∧ (parseMethodDescriptor yX5_hasAlike.desc).map (fun d => d.parameters.length) = some 1 := by decide +kernel
theorem hd_X5_slotFor : yX5_slotFor.cls ≠ "java/lang/invoke/MethodHandle" ∧ yX5_slotFor.cls ≠ "java/lang/invoke/VarHandle" ∧ (parseMethodDescriptor yX5_slotFor.desc).map (fun d => d.parameters.length) = some 1 := by decide +kernel
theorem hd_X5_isAlike : yX5_isAlike.cls ≠ "java/lang/invoke/MethodHandle" ∧ yX5_isAlike.cls ≠ "java/lang/invoke/VarHandle" ∧ (parseMethodDescriptor yX5_isAlike.desc).map (fun d => d.parameters.length) = some 2 := by decide +kernel
theorem hd_X5_isOpen : yX5_isOpen.cls ≠ "java/lang/invoke/MethodHandle" ∧ yX5_isOpen.cls ≠ "java/lang/invoke/VarHandle" ∧ (parseMethodDescriptor yX5_isOpen.desc).map (fun d => d.parameters.length) = some 1 := by decide +kernel
theorem hd_X5_leastOpen : yX5_leastOpen.cls ≠ "java/lang/invoke/MethodHandle" ∧ yX5_leastOpen.cls ≠ "java/lang/invoke/VarHandle" ∧ (parseMethodDescriptor yX5_leastOpen.desc).map (fun d => d.parameters.length) = some 1 := by decide +kernel
theorem hd_X5_bestOpen : yX5_bestOpen.cls ≠ "java/lang/invoke/MethodHandle" ∧ yX5_bestOpen.cls ≠ "java/lang/invoke/VarHandle" ∧ (parseMethodDescriptor yX5_bestOpen.desc).map (fun d => d.parameters.length) = some 0 := by decide +kernel
theorem hd_X5_take : yX5_take.cls ≠ "java/lang/invoke/MethodHandle" ∧ yX5_take.cls ≠ "java/lang/invoke/VarHandle" ∧ (parseMethodDescriptor yX5_take.desc).map (fun d => d.parameters.length) = some 1 := by decide +kernel
theorem hd_X5_markDead : yX5_markDead.cls ≠ "java/lang/invoke/MethodHandle" ∧ yX5_markDead.cls ≠ "java/lang/invoke/VarHandle" ∧ (parseMethodDescriptor yX5_markDead.desc).map (fun d => d.parameters.length) = some 1 := by decide +kernel
theorem hd_X5_tell : yX5_tell.cls ≠ "java/lang/invoke/MethodHandle" ∧ yX5_tell.cls ≠ "java/lang/invoke/VarHandle" ∧ (parseMethodDescriptor yX5_tell.desc).map (fun d => d.parameters.length) = some 2 := by decide +kernel
theorem hd_X6_init : yX6_init.cls ≠ "java/lang/invoke/MethodHandle" ∧ yX6_init.cls ≠ "java/lang/invoke/VarHandle" ∧ (parseMethodDescriptor yX6_init.desc).map (fun d => d.parameters.length) = some 0 := by decide +kernel
theorem hd_X6_forget : yX6_forget.cls ≠ "java/lang/invoke/MethodHandle" ∧ yX6_forget.cls ≠ "java/lang/invoke/VarHandle" ∧ (parseMethodDescriptor yX6_forget.desc).map (fun d => d.parameters.length) = some 0 := by decide +kernel
theorem hd_X6_take : yX6_take.cls ≠ "java/lang/invoke/MethodHandle" ∧ yX6_take.cls ≠ "java/lang/invoke/VarHandle" ∧ (parseMethodDescriptor yX6_take.desc).map (fun d => d.parameters.length) = some 3 := by decide +kernel
theorem hd_X6_moveAt : yX6_moveAt.cls ≠ "java/lang/invoke/MethodHandle" ∧ yX6_moveAt.cls ≠ "java/lang/invoke/VarHandle" ∧ (parseMethodDescriptor yX6_moveAt.desc).map (fun d => d.parameters.length) = some 1 := by decide +kernel
theorem hd_X7_init : yX7_init.cls ≠ "java/lang/invoke/MethodHandle" ∧ yX7_init.cls ≠ "java/lang/invoke/VarHandle" ∧ (parseMethodDescriptor yX7_init.desc).map (fun d => d.parameters.length) = some 0 := by decide +kernel
theorem hd_X7_run : yX7_run.cls ≠ "java/lang/invoke/MethodHandle" ∧ yX7_run.cls ≠ "java/lang/invoke/VarHandle" ∧ (parseMethodDescriptor yX7_run.desc).map (fun d => d.parameters.length) = some 3 := by decide +kernel
theorem hd_X7_startWith : yX7_startWith.cls ≠ "java/lang/invoke/MethodHandle" ∧ yX7_startWith.cls ≠ "java/lang/invoke/VarHandle" ∧ (parseMethodDescriptor yX7_startWith.desc).map (fun d => d.parameters.length) = some 1 := by decide +kernel
theorem hd_X7_takeNode : yX7_takeNode.cls ≠ "java/lang/invoke/MethodHandle" ∧ yX7_takeNode.cls ≠ "java/lang/invoke/VarHandle" ∧ (parseMethodDescriptor yX7_takeNode.desc).map (fun d => d.parameters.length) = some 3 := by decide +kernel
theorem hd_X7_takeOutcome : yX7_takeOutcome.cls ≠ "java/lang/invoke/MethodHandle" ∧ yX7_takeOutcome.cls ≠ "java/lang/invoke/VarHandle" ∧ (parseMethodDescriptor yX7_takeOutcome.desc).map (fun d => d.parameters.length) = some 4 := by decide +kernel
theorem hd_X8_init : yX8_init.cls ≠ "java/lang/invoke/MethodHandle" ∧ yX8_init.cls ≠ "java/lang/invoke/VarHandle" ∧ (parseMethodDescriptor yX8_init.desc).map (fun d => d.parameters.length) = some 0 := by decide +kernel
theorem hd_X8_stepCount : yX8_stepCount.cls ≠ "java/lang/invoke/MethodHandle" ∧ yX8_stepCount.cls ≠ "java/lang/invoke/VarHandle" ∧ (parseMethodDescriptor yX8_stepCount.desc).map (fun d => d.parameters.length) = some 0 := by decide +kernel
theorem hd_X8_stepBy : yX8_stepBy.cls ≠ "java/lang/invoke/MethodHandle" ∧ yX8_stepBy.cls ≠ "java/lang/invoke/VarHandle" ∧ (parseMethodDescriptor yX8_stepBy.desc).map (fun d => d.parameters.length) = some 1 := by decide +kernel
theorem hd_X8_hasStep : yX8_hasStep.cls ≠ "java/lang/invoke/MethodHandle" ∧ yX8_hasStep.cls ≠ "java/lang/invoke/VarHandle" ∧ (parseMethodDescriptor yX8_hasStep.desc).map (fun d => d.parameters.length) = some 1 := by decide +kernel
theorem hd_X8_tries : yX8_tries.cls ≠ "java/lang/invoke/MethodHandle" ∧ yX8_tries.cls ≠ "java/lang/invoke/VarHandle" ∧ (parseMethodDescriptor yX8_tries.desc).map (fun d => d.parameters.length) = some 2 := by decide +kernel
theorem hd_X8_countSteps : yX8_countSteps.cls ≠ "java/lang/invoke/MethodHandle" ∧ yX8_countSteps.cls ≠ "java/lang/invoke/VarHandle" ∧ (parseMethodDescriptor yX8_countSteps.desc).map (fun d => d.parameters.length) = some 1 := by decide +kernel
theorem hd_X8_isGoal : yX8_isGoal.cls ≠ "java/lang/invoke/MethodHandle" ∧ yX8_isGoal.cls ≠ "java/lang/invoke/VarHandle" ∧ (parseMethodDescriptor yX8_isGoal.desc).map (fun d => d.parameters.length) = some 2 := by decide +kernel
theorem hd_X9_init : yX9_init.cls ≠ "java/lang/invoke/MethodHandle" ∧ yX9_init.cls ≠ "java/lang/invoke/VarHandle" ∧ (parseMethodDescriptor yX9_init.desc).map (fun d => d.parameters.length) = some 0 := by decide +kernel
theorem hd_X9_cell : yX9_cell.cls ≠ "java/lang/invoke/MethodHandle" ∧ yX9_cell.cls ≠ "java/lang/invoke/VarHandle" ∧ (parseMethodDescriptor yX9_cell.desc).map (fun d => d.parameters.length) = some 2 := by decide +kernel
theorem hd_X9_weigh : yX9_weigh.cls ≠ "java/lang/invoke/MethodHandle" ∧ yX9_weigh.cls ≠ "java/lang/invoke/VarHandle" ∧ (parseMethodDescriptor yX9_weigh.desc).map (fun d => d.parameters.length) = some 2 := by decide +kernel
theorem hd_X9_move : yX9_move.cls ≠ "java/lang/invoke/MethodHandle" ∧ yX9_move.cls ≠ "java/lang/invoke/VarHandle" ∧ (parseMethodDescriptor yX9_move.desc).map (fun d => d.parameters.length) = some 0 := by decide +kernel
theorem hd_X9_when : yX9_when.cls ≠ "java/lang/invoke/MethodHandle" ∧ yX9_when.cls ≠ "java/lang/invoke/VarHandle" ∧ (parseMethodDescriptor yX9_when.desc).map (fun d => d.parameters.length) = some 4 := by decide +kernel
theorem hd_X9_then : yX9_then.cls ≠ "java/lang/invoke/MethodHandle" ∧ yX9_then.cls ≠ "java/lang/invoke/VarHandle" ∧ (parseMethodDescriptor yX9_then.desc).map (fun d => d.parameters.length) = some 4 := by decide +kernel
theorem hd_X9_show : yX9_show.cls ≠ "java/lang/invoke/MethodHandle" ∧ yX9_show.cls ≠ "java/lang/invoke/VarHandle" ∧ (parseMethodDescriptor yX9_show.desc).map (fun d => d.parameters.length) = some 2 := by decide +kernel
theorem hd_X9_ends : yX9_ends.cls ≠ "java/lang/invoke/MethodHandle" ∧ yX9_ends.cls ≠ "java/lang/invoke/VarHandle" ∧ (parseMethodDescriptor yX9_ends.desc).map (fun d => d.parameters.length) = some 2 := by decide +kernel
theorem hd_X9_of : yX9_of.cls ≠ "java/lang/invoke/MethodHandle" ∧ yX9_of.cls ≠ "java/lang/invoke/VarHandle" ∧ (parseMethodDescriptor yX9_of.desc).map (fun d => d.parameters.length) = some 1 := by decide +kernel
theorem hd_X9_macro : yX9_macro.cls ≠ "java/lang/invoke/MethodHandle" ∧ yX9_macro.cls ≠ "java/lang/invoke/VarHandle" ∧ (parseMethodDescriptor yX9_macro.desc).map (fun d => d.parameters.length) = some 0 := by decide +kernel
theorem hd_X9_goal : yX9_goal.cls ≠ "java/lang/invoke/MethodHandle" ∧ yX9_goal.cls ≠ "java/lang/invoke/VarHandle" ∧ (parseMethodDescriptor yX9_goal.desc).map (fun d => d.parameters.length) = some 3 := by decide +kernel
theorem hd_X9_clear : yX9_clear.cls ≠ "java/lang/invoke/MethodHandle" ∧ yX9_clear.cls ≠ "java/lang/invoke/VarHandle" ∧ (parseMethodDescriptor yX9_clear.desc).map (fun d => d.parameters.length) = some 0 := by decide +kernel
theorem hd_X9_search : yX9_search.cls ≠ "java/lang/invoke/MethodHandle" ∧ yX9_search.cls ≠ "java/lang/invoke/VarHandle" ∧ (parseMethodDescriptor yX9_search.desc).map (fun d => d.parameters.length) = some 2 := by decide +kernel
theorem hd_X9_length : yX9_length.cls ≠ "java/lang/invoke/MethodHandle" ∧ yX9_length.cls ≠ "java/lang/invoke/VarHandle" ∧ (parseMethodDescriptor yX9_length.desc).map (fun d => d.parameters.length) = some 0 := by decide +kernel
theorem hd_X9_at : yX9_at.cls ≠ "java/lang/invoke/MethodHandle" ∧ yX9_at.cls ≠ "java/lang/invoke/VarHandle" ∧ (parseMethodDescriptor yX9_at.desc).map (fun d => d.parameters.length) = some 1 := by decide +kernel
theorem hd_X9_shortest : yX9_shortest.cls ≠ "java/lang/invoke/MethodHandle" ∧ yX9_shortest.cls ≠ "java/lang/invoke/VarHandle" ∧ (parseMethodDescriptor yX9_shortest.desc).map (fun d => d.parameters.length) = some 0 := by decide +kernel
theorem hd_X9_replays : yX9_replays.cls ≠ "java/lang/invoke/MethodHandle" ∧ yX9_replays.cls ≠ "java/lang/invoke/VarHandle" ∧ (parseMethodDescriptor yX9_replays.desc).map (fun d => d.parameters.length) = some 0 := by decide +kernel
theorem hd_X9_node : yX9_node.cls ≠ "java/lang/invoke/MethodHandle" ∧ yX9_node.cls ≠ "java/lang/invoke/VarHandle" ∧ (parseMethodDescriptor yX9_node.desc).map (fun d => d.parameters.length) = some 2 := by decide +kernel
theorem hd_X9_meet : yX9_meet.cls ≠ "java/lang/invoke/MethodHandle" ∧ yX9_meet.cls ≠ "java/lang/invoke/VarHandle" ∧ (parseMethodDescriptor yX9_meet.desc).map (fun d => d.parameters.length) = some 2 := by decide +kernel
theorem hd_X9_seen : yX9_seen.cls ≠ "java/lang/invoke/MethodHandle" ∧ yX9_seen.cls ≠ "java/lang/invoke/VarHandle" ∧ (parseMethodDescriptor yX9_seen.desc).map (fun d => d.parameters.length) = some 1 := by decide +kernel
theorem hd_X9_never : yX9_never.cls ≠ "java/lang/invoke/MethodHandle" ∧ yX9_never.cls ≠ "java/lang/invoke/VarHandle" ∧ (parseMethodDescriptor yX9_never.desc).map (fun d => d.parameters.length) = some 1 := by decide +kernel
theorem hd_X9_queue : yX9_queue.cls ≠ "java/lang/invoke/MethodHandle" ∧ yX9_queue.cls ≠ "java/lang/invoke/VarHandle" ∧ (parseMethodDescriptor yX9_queue.desc).map (fun d => d.parameters.length) = some 1 := by decide +kernel
theorem hd_X9_begin : yX9_begin.cls ≠ "java/lang/invoke/MethodHandle" ∧ yX9_begin.cls ≠ "java/lang/invoke/VarHandle" ∧ (parseMethodDescriptor yX9_begin.desc).map (fun d => d.parameters.length) = some 0 := by decide +kernel
theorem hd_X9_step : yX9_step.cls ≠ "java/lang/invoke/MethodHandle" ∧ yX9_step.cls ≠ "java/lang/invoke/VarHandle" ∧ (parseMethodDescriptor yX9_step.desc).map (fun d => d.parameters.length) = some 1 := by decide +kernel
theorem hd_X9_now : yX9_now.cls ≠ "java/lang/invoke/MethodHandle" ∧ yX9_now.cls ≠ "java/lang/invoke/VarHandle" ∧ (parseMethodDescriptor yX9_now.desc).map (fun d => d.parameters.length) = some 1 := by decide +kernel
theorem hd_X9_told : yX9_told.cls ≠ "java/lang/invoke/MethodHandle" ∧ yX9_told.cls ≠ "java/lang/invoke/VarHandle" ∧ (parseMethodDescriptor yX9_told.desc).map (fun d => d.parameters.length) = some 1 := by decide +kernel
theorem hd_X9_isWithin : yX9_isWithin.cls ≠ "java/lang/invoke/MethodHandle" ∧ yX9_isWithin.cls ≠ "java/lang/invoke/VarHandle" ∧ (parseMethodDescriptor yX9_isWithin.desc).map (fun d => d.parameters.length) = some 3 := by decide +kernel
theorem hd_X9_isValue : yX9_isValue.cls ≠ "java/lang/invoke/MethodHandle" ∧ yX9_isValue.cls ≠ "java/lang/invoke/VarHandle" ∧ (parseMethodDescriptor yX9_isValue.desc).map (fun d => d.parameters.length) = some 1 := by decide +kernel
theorem hd_X9_isText : yX9_isText.cls ≠ "java/lang/invoke/MethodHandle" ∧ yX9_isText.cls ≠ "java/lang/invoke/VarHandle" ∧ (parseMethodDescriptor yX9_isText.desc).map (fun d => d.parameters.length) = some 1 := by decide +kernel
theorem hd_X9_hasBit : yX9_hasBit.cls ≠ "java/lang/invoke/MethodHandle" ∧ yX9_hasBit.cls ≠ "java/lang/invoke/VarHandle" ∧ (parseMethodDescriptor yX9_hasBit.desc).map (fun d => d.parameters.length) = some 2 := by decide +kernel
theorem hd_X9_valueIn : yX9_valueIn.cls ≠ "java/lang/invoke/MethodHandle" ∧ yX9_valueIn.cls ≠ "java/lang/invoke/VarHandle" ∧ (parseMethodDescriptor yX9_valueIn.desc).map (fun d => d.parameters.length) = some 2 := by decide +kernel
theorem hd_X9_withValue : yX9_withValue.cls ≠ "java/lang/invoke/MethodHandle" ∧ yX9_withValue.cls ≠ "java/lang/invoke/VarHandle" ∧ (parseMethodDescriptor yX9_withValue.desc).map (fun d => d.parameters.length) = some 3 := by decide +kernel
theorem hd_X9_valueAsked : yX9_valueAsked.cls ≠ "java/lang/invoke/MethodHandle" ∧ yX9_valueAsked.cls ≠ "java/lang/invoke/VarHandle" ∧ (parseMethodDescriptor yX9_valueAsked.desc).map (fun d => d.parameters.length) = some 3 := by decide +kernel
theorem hd_X10_init : yX10_init.cls ≠ "java/lang/invoke/MethodHandle" ∧ yX10_init.cls ≠ "java/lang/invoke/VarHandle" ∧ (parseMethodDescriptor yX10_init.desc).map (fun d => d.parameters.length) = some 0 := by decide +kernel
theorem hd_X10_thrown : yX10_thrown.cls ≠ "java/lang/invoke/MethodHandle" ∧ yX10_thrown.cls ≠ "java/lang/invoke/VarHandle" ∧ (parseMethodDescriptor yX10_thrown.desc).map (fun d => d.parameters.length) = some 0 := by decide +kernel
theorem hd_X10_noCell : yX10_noCell.cls ≠ "java/lang/invoke/MethodHandle" ∧ yX10_noCell.cls ≠ "java/lang/invoke/VarHandle" ∧ (parseMethodDescriptor yX10_noCell.desc).map (fun d => d.parameters.length) = some 1 := by decide +kernel
theorem hd_X10_noMove : yX10_noMove.cls ≠ "java/lang/invoke/MethodHandle" ∧ yX10_noMove.cls ≠ "java/lang/invoke/VarHandle" ∧ (parseMethodDescriptor yX10_noMove.desc).map (fun d => d.parameters.length) = some 1 := by decide +kernel
theorem hd_X10_cell : yX10_cell.cls ≠ "java/lang/invoke/MethodHandle" ∧ yX10_cell.cls ≠ "java/lang/invoke/VarHandle" ∧ (parseMethodDescriptor yX10_cell.desc).map (fun d => d.parameters.length) = some 2 := by decide +kernel
theorem hd_X10_weigh : yX10_weigh.cls ≠ "java/lang/invoke/MethodHandle" ∧ yX10_weigh.cls ≠ "java/lang/invoke/VarHandle" ∧ (parseMethodDescriptor yX10_weigh.desc).map (fun d => d.parameters.length) = some 2 := by decide +kernel
theorem hd_X10_move : yX10_move.cls ≠ "java/lang/invoke/MethodHandle" ∧ yX10_move.cls ≠ "java/lang/invoke/VarHandle" ∧ (parseMethodDescriptor yX10_move.desc).map (fun d => d.parameters.length) = some 0 := by decide +kernel
theorem hd_X10_when : yX10_when.cls ≠ "java/lang/invoke/MethodHandle" ∧ yX10_when.cls ≠ "java/lang/invoke/VarHandle" ∧ (parseMethodDescriptor yX10_when.desc).map (fun d => d.parameters.length) = some 4 := by decide +kernel
theorem hd_X10_isEffect : yX10_isEffect.cls ≠ "java/lang/invoke/MethodHandle" ∧ yX10_isEffect.cls ≠ "java/lang/invoke/VarHandle" ∧ (parseMethodDescriptor yX10_isEffect.desc).map (fun d => d.parameters.length) = some 2 := by decide +kernel
theorem hd_X10_then : yX10_then.cls ≠ "java/lang/invoke/MethodHandle" ∧ yX10_then.cls ≠ "java/lang/invoke/VarHandle" ∧ (parseMethodDescriptor yX10_then.desc).map (fun d => d.parameters.length) = some 4 := by decide +kernel
theorem hd_X10_show : yX10_show.cls ≠ "java/lang/invoke/MethodHandle" ∧ yX10_show.cls ≠ "java/lang/invoke/VarHandle" ∧ (parseMethodDescriptor yX10_show.desc).map (fun d => d.parameters.length) = some 2 := by decide +kernel
theorem hd_X10_ends : yX10_ends.cls ≠ "java/lang/invoke/MethodHandle" ∧ yX10_ends.cls ≠ "java/lang/invoke/VarHandle" ∧ (parseMethodDescriptor yX10_ends.desc).map (fun d => d.parameters.length) = some 2 := by decide +kernel
theorem hd_X10_of : yX10_of.cls ≠ "java/lang/invoke/MethodHandle" ∧ yX10_of.cls ≠ "java/lang/invoke/VarHandle" ∧ (parseMethodDescriptor yX10_of.desc).map (fun d => d.parameters.length) = some 1 := by decide +kernel
theorem hd_X10_macro : yX10_macro.cls ≠ "java/lang/invoke/MethodHandle" ∧ yX10_macro.cls ≠ "java/lang/invoke/VarHandle" ∧ (parseMethodDescriptor yX10_macro.desc).map (fun d => d.parameters.length) = some 0 := by decide +kernel
theorem hd_X10_goal : yX10_goal.cls ≠ "java/lang/invoke/MethodHandle" ∧ yX10_goal.cls ≠ "java/lang/invoke/VarHandle" ∧ (parseMethodDescriptor yX10_goal.desc).map (fun d => d.parameters.length) = some 3 := by decide +kernel
theorem hd_X10_clear : yX10_clear.cls ≠ "java/lang/invoke/MethodHandle" ∧ yX10_clear.cls ≠ "java/lang/invoke/VarHandle" ∧ (parseMethodDescriptor yX10_clear.desc).map (fun d => d.parameters.length) = some 0 := by decide +kernel
theorem hd_X10_scoreOf : yX10_scoreOf.cls ≠ "java/lang/invoke/MethodHandle" ∧ yX10_scoreOf.cls ≠ "java/lang/invoke/VarHandle" ∧ (parseMethodDescriptor yX10_scoreOf.desc).map (fun d => d.parameters.length) = some 0 := by decide +kernel
theorem hd_X10_canMove : yX10_canMove.cls ≠ "java/lang/invoke/MethodHandle" ∧ yX10_canMove.cls ≠ "java/lang/invoke/VarHandle" ∧ (parseMethodDescriptor yX10_canMove.desc).map (fun d => d.parameters.length) = some 1 := by decide +kernel
theorem hd_X10_chance : yX10_chance.cls ≠ "java/lang/invoke/MethodHandle" ∧ yX10_chance.cls ≠ "java/lang/invoke/VarHandle" ∧ (parseMethodDescriptor yX10_chance.desc).map (fun d => d.parameters.length) = some 1 := by decide +kernel
theorem hd_X10_doMove : yX10_doMove.cls ≠ "java/lang/invoke/MethodHandle" ∧ yX10_doMove.cls ≠ "java/lang/invoke/VarHandle" ∧ (parseMethodDescriptor yX10_doMove.desc).map (fun d => d.parameters.length) = some 1 := by decide +kernel
theorem hd_X10_doStep : yX10_doStep.cls ≠ "java/lang/invoke/MethodHandle" ∧ yX10_doStep.cls ≠ "java/lang/invoke/VarHandle" ∧ (parseMethodDescriptor yX10_doStep.desc).map (fun d => d.parameters.length) = some 1 := by decide +kernel
theorem hd_X10_meets : yX10_meets.cls ≠ "java/lang/invoke/MethodHandle" ∧ yX10_meets.cls ≠ "java/lang/invoke/VarHandle" ∧ (parseMethodDescriptor yX10_meets.desc).map (fun d => d.parameters.length) = some 1 := by decide +kernel
theorem hd_X10_packed : yX10_packed.cls ≠ "java/lang/invoke/MethodHandle" ∧ yX10_packed.cls ≠ "java/lang/invoke/VarHandle" ∧ (parseMethodDescriptor yX10_packed.desc).map (fun d => d.parameters.length) = some 0 := by decide +kernel
theorem hd_X10_unpack : yX10_unpack.cls ≠ "java/lang/invoke/MethodHandle" ∧ yX10_unpack.cls ≠ "java/lang/invoke/VarHandle" ∧ (parseMethodDescriptor yX10_unpack.desc).map (fun d => d.parameters.length) = some 1 := by decide +kernel
theorem hd_X10_placeOf : yX10_placeOf.cls ≠ "java/lang/invoke/MethodHandle" ∧ yX10_placeOf.cls ≠ "java/lang/invoke/VarHandle" ∧ (parseMethodDescriptor yX10_placeOf.desc).map (fun d => d.parameters.length) = some 2 := by decide +kernel
theorem hd_X10_addNode : yX10_addNode.cls ≠ "java/lang/invoke/MethodHandle" ∧ yX10_addNode.cls ≠ "java/lang/invoke/VarHandle" ∧ (parseMethodDescriptor yX10_addNode.desc).map (fun d => d.parameters.length) = some 2 := by decide +kernel
theorem hd_X10_nextNode : yX10_nextNode.cls ≠ "java/lang/invoke/MethodHandle" ∧ yX10_nextNode.cls ≠ "java/lang/invoke/VarHandle" ∧ (parseMethodDescriptor yX10_nextNode.desc).map (fun d => d.parameters.length) = some 1 := by decide +kernel
theorem hd_X10_beginSearch : yX10_beginSearch.cls ≠ "java/lang/invoke/MethodHandle" ∧ yX10_beginSearch.cls ≠ "java/lang/invoke/VarHandle" ∧ (parseMethodDescriptor yX10_beginSearch.desc).map (fun d => d.parameters.length) = some 0 := by decide +kernel
theorem hd_X10_tellPlay : yX10_tellPlay.cls ≠ "java/lang/invoke/MethodHandle" ∧ yX10_tellPlay.cls ≠ "java/lang/invoke/VarHandle" ∧ (parseMethodDescriptor yX10_tellPlay.desc).map (fun d => d.parameters.length) = some 1 := by decide +kernel
theorem hd_X10_stepAt : yX10_stepAt.cls ≠ "java/lang/invoke/MethodHandle" ∧ yX10_stepAt.cls ≠ "java/lang/invoke/VarHandle" ∧ (parseMethodDescriptor yX10_stepAt.desc).map (fun d => d.parameters.length) = some 1 := by decide +kernel
theorem hd_X10_tryAll : yX10_tryAll.cls ≠ "java/lang/invoke/MethodHandle" ∧ yX10_tryAll.cls ≠ "java/lang/invoke/VarHandle" ∧ (parseMethodDescriptor yX10_tryAll.desc).map (fun d => d.parameters.length) = some 3 := by decide +kernel
theorem hd_X10_search : yX10_search.cls ≠ "java/lang/invoke/MethodHandle" ∧ yX10_search.cls ≠ "java/lang/invoke/VarHandle" ∧ (parseMethodDescriptor yX10_search.desc).map (fun d => d.parameters.length) = some 2 := by decide +kernel
theorem hd_X10_length : yX10_length.cls ≠ "java/lang/invoke/MethodHandle" ∧ yX10_length.cls ≠ "java/lang/invoke/VarHandle" ∧ (parseMethodDescriptor yX10_length.desc).map (fun d => d.parameters.length) = some 0 := by decide +kernel
theorem hd_X10_at : yX10_at.cls ≠ "java/lang/invoke/MethodHandle" ∧ yX10_at.cls ≠ "java/lang/invoke/VarHandle" ∧ (parseMethodDescriptor yX10_at.desc).map (fun d => d.parameters.length) = some 1 := by decide +kernel
theorem hd_X10_shortest : yX10_shortest.cls ≠ "java/lang/invoke/MethodHandle" ∧ yX10_shortest.cls ≠ "java/lang/invoke/VarHandle" ∧ (parseMethodDescriptor yX10_shortest.desc).map (fun d => d.parameters.length) = some 0 := by decide +kernel
theorem hd_X10_replays : yX10_replays.cls ≠ "java/lang/invoke/MethodHandle" ∧ yX10_replays.cls ≠ "java/lang/invoke/VarHandle" ∧ (parseMethodDescriptor yX10_replays.desc).map (fun d => d.parameters.length) = some 0 := by decide +kernel
theorem hd_X10_noNode : yX10_noNode.cls ≠ "java/lang/invoke/MethodHandle" ∧ yX10_noNode.cls ≠ "java/lang/invoke/VarHandle" ∧ (parseMethodDescriptor yX10_noNode.desc).map (fun d => d.parameters.length) = some 1 := by decide +kernel
theorem hd_X10_node : yX10_node.cls ≠ "java/lang/invoke/MethodHandle" ∧ yX10_node.cls ≠ "java/lang/invoke/VarHandle" ∧ (parseMethodDescriptor yX10_node.desc).map (fun d => d.parameters.length) = some 2 := by decide +kernel
theorem hd_X10_meet : yX10_meet.cls ≠ "java/lang/invoke/MethodHandle" ∧ yX10_meet.cls ≠ "java/lang/invoke/VarHandle" ∧ (parseMethodDescriptor yX10_meet.desc).map (fun d => d.parameters.length) = some 2 := by decide +kernel
theorem hd_X10_seen : yX10_seen.cls ≠ "java/lang/invoke/MethodHandle" ∧ yX10_seen.cls ≠ "java/lang/invoke/VarHandle" ∧ (parseMethodDescriptor yX10_seen.desc).map (fun d => d.parameters.length) = some 1 := by decide +kernel
theorem hd_X10_never : yX10_never.cls ≠ "java/lang/invoke/MethodHandle" ∧ yX10_never.cls ≠ "java/lang/invoke/VarHandle" ∧ (parseMethodDescriptor yX10_never.desc).map (fun d => d.parameters.length) = some 1 := by decide +kernel
theorem hd_X10_queue : yX10_queue.cls ≠ "java/lang/invoke/MethodHandle" ∧ yX10_queue.cls ≠ "java/lang/invoke/VarHandle" ∧ (parseMethodDescriptor yX10_queue.desc).map (fun d => d.parameters.length) = some 1 := by decide +kernel
theorem hd_X10_begin : yX10_begin.cls ≠ "java/lang/invoke/MethodHandle" ∧ yX10_begin.cls ≠ "java/lang/invoke/VarHandle" ∧ (parseMethodDescriptor yX10_begin.desc).map (fun d => d.parameters.length) = some 0 := by decide +kernel
theorem hd_X10_takeNow : yX10_takeNow.cls ≠ "java/lang/invoke/MethodHandle" ∧ yX10_takeNow.cls ≠ "java/lang/invoke/VarHandle" ∧ (parseMethodDescriptor yX10_takeNow.desc).map (fun d => d.parameters.length) = some 0 := by decide +kernel
theorem hd_X10_step : yX10_step.cls ≠ "java/lang/invoke/MethodHandle" ∧ yX10_step.cls ≠ "java/lang/invoke/VarHandle" ∧ (parseMethodDescriptor yX10_step.desc).map (fun d => d.parameters.length) = some 1 := by decide +kernel
theorem hd_X10_steps : yX10_steps.cls ≠ "java/lang/invoke/MethodHandle" ∧ yX10_steps.cls ≠ "java/lang/invoke/VarHandle" ∧ (parseMethodDescriptor yX10_steps.desc).map (fun d => d.parameters.length) = some 0 := by decide +kernel
theorem hd_X10_now : yX10_now.cls ≠ "java/lang/invoke/MethodHandle" ∧ yX10_now.cls ≠ "java/lang/invoke/VarHandle" ∧ (parseMethodDescriptor yX10_now.desc).map (fun d => d.parameters.length) = some 1 := by decide +kernel
theorem hd_X10_told : yX10_told.cls ≠ "java/lang/invoke/MethodHandle" ∧ yX10_told.cls ≠ "java/lang/invoke/VarHandle" ∧ (parseMethodDescriptor yX10_told.desc).map (fun d => d.parameters.length) = some 1 := by decide +kernel
theorem hd_Jx00060_init_a7421 : yJx00060_init_a7421.cls ≠ "java/lang/invoke/MethodHandle" ∧ yJx00060_init_a7421.cls ≠ "java/lang/invoke/VarHandle" ∧ (parseMethodDescriptor yJx00060_init_a7421.desc).map (fun d => d.parameters.length) = some 1 := by decide +kernel
theorem hd_J9_floorMod_7cf53 : yJ9_floorMod_7cf53.cls ≠ "java/lang/invoke/MethodHandle" ∧ yJ9_floorMod_7cf53.cls ≠ "java/lang/invoke/VarHandle" ∧ (parseMethodDescriptor yJ9_floorMod_7cf53.desc).map (fun d => d.parameters.length) = some 2 := by decide +kernel
theorem hd_J7_fill_53178 : yJ7_fill_53178.cls ≠ "java/lang/invoke/MethodHandle" ∧ yJ7_fill_53178.cls ≠ "java/lang/invoke/VarHandle" ∧ (parseMethodDescriptor yJ7_fill_53178.desc).map (fun d => d.parameters.length) = some 2 := by decide +kernel
theorem hd_L_queue : yL_queue.cls ≠ "java/lang/invoke/MethodHandle" ∧ yL_queue.cls ≠ "java/lang/invoke/VarHandle" ∧ (parseMethodDescriptor yL_queue.desc).map (fun d => d.parameters.length) = some 3 := by decide +kernel
theorem hd_L_law : yL_law.cls ≠ "java/lang/invoke/MethodHandle" ∧ yL_law.cls ≠ "java/lang/invoke/VarHandle" ∧ (parseMethodDescriptor yL_law.desc).map (fun d => d.parameters.length) = some 1 := by decide +kernel
