def T0 : List Cond := lw_tbl.filter goodWord
theorem T0_good : GoodIn T0 T0 := fun _ h => ⟨h, good_of_word (List.mem_filter.mp h).2⟩
theorem T0_in {w : Cond} (h : w ∈ T0) : w ∈ lw_tbl := (List.mem_filter.mp h).1
theorem mT {w : Cond} (i : Nat) (h : lw_tbl[i]? = some w) (hg : goodWord w = true) : w ∈ T0 := List.mem_filter.mpr ⟨List.mem_of_getElem? h, hg⟩
theorem mTt {w : Cond} (i : Nat) (h : tables_1[i]? = some w) (hg : goodWord w = true) : w ∈ T0 := List.mem_filter.mpr ⟨List.mem_append_right _ (List.mem_of_getElem? h), hg⟩
theorem mTs {q : MethodName × Nat} (i : Nat) (h : lw_privs[i]? = some q) : Cond.selects q.1.cls q.1 q.1 ∈ T0 := List.mem_filter.mpr ⟨List.mem_append_left _ (List.mem_map.mpr ⟨q, List.mem_of_getElem? h, rfl⟩), rfl⟩
theorem in_RL : Cond.initialized RL ∈ T0 := mTt 0 (by decide +kernel) rfl
theorem in_RX7 : Cond.initialized RX7 ∈ T0 := mTt 1 (by decide +kernel) rfl
theorem in_RX1 : Cond.initialized RX1 ∈ T0 := mTt 2 (by decide +kernel) rfl
theorem in_RX6 : Cond.initialized RX6 ∈ T0 := mTt 3 (by decide +kernel) rfl
theorem in_RX3 : Cond.initialized RX3 ∈ T0 := mTt 4 (by decide +kernel) rfl
theorem in_RX2 : Cond.initialized RX2 ∈ T0 := mTt 5 (by decide +kernel) rfl
theorem in_RJ9 : Cond.initialized RJ9 ∈ T0 := mTt 6 (by decide +kernel) rfl
theorem in_RX5 : Cond.initialized RX5 ∈ T0 := mTt 7 (by decide +kernel) rfl
theorem in_RX0 : Cond.initialized RX0 ∈ T0 := mTt 8 (by decide +kernel) rfl
theorem in_RX4 : Cond.initialized RX4 ∈ T0 := mTt 9 (by decide +kernel) rfl
theorem in_RX8 : Cond.initialized RX8 ∈ T0 := mTt 10 (by decide +kernel) rfl
theorem in_RJ0 : Cond.initialized RJ0 ∈ T0 := mTt 11 (by decide +kernel) rfl
theorem in_RJ1 : Cond.initialized RJ1 ∈ T0 := mTt 12 (by decide +kernel) rfl
theorem in_RJ3 : Cond.initialized RJ3 ∈ T0 := mTt 13 (by decide +kernel) rfl
theorem in_RJ2 : Cond.initialized RJ2 ∈ T0 := mTt 14 (by decide +kernel) rfl
theorem in_RJ11 : Cond.initialized RJ11 ∈ T0 := mTt 15 (by decide +kernel) rfl
theorem in_RJ6 : Cond.initialized RJ6 ∈ T0 := mTt 16 (by decide +kernel) rfl
theorem in_RJ10 : Cond.initialized RJ10 ∈ T0 := mTt 17 (by decide +kernel) rfl
theorem cw_RL_7 : Cond.classLink RL 7 RX7 ∈ T0 := mTt 18 (by decide +kernel) rfl
theorem it_RX7 : Cond.instantiable RX7 10 ∈ T0 := mTt 19 (by decide +kernel) rfl
theorem ml_RL_9 : Cond.methodLink RL 9 yX7_init ∈ T0 := mTt 20 (by decide +kernel) rfl
theorem im_yX7_init : Cond.instanceMethod yX7_init ∈ T0 := mTt 21 (by decide +kernel) rfl
set_option maxRecDepth 100000 in
theorem co_yX7_init : Cond.code yX7_init cX7_init 2 none ∈ T0 := mTt 22 (rfl) rfl
theorem ml_RX7_3 : Cond.methodLink RX7 3 objectInit ∈ T0 := mTt 23 (by decide +kernel) rfl
theorem im_objectInit : Cond.instanceMethod objectInit ∈ T0 := mTt 24 (by decide +kernel) rfl
set_option maxRecDepth 100000 in
theorem co_objectInit : Cond.code objectInit ⟨#[0xb1]⟩ 1 none ∈ T0 := mTt 25 (rfl) rfl
theorem cw_RX7_9 : Cond.classLink RX7 9 RX1 ∈ T0 := mTt 26 (by decide +kernel) rfl
theorem it_RX1 : Cond.instantiable RX1 11 ∈ T0 := mTt 27 (by decide +kernel) rfl
theorem ml_RX7_11 : Cond.methodLink RX7 11 yX1_init ∈ T0 := mTt 28 (by decide +kernel) rfl
theorem im_yX1_init : Cond.instanceMethod yX1_init ∈ T0 := mTt 29 (by decide +kernel) rfl
set_option maxRecDepth 100000 in
theorem co_yX1_init : Cond.code yX1_init cX1_init 1 none ∈ T0 := mTt 30 (rfl) rfl
theorem ml_RX1_3 : Cond.methodLink RX1 3 objectInit ∈ T0 := mTt 31 (by decide +kernel) rfl
theorem ml_RX1_30 : Cond.methodLink RX1 30 yX1_clear ∈ T0 := mTt 32 (by decide +kernel) rfl
theorem im_yX1_clear : Cond.instanceMethod yX1_clear ∈ T0 := mTt 33 (by decide +kernel) rfl
theorem se_yX1_clear : Cond.selects RX1 yX1_clear yX1_clear ∈ T0 := mTt 34 (by decide +kernel) rfl
set_option maxRecDepth 100000 in
theorem co_yX1_clear : Cond.code yX1_clear cX1_clear 1 none ∈ T0 := mTt 35 (rfl) rfl
theorem fw_RX1_33 : Cond.fieldLink RX1 33 RX1 "cold" "I" ∈ T0 := mTt 36 (by decide +kernel) rfl
theorem fw_RX6_52 : Cond.fieldLink RX6 52 RX1 "cold" "I" ∈ T0 := mTt 37 (by decide +kernel) rfl
theorem fw_RX5_54 : Cond.fieldLink RX5 54 RX1 "cold" "I" ∈ T0 := mTt 38 (by decide +kernel) rfl
theorem fw_RX1_37 : Cond.fieldLink RX1 37 RX1 "pocket" "I" ∈ T0 := mTt 39 (by decide +kernel) rfl
theorem fw_RX6_58 : Cond.fieldLink RX6 58 RX1 "pocket" "I" ∈ T0 := mTt 40 (by decide +kernel) rfl
theorem fw_RX5_57 : Cond.fieldLink RX5 57 RX1 "pocket" "I" ∈ T0 := mTt 41 (by decide +kernel) rfl
theorem fw_RX1_40 : Cond.fieldLink RX1 40 RX1 "stink" "I" ∈ T0 := mTt 42 (by decide +kernel) rfl
theorem fw_RX6_62 : Cond.fieldLink RX6 62 RX1 "stink" "I" ∈ T0 := mTt 43 (by decide +kernel) rfl
theorem fw_RX5_60 : Cond.fieldLink RX5 60 RX1 "stink" "I" ∈ T0 := mTt 44 (by decide +kernel) rfl
theorem fw_RX1_43 : Cond.fieldLink RX1 43 RX1 "doorClauses" "I" ∈ T0 := mTt 45 (by decide +kernel) rfl
theorem fw_RX6_75 : Cond.fieldLink RX6 75 RX1 "doorClauses" "I" ∈ T0 := mTt 46 (by decide +kernel) rfl
theorem fw_RX1_11 : Cond.fieldLink RX1 11 RX1 "weight" "[I" ∈ T0 := mTt 47 (by decide +kernel) rfl
theorem fw_RX6_85 : Cond.fieldLink RX6 85 RX1 "weight" "[I" ∈ T0 := mTt 48 (by decide +kernel) rfl
theorem fw_RX1_15 : Cond.fieldLink RX1 15 RX1 "end" "[I" ∈ T0 := mTt 49 (by decide +kernel) rfl
theorem fw_RX1_18 : Cond.fieldLink RX1 18 RX1 "does" "[I" ∈ T0 := mTt 50 (by decide +kernel) rfl
theorem fw_RX1_21 : Cond.fieldLink RX1 21 RX1 "least" "[I" ∈ T0 := mTt 51 (by decide +kernel) rfl
theorem fw_RX1_24 : Cond.fieldLink RX1 24 RX1 "most" "[I" ∈ T0 := mTt 52 (by decide +kernel) rfl
theorem fw_RX1_46 : Cond.fieldLink RX1 46 RX1 "steps" "I" ∈ T0 := mTt 53 (by decide +kernel) rfl
theorem fw_RX1_27 : Cond.fieldLink RX1 27 RX1 "stack" "[I" ∈ T0 := mTt 54 (by decide +kernel) rfl
theorem ac_int : Cond.arrayClass .int ∈ T0 := mTt 78 (by decide +kernel) rfl
theorem cw_RX7_18 : Cond.classLink RX7 18 RX6 ∈ T0 := mTt 79 (by decide +kernel) rfl
theorem it_RX6 : Cond.instantiable RX6 14 ∈ T0 := mTt 80 (by decide +kernel) rfl
theorem ml_RX7_20 : Cond.methodLink RX7 20 yX6_init ∈ T0 := mTt 81 (by decide +kernel) rfl
theorem im_yX6_init : Cond.instanceMethod yX6_init ∈ T0 := mTt 82 (by decide +kernel) rfl
set_option maxRecDepth 100000 in
theorem co_yX6_init : Cond.code yX6_init cX6_init 2 none ∈ T0 := mTt 83 (rfl) rfl
theorem ml_RX6_3 : Cond.methodLink RX6 3 objectInit ∈ T0 := mTt 84 (by decide +kernel) rfl
theorem cw_RX6_9 : Cond.classLink RX6 9 RX3 ∈ T0 := mTt 85 (by decide +kernel) rfl
theorem it_RX3 : Cond.instantiable RX3 8 ∈ T0 := mTt 86 (by decide +kernel) rfl
theorem ml_RX6_11 : Cond.methodLink RX6 11 yX3_init ∈ T0 := mTt 87 (by decide +kernel) rfl
theorem im_yX3_init : Cond.instanceMethod yX3_init ∈ T0 := mTt 88 (by decide +kernel) rfl
set_option maxRecDepth 100000 in
theorem co_yX3_init : Cond.code yX3_init cX3_init 2 none ∈ T0 := mTt 89 (rfl) rfl
theorem ml_RX3_3 : Cond.methodLink RX3 3 objectInit ∈ T0 := mTt 90 (by decide +kernel) rfl
theorem fw_RX3_30 : Cond.fieldLink RX3 30 RX3 "size" "I" ∈ T0 := mTt 91 (by decide +kernel) rfl
theorem fw_RX7_66 : Cond.fieldLink RX7 66 RX3 "size" "I" ∈ T0 := mTt 92 (by decide +kernel) rfl
theorem fw_RX6_66 : Cond.fieldLink RX6 66 RX3 "size" "I" ∈ T0 := mTt 93 (by decide +kernel) rfl
theorem fw_RX1_74 : Cond.fieldLink RX1 74 RX3 "size" "I" ∈ T0 := mTt 94 (by decide +kernel) rfl
theorem fw_RX3_9 : Cond.fieldLink RX3 9 RX3 "number" "[I" ∈ T0 := mTt 95 (by decide +kernel) rfl
theorem fw_RX1_60 : Cond.fieldLink RX1 60 RX3 "number" "[I" ∈ T0 := mTt 96 (by decide +kernel) rfl
theorem fw_RX3_15 : Cond.fieldLink RX3 15 RX3 "kind" "[I" ∈ T0 := mTt 97 (by decide +kernel) rfl
theorem fw_RX7_80 : Cond.fieldLink RX7 80 RX3 "kind" "[I" ∈ T0 := mTt 98 (by decide +kernel) rfl
theorem fw_RX0_28 : Cond.fieldLink RX0 28 RX3 "kind" "[I" ∈ T0 := mTt 99 (by decide +kernel) rfl
theorem fw_RX6_88 : Cond.fieldLink RX6 88 RX3 "kind" "[I" ∈ T0 := mTt 100 (by decide +kernel) rfl
theorem fw_RX1_65 : Cond.fieldLink RX1 65 RX3 "kind" "[I" ∈ T0 := mTt 101 (by decide +kernel) rfl
theorem fw_RX3_18 : Cond.fieldLink RX3 18 RX3 "v" "[I" ∈ T0 := mTt 102 (by decide +kernel) rfl
theorem fw_RX7_84 : Cond.fieldLink RX7 84 RX3 "v" "[I" ∈ T0 := mTt 103 (by decide +kernel) rfl
theorem fw_RX0_36 : Cond.fieldLink RX0 36 RX3 "v" "[I" ∈ T0 := mTt 104 (by decide +kernel) rfl
theorem fw_RX6_95 : Cond.fieldLink RX6 95 RX3 "v" "[I" ∈ T0 := mTt 105 (by decide +kernel) rfl
theorem fw_RX1_68 : Cond.fieldLink RX1 68 RX3 "v" "[I" ∈ T0 := mTt 106 (by decide +kernel) rfl
theorem fw_RX3_21 : Cond.fieldLink RX3 21 RX3 "thanks" "[I" ∈ T0 := mTt 107 (by decide +kernel) rfl
theorem fw_RX7_87 : Cond.fieldLink RX7 87 RX3 "thanks" "[I" ∈ T0 := mTt 108 (by decide +kernel) rfl
theorem fw_RX6_69 : Cond.fieldLink RX6 69 RX3 "thanks" "[I" ∈ T0 := mTt 109 (by decide +kernel) rfl
theorem fw_RX1_71 : Cond.fieldLink RX1 71 RX3 "thanks" "[I" ∈ T0 := mTt 110 (by decide +kernel) rfl
theorem fw_RX3_24 : Cond.fieldLink RX3 24 RX3 "got" "[I" ∈ T0 := mTt 111 (by decide +kernel) rfl
theorem fw_RX7_90 : Cond.fieldLink RX7 90 RX3 "got" "[I" ∈ T0 := mTt 112 (by decide +kernel) rfl
theorem fw_RX3_27 : Cond.fieldLink RX3 27 RX3 "rows" "[I" ∈ T0 := mTt 113 (by decide +kernel) rfl
theorem fw_RX6_102 : Cond.fieldLink RX6 102 RX3 "rows" "[I" ∈ T0 := mTt 114 (by decide +kernel) rfl
theorem fw_RX7_114 : Cond.fieldLink RX7 114 RX3 "rows" "[I" ∈ T0 := mTt 115 (by decide +kernel) rfl
theorem fw_RX3_38 : Cond.fieldLink RX3 38 RX3 "deadBits" "I" ∈ T0 := mTt 116 (by decide +kernel) rfl
theorem cw_RX6_29 : Cond.classLink RX6 29 RX2 ∈ T0 := mTt 134 (by decide +kernel) rfl
theorem it_RX2 : Cond.instantiable RX2 3 ∈ T0 := mTt 135 (by decide +kernel) rfl
theorem ml_RX6_31 : Cond.methodLink RX6 31 yX2_init ∈ T0 := mTt 136 (by decide +kernel) rfl
theorem im_yX2_init : Cond.instanceMethod yX2_init ∈ T0 := mTt 137 (by decide +kernel) rfl
set_option maxRecDepth 100000 in
theorem co_yX2_init : Cond.code yX2_init cX2_init 2 none ∈ T0 := mTt 138 (rfl) rfl
theorem ml_RX2_3 : Cond.methodLink RX2 3 objectInit ∈ T0 := mTt 139 (by decide +kernel) rfl
theorem ml_RX2_9 : Cond.methodLink RX2 9 yJ9_max_7cf53 ∈ T0 := mTt 140 (by decide +kernel) rfl
theorem st_yJ9_max_7cf53 : Cond.static yJ9_max_7cf53 ∈ T0 := mTt 141 (by decide +kernel) rfl
set_option maxRecDepth 100000 in
theorem co_yJ9_max_7cf53 : Cond.code yJ9_max_7cf53 cJ9_max_7cf53 2 (some .int) ∈ T0 := mTt 142 (rfl) rfl
theorem fw_RX2_15 : Cond.fieldLink RX2 15 RX2 "first" "[I" ∈ T0 := mTt 143 (by decide +kernel) rfl
theorem fw_RX6_169 : Cond.fieldLink RX6 169 RX2 "first" "[I" ∈ T0 := mTt 144 (by decide +kernel) rfl
theorem fw_RX7_206 : Cond.fieldLink RX7 206 RX2 "first" "[I" ∈ T0 := mTt 145 (by decide +kernel) rfl
theorem fw_RX2_21 : Cond.fieldLink RX2 21 RX2 "second" "[I" ∈ T0 := mTt 146 (by decide +kernel) rfl
theorem fw_RX6_166 : Cond.fieldLink RX6 166 RX2 "second" "[I" ∈ T0 := mTt 147 (by decide +kernel) rfl
theorem fw_RX7_209 : Cond.fieldLink RX7 209 RX2 "second" "[I" ∈ T0 := mTt 148 (by decide +kernel) rfl
theorem fw_RX2_24 : Cond.fieldLink RX2 24 RX2 "size" "I" ∈ T0 := mTt 149 (by decide +kernel) rfl
theorem fw_RX6_165 : Cond.fieldLink RX6 165 RX2 "size" "I" ∈ T0 := mTt 150 (by decide +kernel) rfl
theorem fw_RX7_205 : Cond.fieldLink RX7 205 RX2 "size" "I" ∈ T0 := mTt 151 (by decide +kernel) rfl
theorem ml_RX6_44 : Cond.methodLink RX6 44 yX6_settle ∈ T0 := mTt 159 (by decide +kernel) rfl
theorem im_yX6_settle : Cond.instanceMethod yX6_settle ∈ T0 := mTt 160 (by decide +kernel) rfl
theorem se_yX6_settle : Cond.selects RX6 yX6_settle yX6_settle ∈ T0 := mTt 161 (by decide +kernel) rfl
set_option maxRecDepth 100000 in
theorem co_yX6_settle : Cond.code yX6_settle cX6_settle 2 none ∈ T0 := mTt 162 (rfl) rfl
theorem fw_RX6_12 : Cond.fieldLink RX6 12 RX6 "people" "LSevenUnwashed$People;" ∈ T0 := mTt 163 (by decide +kernel) rfl
theorem fw_RX7_62 : Cond.fieldLink RX7 62 RX6 "people" "LSevenUnwashed$People;" ∈ T0 := mTt 164 (by decide +kernel) rfl
theorem fw_RX6_18 : Cond.fieldLink RX6 18 RX6 "health" "I" ∈ T0 := mTt 165 (by decide +kernel) rfl
theorem fw_RX7_117 : Cond.fieldLink RX7 117 RX6 "health" "I" ∈ T0 := mTt 166 (by decide +kernel) rfl
theorem fw_RX6_72 : Cond.fieldLink RX6 72 RX6 "smell" "I" ∈ T0 := mTt 167 (by decide +kernel) rfl
theorem fw_RX7_120 : Cond.fieldLink RX7 120 RX6 "smell" "I" ∈ T0 := mTt 168 (by decide +kernel) rfl
theorem fw_RX6_78 : Cond.fieldLink RX6 78 RX6 "day" "I" ∈ T0 := mTt 169 (by decide +kernel) rfl
theorem fw_RX7_147 : Cond.fieldLink RX7 147 RX6 "day" "I" ∈ T0 := mTt 170 (by decide +kernel) rfl
theorem fw_RX6_22 : Cond.fieldLink RX6 22 RX6 "round" "[I" ∈ T0 := mTt 171 (by decide +kernel) rfl
theorem fw_RX7_126 : Cond.fieldLink RX7 126 RX6 "round" "[I" ∈ T0 := mTt 172 (by decide +kernel) rfl
theorem fw_RX7_123 : Cond.fieldLink RX7 123 RX6 "places" "I" ∈ T0 := mTt 173 (by decide +kernel) rfl
theorem fw_RX6_147 : Cond.fieldLink RX6 147 RX6 "places" "I" ∈ T0 := mTt 174 (by decide +kernel) rfl
theorem fw_RX6_48 : Cond.fieldLink RX6 48 RX6 "land" "LSevenUnwashed$Land;" ∈ T0 := mTt 175 (by decide +kernel) rfl
theorem fw_RX6_57 : Cond.fieldLink RX6 57 RX6 "cold" "I" ∈ T0 := mTt 176 (by decide +kernel) rfl
theorem fw_RX7_150 : Cond.fieldLink RX7 150 RX6 "cold" "I" ∈ T0 := mTt 177 (by decide +kernel) rfl
theorem fw_RX6_61 : Cond.fieldLink RX6 61 RX6 "pocket" "I" ∈ T0 := mTt 178 (by decide +kernel) rfl
theorem fw_RX7_153 : Cond.fieldLink RX7 153 RX6 "pocket" "I" ∈ T0 := mTt 179 (by decide +kernel) rfl
theorem fw_RX6_65 : Cond.fieldLink RX6 65 RX6 "stink" "I" ∈ T0 := mTt 180 (by decide +kernel) rfl
theorem fw_RX7_156 : Cond.fieldLink RX7 156 RX6 "stink" "I" ∈ T0 := mTt 181 (by decide +kernel) rfl
theorem fw_RX6_26 : Cond.fieldLink RX6 26 RX6 "welcome" "[I" ∈ T0 := mTt 182 (by decide +kernel) rfl
theorem fw_RX7_100 : Cond.fieldLink RX7 100 RX6 "welcome" "[I" ∈ T0 := mTt 183 (by decide +kernel) rfl
theorem fw_RX6_34 : Cond.fieldLink RX6 34 RX6 "seen" "LSevenUnwashed$Pairs;" ∈ T0 := mTt 184 (by decide +kernel) rfl
theorem fw_RX7_180 : Cond.fieldLink RX7 180 RX6 "seen" "LSevenUnwashed$Pairs;" ∈ T0 := mTt 185 (by decide +kernel) rfl
theorem fw_RX6_38 : Cond.fieldLink RX6 38 RX6 "winter" "LSevenUnwashed$Pairs;" ∈ T0 := mTt 186 (by decide +kernel) rfl
theorem fw_RX7_202 : Cond.fieldLink RX7 202 RX6 "winter" "LSevenUnwashed$Pairs;" ∈ T0 := mTt 187 (by decide +kernel) rfl
theorem fw_RX6_41 : Cond.fieldLink RX6 41 RX6 "book" "LSevenUnwashed$Pairs;" ∈ T0 := mTt 188 (by decide +kernel) rfl
theorem fw_RX7_216 : Cond.fieldLink RX7 216 RX6 "book" "LSevenUnwashed$Pairs;" ∈ T0 := mTt 189 (by decide +kernel) rfl
theorem cw_RX7_37 : Cond.classLink RX7 37 RX5 ∈ T0 := mTt 220 (by decide +kernel) rfl
theorem it_RX5 : Cond.instantiable RX5 3 ∈ T0 := mTt 221 (by decide +kernel) rfl
theorem im_yX5_init : Cond.instanceMethod yX5_init ∈ T0 := mTt 223 (by decide +kernel) rfl
set_option maxRecDepth 100000 in
theorem co_yX5_init : Cond.code yX5_init cX5_init 1 none ∈ T0 := mTt 224 (rfl) rfl
theorem ml_RX5_3 : Cond.methodLink RX5 3 objectInit ∈ T0 := mTt 225 (by decide +kernel) rfl
theorem fw_RX5_11 : Cond.fieldLink RX5 11 RX5 "signs" "[B" ∈ T0 := mTt 226 (by decide +kernel) rfl
theorem fw_RX5_15 : Cond.fieldLink RX5 15 RX5 "size" "I" ∈ T0 := mTt 227 (by decide +kernel) rfl
theorem fw_RX7_259 : Cond.fieldLink RX7 259 RX5 "size" "I" ∈ T0 := mTt 228 (by decide +kernel) rfl
theorem fw_RX5_28 : Cond.fieldLink RX5 28 RX5 "at" "I" ∈ T0 := mTt 229 (by decide +kernel) rfl
theorem ac_byte : Cond.arrayClass .byte ∈ T0 := mTt 237 (by decide +kernel) rfl
theorem cw_RX7_44 : Cond.classLink RX7 44 RX0 ∈ T0 := mTt 238 (by decide +kernel) rfl
theorem it_RX0 : Cond.instantiable RX0 5 ∈ T0 := mTt 239 (by decide +kernel) rfl
theorem im_yX0_init : Cond.instanceMethod yX0_init ∈ T0 := mTt 241 (by decide +kernel) rfl
set_option maxRecDepth 100000 in
theorem co_yX0_init : Cond.code yX0_init cX0_init 1 none ∈ T0 := mTt 242 (rfl) rfl
theorem ml_RX0_3 : Cond.methodLink RX0 3 objectInit ∈ T0 := mTt 243 (by decide +kernel) rfl
theorem fw_RX0_11 : Cond.fieldLink RX0 11 RX0 "bodies" "[I" ∈ T0 := mTt 244 (by decide +kernel) rfl
theorem fw_RX7_253 : Cond.fieldLink RX7 253 RX0 "bodies" "[I" ∈ T0 := mTt 245 (by decide +kernel) rfl
theorem fw_RX0_15 : Cond.fieldLink RX0 15 RX0 "ran" "I" ∈ T0 := mTt 246 (by decide +kernel) rfl
theorem fw_RX7_260 : Cond.fieldLink RX7 260 RX0 "ran" "I" ∈ T0 := mTt 247 (by decide +kernel) rfl
theorem fw_RX0_25 : Cond.fieldLink RX0 25 RX0 "number" "I" ∈ T0 := mTt 248 (by decide +kernel) rfl
theorem fw_RX0_33 : Cond.fieldLink RX0 33 RX0 "ownKind" "I" ∈ T0 := mTt 249 (by decide +kernel) rfl
theorem fw_RX0_39 : Cond.fieldLink RX0 39 RX0 "v" "I" ∈ T0 := mTt 250 (by decide +kernel) rfl
theorem cw_RX7_51 : Cond.classLink RX7 51 RX4 ∈ T0 := mTt 262 (by decide +kernel) rfl
theorem it_RX4 : Cond.instantiable RX4 3 ∈ T0 := mTt 263 (by decide +kernel) rfl
theorem ml_RX7_53 : Cond.methodLink RX7 53 yX4_init ∈ T0 := mTt 264 (by decide +kernel) rfl
theorem im_yX4_init : Cond.instanceMethod yX4_init ∈ T0 := mTt 265 (by decide +kernel) rfl
set_option maxRecDepth 100000 in
theorem co_yX4_init : Cond.code yX4_init cX4_init 2 none ∈ T0 := mTt 266 (rfl) rfl
theorem ml_RX4_1 : Cond.methodLink RX4 1 objectInit ∈ T0 := mTt 267 (by decide +kernel) rfl
theorem fw_RX4_9 : Cond.fieldLink RX4 9 RX4 "sort" "[I" ∈ T0 := mTt 268 (by decide +kernel) rfl
theorem fw_RX7_273 : Cond.fieldLink RX7 273 RX4 "sort" "[I" ∈ T0 := mTt 269 (by decide +kernel) rfl
theorem fw_RX4_13 : Cond.fieldLink RX4 13 RX4 "length" "[I" ∈ T0 := mTt 270 (by decide +kernel) rfl
theorem fw_RX4_16 : Cond.fieldLink RX4 16 RX4 "items" "[J" ∈ T0 := mTt 271 (by decide +kernel) rfl
theorem ac_long : Cond.arrayClass .long ∈ T0 := mTt 279 (by decide +kernel) rfl
theorem fw_RX7_12 : Cond.fieldLink RX7 12 RX7 "bare" "LSevenUnwashed$Land;" ∈ T0 := mTt 280 (by decide +kernel) rfl
theorem fw_RX7_23 : Cond.fieldLink RX7 23 RX7 "now" "LSevenUnwashed$World;" ∈ T0 := mTt 281 (by decide +kernel) rfl
theorem fw_RX7_27 : Cond.fieldLink RX7 27 RX7 "trial" "LSevenUnwashed$World;" ∈ T0 := mTt 282 (by decide +kernel) rfl
theorem fw_RX7_30 : Cond.fieldLink RX7 30 RX7 "kept" "LSevenUnwashed$World;" ∈ T0 := mTt 283 (by decide +kernel) rfl
theorem fw_RX7_239 : Cond.fieldLink RX7 239 RX7 "isKept" "Z" ∈ T0 := mTt 284 (by decide +kernel) rfl
theorem fw_RX7_33 : Cond.fieldLink RX7 33 RX7 "lands" "[LSevenUnwashed$Land;" ∈ T0 := mTt 285 (by decide +kernel) rfl
theorem fw_RX7_137 : Cond.fieldLink RX7 137 RX7 "landCount" "I" ∈ T0 := mTt 286 (by decide +kernel) rfl
theorem fw_RX7_40 : Cond.fieldLink RX7 40 RX7 "text" "LSevenUnwashed$Text;" ∈ T0 := mTt 287 (by decide +kernel) rfl
theorem fw_RX7_47 : Cond.fieldLink RX7 47 RX7 "acts" "LSevenUnwashed$Acts;" ∈ T0 := mTt 288 (by decide +kernel) rfl
theorem fw_RX7_54 : Cond.fieldLink RX7 54 RX7 "tapes" "LSevenUnwashed$Tapes;" ∈ T0 := mTt 289 (by decide +kernel) rfl
theorem ml_RL_13 : Cond.methodLink RL 13 yX7_person ∈ T0 := mTt 311 (by decide +kernel) rfl
theorem im_yX7_person : Cond.instanceMethod yX7_person ∈ T0 := mTt 312 (by decide +kernel) rfl
theorem se_yX7_person : Cond.selects RX7 yX7_person yX7_person ∈ T0 := mTt 313 (by decide +kernel) rfl
set_option maxRecDepth 100000 in
theorem co_yX7_person : Cond.code yX7_person cX7_person 4 (some .int) ∈ T0 := mTt 314 (rfl) rfl
theorem ml_RX7_58 : Cond.methodLink RX7 58 yX7_isWithin ∈ T0 := mTt 315 (by decide +kernel) rfl
theorem st_yX7_isWithin : Cond.static yX7_isWithin ∈ T0 := mTt 316 (by decide +kernel) rfl
set_option maxRecDepth 100000 in
theorem co_yX7_isWithin : Cond.code yX7_isWithin cX7_isWithin 3 (some .boolean) ∈ T0 := mTt 317 (rfl) rfl
theorem ml_RX7_72 : Cond.methodLink RX7 72 yX3_join ∈ T0 := mTt 318 (by decide +kernel) rfl
theorem im_yX3_join : Cond.instanceMethod yX3_join ∈ T0 := mTt 319 (by decide +kernel) rfl
theorem se_yX3_join : Cond.selects RX3 yX3_join yX3_join ∈ T0 := mTt 320 (by decide +kernel) rfl
set_option maxRecDepth 100000 in
theorem co_yX3_join : Cond.code yX3_join cX3_join 6 (some .int) ∈ T0 := mTt 321 (rfl) rfl
theorem ml_RX3_34 : Cond.methodLink RX3 34 yX3_setDead ∈ T0 := mTt 322 (by decide +kernel) rfl
theorem im_yX3_setDead : Cond.instanceMethod yX3_setDead ∈ T0 := mTt 323 (by decide +kernel) rfl
theorem se_yX3_setDead : Cond.selects RX3 yX3_setDead yX3_setDead ∈ T0 := mTt 324 (by decide +kernel) rfl
set_option maxRecDepth 100000 in
theorem co_yX3_setDead : Cond.code yX3_setDead cX3_setDead 3 none ∈ T0 := mTt 325 (rfl) rfl
theorem ml_RL_18 : Cond.methodLink RL 18 yX7_of ∈ T0 := mTt 326 (by decide +kernel) rfl
theorem im_yX7_of : Cond.instanceMethod yX7_of ∈ T0 := mTt 327 (by decide +kernel) rfl
theorem se_yX7_of : Cond.selects RX7 yX7_of yX7_of ∈ T0 := mTt 328 (by decide +kernel) rfl
set_option maxRecDepth 100000 in
theorem co_yX7_of : Cond.code yX7_of cX7_of 4 (some .int) ∈ T0 := mTt 329 (rfl) rfl
theorem ml_RX7_76 : Cond.methodLink RX7 76 yX7_isPerson ∈ T0 := mTt 330 (by decide +kernel) rfl
theorem im_yX7_isPerson : Cond.instanceMethod yX7_isPerson ∈ T0 := mTt 332 (by decide +kernel) rfl
set_option maxRecDepth 100000 in
theorem co_yX7_isPerson : Cond.code yX7_isPerson cX7_isPerson 2 (some .boolean) ∈ T0 := mTt 333 (rfl) rfl
theorem ml_RX7_93 : Cond.methodLink RX7 93 yX3_isDead ∈ T0 := mTt 334 (by decide +kernel) rfl
theorem im_yX3_isDead : Cond.instanceMethod yX3_isDead ∈ T0 := mTt 335 (by decide +kernel) rfl
theorem se_yX3_isDead : Cond.selects RX3 yX3_isDead yX3_isDead ∈ T0 := mTt 336 (by decide +kernel) rfl
set_option maxRecDepth 100000 in
theorem co_yX3_isDead : Cond.code yX3_isDead cX3_isDead 2 (some .boolean) ∈ T0 := mTt 337 (rfl) rfl
theorem ml_RX7_96 : Cond.methodLink RX7 96 yX6_letIn ∈ T0 := mTt 338 (by decide +kernel) rfl
theorem im_yX6_letIn : Cond.instanceMethod yX6_letIn ∈ T0 := mTt 339 (by decide +kernel) rfl
theorem se_yX6_letIn : Cond.selects RX6 yX6_letIn yX6_letIn ∈ T0 := mTt 340 (by decide +kernel) rfl
set_option maxRecDepth 100000 in
theorem co_yX6_letIn : Cond.code yX6_letIn cX6_letIn 4 (some .int) ∈ T0 := mTt 341 (rfl) rfl
theorem ml_RX6_81 : Cond.methodLink RX6 81 yX1_holdsFor ∈ T0 := mTt 342 (by decide +kernel) rfl
theorem im_yX1_holdsFor : Cond.instanceMethod yX1_holdsFor ∈ T0 := mTt 343 (by decide +kernel) rfl
theorem se_yX1_holdsFor : Cond.selects RX1 yX1_holdsFor yX1_holdsFor ∈ T0 := mTt 344 (by decide +kernel) rfl
set_option maxRecDepth 100000 in
theorem co_yX1_holdsFor : Cond.code yX1_holdsFor cX1_holdsFor 8 (some .int) ∈ T0 := mTt 345 (rfl) rfl
theorem ml_RX1_56 : Cond.methodLink RX1 56 yX1_passTest ∈ T0 := mTt 347 (by decide +kernel) rfl
theorem im_yX1_passTest : Cond.instanceMethod yX1_passTest ∈ T0 := mTt 349 (by decide +kernel) rfl
set_option maxRecDepth 100000 in
theorem co_yX1_passTest : Cond.code yX1_passTest cX1_passTest 10 (some .int) ∈ T0 := mTt 350 (rfl) rfl
theorem ml_RX6_91 : Cond.methodLink RX6 91 yX3_isDead ∈ T0 := mTt 351 (by decide +kernel) rfl
theorem ml_RX7_103 : Cond.methodLink RX7 103 yX6_prayerOf ∈ T0 := mTt 352 (by decide +kernel) rfl
theorem im_yX6_prayerOf : Cond.instanceMethod yX6_prayerOf ∈ T0 := mTt 353 (by decide +kernel) rfl
theorem se_yX6_prayerOf : Cond.selects RX6 yX6_prayerOf yX6_prayerOf ∈ T0 := mTt 354 (by decide +kernel) rfl
set_option maxRecDepth 100000 in
theorem co_yX6_prayerOf : Cond.code yX6_prayerOf cX6_prayerOf 5 (some .int) ∈ T0 := mTt 355 (rfl) rfl
theorem ml_RX6_98 : Cond.methodLink RX6 98 yX6_isMultiple ∈ T0 := mTt 356 (by decide +kernel) rfl
theorem st_yX6_isMultiple : Cond.static yX6_isMultiple ∈ T0 := mTt 357 (by decide +kernel) rfl
set_option maxRecDepth 100000 in
theorem co_yX6_isMultiple : Cond.code yX6_isMultiple cX6_isMultiple 2 (some .boolean) ∈ T0 := mTt 358 (rfl) rfl
theorem ml_RX7_107 : Cond.methodLink RX7 107 yX3_thanksFor ∈ T0 := mTt 359 (by decide +kernel) rfl
theorem im_yX3_thanksFor : Cond.instanceMethod yX3_thanksFor ∈ T0 := mTt 360 (by decide +kernel) rfl
theorem se_yX3_thanksFor : Cond.selects RX3 yX3_thanksFor yX3_thanksFor ∈ T0 := mTt 361 (by decide +kernel) rfl
set_option maxRecDepth 100000 in
theorem co_yX3_thanksFor : Cond.code yX3_thanksFor cX3_thanksFor 3 (some .int) ∈ T0 := mTt 362 (rfl) rfl
theorem ml_RL_23 : Cond.methodLink RL 23 yX7_thanks ∈ T0 := mTt 363 (by decide +kernel) rfl
theorem im_yX7_thanks : Cond.instanceMethod yX7_thanks ∈ T0 := mTt 364 (by decide +kernel) rfl
theorem se_yX7_thanks : Cond.selects RX7 yX7_thanks yX7_thanks ∈ T0 := mTt 365 (by decide +kernel) rfl
set_option maxRecDepth 100000 in
theorem co_yX7_thanks : Cond.code yX7_thanks cX7_thanks 4 (some .int) ∈ T0 := mTt 366 (rfl) rfl
theorem ml_RL_27 : Cond.methodLink RL 27 yX7_kill ∈ T0 := mTt 367 (by decide +kernel) rfl
theorem im_yX7_kill : Cond.instanceMethod yX7_kill ∈ T0 := mTt 368 (by decide +kernel) rfl
theorem se_yX7_kill : Cond.selects RX7 yX7_kill yX7_kill ∈ T0 := mTt 369 (by decide +kernel) rfl
set_option maxRecDepth 100000 in
theorem co_yX7_kill : Cond.code yX7_kill cX7_kill 4 (some .int) ∈ T0 := mTt 370 (rfl) rfl
theorem ml_RX7_110 : Cond.methodLink RX7 110 yX3_setDead ∈ T0 := mTt 371 (by decide +kernel) rfl
theorem ml_RL_32 : Cond.methodLink RL 32 yX7_row ∈ T0 := mTt 372 (by decide +kernel) rfl
theorem im_yX7_row : Cond.instanceMethod yX7_row ∈ T0 := mTt 373 (by decide +kernel) rfl
theorem se_yX7_row : Cond.selects RX7 yX7_row yX7_row ∈ T0 := mTt 374 (by decide +kernel) rfl
set_option maxRecDepth 100000 in
theorem co_yX7_row : Cond.code yX7_row cX7_row 6 (some .int) ∈ T0 := mTt 375 (rfl) rfl
theorem ml_RL_36 : Cond.methodLink RL 36 yX7_soldier ∈ T0 := mTt 376 (by decide +kernel) rfl
theorem im_yX7_soldier : Cond.instanceMethod yX7_soldier ∈ T0 := mTt 377 (by decide +kernel) rfl
theorem se_yX7_soldier : Cond.selects RX7 yX7_soldier yX7_soldier ∈ T0 := mTt 378 (by decide +kernel) rfl
set_option maxRecDepth 100000 in
theorem co_yX7_soldier : Cond.code yX7_soldier cX7_soldier 4 (some .int) ∈ T0 := mTt 379 (rfl) rfl
theorem ml_RL_40 : Cond.methodLink RL 40 yX7_round ∈ T0 := mTt 380 (by decide +kernel) rfl
theorem im_yX7_round : Cond.instanceMethod yX7_round ∈ T0 := mTt 381 (by decide +kernel) rfl
theorem se_yX7_round : Cond.selects RX7 yX7_round yX7_round ∈ T0 := mTt 382 (by decide +kernel) rfl
set_option maxRecDepth 100000 in
theorem co_yX7_round : Cond.code yX7_round cX7_round 2 (some .int) ∈ T0 := mTt 383 (rfl) rfl
theorem ml_RL_45 : Cond.methodLink RL 45 yX7_feed ∈ T0 := mTt 384 (by decide +kernel) rfl
theorem im_yX7_feed : Cond.instanceMethod yX7_feed ∈ T0 := mTt 385 (by decide +kernel) rfl
theorem se_yX7_feed : Cond.selects RX7 yX7_feed yX7_feed ∈ T0 := mTt 386 (by decide +kernel) rfl
set_option maxRecDepth 100000 in
theorem co_yX7_feed : Cond.code yX7_feed cX7_feed 2 (some .int) ∈ T0 := mTt 387 (rfl) rfl
theorem ml_RX7_129 : Cond.methodLink RX7 129 yX5_isFull ∈ T0 := mTt 388 (by decide +kernel) rfl
theorem im_yX5_isFull : Cond.instanceMethod yX5_isFull ∈ T0 := mTt 389 (by decide +kernel) rfl
theorem se_yX5_isFull : Cond.selects RX5 yX5_isFull yX5_isFull ∈ T0 := mTt 390 (by decide +kernel) rfl
set_option maxRecDepth 100000 in
theorem co_yX5_isFull : Cond.code yX5_isFull cX5_isFull 1 (some .boolean) ∈ T0 := mTt 391 (rfl) rfl
theorem ml_RX7_133 : Cond.methodLink RX7 133 yX5_put ∈ T0 := mTt 392 (by decide +kernel) rfl
theorem im_yX5_put : Cond.instanceMethod yX5_put ∈ T0 := mTt 393 (by decide +kernel) rfl
theorem se_yX5_put : Cond.selects RX5 yX5_put yX5_put ∈ T0 := mTt 394 (by decide +kernel) rfl
set_option maxRecDepth 100000 in
theorem co_yX5_put : Cond.code yX5_put cX5_put 2 (some .int) ∈ T0 := mTt 395 (rfl) rfl
theorem ml_RX5_19 : Cond.methodLink RX5 19 yX5_isFull ∈ T0 := mTt 396 (by decide +kernel) rfl
theorem ml_RL_49 : Cond.methodLink RL 49 yX7_land ∈ T0 := mTt 397 (by decide +kernel) rfl
theorem im_yX7_land : Cond.instanceMethod yX7_land ∈ T0 := mTt 398 (by decide +kernel) rfl
theorem se_yX7_land : Cond.selects RX7 yX7_land yX7_land ∈ T0 := mTt 399 (by decide +kernel) rfl
set_option maxRecDepth 100000 in
theorem co_yX7_land : Cond.code yX7_land cX7_land 3 (some .int) ∈ T0 := mTt 400 (rfl) rfl
theorem ml_RX7_140 : Cond.methodLink RX7 140 yX5_becomes ∈ T0 := mTt 401 (by decide +kernel) rfl
theorem im_yX5_becomes : Cond.instanceMethod yX5_becomes ∈ T0 := mTt 402 (by decide +kernel) rfl
theorem se_yX5_becomes : Cond.selects RX5 yX5_becomes yX5_becomes ∈ T0 := mTt 403 (by decide +kernel) rfl
set_option maxRecDepth 100000 in
theorem co_yX5_becomes : Cond.code yX5_becomes cX5_becomes 4 (some .int) ∈ T0 := mTt 404 (rfl) rfl
theorem ml_RX5_23 : Cond.methodLink RX5 23 yX1_clear ∈ T0 := mTt 405 (by decide +kernel) rfl
theorem ml_RX5_31 : Cond.methodLink RX5 31 yX5_clause ∈ T0 := mTt 406 (by decide +kernel) rfl
theorem im_yX5_clause : Cond.instanceMethod yX5_clause ∈ T0 := mTt 408 (by decide +kernel) rfl
set_option maxRecDepth 100000 in
theorem co_yX5_clause : Cond.code yX5_clause cX5_clause 4 (some .boolean) ∈ T0 := mTt 409 (rfl) rfl
theorem ml_RX5_39 : Cond.methodLink RX5 39 yX5_word ∈ T0 := mTt 410 (by decide +kernel) rfl
theorem im_yX5_word : Cond.instanceMethod yX5_word ∈ T0 := mTt 412 (by decide +kernel) rfl
set_option maxRecDepth 100000 in
theorem co_yX5_word : Cond.code yX5_word cX5_word 5 (some .int) ∈ T0 := mTt 413 (rfl) rfl
theorem ml_RX5_63 : Cond.methodLink RX5 63 yX5_nameOf ∈ T0 := mTt 414 (by decide +kernel) rfl
theorem st_yX5_nameOf : Cond.static yX5_nameOf ∈ T0 := mTt 415 (by decide +kernel) rfl
set_option maxRecDepth 100000 in
theorem co_yX5_nameOf : Cond.code yX5_nameOf cX5_nameOf 1 (some (.object "java/lang/String")) ∈ T0 := mTt 416 (rfl) rfl
theorem ml_RX5_67 : Cond.methodLink RX5 67 yJ0_length_8abf5 ∈ T0 := mTt 422 (by decide +kernel) rfl
theorem im_yJ0_length_8abf5 : Cond.instanceMethod yJ0_length_8abf5 ∈ T0 := mTt 423 (by decide +kernel) rfl
theorem se_yJ0_length_8abf5 : Cond.selects RJ0 yJ0_length_8abf5 yJ0_length_8abf5 ∈ T0 := mTt 424 (by decide +kernel) rfl
set_option maxRecDepth 100000 in
theorem co_yJ0_length_8abf5 : Cond.code yJ0_length_8abf5 cJ0_length_8abf5 1 (some .int) ∈ T0 := mTt 425 (rfl) rfl
theorem ml_RJ0_335 : Cond.methodLink RJ0 335 yJ0_coder_7d493 ∈ T0 := mTt 426 (by decide +kernel) rfl
theorem im_yJ0_coder_7d493 : Cond.instanceMethod yJ0_coder_7d493 ∈ T0 := mTt 427 (by decide +kernel) rfl
theorem se_yJ0_coder_7d493 : Cond.selects RJ0 yJ0_coder_7d493 yJ0_coder_7d493 ∈ T0 := mTt 428 (by decide +kernel) rfl
set_option maxRecDepth 100000 in
theorem co_yJ0_coder_7d493 : Cond.code yJ0_coder_7d493 cJ0_coder_7d493 1 (some .byte) ∈ T0 := mTt 429 (rfl) rfl
theorem fw_RJ0_38 : Cond.fieldLink RJ0 38 RJ0 "COMPACT_STRINGS" "Z" ∈ T0 := mTt 430 (by decide +kernel) rfl
theorem ml_RX5_72 : Cond.methodLink RX5 72 yJ0_charAt_5068e ∈ T0 := mTt 432 (by decide +kernel) rfl
theorem im_yJ0_charAt_5068e : Cond.instanceMethod yJ0_charAt_5068e ∈ T0 := mTt 433 (by decide +kernel) rfl
theorem se_yJ0_charAt_5068e : Cond.selects RJ0 yJ0_charAt_5068e yJ0_charAt_5068e ∈ T0 := mTt 434 (by decide +kernel) rfl
set_option maxRecDepth 100000 in
theorem co_yJ0_charAt_5068e : Cond.code yJ0_charAt_5068e cJ0_charAt_5068e 2 (some .char) ∈ T0 := mTt 435 (rfl) rfl
theorem ml_RJ0_492 : Cond.methodLink RJ0 492 yJ0_isLatin1_aae02 ∈ T0 := mTt 436 (by decide +kernel) rfl
theorem im_yJ0_isLatin1_aae02 : Cond.instanceMethod yJ0_isLatin1_aae02 ∈ T0 := mTt 437 (by decide +kernel) rfl
theorem se_yJ0_isLatin1_aae02 : Cond.selects RJ0 yJ0_isLatin1_aae02 yJ0_isLatin1_aae02 ∈ T0 := mTt 438 (by decide +kernel) rfl
set_option maxRecDepth 100000 in
theorem co_yJ0_isLatin1_aae02 : Cond.code yJ0_isLatin1_aae02 cJ0_isLatin1_aae02 1 (some .boolean) ∈ T0 := mTt 439 (rfl) rfl
theorem ml_RJ0_495 : Cond.methodLink RJ0 495 yJ1_charAt_3b067 ∈ T0 := mTt 440 (by decide +kernel) rfl
theorem st_yJ1_charAt_3b067 : Cond.static yJ1_charAt_3b067 ∈ T0 := mTt 441 (by decide +kernel) rfl
set_option maxRecDepth 100000 in
theorem co_yJ1_charAt_3b067 : Cond.code yJ1_charAt_3b067 cJ1_charAt_3b067 2 (some .char) ∈ T0 := mTt 442 (rfl) rfl
theorem ml_RJ1_9 : Cond.methodLink RJ1 9 yJ0_checkIndex_df160 ∈ T0 := mTt 443 (by decide +kernel) rfl
theorem st_yJ0_checkIndex_df160 : Cond.static yJ0_checkIndex_df160 ∈ T0 := mTt 444 (by decide +kernel) rfl
set_option maxRecDepth 100000 in
theorem co_yJ0_checkIndex_df160 : Cond.code yJ0_checkIndex_df160 cJ0_checkIndex_df160 2 none ∈ T0 := mTt 445 (rfl) rfl
theorem fw_RJ0_1053 : Cond.fieldLink RJ0 1053 RJ3 "SIOOBE_FORMATTER" "Ljava/util/function/BiFunction;" ∈ T0 := mTt 446 (by decide +kernel) rfl
theorem ml_RJ0_1059 : Cond.methodLink RJ0 1059 yJ3_checkIndex_8e157 ∈ T0 := mTt 448 (by decide +kernel) rfl
theorem st_yJ3_checkIndex_8e157 : Cond.static yJ3_checkIndex_8e157 ∈ T0 := mTt 449 (by decide +kernel) rfl
set_option maxRecDepth 100000 in
theorem co_yJ3_checkIndex_8e157 : Cond.code yJ3_checkIndex_8e157 cJ3_checkIndex_8e157 3 (some .int) ∈ T0 := mTt 450 (rfl) rfl
theorem ml_RJ0_498 : Cond.methodLink RJ0 498 yJ2_charAt_3b067 ∈ T0 := mTt 451 (by decide +kernel) rfl
theorem st_yJ2_charAt_3b067 : Cond.static yJ2_charAt_3b067 ∈ T0 := mTt 452 (by decide +kernel) rfl
set_option maxRecDepth 100000 in
theorem co_yJ2_charAt_3b067 : Cond.code yJ2_charAt_3b067 cJ2_charAt_3b067 2 (some .char) ∈ T0 := mTt 453 (rfl) rfl
theorem ml_RJ2_67 : Cond.methodLink RJ2 67 yJ2_checkIndex_2214a ∈ T0 := mTt 454 (by decide +kernel) rfl
theorem st_yJ2_checkIndex_2214a : Cond.static yJ2_checkIndex_2214a ∈ T0 := mTt 455 (by decide +kernel) rfl
set_option maxRecDepth 100000 in
theorem co_yJ2_checkIndex_2214a : Cond.code yJ2_checkIndex_2214a cJ2_checkIndex_2214a 2 none ∈ T0 := mTt 456 (rfl) rfl
theorem ml_RJ2_48 : Cond.methodLink RJ2 48 yJ2_length_9d52b ∈ T0 := mTt 457 (by decide +kernel) rfl
theorem st_yJ2_length_9d52b : Cond.static yJ2_length_9d52b ∈ T0 := mTt 458 (by decide +kernel) rfl
set_option maxRecDepth 100000 in
theorem co_yJ2_length_9d52b : Cond.code yJ2_length_9d52b cJ2_length_9d52b 1 (some .int) ∈ T0 := mTt 459 (rfl) rfl
theorem ml_RJ2_414 : Cond.methodLink RJ2 414 yJ0_checkIndex_df160 ∈ T0 := mTt 460 (by decide +kernel) rfl
theorem ml_RJ2_71 : Cond.methodLink RJ2 71 yJ2_getChar_3b067 ∈ T0 := mTt 461 (by decide +kernel) rfl
theorem st_yJ2_getChar_3b067 : Cond.static yJ2_getChar_3b067 ∈ T0 := mTt 462 (by decide +kernel) rfl
set_option maxRecDepth 100000 in
theorem co_yJ2_getChar_3b067 : Cond.code yJ2_getChar_3b067 cJ2_getChar_3b067 2 (some .char) ∈ T0 := mTt 463 (rfl) rfl
theorem fw_RJ2_44 : Cond.fieldLink RJ2 44 RJ2 "$assertionsDisabled" "Z" ∈ T0 := mTt 464 (by decide +kernel) rfl
theorem fw_RJ2_59 : Cond.fieldLink RJ2 59 RJ2 "HI_BYTE_SHIFT" "I" ∈ T0 := mTt 466 (by decide +kernel) rfl
theorem fw_RJ2_63 : Cond.fieldLink RJ2 63 RJ2 "LO_BYTE_SHIFT" "I" ∈ T0 := mTt 468 (by decide +kernel) rfl
theorem ml_RX5_76 : Cond.methodLink RX5 76 yJ9_max_7cf53 ∈ T0 := mTt 470 (by decide +kernel) rfl
theorem ml_RX5_35 : Cond.methodLink RX5 35 yX5_skip ∈ T0 := mTt 471 (by decide +kernel) rfl
theorem im_yX5_skip : Cond.instanceMethod yX5_skip ∈ T0 := mTt 473 (by decide +kernel) rfl
set_option maxRecDepth 100000 in
theorem co_yX5_skip : Cond.code yX5_skip cX5_skip 2 (some .boolean) ∈ T0 := mTt 474 (rfl) rfl
theorem ml_RX5_43 : Cond.methodLink RX5 43 yX5_number ∈ T0 := mTt 475 (by decide +kernel) rfl
theorem im_yX5_number : Cond.instanceMethod yX5_number ∈ T0 := mTt 477 (by decide +kernel) rfl
set_option maxRecDepth 100000 in
theorem co_yX5_number : Cond.code yX5_number cX5_number 3 (some .int) ∈ T0 := mTt 478 (rfl) rfl
theorem ml_RX5_46 : Cond.methodLink RX5 46 yX5_either ∈ T0 := mTt 479 (by decide +kernel) rfl
theorem im_yX5_either : Cond.instanceMethod yX5_either ∈ T0 := mTt 481 (by decide +kernel) rfl
set_option maxRecDepth 100000 in
theorem co_yX5_either : Cond.code yX5_either cX5_either 6 (some .boolean) ∈ T0 := mTt 482 (rfl) rfl
theorem ml_RX5_89 : Cond.methodLink RX5 89 yX5_single ∈ T0 := mTt 483 (by decide +kernel) rfl
theorem im_yX5_single : Cond.instanceMethod yX5_single ∈ T0 := mTt 485 (by decide +kernel) rfl
set_option maxRecDepth 100000 in
theorem co_yX5_single : Cond.code yX5_single cX5_single 4 (some .boolean) ∈ T0 := mTt 486 (rfl) rfl
theorem ml_RX5_95 : Cond.methodLink RX5 95 yX5_test ∈ T0 := mTt 487 (by decide +kernel) rfl
theorem im_yX5_test : Cond.instanceMethod yX5_test ∈ T0 := mTt 489 (by decide +kernel) rfl
set_option maxRecDepth 100000 in
theorem co_yX5_test : Cond.code yX5_test cX5_test 5 (some .boolean) ∈ T0 := mTt 490 (rfl) rfl
theorem ml_RX5_100 : Cond.methodLink RX5 100 yX5_oneOf ∈ T0 := mTt 492 (by decide +kernel) rfl
theorem im_yX5_oneOf : Cond.instanceMethod yX5_oneOf ∈ T0 := mTt 494 (by decide +kernel) rfl
set_option maxRecDepth 100000 in
theorem co_yX5_oneOf : Cond.code yX5_oneOf cX5_oneOf 3 (some .int) ∈ T0 := mTt 495 (rfl) rfl
theorem ml_RX5_110 : Cond.methodLink RX5 110 yJ0_indexOf_0f7a4 ∈ T0 := mTt 496 (by decide +kernel) rfl
theorem im_yJ0_indexOf_0f7a4 : Cond.instanceMethod yJ0_indexOf_0f7a4 ∈ T0 := mTt 497 (by decide +kernel) rfl
theorem se_yJ0_indexOf_0f7a4 : Cond.selects RJ0 yJ0_indexOf_0f7a4 yJ0_indexOf_0f7a4 ∈ T0 := mTt 498 (by decide +kernel) rfl
set_option maxRecDepth 100000 in
theorem co_yJ0_indexOf_0f7a4 : Cond.code yJ0_indexOf_0f7a4 cJ0_indexOf_0f7a4 2 (some .int) ∈ T0 := mTt 499 (rfl) rfl
theorem ml_RJ0_633 : Cond.methodLink RJ0 633 yJ0_indexOf_7cf53 ∈ T0 := mTt 500 (by decide +kernel) rfl
theorem im_yJ0_indexOf_7cf53 : Cond.instanceMethod yJ0_indexOf_7cf53 ∈ T0 := mTt 501 (by decide +kernel) rfl
theorem se_yJ0_indexOf_7cf53 : Cond.selects RJ0 yJ0_indexOf_7cf53 yJ0_indexOf_7cf53 ∈ T0 := mTt 502 (by decide +kernel) rfl
set_option maxRecDepth 100000 in
theorem co_yJ0_indexOf_7cf53 : Cond.code yJ0_indexOf_7cf53 cJ0_indexOf_7cf53 3 (some .int) ∈ T0 := mTt 503 (rfl) rfl
theorem ml_RJ0_505 : Cond.methodLink RJ0 505 yJ0_length_8abf5 ∈ T0 := mTt 504 (by decide +kernel) rfl
theorem ml_RJ0_637 : Cond.methodLink RJ0 637 yJ1_indexOf_4cfef ∈ T0 := mTt 505 (by decide +kernel) rfl
theorem st_yJ1_indexOf_4cfef : Cond.static yJ1_indexOf_4cfef ∈ T0 := mTt 506 (by decide +kernel) rfl
set_option maxRecDepth 100000 in
theorem co_yJ1_indexOf_4cfef : Cond.code yJ1_indexOf_4cfef cJ1_indexOf_4cfef 4 (some .int) ∈ T0 := mTt 507 (rfl) rfl
theorem ml_RJ1_88 : Cond.methodLink RJ1 88 yJ1_canEncode_9a6ad ∈ T0 := mTt 508 (by decide +kernel) rfl
theorem st_yJ1_canEncode_9a6ad : Cond.static yJ1_canEncode_9a6ad ∈ T0 := mTt 509 (by decide +kernel) rfl
set_option maxRecDepth 100000 in
theorem co_yJ1_canEncode_9a6ad : Cond.code yJ1_canEncode_9a6ad cJ1_canEncode_9a6ad 1 (some .boolean) ∈ T0 := mTt 510 (rfl) rfl
theorem ml_RJ1_92 : Cond.methodLink RJ1 92 yJ9_max_7cf53 ∈ T0 := mTt 511 (by decide +kernel) rfl
theorem ml_RJ1_38 : Cond.methodLink RJ1 38 yJ9_min_7cf53 ∈ T0 := mTt 512 (by decide +kernel) rfl
theorem st_yJ9_min_7cf53 : Cond.static yJ9_min_7cf53 ∈ T0 := mTt 513 (by decide +kernel) rfl
set_option maxRecDepth 100000 in
theorem co_yJ9_min_7cf53 : Cond.code yJ9_min_7cf53 cJ9_min_7cf53 2 (some .int) ∈ T0 := mTt 514 (rfl) rfl
theorem ml_RJ1_95 : Cond.methodLink RJ1 95 yJ1_indexOfChar_4cfef ∈ T0 := mTt 515 (by decide +kernel) rfl
theorem st_yJ1_indexOfChar_4cfef : Cond.static yJ1_indexOfChar_4cfef ∈ T0 := mTt 516 (by decide +kernel) rfl
set_option maxRecDepth 100000 in
theorem co_yJ1_indexOfChar_4cfef : Cond.code yJ1_indexOfChar_4cfef cJ1_indexOfChar_4cfef 6 (some .int) ∈ T0 := mTt 517 (rfl) rfl
theorem ml_RJ0_640 : Cond.methodLink RJ0 640 yJ2_indexOf_4cfef ∈ T0 := mTt 518 (by decide +kernel) rfl
theorem st_yJ2_indexOf_4cfef : Cond.static yJ2_indexOf_4cfef ∈ T0 := mTt 519 (by decide +kernel) rfl
set_option maxRecDepth 100000 in
theorem co_yJ2_indexOf_4cfef : Cond.code yJ2_indexOf_4cfef cJ2_indexOf_4cfef 4 (some .int) ∈ T0 := mTt 520 (rfl) rfl
theorem ml_RJ2_224 : Cond.methodLink RJ2 224 yJ9_max_7cf53 ∈ T0 := mTt 521 (by decide +kernel) rfl
theorem ml_RJ2_183 : Cond.methodLink RJ2 183 yJ9_min_7cf53 ∈ T0 := mTt 522 (by decide +kernel) rfl
theorem cn_RJ2_227 : Cond.constant RJ2 227 (65536 : Int32) ∈ T0 := mTt 523 (by decide +kernel) rfl
theorem ml_RJ2_228 : Cond.methodLink RJ2 228 yJ2_indexOfChar_4cfef ∈ T0 := mTt 524 (by decide +kernel) rfl
theorem st_yJ2_indexOfChar_4cfef : Cond.static yJ2_indexOfChar_4cfef ∈ T0 := mTt 525 (by decide +kernel) rfl
set_option maxRecDepth 100000 in
theorem co_yJ2_indexOfChar_4cfef : Cond.code yJ2_indexOfChar_4cfef cJ2_indexOfChar_4cfef 4 (some .int) ∈ T0 := mTt 526 (rfl) rfl
theorem ml_RJ2_96 : Cond.methodLink RJ2 96 yJ2_checkBoundsBeginEnd_d044e ∈ T0 := mTt 527 (by decide +kernel) rfl
theorem st_yJ2_checkBoundsBeginEnd_d044e : Cond.static yJ2_checkBoundsBeginEnd_d044e ∈ T0 := mTt 528 (by decide +kernel) rfl
set_option maxRecDepth 100000 in
theorem co_yJ2_checkBoundsBeginEnd_d044e : Cond.code yJ2_checkBoundsBeginEnd_d044e cJ2_checkBoundsBeginEnd_d044e 3 none ∈ T0 := mTt 529 (rfl) rfl
theorem ml_RJ2_241 : Cond.methodLink RJ2 241 yJ0_checkBoundsBeginEnd_23922 ∈ T0 := mTt 530 (by decide +kernel) rfl
theorem st_yJ0_checkBoundsBeginEnd_23922 : Cond.static yJ0_checkBoundsBeginEnd_23922 ∈ T0 := mTt 531 (by decide +kernel) rfl
set_option maxRecDepth 100000 in
theorem co_yJ0_checkBoundsBeginEnd_23922 : Cond.code yJ0_checkBoundsBeginEnd_23922 cJ0_checkBoundsBeginEnd_23922 3 none ∈ T0 := mTt 532 (rfl) rfl
theorem ml_RJ0_1062 : Cond.methodLink RJ0 1062 yJ3_checkFromToIndex_8c36e ∈ T0 := mTt 533 (by decide +kernel) rfl
theorem st_yJ3_checkFromToIndex_8c36e : Cond.static yJ3_checkFromToIndex_8c36e ∈ T0 := mTt 534 (by decide +kernel) rfl
set_option maxRecDepth 100000 in
theorem co_yJ3_checkFromToIndex_8c36e : Cond.code yJ3_checkFromToIndex_8c36e cJ3_checkFromToIndex_8c36e 4 (some .int) ∈ T0 := mTt 535 (rfl) rfl
theorem ml_RJ2_244 : Cond.methodLink RJ2 244 yJ2_indexOfCharUnsafe_4cfef ∈ T0 := mTt 536 (by decide +kernel) rfl
theorem st_yJ2_indexOfCharUnsafe_4cfef : Cond.static yJ2_indexOfCharUnsafe_4cfef ∈ T0 := mTt 537 (by decide +kernel) rfl
set_option maxRecDepth 100000 in
theorem co_yJ2_indexOfCharUnsafe_4cfef : Cond.code yJ2_indexOfCharUnsafe_4cfef cJ2_indexOfCharUnsafe_4cfef 5 (some .int) ∈ T0 := mTt 538 (rfl) rfl
theorem ml_RJ2_232 : Cond.methodLink RJ2 232 yJ2_indexOfSupplementary_4cfef ∈ T0 := mTt 539 (by decide +kernel) rfl
theorem st_yJ2_indexOfSupplementary_4cfef : Cond.static yJ2_indexOfSupplementary_4cfef ∈ T0 := mTt 540 (by decide +kernel) rfl
set_option maxRecDepth 100000 in
theorem co_yJ2_indexOfSupplementary_4cfef : Cond.code yJ2_indexOfSupplementary_4cfef cJ2_indexOfSupplementary_4cfef 7 (some .int) ∈ T0 := mTt 541 (rfl) rfl
theorem ml_RJ2_164 : Cond.methodLink RJ2 164 yJ11_isValidCodePoint_9a6ad ∈ T0 := mTt 542 (by decide +kernel) rfl
theorem st_yJ11_isValidCodePoint_9a6ad : Cond.static yJ11_isValidCodePoint_9a6ad ∈ T0 := mTt 543 (by decide +kernel) rfl
set_option maxRecDepth 100000 in
theorem co_yJ11_isValidCodePoint_9a6ad : Cond.code yJ11_isValidCodePoint_9a6ad cJ11_isValidCodePoint_9a6ad 2 (some .boolean) ∈ T0 := mTt 544 (rfl) rfl
theorem ml_RJ2_157 : Cond.methodLink RJ2 157 yJ11_highSurrogate_5068e ∈ T0 := mTt 545 (by decide +kernel) rfl
theorem st_yJ11_highSurrogate_5068e : Cond.static yJ11_highSurrogate_5068e ∈ T0 := mTt 546 (by decide +kernel) rfl
set_option maxRecDepth 100000 in
theorem co_yJ11_highSurrogate_5068e : Cond.code yJ11_highSurrogate_5068e cJ11_highSurrogate_5068e 1 (some .char) ∈ T0 := mTt 547 (rfl) rfl
theorem cn_RJ11_110 : Cond.constant RJ11 110 (55232 : Int32) ∈ T0 := mTt 548 (by decide +kernel) rfl
theorem ml_RJ2_161 : Cond.methodLink RJ2 161 yJ11_lowSurrogate_5068e ∈ T0 := mTt 549 (by decide +kernel) rfl
theorem st_yJ11_lowSurrogate_5068e : Cond.static yJ11_lowSurrogate_5068e ∈ T0 := mTt 550 (by decide +kernel) rfl
set_option maxRecDepth 100000 in
theorem co_yJ11_lowSurrogate_5068e : Cond.code yJ11_lowSurrogate_5068e cJ11_lowSurrogate_5068e 1 (some .char) ∈ T0 := mTt 551 (rfl) rfl
theorem cn_RJ11_76 : Cond.constant RJ11 76 (56320 : Int32) ∈ T0 := mTt 552 (by decide +kernel) rfl
theorem ml_RX5_106 : Cond.methodLink RX5 106 yX1_addTest ∈ T0 := mTt 554 (by decide +kernel) rfl
theorem im_yX1_addTest : Cond.instanceMethod yX1_addTest ∈ T0 := mTt 555 (by decide +kernel) rfl
theorem se_yX1_addTest : Cond.selects RX1 yX1_addTest yX1_addTest ∈ T0 := mTt 556 (by decide +kernel) rfl
set_option maxRecDepth 100000 in
theorem co_yX1_addTest : Cond.code yX1_addTest cX1_addTest 7 none ∈ T0 := mTt 557 (rfl) rfl
theorem cn_RX1_51 : Cond.constant RX1 51 (2147483647 : Int32) ∈ T0 := mTt 558 (by decide +kernel) rfl
theorem ml_RX5_92 : Cond.methodLink RX5 92 yX1_addStep ∈ T0 := mTt 559 (by decide +kernel) rfl
theorem im_yX1_addStep : Cond.instanceMethod yX1_addStep ∈ T0 := mTt 560 (by decide +kernel) rfl
theorem se_yX1_addStep : Cond.selects RX1 yX1_addStep yX1_addStep ∈ T0 := mTt 561 (by decide +kernel) rfl
set_option maxRecDepth 100000 in
theorem co_yX1_addStep : Cond.code yX1_addStep cX1_addStep 2 none ∈ T0 := mTt 562 (rfl) rfl
theorem ml_RX5_50 : Cond.methodLink RX5 50 yX1_addDoor ∈ T0 := mTt 563 (by decide +kernel) rfl
theorem im_yX1_addDoor : Cond.instanceMethod yX1_addDoor ∈ T0 := mTt 564 (by decide +kernel) rfl
theorem se_yX1_addDoor : Cond.selects RX1 yX1_addDoor yX1_addDoor ∈ T0 := mTt 565 (by decide +kernel) rfl
set_option maxRecDepth 100000 in
theorem co_yX1_addDoor : Cond.code yX1_addDoor cX1_addDoor 2 none ∈ T0 := mTt 566 (rfl) rfl
theorem ml_RX7_144 : Cond.methodLink RX7 144 yX6_settle ∈ T0 := mTt 567 (by decide +kernel) rfl
theorem ml_RL_54 : Cond.methodLink RL 54 yX7_told ∈ T0 := mTt 568 (by decide +kernel) rfl
theorem im_yX7_told : Cond.instanceMethod yX7_told ∈ T0 := mTt 569 (by decide +kernel) rfl
theorem se_yX7_told : Cond.selects RX7 yX7_told yX7_told ∈ T0 := mTt 570 (by decide +kernel) rfl
set_option maxRecDepth 100000 in
theorem co_yX7_told : Cond.code yX7_told cX7_told 2 (some .int) ∈ T0 := mTt 571 (rfl) rfl
theorem ml_RX7_159 : Cond.methodLink RX7 159 yX6_prayers ∈ T0 := mTt 572 (by decide +kernel) rfl
theorem im_yX6_prayers : Cond.instanceMethod yX6_prayers ∈ T0 := mTt 573 (by decide +kernel) rfl
theorem se_yX6_prayers : Cond.selects RX6 yX6_prayers yX6_prayers ∈ T0 := mTt 574 (by decide +kernel) rfl
set_option maxRecDepth 100000 in
theorem co_yX6_prayers : Cond.code yX6_prayers cX6_prayers 4 (some .int) ∈ T0 := mTt 575 (rfl) rfl
theorem ml_RX6_105 : Cond.methodLink RX6 105 yX6_prayerOf ∈ T0 := mTt 576 (by decide +kernel) rfl
theorem ml_RL_58 : Cond.methodLink RL 58 yX7_pass ∈ T0 := mTt 577 (by decide +kernel) rfl
theorem im_yX7_pass : Cond.instanceMethod yX7_pass ∈ T0 := mTt 578 (by decide +kernel) rfl
theorem se_yX7_pass : Cond.selects RX7 yX7_pass yX7_pass ∈ T0 := mTt 579 (by decide +kernel) rfl
set_option maxRecDepth 100000 in
theorem co_yX7_pass : Cond.code yX7_pass cX7_pass 2 (some .int) ∈ T0 := mTt 580 (rfl) rfl
theorem ml_RX7_162 : Cond.methodLink RX7 162 yX6_isGone ∈ T0 := mTt 581 (by decide +kernel) rfl
theorem im_yX6_isGone : Cond.instanceMethod yX6_isGone ∈ T0 := mTt 582 (by decide +kernel) rfl
theorem se_yX6_isGone : Cond.selects RX6 yX6_isGone yX6_isGone ∈ T0 := mTt 583 (by decide +kernel) rfl
set_option maxRecDepth 100000 in
theorem co_yX6_isGone : Cond.code yX6_isGone cX6_isGone 1 (some .boolean) ∈ T0 := mTt 584 (rfl) rfl
theorem ml_RX7_165 : Cond.methodLink RX7 165 yX6_goDays ∈ T0 := mTt 585 (by decide +kernel) rfl
theorem im_yX6_goDays : Cond.instanceMethod yX6_goDays ∈ T0 := mTt 586 (by decide +kernel) rfl
theorem se_yX6_goDays : Cond.selects RX6 yX6_goDays yX6_goDays ∈ T0 := mTt 587 (by decide +kernel) rfl
set_option maxRecDepth 100000 in
theorem co_yX6_goDays : Cond.code yX6_goDays cX6_goDays 3 none ∈ T0 := mTt 588 (rfl) rfl
theorem ml_RX6_109 : Cond.methodLink RX6 109 yX6_isGone ∈ T0 := mTt 589 (by decide +kernel) rfl
theorem ml_RX6_144 : Cond.methodLink RX6 144 yX6_goDay ∈ T0 := mTt 590 (by decide +kernel) rfl
theorem im_yX6_goDay : Cond.instanceMethod yX6_goDay ∈ T0 := mTt 591 (by decide +kernel) rfl
theorem se_yX6_goDay : Cond.selects RX6 yX6_goDay yX6_goDay ∈ T0 := mTt 592 (by decide +kernel) rfl
set_option maxRecDepth 100000 in
theorem co_yX6_goDay : Cond.code yX6_goDay cX6_goDay 4 none ∈ T0 := mTt 593 (rfl) rfl
theorem ml_RX6_113 : Cond.methodLink RX6 113 yX6_letIn ∈ T0 := mTt 594 (by decide +kernel) rfl
theorem ml_RX6_117 : Cond.methodLink RX6 117 yX6_prayers ∈ T0 := mTt 595 (by decide +kernel) rfl
theorem ml_RX6_121 : Cond.methodLink RX6 121 yJ6_bitCount_0f7a4 ∈ T0 := mTt 596 (by decide +kernel) rfl
theorem st_yJ6_bitCount_0f7a4 : Cond.static yJ6_bitCount_0f7a4 ∈ T0 := mTt 597 (by decide +kernel) rfl
set_option maxRecDepth 100000 in
theorem co_yJ6_bitCount_0f7a4 : Cond.code yJ6_bitCount_0f7a4 cJ6_bitCount_0f7a4 1 (some .int) ∈ T0 := mTt 598 (rfl) rfl
theorem cn_RJ6_265 : Cond.constant RJ6 265 (1431655765 : Int32) ∈ T0 := mTt 599 (by decide +kernel) rfl
theorem cn_RJ6_266 : Cond.constant RJ6 266 (858993459 : Int32) ∈ T0 := mTt 600 (by decide +kernel) rfl
theorem cn_RJ6_267 : Cond.constant RJ6 267 (252645135 : Int32) ∈ T0 := mTt 601 (by decide +kernel) rfl
theorem ml_RX6_126 : Cond.methodLink RX6 126 yJ9_max_7cf53 ∈ T0 := mTt 602 (by decide +kernel) rfl
theorem ml_RX6_131 : Cond.methodLink RX6 131 yX6_givePocket ∈ T0 := mTt 603 (by decide +kernel) rfl
theorem im_yX6_givePocket : Cond.instanceMethod yX6_givePocket ∈ T0 := mTt 605 (by decide +kernel) rfl
set_option maxRecDepth 100000 in
theorem co_yX6_givePocket : Cond.code yX6_givePocket cX6_givePocket 2 none ∈ T0 := mTt 606 (rfl) rfl
theorem ml_RX6_154 : Cond.methodLink RX6 154 yX3_give ∈ T0 := mTt 608 (by decide +kernel) rfl
theorem im_yX3_give : Cond.instanceMethod yX3_give ∈ T0 := mTt 609 (by decide +kernel) rfl
theorem se_yX3_give : Cond.selects RX3 yX3_give yX3_give ∈ T0 := mTt 610 (by decide +kernel) rfl
set_option maxRecDepth 100000 in
theorem co_yX3_give : Cond.code yX3_give cX3_give 3 none ∈ T0 := mTt 611 (rfl) rfl
theorem cn_RX3_41 : Cond.constant RX3 41 (99999 : Int32) ∈ T0 := mTt 612 (by decide +kernel) rfl
theorem ml_RX3_42 : Cond.methodLink RX3 42 yJ9_min_7cf53 ∈ T0 := mTt 613 (by decide +kernel) rfl
theorem ml_RX3_48 : Cond.methodLink RX3 48 yX3_thanksFor ∈ T0 := mTt 614 (by decide +kernel) rfl
theorem ml_RX6_134 : Cond.methodLink RX6 134 yX3_forgetSome ∈ T0 := mTt 615 (by decide +kernel) rfl
theorem im_yX3_forgetSome : Cond.instanceMethod yX3_forgetSome ∈ T0 := mTt 616 (by decide +kernel) rfl
theorem se_yX3_forgetSome : Cond.selects RX3 yX3_forgetSome yX3_forgetSome ∈ T0 := mTt 617 (by decide +kernel) rfl
set_option maxRecDepth 100000 in
theorem co_yX3_forgetSome : Cond.code yX3_forgetSome cX3_forgetSome 2 none ∈ T0 := mTt 618 (rfl) rfl
theorem ml_RX3_51 : Cond.methodLink RX3 51 yJ9_max_7cf53 ∈ T0 := mTt 619 (by decide +kernel) rfl
theorem st_yX7_between : Cond.static yX7_between ∈ T0 := mTt 621 (by decide +kernel) rfl
set_option maxRecDepth 100000 in
theorem co_yX7_between : Cond.code yX7_between cX7_between 3 (some .int) ∈ T0 := mTt 622 (rfl) rfl
theorem ml_RX7_287 : Cond.methodLink RX7 287 yJ9_min_7cf53 ∈ T0 := mTt 623 (by decide +kernel) rfl
theorem ml_RX7_292 : Cond.methodLink RX7 292 yJ9_max_7cf53 ∈ T0 := mTt 624 (by decide +kernel) rfl
theorem ml_RX6_141 : Cond.methodLink RX6 141 yJ9_min_7cf53 ∈ T0 := mTt 625 (by decide +kernel) rfl
theorem ml_RL_62 : Cond.methodLink RL 62 yX7_on ∈ T0 := mTt 626 (by decide +kernel) rfl
theorem im_yX7_on : Cond.instanceMethod yX7_on ∈ T0 := mTt 627 (by decide +kernel) rfl
theorem se_yX7_on : Cond.selects RX7 yX7_on yX7_on ∈ T0 := mTt 628 (by decide +kernel) rfl
set_option maxRecDepth 100000 in
theorem co_yX7_on : Cond.code yX7_on cX7_on 5 (some .int) ∈ T0 := mTt 629 (rfl) rfl
theorem ml_RX7_169 : Cond.methodLink RX7 169 yX6_startAs ∈ T0 := mTt 630 (by decide +kernel) rfl
theorem im_yX6_startAs : Cond.instanceMethod yX6_startAs ∈ T0 := mTt 631 (by decide +kernel) rfl
theorem se_yX6_startAs : Cond.selects RX6 yX6_startAs yX6_startAs ∈ T0 := mTt 632 (by decide +kernel) rfl
set_option maxRecDepth 100000 in
theorem co_yX6_startAs : Cond.code yX6_startAs cX6_startAs 2 none ∈ T0 := mTt 633 (rfl) rfl
theorem ml_RX6_172 : Cond.methodLink RX6 172 yX3_becomeLike ∈ T0 := mTt 634 (by decide +kernel) rfl
theorem im_yX3_becomeLike : Cond.instanceMethod yX3_becomeLike ∈ T0 := mTt 635 (by decide +kernel) rfl
theorem se_yX3_becomeLike : Cond.selects RX3 yX3_becomeLike yX3_becomeLike ∈ T0 := mTt 636 (by decide +kernel) rfl
set_option maxRecDepth 100000 in
theorem co_yX3_becomeLike : Cond.code yX3_becomeLike cX3_becomeLike 2 none ∈ T0 := mTt 637 (rfl) rfl
theorem ml_RX3_54 : Cond.methodLink RX3 54 arraycopyName ∈ T0 := mTt 638 (by decide +kernel) rfl
theorem st_arraycopyName : Cond.static arraycopyName ∈ T0 := mTt 639 (by decide +kernel) rfl
theorem nv_arraycopyName : Cond.native arraycopyName ∈ T0 := mTt 640 (by decide +kernel) rfl
theorem ml_RX6_176 : Cond.methodLink RX6 176 arraycopyName ∈ T0 := mTt 641 (by decide +kernel) rfl
theorem ml_RL_66 : Cond.methodLink RL 66 yX7_dies ∈ T0 := mTt 642 (by decide +kernel) rfl
theorem im_yX7_dies : Cond.instanceMethod yX7_dies ∈ T0 := mTt 643 (by decide +kernel) rfl
theorem se_yX7_dies : Cond.selects RX7 yX7_dies yX7_dies ∈ T0 := mTt 644 (by decide +kernel) rfl
set_option maxRecDepth 100000 in
theorem co_yX7_dies : Cond.code yX7_dies cX7_dies 2 (some .int) ∈ T0 := mTt 645 (rfl) rfl
theorem ml_RX7_173 : Cond.methodLink RX7 173 yX6_goDay ∈ T0 := mTt 646 (by decide +kernel) rfl
theorem ml_RL_70 : Cond.methodLink RL 70 yX7_worst ∈ T0 := mTt 647 (by decide +kernel) rfl
theorem im_yX7_worst : Cond.instanceMethod yX7_worst ∈ T0 := mTt 648 (by decide +kernel) rfl
theorem se_yX7_worst : Cond.selects RX7 yX7_worst yX7_worst ∈ T0 := mTt 649 (by decide +kernel) rfl
set_option maxRecDepth 100000 in
theorem co_yX7_worst : Cond.code yX7_worst cX7_worst 6 (some .int) ∈ T0 := mTt 650 (rfl) rfl
theorem ml_RL_74 : Cond.methodLink RL 74 yX7_aim ∈ T0 := mTt 651 (by decide +kernel) rfl
theorem im_yX7_aim : Cond.instanceMethod yX7_aim ∈ T0 := mTt 652 (by decide +kernel) rfl
theorem se_yX7_aim : Cond.selects RX7 yX7_aim yX7_aim ∈ T0 := mTt 653 (by decide +kernel) rfl
set_option maxRecDepth 100000 in
theorem co_yX7_aim : Cond.code yX7_aim cX7_aim 4 (some .int) ∈ T0 := mTt 654 (rfl) rfl
theorem ml_RL_78 : Cond.methodLink RL 78 yX7_swap ∈ T0 := mTt 655 (by decide +kernel) rfl
theorem im_yX7_swap : Cond.instanceMethod yX7_swap ∈ T0 := mTt 656 (by decide +kernel) rfl
theorem se_yX7_swap : Cond.selects RX7 yX7_swap yX7_swap ∈ T0 := mTt 657 (by decide +kernel) rfl
set_option maxRecDepth 100000 in
theorem co_yX7_swap : Cond.code yX7_swap cX7_swap 5 (some .int) ∈ T0 := mTt 658 (rfl) rfl
theorem ml_RL_82 : Cond.methodLink RL 82 yX7_enough ∈ T0 := mTt 659 (by decide +kernel) rfl
theorem im_yX7_enough : Cond.instanceMethod yX7_enough ∈ T0 := mTt 660 (by decide +kernel) rfl
theorem se_yX7_enough : Cond.selects RX7 yX7_enough yX7_enough ∈ T0 := mTt 661 (by decide +kernel) rfl
set_option maxRecDepth 100000 in
theorem co_yX7_enough : Cond.code yX7_enough cX7_enough 3 (some .int) ∈ T0 := mTt 662 (rfl) rfl
theorem ml_RL_86 : Cond.methodLink RL 86 yX7_bears ∈ T0 := mTt 663 (by decide +kernel) rfl
theorem im_yX7_bears : Cond.instanceMethod yX7_bears ∈ T0 := mTt 664 (by decide +kernel) rfl
theorem se_yX7_bears : Cond.selects RX7 yX7_bears yX7_bears ∈ T0 := mTt 665 (by decide +kernel) rfl
set_option maxRecDepth 100000 in
theorem co_yX7_bears : Cond.code yX7_bears cX7_bears 3 (some .int) ∈ T0 := mTt 666 (rfl) rfl
theorem ml_RL_90 : Cond.methodLink RL 90 yX7_whose ∈ T0 := mTt 667 (by decide +kernel) rfl
theorem im_yX7_whose : Cond.instanceMethod yX7_whose ∈ T0 := mTt 668 (by decide +kernel) rfl
theorem se_yX7_whose : Cond.selects RX7 yX7_whose yX7_whose ∈ T0 := mTt 669 (by decide +kernel) rfl
set_option maxRecDepth 100000 in
theorem co_yX7_whose : Cond.code yX7_whose cX7_whose 4 (some .int) ∈ T0 := mTt 670 (rfl) rfl
theorem ml_RX7_176 : Cond.methodLink RX7 176 yX7_isGoneWithout ∈ T0 := mTt 671 (by decide +kernel) rfl
theorem im_yX7_isGoneWithout : Cond.instanceMethod yX7_isGoneWithout ∈ T0 := mTt 673 (by decide +kernel) rfl
set_option maxRecDepth 100000 in
theorem co_yX7_isGoneWithout : Cond.code yX7_isGoneWithout cX7_isGoneWithout 3 (some .boolean) ∈ T0 := mTt 674 (rfl) rfl
theorem ml_RL_94 : Cond.methodLink RL 94 yX7_see ∈ T0 := mTt 675 (by decide +kernel) rfl
theorem im_yX7_see : Cond.instanceMethod yX7_see ∈ T0 := mTt 676 (by decide +kernel) rfl
theorem se_yX7_see : Cond.selects RX7 yX7_see yX7_see ∈ T0 := mTt 677 (by decide +kernel) rfl
set_option maxRecDepth 100000 in
theorem co_yX7_see : Cond.code yX7_see cX7_see 3 (some .int) ∈ T0 := mTt 678 (rfl) rfl
theorem ml_RX7_184 : Cond.methodLink RX7 184 yX2_empty ∈ T0 := mTt 679 (by decide +kernel) rfl
theorem im_yX2_empty : Cond.instanceMethod yX2_empty ∈ T0 := mTt 680 (by decide +kernel) rfl
theorem se_yX2_empty : Cond.selects RX2 yX2_empty yX2_empty ∈ T0 := mTt 681 (by decide +kernel) rfl
set_option maxRecDepth 100000 in
theorem co_yX2_empty : Cond.code yX2_empty cX2_empty 1 none ∈ T0 := mTt 682 (rfl) rfl
theorem ml_RX7_189 : Cond.methodLink RX7 189 yX2_isFull ∈ T0 := mTt 683 (by decide +kernel) rfl
theorem im_yX2_isFull : Cond.instanceMethod yX2_isFull ∈ T0 := mTt 684 (by decide +kernel) rfl
theorem se_yX2_isFull : Cond.selects RX2 yX2_isFull yX2_isFull ∈ T0 := mTt 685 (by decide +kernel) rfl
set_option maxRecDepth 100000 in
theorem co_yX2_isFull : Cond.code yX2_isFull cX2_isFull 1 (some .boolean) ∈ T0 := mTt 686 (rfl) rfl
theorem ml_RX7_190 : Cond.methodLink RX7 190 yX2_put ∈ T0 := mTt 687 (by decide +kernel) rfl
theorem im_yX2_put : Cond.instanceMethod yX2_put ∈ T0 := mTt 688 (by decide +kernel) rfl
theorem se_yX2_put : Cond.selects RX2 yX2_put yX2_put ∈ T0 := mTt 689 (by decide +kernel) rfl
set_option maxRecDepth 100000 in
theorem co_yX2_put : Cond.code yX2_put cX2_put 3 (some .int) ∈ T0 := mTt 690 (rfl) rfl
theorem ml_RX2_28 : Cond.methodLink RX2 28 yX2_isFull ∈ T0 := mTt 691 (by decide +kernel) rfl
theorem ml_RL_98 : Cond.methodLink RL 98 yX7_was ∈ T0 := mTt 692 (by decide +kernel) rfl
theorem im_yX7_was : Cond.instanceMethod yX7_was ∈ T0 := mTt 693 (by decide +kernel) rfl
theorem se_yX7_was : Cond.selects RX7 yX7_was yX7_was ∈ T0 := mTt 694 (by decide +kernel) rfl
set_option maxRecDepth 100000 in
theorem co_yX7_was : Cond.code yX7_was cX7_was 3 (some .int) ∈ T0 := mTt 695 (rfl) rfl
theorem ml_RX7_192 : Cond.methodLink RX7 192 yX7_fitting ∈ T0 := mTt 696 (by decide +kernel) rfl
theorem im_yX7_fitting : Cond.instanceMethod yX7_fitting ∈ T0 := mTt 698 (by decide +kernel) rfl
set_option maxRecDepth 100000 in
theorem co_yX7_fitting : Cond.code yX7_fitting cX7_fitting 8 (some .int) ∈ T0 := mTt 699 (rfl) rfl
theorem ml_RX7_283 : Cond.methodLink RX7 283 yX6_faresAs ∈ T0 := mTt 700 (by decide +kernel) rfl
theorem im_yX6_faresAs : Cond.instanceMethod yX6_faresAs ∈ T0 := mTt 701 (by decide +kernel) rfl
theorem se_yX6_faresAs : Cond.selects RX6 yX6_faresAs yX6_faresAs ∈ T0 := mTt 702 (by decide +kernel) rfl
set_option maxRecDepth 100000 in
theorem co_yX6_faresAs : Cond.code yX6_faresAs cX6_faresAs 5 (some .boolean) ∈ T0 := mTt 703 (rfl) rfl
theorem ml_RX6_162 : Cond.methodLink RX6 162 yX2_mostSecond ∈ T0 := mTt 704 (by decide +kernel) rfl
theorem im_yX2_mostSecond : Cond.instanceMethod yX2_mostSecond ∈ T0 := mTt 705 (by decide +kernel) rfl
theorem se_yX2_mostSecond : Cond.selects RX2 yX2_mostSecond yX2_mostSecond ∈ T0 := mTt 706 (by decide +kernel) rfl
set_option maxRecDepth 100000 in
theorem co_yX2_mostSecond : Cond.code yX2_mostSecond cX2_mostSecond 3 (some .int) ∈ T0 := mTt 707 (rfl) rfl
theorem ml_RL_102 : Cond.methodLink RL 102 yX7_can ∈ T0 := mTt 708 (by decide +kernel) rfl
theorem im_yX7_can : Cond.instanceMethod yX7_can ∈ T0 := mTt 709 (by decide +kernel) rfl
theorem se_yX7_can : Cond.selects RX7 yX7_can yX7_can ∈ T0 := mTt 710 (by decide +kernel) rfl
set_option maxRecDepth 100000 in
theorem co_yX7_can : Cond.code yX7_can cX7_can 3 (some .int) ∈ T0 := mTt 711 (rfl) rfl
theorem ml_RL_106 : Cond.methodLink RL 106 yX7_odds ∈ T0 := mTt 712 (by decide +kernel) rfl
theorem im_yX7_odds : Cond.instanceMethod yX7_odds ∈ T0 := mTt 713 (by decide +kernel) rfl
theorem se_yX7_odds : Cond.selects RX7 yX7_odds yX7_odds ∈ T0 := mTt 714 (by decide +kernel) rfl
set_option maxRecDepth 100000 in
theorem co_yX7_odds : Cond.code yX7_odds cX7_odds 6 (some .long) ∈ T0 := mTt 715 (rfl) rfl
theorem cl_RX7_196 : Cond.constantLong RX7 196 (-9223372036854775808 : Int64) ∈ T0 := mTt 716 (by decide +kernel) rfl
theorem ml_RX7_198 : Cond.methodLink RX7 198 yX7_lowest ∈ T0 := mTt 717 (by decide +kernel) rfl
theorem st_yX7_lowest : Cond.static yX7_lowest ∈ T0 := mTt 718 (by decide +kernel) rfl
set_option maxRecDepth 100000 in
theorem co_yX7_lowest : Cond.code yX7_lowest cX7_lowest 5 (some .long) ∈ T0 := mTt 719 (rfl) rfl
theorem ml_RL_111 : Cond.methodLink RL 111 yX7_mean ∈ T0 := mTt 720 (by decide +kernel) rfl
theorem im_yX7_mean : Cond.instanceMethod yX7_mean ∈ T0 := mTt 721 (by decide +kernel) rfl
theorem se_yX7_mean : Cond.selects RX7 yX7_mean yX7_mean ∈ T0 := mTt 722 (by decide +kernel) rfl
set_option maxRecDepth 100000 in
theorem co_yX7_mean : Cond.code yX7_mean cX7_mean 6 (some .long) ∈ T0 := mTt 723 (rfl) rfl
theorem ml_RL_115 : Cond.methodLink RL 115 yX7_winter ∈ T0 := mTt 724 (by decide +kernel) rfl
theorem im_yX7_winter : Cond.instanceMethod yX7_winter ∈ T0 := mTt 725 (by decide +kernel) rfl
theorem se_yX7_winter : Cond.selects RX7 yX7_winter yX7_winter ∈ T0 := mTt 726 (by decide +kernel) rfl
set_option maxRecDepth 100000 in
theorem co_yX7_winter : Cond.code yX7_winter cX7_winter 3 (some .int) ∈ T0 := mTt 727 (rfl) rfl
theorem ml_RL_119 : Cond.methodLink RL 119 yX7_gone ∈ T0 := mTt 728 (by decide +kernel) rfl
theorem im_yX7_gone : Cond.instanceMethod yX7_gone ∈ T0 := mTt 729 (by decide +kernel) rfl
theorem se_yX7_gone : Cond.selects RX7 yX7_gone yX7_gone ∈ T0 := mTt 730 (by decide +kernel) rfl
set_option maxRecDepth 100000 in
theorem co_yX7_gone : Cond.code yX7_gone cX7_gone 3 (some .int) ∈ T0 := mTt 731 (rfl) rfl
theorem ml_RX7_212 : Cond.methodLink RX7 212 yX6_suffer ∈ T0 := mTt 732 (by decide +kernel) rfl
theorem im_yX6_suffer : Cond.instanceMethod yX6_suffer ∈ T0 := mTt 733 (by decide +kernel) rfl
theorem se_yX6_suffer : Cond.selects RX6 yX6_suffer yX6_suffer ∈ T0 := mTt 734 (by decide +kernel) rfl
set_option maxRecDepth 100000 in
theorem co_yX6_suffer : Cond.code yX6_suffer cX6_suffer 3 none ∈ T0 := mTt 735 (rfl) rfl
theorem ml_RX6_158 : Cond.methodLink RX6 158 yX3_setDead ∈ T0 := mTt 736 (by decide +kernel) rfl
theorem ml_RL_123 : Cond.methodLink RL 123 yX7_book ∈ T0 := mTt 737 (by decide +kernel) rfl
theorem im_yX7_book : Cond.instanceMethod yX7_book ∈ T0 := mTt 738 (by decide +kernel) rfl
theorem se_yX7_book : Cond.selects RX7 yX7_book yX7_book ∈ T0 := mTt 739 (by decide +kernel) rfl
set_option maxRecDepth 100000 in
theorem co_yX7_book : Cond.code yX7_book cX7_book 3 (some .int) ∈ T0 := mTt 740 (rfl) rfl
theorem ml_RL_127 : Cond.methodLink RL 127 yX7_looked ∈ T0 := mTt 741 (by decide +kernel) rfl
theorem im_yX7_looked : Cond.instanceMethod yX7_looked ∈ T0 := mTt 742 (by decide +kernel) rfl
theorem se_yX7_looked : Cond.selects RX7 yX7_looked yX7_looked ∈ T0 := mTt 743 (by decide +kernel) rfl
set_option maxRecDepth 100000 in
theorem co_yX7_looked : Cond.code yX7_looked cX7_looked 3 (some .int) ∈ T0 := mTt 744 (rfl) rfl
theorem ml_RL_131 : Cond.methodLink RL 131 yX7_judge ∈ T0 := mTt 745 (by decide +kernel) rfl
theorem im_yX7_judge : Cond.instanceMethod yX7_judge ∈ T0 := mTt 746 (by decide +kernel) rfl
theorem se_yX7_judge : Cond.selects RX7 yX7_judge yX7_judge ∈ T0 := mTt 747 (by decide +kernel) rfl
set_option maxRecDepth 100000 in
theorem co_yX7_judge : Cond.code yX7_judge cX7_judge 4 (some .int) ∈ T0 := mTt 748 (rfl) rfl
theorem ml_RX7_219 : Cond.methodLink RX7 219 yX4_isTape ∈ T0 := mTt 749 (by decide +kernel) rfl
theorem im_yX4_isTape : Cond.instanceMethod yX4_isTape ∈ T0 := mTt 750 (by decide +kernel) rfl
theorem se_yX4_isTape : Cond.selects RX4 yX4_isTape yX4_isTape ∈ T0 := mTt 751 (by decide +kernel) rfl
set_option maxRecDepth 100000 in
theorem co_yX4_isTape : Cond.code yX4_isTape cX4_isTape 2 (some .boolean) ∈ T0 := mTt 752 (rfl) rfl
theorem ml_RX7_222 : Cond.methodLink RX7 222 yX4_isEmpty ∈ T0 := mTt 753 (by decide +kernel) rfl
theorem im_yX4_isEmpty : Cond.instanceMethod yX4_isEmpty ∈ T0 := mTt 754 (by decide +kernel) rfl
theorem se_yX4_isEmpty : Cond.selects RX4 yX4_isEmpty yX4_isEmpty ∈ T0 := mTt 755 (by decide +kernel) rfl
set_option maxRecDepth 100000 in
theorem co_yX4_isEmpty : Cond.code yX4_isEmpty cX4_isEmpty 2 (some .boolean) ∈ T0 := mTt 756 (rfl) rfl
theorem ml_RX7_225 : Cond.methodLink RX7 225 yX4_isOf ∈ T0 := mTt 757 (by decide +kernel) rfl
theorem im_yX4_isOf : Cond.instanceMethod yX4_isOf ∈ T0 := mTt 758 (by decide +kernel) rfl
theorem se_yX4_isOf : Cond.selects RX4 yX4_isOf yX4_isOf ∈ T0 := mTt 759 (by decide +kernel) rfl
set_option maxRecDepth 100000 in
theorem co_yX4_isOf : Cond.code yX4_isOf cX4_isOf 3 (some .boolean) ∈ T0 := mTt 760 (rfl) rfl
theorem ml_RX7_228 : Cond.methodLink RX7 228 yX4_isPlace ∈ T0 := mTt 761 (by decide +kernel) rfl
theorem im_yX4_isPlace : Cond.instanceMethod yX4_isPlace ∈ T0 := mTt 762 (by decide +kernel) rfl
theorem se_yX4_isPlace : Cond.selects RX4 yX4_isPlace yX4_isPlace ∈ T0 := mTt 763 (by decide +kernel) rfl
set_option maxRecDepth 100000 in
theorem co_yX4_isPlace : Cond.code yX4_isPlace cX4_isPlace 4 (some .boolean) ∈ T0 := mTt 764 (rfl) rfl
theorem ml_RX7_232 : Cond.methodLink RX7 232 yX4_valueAt ∈ T0 := mTt 765 (by decide +kernel) rfl
theorem im_yX4_valueAt : Cond.instanceMethod yX4_valueAt ∈ T0 := mTt 766 (by decide +kernel) rfl
theorem se_yX4_valueAt : Cond.selects RX4 yX4_valueAt yX4_valueAt ∈ T0 := mTt 767 (by decide +kernel) rfl
set_option maxRecDepth 100000 in
theorem co_yX4_valueAt : Cond.code yX4_valueAt cX4_valueAt 3 (some .long) ∈ T0 := mTt 768 (rfl) rfl
theorem ml_RL_135 : Cond.methodLink RL 135 yX7_image ∈ T0 := mTt 769 (by decide +kernel) rfl
theorem im_yX7_image : Cond.instanceMethod yX7_image ∈ T0 := mTt 770 (by decide +kernel) rfl
theorem se_yX7_image : Cond.selects RX7 yX7_image yX7_image ∈ T0 := mTt 771 (by decide +kernel) rfl
set_option maxRecDepth 100000 in
theorem co_yX7_image : Cond.code yX7_image cX7_image 1 (some .int) ∈ T0 := mTt 772 (rfl) rfl
theorem ml_RX7_236 : Cond.methodLink RX7 236 yX6_becomeAs ∈ T0 := mTt 773 (by decide +kernel) rfl
theorem im_yX6_becomeAs : Cond.instanceMethod yX6_becomeAs ∈ T0 := mTt 774 (by decide +kernel) rfl
theorem se_yX6_becomeAs : Cond.selects RX6 yX6_becomeAs yX6_becomeAs ∈ T0 := mTt 775 (by decide +kernel) rfl
set_option maxRecDepth 100000 in
theorem co_yX6_becomeAs : Cond.code yX6_becomeAs cX6_becomeAs 2 none ∈ T0 := mTt 776 (rfl) rfl
theorem ml_RX6_182 : Cond.methodLink RX6 182 yX6_startAs ∈ T0 := mTt 777 (by decide +kernel) rfl
theorem ml_RX6_186 : Cond.methodLink RX6 186 yX2_becomeLike ∈ T0 := mTt 778 (by decide +kernel) rfl
theorem im_yX2_becomeLike : Cond.instanceMethod yX2_becomeLike ∈ T0 := mTt 779 (by decide +kernel) rfl
theorem se_yX2_becomeLike : Cond.selects RX2 yX2_becomeLike yX2_becomeLike ∈ T0 := mTt 780 (by decide +kernel) rfl
set_option maxRecDepth 100000 in
theorem co_yX2_becomeLike : Cond.code yX2_becomeLike cX2_becomeLike 3 none ∈ T0 := mTt 781 (rfl) rfl
theorem ml_RX2_32 : Cond.methodLink RX2 32 yJ9_min_7cf53 ∈ T0 := mTt 782 (by decide +kernel) rfl
theorem ml_RL_139 : Cond.methodLink RL 139 yX7_undo ∈ T0 := mTt 783 (by decide +kernel) rfl
theorem im_yX7_undo : Cond.instanceMethod yX7_undo ∈ T0 := mTt 784 (by decide +kernel) rfl
theorem se_yX7_undo : Cond.selects RX7 yX7_undo yX7_undo ∈ T0 := mTt 785 (by decide +kernel) rfl
set_option maxRecDepth 100000 in
theorem co_yX7_undo : Cond.code yX7_undo cX7_undo 1 (some .int) ∈ T0 := mTt 786 (rfl) rfl
theorem ml_RL_143 : Cond.methodLink RL 143 yX7_act ∈ T0 := mTt 787 (by decide +kernel) rfl
theorem im_yX7_act : Cond.instanceMethod yX7_act ∈ T0 := mTt 788 (by decide +kernel) rfl
theorem se_yX7_act : Cond.selects RX7 yX7_act yX7_act ∈ T0 := mTt 789 (by decide +kernel) rfl
set_option maxRecDepth 100000 in
theorem co_yX7_act : Cond.code yX7_act cX7_act 4 (some .int) ∈ T0 := mTt 790 (rfl) rfl
theorem ml_RX7_243 : Cond.methodLink RX7 243 yX0_forget ∈ T0 := mTt 791 (by decide +kernel) rfl
theorem im_yX0_forget : Cond.instanceMethod yX0_forget ∈ T0 := mTt 792 (by decide +kernel) rfl
theorem se_yX0_forget : Cond.selects RX0 yX0_forget yX0_forget ∈ T0 := mTt 793 (by decide +kernel) rfl
set_option maxRecDepth 100000 in
theorem co_yX0_forget : Cond.code yX0_forget cX0_forget 1 none ∈ T0 := mTt 794 (rfl) rfl
theorem ml_RX7_246 : Cond.methodLink RX7 246 yX0_begin ∈ T0 := mTt 795 (by decide +kernel) rfl
theorem im_yX0_begin : Cond.instanceMethod yX0_begin ∈ T0 := mTt 796 (by decide +kernel) rfl
theorem se_yX0_begin : Cond.selects RX0 yX0_begin yX0_begin ∈ T0 := mTt 797 (by decide +kernel) rfl
set_option maxRecDepth 100000 in
theorem co_yX0_begin : Cond.code yX0_begin cX0_begin 5 (some .int) ∈ T0 := mTt 798 (rfl) rfl
theorem ml_RX0_41 : Cond.methodLink RX0 41 yX0_go ∈ T0 := mTt 799 (by decide +kernel) rfl
theorem im_yX0_go : Cond.instanceMethod yX0_go ∈ T0 := mTt 801 (by decide +kernel) rfl
set_option maxRecDepth 100000 in
theorem co_yX0_go : Cond.code yX0_go cX0_go 9 (some .int) ∈ T0 := mTt 802 (rfl) rfl
theorem ml_RX0_51 : Cond.methodLink RX0 51 yX0_holderOf ∈ T0 := mTt 803 (by decide +kernel) rfl
theorem st_yX0_holderOf : Cond.static yX0_holderOf ∈ T0 := mTt 804 (by decide +kernel) rfl
set_option maxRecDepth 100000 in
theorem co_yX0_holderOf : Cond.code yX0_holderOf cX0_holderOf 4 (some .int) ∈ T0 := mTt 805 (rfl) rfl
theorem fw_RX0_45 : Cond.fieldLink RX0 45 RX0 "BODY" "[I" ∈ T0 := mTt 806 (by decide +kernel) rfl
theorem ml_RX0_54 : Cond.methodLink RX0 54 yX0_note ∈ T0 := mTt 810 (by decide +kernel) rfl
theorem im_yX0_note : Cond.instanceMethod yX0_note ∈ T0 := mTt 812 (by decide +kernel) rfl
set_option maxRecDepth 100000 in
theorem co_yX0_note : Cond.code yX0_note cX0_note 2 none ∈ T0 := mTt 813 (rfl) rfl
theorem ml_RL_147 : Cond.methodLink RL 147 yX7_trace ∈ T0 := mTt 814 (by decide +kernel) rfl
theorem im_yX7_trace : Cond.instanceMethod yX7_trace ∈ T0 := mTt 815 (by decide +kernel) rfl
theorem se_yX7_trace : Cond.selects RX7 yX7_trace yX7_trace ∈ T0 := mTt 816 (by decide +kernel) rfl
set_option maxRecDepth 100000 in
theorem co_yX7_trace : Cond.code yX7_trace cX7_trace 2 (some .int) ∈ T0 := mTt 817 (rfl) rfl
theorem ml_RX7_250 : Cond.methodLink RX7 250 yX0_keptBodies ∈ T0 := mTt 818 (by decide +kernel) rfl
theorem im_yX0_keptBodies : Cond.instanceMethod yX0_keptBodies ∈ T0 := mTt 819 (by decide +kernel) rfl
theorem se_yX0_keptBodies : Cond.selects RX0 yX0_keptBodies yX0_keptBodies ∈ T0 := mTt 820 (by decide +kernel) rfl
set_option maxRecDepth 100000 in
theorem co_yX0_keptBodies : Cond.code yX0_keptBodies cX0_keptBodies 1 (some .int) ∈ T0 := mTt 821 (rfl) rfl
theorem ml_RX0_19 : Cond.methodLink RX0 19 yJ9_min_7cf53 ∈ T0 := mTt 822 (by decide +kernel) rfl
theorem ml_RL_151 : Cond.methodLink RL 151 yX7_taken ∈ T0 := mTt 823 (by decide +kernel) rfl
theorem im_yX7_taken : Cond.instanceMethod yX7_taken ∈ T0 := mTt 824 (by decide +kernel) rfl
theorem se_yX7_taken : Cond.selects RX7 yX7_taken yX7_taken ∈ T0 := mTt 825 (by decide +kernel) rfl
set_option maxRecDepth 100000 in
theorem co_yX7_taken : Cond.code yX7_taken cX7_taken 4 (some .int) ∈ T0 := mTt 826 (rfl) rfl
theorem ml_RX7_256 : Cond.methodLink RX7 256 yX7_isUnder ∈ T0 := mTt 827 (by decide +kernel) rfl
theorem st_yX7_isUnder : Cond.static yX7_isUnder ∈ T0 := mTt 828 (by decide +kernel) rfl
set_option maxRecDepth 100000 in
theorem co_yX7_isUnder : Cond.code yX7_isUnder cX7_isUnder 4 (some .boolean) ∈ T0 := mTt 829 (rfl) rfl
theorem fw_RX7_295 : Cond.fieldLink RX7 295 RX7 "ABOVE" "[I" ∈ T0 := mTt 830 (by decide +kernel) rfl
theorem ml_RL_155 : Cond.methodLink RL 155 yX7_count ∈ T0 := mTt 831 (by decide +kernel) rfl
theorem im_yX7_count : Cond.instanceMethod yX7_count ∈ T0 := mTt 832 (by decide +kernel) rfl
theorem se_yX7_count : Cond.selects RX7 yX7_count yX7_count ∈ T0 := mTt 833 (by decide +kernel) rfl
set_option maxRecDepth 100000 in
theorem co_yX7_count : Cond.code yX7_count cX7_count 2 (some .int) ∈ T0 := mTt 834 (rfl) rfl
theorem ml_RL_159 : Cond.methodLink RL 159 yX7_tape ∈ T0 := mTt 835 (by decide +kernel) rfl
theorem im_yX7_tape : Cond.instanceMethod yX7_tape ∈ T0 := mTt 836 (by decide +kernel) rfl
theorem se_yX7_tape : Cond.selects RX7 yX7_tape yX7_tape ∈ T0 := mTt 837 (by decide +kernel) rfl
set_option maxRecDepth 100000 in
theorem co_yX7_tape : Cond.code yX7_tape cX7_tape 4 (some .int) ∈ T0 := mTt 838 (rfl) rfl
theorem ml_RX7_263 : Cond.methodLink RX7 263 yX4_drop ∈ T0 := mTt 839 (by decide +kernel) rfl
theorem im_yX4_drop : Cond.instanceMethod yX4_drop ∈ T0 := mTt 840 (by decide +kernel) rfl
theorem se_yX4_drop : Cond.selects RX4 yX4_drop yX4_drop ∈ T0 := mTt 841 (by decide +kernel) rfl
set_option maxRecDepth 100000 in
theorem co_yX4_drop : Cond.code yX4_drop cX4_drop 2 none ∈ T0 := mTt 842 (rfl) rfl
theorem ml_RX7_266 : Cond.methodLink RX7 266 yX4_lay ∈ T0 := mTt 843 (by decide +kernel) rfl
theorem im_yX4_lay : Cond.instanceMethod yX4_lay ∈ T0 := mTt 844 (by decide +kernel) rfl
theorem se_yX4_lay : Cond.selects RX4 yX4_lay yX4_lay ∈ T0 := mTt 845 (by decide +kernel) rfl
set_option maxRecDepth 100000 in
theorem co_yX4_lay : Cond.code yX4_lay cX4_lay 5 none ∈ T0 := mTt 846 (rfl) rfl
theorem ml_RL_165 : Cond.methodLink RL 165 yX7_item ∈ T0 := mTt 848 (by decide +kernel) rfl
theorem im_yX7_item : Cond.instanceMethod yX7_item ∈ T0 := mTt 849 (by decide +kernel) rfl
theorem se_yX7_item : Cond.selects RX7 yX7_item yX7_item ∈ T0 := mTt 850 (by decide +kernel) rfl
set_option maxRecDepth 100000 in
theorem co_yX7_item : Cond.code yX7_item cX7_item 5 (some .int) ∈ T0 := mTt 851 (rfl) rfl
theorem ml_RX7_270 : Cond.methodLink RX7 270 yX4_put ∈ T0 := mTt 852 (by decide +kernel) rfl
theorem im_yX4_put : Cond.instanceMethod yX4_put ∈ T0 := mTt 853 (by decide +kernel) rfl
theorem se_yX4_put : Cond.selects RX4 yX4_put yX4_put ∈ T0 := mTt 854 (by decide +kernel) rfl
set_option maxRecDepth 100000 in
theorem co_yX4_put : Cond.code yX4_put cX4_put 5 none ∈ T0 := mTt 855 (rfl) rfl
theorem ml_RX4_26 : Cond.methodLink RX4 26 yX4_cut ∈ T0 := mTt 856 (by decide +kernel) rfl
theorem st_yX4_cut : Cond.static yX4_cut ∈ T0 := mTt 857 (by decide +kernel) rfl
set_option maxRecDepth 100000 in
theorem co_yX4_cut : Cond.code yX4_cut cX4_cut 3 (some .long) ∈ T0 := mTt 858 (rfl) rfl
theorem ml_RL_170 : Cond.methodLink RL 170 yX7_read ∈ T0 := mTt 859 (by decide +kernel) rfl
theorem im_yX7_read : Cond.instanceMethod yX7_read ∈ T0 := mTt 860 (by decide +kernel) rfl
theorem se_yX7_read : Cond.selects RX7 yX7_read yX7_read ∈ T0 := mTt 861 (by decide +kernel) rfl
set_option maxRecDepth 100000 in
theorem co_yX7_read : Cond.code yX7_read cX7_read 3 (some .long) ∈ T0 := mTt 862 (rfl) rfl
theorem ml_RL_174 : Cond.methodLink RL 174 yX7_shift ∈ T0 := mTt 863 (by decide +kernel) rfl
theorem im_yX7_shift : Cond.instanceMethod yX7_shift ∈ T0 := mTt 864 (by decide +kernel) rfl
theorem se_yX7_shift : Cond.selects RX7 yX7_shift yX7_shift ∈ T0 := mTt 865 (by decide +kernel) rfl
set_option maxRecDepth 100000 in
theorem co_yX7_shift : Cond.code yX7_shift cX7_shift 6 (some .int) ∈ T0 := mTt 866 (rfl) rfl
theorem ml_RX7_276 : Cond.methodLink RX7 276 yX4_isStretch ∈ T0 := mTt 867 (by decide +kernel) rfl
theorem im_yX4_isStretch : Cond.instanceMethod yX4_isStretch ∈ T0 := mTt 868 (by decide +kernel) rfl
theorem se_yX4_isStretch : Cond.selects RX4 yX4_isStretch yX4_isStretch ∈ T0 := mTt 869 (by decide +kernel) rfl
set_option maxRecDepth 100000 in
theorem co_yX4_isStretch : Cond.code yX4_isStretch cX4_isStretch 4 (some .boolean) ∈ T0 := mTt 870 (rfl) rfl
theorem ml_RX7_279 : Cond.methodLink RX7 279 yX4_move ∈ T0 := mTt 871 (by decide +kernel) rfl
theorem im_yX4_move : Cond.instanceMethod yX4_move ∈ T0 := mTt 872 (by decide +kernel) rfl
theorem se_yX4_move : Cond.selects RX4 yX4_move yX4_move ∈ T0 := mTt 873 (by decide +kernel) rfl
set_option maxRecDepth 100000 in
theorem co_yX4_move : Cond.code yX4_move cX4_move 6 none ∈ T0 := mTt 874 (rfl) rfl
theorem ml_RX4_30 : Cond.methodLink RX4 30 arraycopyName ∈ T0 := mTt 875 (by decide +kernel) rfl
theorem cw_RL_10 : Cond.classLink RL 10 RX8 ∈ T0 := mTt 876 (by decide +kernel) rfl
theorem it_RX8 : Cond.instantiable RX8 48 ∈ T0 := mTt 877 (by decide +kernel) rfl
theorem ml_RL_12 : Cond.methodLink RL 12 yX8_init ∈ T0 := mTt 878 (by decide +kernel) rfl
theorem im_yX8_init : Cond.instanceMethod yX8_init ∈ T0 := mTt 879 (by decide +kernel) rfl
set_option maxRecDepth 100000 in
theorem co_yX8_init : Cond.code yX8_init cX8_init 2 none ∈ T0 := mTt 880 (rfl) rfl
theorem ml_RX8_3 : Cond.methodLink RX8 3 objectInit ∈ T0 := mTt 881 (by decide +kernel) rfl
theorem fw_RX8_111 : Cond.fieldLink RX8 111 RX8 "people" "I" ∈ T0 := mTt 882 (by decide +kernel) rfl
theorem fw_RX8_9 : Cond.fieldLink RX8 9 RX8 "kind" "[I" ∈ T0 := mTt 883 (by decide +kernel) rfl
theorem fw_RX8_15 : Cond.fieldLink RX8 15 RX8 "v" "[I" ∈ T0 := mTt 884 (by decide +kernel) rfl
theorem fw_RX8_18 : Cond.fieldLink RX8 18 RX8 "thanks" "[I" ∈ T0 := mTt 885 (by decide +kernel) rfl
theorem fw_RX8_21 : Cond.fieldLink RX8 21 RX8 "got" "[I" ∈ T0 := mTt 886 (by decide +kernel) rfl
theorem fw_RX8_24 : Cond.fieldLink RX8 24 RX8 "dead" "[I" ∈ T0 := mTt 887 (by decide +kernel) rfl
theorem fw_RX8_27 : Cond.fieldLink RX8 27 RX8 "rows" "[I" ∈ T0 := mTt 888 (by decide +kernel) rfl
theorem fw_RX8_98 : Cond.fieldLink RX8 98 RX8 "health" "I" ∈ T0 := mTt 889 (by decide +kernel) rfl
theorem fw_RX8_136 : Cond.fieldLink RX8 136 RX8 "smell" "I" ∈ T0 := mTt 890 (by decide +kernel) rfl
theorem fw_RX8_139 : Cond.fieldLink RX8 139 RX8 "inRound" "I" ∈ T0 := mTt 891 (by decide +kernel) rfl
theorem fw_RX8_30 : Cond.fieldLink RX8 30 RX8 "round" "[I" ∈ T0 := mTt 892 (by decide +kernel) rfl
theorem fw_RX8_224 : Cond.fieldLink RX8 224 RX8 "day" "I" ∈ T0 := mTt 893 (by decide +kernel) rfl
theorem fw_RX8_142 : Cond.fieldLink RX8 142 RX8 "texted" "I" ∈ T0 := mTt 894 (by decide +kernel) rfl
theorem fw_RX8_33 : Cond.fieldLink RX8 33 RX8 "text" "[I" ∈ T0 := mTt 895 (by decide +kernel) rfl
theorem fw_RX8_218 : Cond.fieldLink RX8 218 RX8 "lands" "I" ∈ T0 := mTt 896 (by decide +kernel) rfl
theorem fw_RX8_102 : Cond.fieldLink RX8 102 RX8 "holds" "I" ∈ T0 := mTt 897 (by decide +kernel) rfl
theorem fw_RX8_36 : Cond.fieldLink RX8 36 RX8 "clauses" "[I" ∈ T0 := mTt 898 (by decide +kernel) rfl
theorem fw_RX8_39 : Cond.fieldLink RX8 39 RX8 "word" "[I" ∈ T0 := mTt 899 (by decide +kernel) rfl
theorem fw_RX8_42 : Cond.fieldLink RX8 42 RX8 "number" "[I" ∈ T0 := mTt 900 (by decide +kernel) rfl
theorem fw_RX8_45 : Cond.fieldLink RX8 45 RX8 "begins" "[I" ∈ T0 := mTt 901 (by decide +kernel) rfl
theorem fw_RX8_48 : Cond.fieldLink RX8 48 RX8 "length" "[I" ∈ T0 := mTt 902 (by decide +kernel) rfl
theorem fw_RX8_51 : Cond.fieldLink RX8 51 RX8 "code" "[I" ∈ T0 := mTt 903 (by decide +kernel) rfl
theorem fw_RX8_170 : Cond.fieldLink RX8 170 RX8 "coded" "I" ∈ T0 := mTt 904 (by decide +kernel) rfl
theorem fw_RX8_145 : Cond.fieldLink RX8 145 RX8 "at" "I" ∈ T0 := mTt 905 (by decide +kernel) rfl
theorem fw_RX8_186 : Cond.fieldLink RX8 186 RX8 "open" "I" ∈ T0 := mTt 906 (by decide +kernel) rfl
theorem fw_RX8_148 : Cond.fieldLink RX8 148 RX8 "value" "I" ∈ T0 := mTt 907 (by decide +kernel) rfl
theorem fw_RX8_151 : Cond.fieldLink RX8 151 RX8 "digits" "I" ∈ T0 := mTt 908 (by decide +kernel) rfl
theorem fw_RX8_54 : Cond.fieldLink RX8 54 RX8 "stack" "[Z" ∈ T0 := mTt 909 (by decide +kernel) rfl
theorem fw_RX8_296 : Cond.fieldLink RX8 296 RX8 "seen" "I" ∈ T0 := mTt 910 (by decide +kernel) rfl
theorem fw_RX8_58 : Cond.fieldLink RX8 58 RX8 "seenHealth" "[I" ∈ T0 := mTt 911 (by decide +kernel) rfl
theorem fw_RX8_61 : Cond.fieldLink RX8 61 RX8 "seenDays" "[I" ∈ T0 := mTt 912 (by decide +kernel) rfl
theorem fw_RX8_308 : Cond.fieldLink RX8 308 RX8 "inWinter" "I" ∈ T0 := mTt 913 (by decide +kernel) rfl
theorem fw_RX8_64 : Cond.fieldLink RX8 64 RX8 "goes" "[I" ∈ T0 := mTt 914 (by decide +kernel) rfl
theorem fw_RX8_67 : Cond.fieldLink RX8 67 RX8 "whom" "[I" ∈ T0 := mTt 915 (by decide +kernel) rfl
theorem fw_RX8_311 : Cond.fieldLink RX8 311 RX8 "inBook" "I" ∈ T0 := mTt 916 (by decide +kernel) rfl
theorem fw_RX8_70 : Cond.fieldLink RX8 70 RX8 "booked" "[I" ∈ T0 := mTt 917 (by decide +kernel) rfl
theorem fw_RX8_73 : Cond.fieldLink RX8 73 RX8 "bookThanks" "[I" ∈ T0 := mTt 918 (by decide +kernel) rfl
theorem fw_RX8_105 : Cond.fieldLink RX8 105 RX8 "coldNow" "I" ∈ T0 := mTt 919 (by decide +kernel) rfl
theorem fw_RX8_108 : Cond.fieldLink RX8 108 RX8 "pocketNow" "I" ∈ T0 := mTt 920 (by decide +kernel) rfl
theorem fw_RX8_76 : Cond.fieldLink RX8 76 RX8 "ahead" "[I" ∈ T0 := mTt 921 (by decide +kernel) rfl
theorem fw_RX8_314 : Cond.fieldLink RX8 314 RX8 "imaged" "Z" ∈ T0 := mTt 922 (by decide +kernel) rfl
theorem fw_RX8_79 : Cond.fieldLink RX8 79 RX8 "old" "[I" ∈ T0 := mTt 923 (by decide +kernel) rfl
theorem fw_RX8_82 : Cond.fieldLink RX8 82 RX8 "oldTold" "[I" ∈ T0 := mTt 924 (by decide +kernel) rfl
theorem fw_RX8_318 : Cond.fieldLink RX8 318 RX8 "traced" "I" ∈ T0 := mTt 925 (by decide +kernel) rfl
theorem fw_RX8_85 : Cond.fieldLink RX8 85 RX8 "traces" "[I" ∈ T0 := mTt 926 (by decide +kernel) rfl
theorem fw_RX8_88 : Cond.fieldLink RX8 88 RX8 "tapeSort" "[I" ∈ T0 := mTt 927 (by decide +kernel) rfl
theorem fw_RX8_91 : Cond.fieldLink RX8 91 RX8 "tapeSize" "[I" ∈ T0 := mTt 928 (by decide +kernel) rfl
theorem fw_RX8_94 : Cond.fieldLink RX8 94 RX8 "items" "[J" ∈ T0 := mTt 929 (by decide +kernel) rfl
theorem ac_boolean : Cond.arrayClass .boolean ∈ T0 := mTt 1027 (by decide +kernel) rfl
theorem ml_RL_17 : Cond.methodLink RL 17 yX8_person ∈ T0 := mTt 1028 (by decide +kernel) rfl
theorem im_yX8_person : Cond.instanceMethod yX8_person ∈ T0 := mTt 1029 (by decide +kernel) rfl
theorem se_yX8_person : Cond.selects RX8 yX8_person yX8_person ∈ T0 := mTt 1030 (by decide +kernel) rfl
set_option maxRecDepth 100000 in
theorem co_yX8_person : Cond.code yX8_person cX8_person 5 (some .int) ∈ T0 := mTt 1031 (rfl) rfl
theorem ml_RX8_114 : Cond.methodLink RX8 114 yX8_within ∈ T0 := mTt 1032 (by decide +kernel) rfl
theorem st_yX8_within : Cond.static yX8_within ∈ T0 := mTt 1033 (by decide +kernel) rfl
set_option maxRecDepth 100000 in
theorem co_yX8_within : Cond.code yX8_within cX8_within 3 (some .boolean) ∈ T0 := mTt 1034 (rfl) rfl
theorem ml_RL_22 : Cond.methodLink RL 22 yX8_of ∈ T0 := mTt 1035 (by decide +kernel) rfl
theorem im_yX8_of : Cond.instanceMethod yX8_of ∈ T0 := mTt 1036 (by decide +kernel) rfl
theorem se_yX8_of : Cond.selects RX8 yX8_of yX8_of ∈ T0 := mTt 1037 (by decide +kernel) rfl
set_option maxRecDepth 100000 in
theorem co_yX8_of : Cond.code yX8_of cX8_of 3 (some .int) ∈ T0 := mTt 1038 (rfl) rfl
theorem ml_RX8_118 : Cond.methodLink RX8 118 yX8_isOne ∈ T0 := mTt 1039 (by decide +kernel) rfl
theorem im_yX8_isOne : Cond.instanceMethod yX8_isOne ∈ T0 := mTt 1041 (by decide +kernel) rfl
set_option maxRecDepth 100000 in
theorem co_yX8_isOne : Cond.code yX8_isOne cX8_isOne 2 (some .boolean) ∈ T0 := mTt 1042 (rfl) rfl
theorem ml_RX8_122 : Cond.methodLink RX8 122 yX8_welcome ∈ T0 := mTt 1043 (by decide +kernel) rfl
theorem im_yX8_welcome : Cond.instanceMethod yX8_welcome ∈ T0 := mTt 1045 (by decide +kernel) rfl
set_option maxRecDepth 100000 in
theorem co_yX8_welcome : Cond.code yX8_welcome cX8_welcome 2 (some .int) ∈ T0 := mTt 1046 (rfl) rfl
theorem ml_RX8_237 : Cond.methodLink RX8 237 yX8_door ∈ T0 := mTt 1047 (by decide +kernel) rfl
theorem im_yX8_door : Cond.instanceMethod yX8_door ∈ T0 := mTt 1049 (by decide +kernel) rfl
set_option maxRecDepth 100000 in
theorem co_yX8_door : Cond.code yX8_door cX8_door 5 (some .int) ∈ T0 := mTt 1050 (rfl) rfl
theorem ml_RX8_230 : Cond.methodLink RX8 230 yX8_isTrue ∈ T0 := mTt 1051 (by decide +kernel) rfl
theorem im_yX8_isTrue : Cond.instanceMethod yX8_isTrue ∈ T0 := mTt 1053 (by decide +kernel) rfl
set_option maxRecDepth 100000 in
theorem co_yX8_isTrue : Cond.code yX8_isTrue cX8_isTrue 9 (some .boolean) ∈ T0 := mTt 1054 (rfl) rfl
theorem ml_RX8_227 : Cond.methodLink RX8 227 yX8_letterOf ∈ T0 := mTt 1055 (by decide +kernel) rfl
theorem im_yX8_letterOf : Cond.instanceMethod yX8_letterOf ∈ T0 := mTt 1057 (by decide +kernel) rfl
set_option maxRecDepth 100000 in
theorem co_yX8_letterOf : Cond.code yX8_letterOf cX8_letterOf 3 (some .int) ∈ T0 := mTt 1058 (rfl) rfl
theorem ml_RX8_126 : Cond.methodLink RX8 126 yX8_lets ∈ T0 := mTt 1059 (by decide +kernel) rfl
theorem im_yX8_lets : Cond.instanceMethod yX8_lets ∈ T0 := mTt 1061 (by decide +kernel) rfl
set_option maxRecDepth 100000 in
theorem co_yX8_lets : Cond.code yX8_lets cX8_lets 2 (some .boolean) ∈ T0 := mTt 1062 (rfl) rfl
theorem ml_RX8_129 : Cond.methodLink RX8 129 yX8_prays ∈ T0 := mTt 1063 (by decide +kernel) rfl
theorem im_yX8_prays : Cond.instanceMethod yX8_prays ∈ T0 := mTt 1065 (by decide +kernel) rfl
set_option maxRecDepth 100000 in
theorem co_yX8_prays : Cond.code yX8_prays cX8_prays 2 (some .int) ∈ T0 := mTt 1066 (rfl) rfl
theorem ml_RX8_132 : Cond.methodLink RX8 132 yX8_thanksFor ∈ T0 := mTt 1067 (by decide +kernel) rfl
theorem im_yX8_thanksFor : Cond.instanceMethod yX8_thanksFor ∈ T0 := mTt 1069 (by decide +kernel) rfl
set_option maxRecDepth 100000 in
theorem co_yX8_thanksFor : Cond.code yX8_thanksFor cX8_thanksFor 3 (some .int) ∈ T0 := mTt 1070 (rfl) rfl
theorem ml_RL_26 : Cond.methodLink RL 26 yX8_thanks ∈ T0 := mTt 1071 (by decide +kernel) rfl
theorem im_yX8_thanks : Cond.instanceMethod yX8_thanks ∈ T0 := mTt 1072 (by decide +kernel) rfl
theorem se_yX8_thanks : Cond.selects RX8 yX8_thanks yX8_thanks ∈ T0 := mTt 1073 (by decide +kernel) rfl
set_option maxRecDepth 100000 in
theorem co_yX8_thanks : Cond.code yX8_thanks cX8_thanks 4 (some .int) ∈ T0 := mTt 1074 (rfl) rfl
theorem ml_RL_31 : Cond.methodLink RL 31 yX8_kill ∈ T0 := mTt 1075 (by decide +kernel) rfl
theorem im_yX8_kill : Cond.instanceMethod yX8_kill ∈ T0 := mTt 1076 (by decide +kernel) rfl
theorem se_yX8_kill : Cond.selects RX8 yX8_kill yX8_kill ∈ T0 := mTt 1077 (by decide +kernel) rfl
set_option maxRecDepth 100000 in
theorem co_yX8_kill : Cond.code yX8_kill cX8_kill 4 (some .int) ∈ T0 := mTt 1078 (rfl) rfl
theorem ml_RL_35 : Cond.methodLink RL 35 yX8_row ∈ T0 := mTt 1079 (by decide +kernel) rfl
theorem im_yX8_row : Cond.instanceMethod yX8_row ∈ T0 := mTt 1080 (by decide +kernel) rfl
theorem se_yX8_row : Cond.selects RX8 yX8_row yX8_row ∈ T0 := mTt 1081 (by decide +kernel) rfl
set_option maxRecDepth 100000 in
theorem co_yX8_row : Cond.code yX8_row cX8_row 5 (some .int) ∈ T0 := mTt 1082 (rfl) rfl
theorem ml_RL_39 : Cond.methodLink RL 39 yX8_soldier ∈ T0 := mTt 1083 (by decide +kernel) rfl
theorem im_yX8_soldier : Cond.instanceMethod yX8_soldier ∈ T0 := mTt 1084 (by decide +kernel) rfl
theorem se_yX8_soldier : Cond.selects RX8 yX8_soldier yX8_soldier ∈ T0 := mTt 1085 (by decide +kernel) rfl
set_option maxRecDepth 100000 in
theorem co_yX8_soldier : Cond.code yX8_soldier cX8_soldier 4 (some .int) ∈ T0 := mTt 1086 (rfl) rfl
theorem ml_RL_44 : Cond.methodLink RL 44 yX8_round ∈ T0 := mTt 1087 (by decide +kernel) rfl
theorem im_yX8_round : Cond.instanceMethod yX8_round ∈ T0 := mTt 1088 (by decide +kernel) rfl
theorem se_yX8_round : Cond.selects RX8 yX8_round yX8_round ∈ T0 := mTt 1089 (by decide +kernel) rfl
set_option maxRecDepth 100000 in
theorem co_yX8_round : Cond.code yX8_round cX8_round 2 (some .int) ∈ T0 := mTt 1090 (rfl) rfl
theorem ml_RL_48 : Cond.methodLink RL 48 yX8_feed ∈ T0 := mTt 1091 (by decide +kernel) rfl
theorem im_yX8_feed : Cond.instanceMethod yX8_feed ∈ T0 := mTt 1092 (by decide +kernel) rfl
theorem se_yX8_feed : Cond.selects RX8 yX8_feed yX8_feed ∈ T0 := mTt 1093 (by decide +kernel) rfl
set_option maxRecDepth 100000 in
theorem co_yX8_feed : Cond.code yX8_feed cX8_feed 2 (some .int) ∈ T0 := mTt 1094 (rfl) rfl
theorem ml_RL_53 : Cond.methodLink RL 53 yX8_land ∈ T0 := mTt 1095 (by decide +kernel) rfl
theorem im_yX8_land : Cond.instanceMethod yX8_land ∈ T0 := mTt 1096 (by decide +kernel) rfl
theorem se_yX8_land : Cond.selects RX8 yX8_land yX8_land ∈ T0 := mTt 1097 (by decide +kernel) rfl
set_option maxRecDepth 100000 in
theorem co_yX8_land : Cond.code yX8_land cX8_land 5 (some .int) ∈ T0 := mTt 1098 (rfl) rfl
theorem ml_RX8_221 : Cond.methodLink RX8 221 yX8_isClause ∈ T0 := mTt 1099 (by decide +kernel) rfl
theorem im_yX8_isClause : Cond.instanceMethod yX8_isClause ∈ T0 := mTt 1101 (by decide +kernel) rfl
set_option maxRecDepth 100000 in
theorem co_yX8_isClause : Cond.code yX8_isClause cX8_isClause 4 (some .boolean) ∈ T0 := mTt 1102 (rfl) rfl
theorem ml_RX8_206 : Cond.methodLink RX8 206 yX8_isAll ∈ T0 := mTt 1104 (by decide +kernel) rfl
theorem im_yX8_isAll : Cond.instanceMethod yX8_isAll ∈ T0 := mTt 1106 (by decide +kernel) rfl
set_option maxRecDepth 100000 in
theorem co_yX8_isAll : Cond.code yX8_isAll cX8_isAll 3 (some .boolean) ∈ T0 := mTt 1107 (rfl) rfl
theorem ml_RX8_158 : Cond.methodLink RX8 158 yJ0_length_8abf5 ∈ T0 := mTt 1108 (by decide +kernel) rfl
theorem ml_RX8_163 : Cond.methodLink RX8 163 yJ0_charAt_5068e ∈ T0 := mTt 1109 (by decide +kernel) rfl
theorem ml_RX8_167 : Cond.methodLink RX8 167 yX8_is ∈ T0 := mTt 1110 (by decide +kernel) rfl
theorem im_yX8_is : Cond.instanceMethod yX8_is ∈ T0 := mTt 1112 (by decide +kernel) rfl
set_option maxRecDepth 100000 in
theorem co_yX8_is : Cond.code yX8_is cX8_is 2 (some .boolean) ∈ T0 := mTt 1113 (rfl) rfl
theorem ml_RX8_180 : Cond.methodLink RX8 180 yX8_isNumber ∈ T0 := mTt 1118 (by decide +kernel) rfl
theorem im_yX8_isNumber : Cond.instanceMethod yX8_isNumber ∈ T0 := mTt 1120 (by decide +kernel) rfl
set_option maxRecDepth 100000 in
theorem co_yX8_isNumber : Cond.code yX8_isNumber cX8_isNumber 1 (some .boolean) ∈ T0 := mTt 1121 (rfl) rfl
theorem ml_RX8_154 : Cond.methodLink RX8 154 yX8_isDigit ∈ T0 := mTt 1122 (by decide +kernel) rfl
theorem im_yX8_isDigit : Cond.instanceMethod yX8_isDigit ∈ T0 := mTt 1124 (by decide +kernel) rfl
set_option maxRecDepth 100000 in
theorem co_yX8_isDigit : Cond.code yX8_isDigit cX8_isDigit 1 (some .boolean) ∈ T0 := mTt 1125 (rfl) rfl
theorem ml_RX8_195 : Cond.methodLink RX8 195 yX8_isE ∈ T0 := mTt 1126 (by decide +kernel) rfl
theorem im_yX8_isE : Cond.instanceMethod yX8_isE ∈ T0 := mTt 1128 (by decide +kernel) rfl
set_option maxRecDepth 100000 in
theorem co_yX8_isE : Cond.code yX8_isE cX8_isE 1 (some .boolean) ∈ T0 := mTt 1129 (rfl) rfl
theorem ml_RX8_201 : Cond.methodLink RX8 201 yX8_isT ∈ T0 := mTt 1130 (by decide +kernel) rfl
theorem im_yX8_isT : Cond.instanceMethod yX8_isT ∈ T0 := mTt 1132 (by decide +kernel) rfl
set_option maxRecDepth 100000 in
theorem co_yX8_isT : Cond.code yX8_isT cX8_isT 1 (some .boolean) ∈ T0 := mTt 1133 (rfl) rfl
theorem ml_RX8_192 : Cond.methodLink RX8 192 yX8_isF ∈ T0 := mTt 1134 (by decide +kernel) rfl
theorem im_yX8_isF : Cond.instanceMethod yX8_isF ∈ T0 := mTt 1136 (by decide +kernel) rfl
set_option maxRecDepth 100000 in
theorem co_yX8_isF : Cond.code yX8_isF cX8_isF 2 (some .boolean) ∈ T0 := mTt 1137 (rfl) rfl
theorem ml_RX8_189 : Cond.methodLink RX8 189 yX8_opens ∈ T0 := mTt 1138 (by decide +kernel) rfl
theorem im_yX8_opens : Cond.instanceMethod yX8_opens ∈ T0 := mTt 1140 (by decide +kernel) rfl
set_option maxRecDepth 100000 in
theorem co_yX8_opens : Cond.code yX8_opens cX8_opens 2 (some .boolean) ∈ T0 := mTt 1141 (rfl) rfl
theorem ml_RX8_183 : Cond.methodLink RX8 183 yX8_codes ∈ T0 := mTt 1142 (by decide +kernel) rfl
theorem im_yX8_codes : Cond.instanceMethod yX8_codes ∈ T0 := mTt 1144 (by decide +kernel) rfl
set_option maxRecDepth 100000 in
theorem co_yX8_codes : Cond.code yX8_codes cX8_codes 2 (some .boolean) ∈ T0 := mTt 1145 (rfl) rfl
theorem ml_RX8_198 : Cond.methodLink RX8 198 yX8_isTest ∈ T0 := mTt 1146 (by decide +kernel) rfl
theorem im_yX8_isTest : Cond.instanceMethod yX8_isTest ∈ T0 := mTt 1148 (by decide +kernel) rfl
set_option maxRecDepth 100000 in
theorem co_yX8_isTest : Cond.code yX8_isTest cX8_isTest 3 (some .boolean) ∈ T0 := mTt 1149 (rfl) rfl
theorem ml_RX8_175 : Cond.methodLink RX8 175 yJ0_indexOf_0f7a4 ∈ T0 := mTt 1151 (by decide +kernel) rfl
theorem ml_RL_57 : Cond.methodLink RL 57 yX8_told ∈ T0 := mTt 1153 (by decide +kernel) rfl
theorem im_yX8_told : Cond.instanceMethod yX8_told ∈ T0 := mTt 1154 (by decide +kernel) rfl
theorem se_yX8_told : Cond.selects RX8 yX8_told yX8_told ∈ T0 := mTt 1155 (by decide +kernel) rfl
set_option maxRecDepth 100000 in
theorem co_yX8_told : Cond.code yX8_told cX8_told 2 (some .int) ∈ T0 := mTt 1156 (rfl) rfl
theorem ml_RX8_243 : Cond.methodLink RX8 243 yX8_cold ∈ T0 := mTt 1157 (by decide +kernel) rfl
theorem im_yX8_cold : Cond.instanceMethod yX8_cold ∈ T0 := mTt 1159 (by decide +kernel) rfl
set_option maxRecDepth 100000 in
theorem co_yX8_cold : Cond.code yX8_cold cX8_cold 1 (some .int) ∈ T0 := mTt 1160 (rfl) rfl
theorem ml_RX8_234 : Cond.methodLink RX8 234 yX8_lastOf ∈ T0 := mTt 1161 (by decide +kernel) rfl
theorem im_yX8_lastOf : Cond.instanceMethod yX8_lastOf ∈ T0 := mTt 1163 (by decide +kernel) rfl
set_option maxRecDepth 100000 in
theorem co_yX8_lastOf : Cond.code yX8_lastOf cX8_lastOf 5 (some .int) ∈ T0 := mTt 1164 (rfl) rfl
theorem ml_RX8_260 : Cond.methodLink RX8 260 yX8_pocket ∈ T0 := mTt 1165 (by decide +kernel) rfl
theorem im_yX8_pocket : Cond.instanceMethod yX8_pocket ∈ T0 := mTt 1167 (by decide +kernel) rfl
set_option maxRecDepth 100000 in
theorem co_yX8_pocket : Cond.code yX8_pocket cX8_pocket 1 (some .int) ∈ T0 := mTt 1168 (rfl) rfl
theorem ml_RX8_246 : Cond.methodLink RX8 246 yX8_letting ∈ T0 := mTt 1169 (by decide +kernel) rfl
theorem im_yX8_letting : Cond.instanceMethod yX8_letting ∈ T0 := mTt 1171 (by decide +kernel) rfl
set_option maxRecDepth 100000 in
theorem co_yX8_letting : Cond.code yX8_letting cX8_letting 3 (some .int) ∈ T0 := mTt 1172 (rfl) rfl
theorem ml_RX8_240 : Cond.methodLink RX8 240 yX8_prayers ∈ T0 := mTt 1173 (by decide +kernel) rfl
theorem im_yX8_prayers : Cond.instanceMethod yX8_prayers ∈ T0 := mTt 1175 (by decide +kernel) rfl
set_option maxRecDepth 100000 in
theorem co_yX8_prayers : Cond.code yX8_prayers cX8_prayers 3 (some .int) ∈ T0 := mTt 1176 (rfl) rfl
theorem ml_RL_61 : Cond.methodLink RL 61 yX8_pass ∈ T0 := mTt 1177 (by decide +kernel) rfl
theorem im_yX8_pass : Cond.instanceMethod yX8_pass ∈ T0 := mTt 1178 (by decide +kernel) rfl
theorem se_yX8_pass : Cond.selects RX8 yX8_pass yX8_pass ∈ T0 := mTt 1179 (by decide +kernel) rfl
set_option maxRecDepth 100000 in
theorem co_yX8_pass : Cond.code yX8_pass cX8_pass 2 (some .int) ∈ T0 := mTt 1180 (rfl) rfl
theorem ml_RX8_269 : Cond.methodLink RX8 269 yX8_isDays ∈ T0 := mTt 1181 (by decide +kernel) rfl
theorem st_yX8_isDays : Cond.static yX8_isDays ∈ T0 := mTt 1182 (by decide +kernel) rfl
set_option maxRecDepth 100000 in
theorem co_yX8_isDays : Cond.code yX8_isDays cX8_isDays 1 (some .boolean) ∈ T0 := mTt 1183 (rfl) rfl
theorem ml_RX8_272 : Cond.methodLink RX8 272 yX8_days ∈ T0 := mTt 1184 (by decide +kernel) rfl
theorem im_yX8_days : Cond.instanceMethod yX8_days ∈ T0 := mTt 1186 (by decide +kernel) rfl
set_option maxRecDepth 100000 in
theorem co_yX8_days : Cond.code yX8_days cX8_days 3 none ∈ T0 := mTt 1187 (rfl) rfl
theorem ml_RX8_266 : Cond.methodLink RX8 266 yX8_goesDay ∈ T0 := mTt 1188 (by decide +kernel) rfl
theorem im_yX8_goesDay : Cond.instanceMethod yX8_goesDay ∈ T0 := mTt 1190 (by decide +kernel) rfl
set_option maxRecDepth 100000 in
theorem co_yX8_goesDay : Cond.code yX8_goesDay cX8_goesDay 4 none ∈ T0 := mTt 1191 (rfl) rfl
theorem ml_RX8_249 : Cond.methodLink RX8 249 yJ6_bitCount_0f7a4 ∈ T0 := mTt 1192 (by decide +kernel) rfl
theorem ml_RX8_254 : Cond.methodLink RX8 254 yJ9_max_7cf53 ∈ T0 := mTt 1193 (by decide +kernel) rfl
theorem cn_RX8_259 : Cond.constant RX8 259 (99999 : Int32) ∈ T0 := mTt 1194 (by decide +kernel) rfl
theorem ml_RX8_263 : Cond.methodLink RX8 263 yJ9_min_7cf53 ∈ T0 := mTt 1195 (by decide +kernel) rfl
theorem ml_RL_65 : Cond.methodLink RL 65 yX8_on ∈ T0 := mTt 1196 (by decide +kernel) rfl
theorem im_yX8_on : Cond.instanceMethod yX8_on ∈ T0 := mTt 1197 (by decide +kernel) rfl
theorem se_yX8_on : Cond.selects RX8 yX8_on yX8_on ∈ T0 := mTt 1198 (by decide +kernel) rfl
set_option maxRecDepth 100000 in
theorem co_yX8_on : Cond.code yX8_on cX8_on 4 (some .int) ∈ T0 := mTt 1199 (rfl) rfl
theorem ml_RX8_276 : Cond.methodLink RX8 276 yX8_keep ∈ T0 := mTt 1200 (by decide +kernel) rfl
theorem im_yX8_keep : Cond.instanceMethod yX8_keep ∈ T0 := mTt 1202 (by decide +kernel) rfl
set_option maxRecDepth 100000 in
theorem co_yX8_keep : Cond.code yX8_keep cX8_keep 3 none ∈ T0 := mTt 1203 (rfl) rfl
theorem ml_RX8_280 : Cond.methodLink RX8 280 yX8_again ∈ T0 := mTt 1204 (by decide +kernel) rfl
theorem im_yX8_again : Cond.instanceMethod yX8_again ∈ T0 := mTt 1206 (by decide +kernel) rfl
set_option maxRecDepth 100000 in
theorem co_yX8_again : Cond.code yX8_again cX8_again 3 none ∈ T0 := mTt 1207 (rfl) rfl
theorem ml_RL_69 : Cond.methodLink RL 69 yX8_dies ∈ T0 := mTt 1208 (by decide +kernel) rfl
theorem im_yX8_dies : Cond.instanceMethod yX8_dies ∈ T0 := mTt 1209 (by decide +kernel) rfl
theorem se_yX8_dies : Cond.selects RX8 yX8_dies yX8_dies ∈ T0 := mTt 1210 (by decide +kernel) rfl
set_option maxRecDepth 100000 in
theorem co_yX8_dies : Cond.code yX8_dies cX8_dies 2 (some .int) ∈ T0 := mTt 1211 (rfl) rfl
theorem ml_RX8_286 : Cond.methodLink RX8 286 yX8_isGone ∈ T0 := mTt 1212 (by decide +kernel) rfl
theorem im_yX8_isGone : Cond.instanceMethod yX8_isGone ∈ T0 := mTt 1214 (by decide +kernel) rfl
set_option maxRecDepth 100000 in
theorem co_yX8_isGone : Cond.code yX8_isGone cX8_isGone 2 (some .boolean) ∈ T0 := mTt 1215 (rfl) rfl
theorem ml_RX8_283 : Cond.methodLink RX8 283 yX8_healthOn ∈ T0 := mTt 1216 (by decide +kernel) rfl
theorem im_yX8_healthOn : Cond.instanceMethod yX8_healthOn ∈ T0 := mTt 1218 (by decide +kernel) rfl
set_option maxRecDepth 100000 in
theorem co_yX8_healthOn : Cond.code yX8_healthOn cX8_healthOn 3 (some .int) ∈ T0 := mTt 1219 (rfl) rfl
theorem ml_RL_73 : Cond.methodLink RL 73 yX8_worst ∈ T0 := mTt 1220 (by decide +kernel) rfl
theorem im_yX8_worst : Cond.instanceMethod yX8_worst ∈ T0 := mTt 1221 (by decide +kernel) rfl
theorem se_yX8_worst : Cond.selects RX8 yX8_worst yX8_worst ∈ T0 := mTt 1222 (by decide +kernel) rfl
set_option maxRecDepth 100000 in
theorem co_yX8_worst : Cond.code yX8_worst cX8_worst 6 (some .int) ∈ T0 := mTt 1223 (rfl) rfl
theorem ml_RL_77 : Cond.methodLink RL 77 yX8_aim ∈ T0 := mTt 1224 (by decide +kernel) rfl
theorem im_yX8_aim : Cond.instanceMethod yX8_aim ∈ T0 := mTt 1225 (by decide +kernel) rfl
theorem se_yX8_aim : Cond.selects RX8 yX8_aim yX8_aim ∈ T0 := mTt 1226 (by decide +kernel) rfl
set_option maxRecDepth 100000 in
theorem co_yX8_aim : Cond.code yX8_aim cX8_aim 7 (some .int) ∈ T0 := mTt 1227 (rfl) rfl
theorem ml_RL_81 : Cond.methodLink RL 81 yX8_swap ∈ T0 := mTt 1228 (by decide +kernel) rfl
theorem im_yX8_swap : Cond.instanceMethod yX8_swap ∈ T0 := mTt 1229 (by decide +kernel) rfl
theorem se_yX8_swap : Cond.selects RX8 yX8_swap yX8_swap ∈ T0 := mTt 1230 (by decide +kernel) rfl
set_option maxRecDepth 100000 in
theorem co_yX8_swap : Cond.code yX8_swap cX8_swap 6 (some .int) ∈ T0 := mTt 1231 (rfl) rfl
theorem ml_RX8_289 : Cond.methodLink RX8 289 yX8_change ∈ T0 := mTt 1232 (by decide +kernel) rfl
theorem im_yX8_change : Cond.instanceMethod yX8_change ∈ T0 := mTt 1234 (by decide +kernel) rfl
set_option maxRecDepth 100000 in
theorem co_yX8_change : Cond.code yX8_change cX8_change 4 none ∈ T0 := mTt 1235 (rfl) rfl
theorem ml_RL_85 : Cond.methodLink RL 85 yX8_enough ∈ T0 := mTt 1236 (by decide +kernel) rfl
theorem im_yX8_enough : Cond.instanceMethod yX8_enough ∈ T0 := mTt 1237 (by decide +kernel) rfl
theorem se_yX8_enough : Cond.selects RX8 yX8_enough yX8_enough ∈ T0 := mTt 1238 (by decide +kernel) rfl
set_option maxRecDepth 100000 in
theorem co_yX8_enough : Cond.code yX8_enough cX8_enough 4 (some .int) ∈ T0 := mTt 1239 (rfl) rfl
theorem ml_RL_89 : Cond.methodLink RL 89 yX8_bears ∈ T0 := mTt 1240 (by decide +kernel) rfl
theorem im_yX8_bears : Cond.instanceMethod yX8_bears ∈ T0 := mTt 1241 (by decide +kernel) rfl
theorem se_yX8_bears : Cond.selects RX8 yX8_bears yX8_bears ∈ T0 := mTt 1242 (by decide +kernel) rfl
set_option maxRecDepth 100000 in
theorem co_yX8_bears : Cond.code yX8_bears cX8_bears 4 (some .int) ∈ T0 := mTt 1243 (rfl) rfl
theorem ml_RL_93 : Cond.methodLink RL 93 yX8_whose ∈ T0 := mTt 1244 (by decide +kernel) rfl
theorem im_yX8_whose : Cond.instanceMethod yX8_whose ∈ T0 := mTt 1245 (by decide +kernel) rfl
theorem se_yX8_whose : Cond.selects RX8 yX8_whose yX8_whose ∈ T0 := mTt 1246 (by decide +kernel) rfl
set_option maxRecDepth 100000 in
theorem co_yX8_whose : Cond.code yX8_whose cX8_whose 4 (some .int) ∈ T0 := mTt 1247 (rfl) rfl
theorem ml_RX8_293 : Cond.methodLink RX8 293 yX8_isGoneWithout ∈ T0 := mTt 1248 (by decide +kernel) rfl
theorem im_yX8_isGoneWithout : Cond.instanceMethod yX8_isGoneWithout ∈ T0 := mTt 1250 (by decide +kernel) rfl
set_option maxRecDepth 100000 in
theorem co_yX8_isGoneWithout : Cond.code yX8_isGoneWithout cX8_isGoneWithout 5 (some .boolean) ∈ T0 := mTt 1251 (rfl) rfl
theorem ml_RL_97 : Cond.methodLink RL 97 yX8_see ∈ T0 := mTt 1252 (by decide +kernel) rfl
theorem im_yX8_see : Cond.instanceMethod yX8_see ∈ T0 := mTt 1253 (by decide +kernel) rfl
theorem se_yX8_see : Cond.selects RX8 yX8_see yX8_see ∈ T0 := mTt 1254 (by decide +kernel) rfl
set_option maxRecDepth 100000 in
theorem co_yX8_see : Cond.code yX8_see cX8_see 3 (some .int) ∈ T0 := mTt 1255 (rfl) rfl
theorem ml_RL_101 : Cond.methodLink RL 101 yX8_was ∈ T0 := mTt 1256 (by decide +kernel) rfl
theorem im_yX8_was : Cond.instanceMethod yX8_was ∈ T0 := mTt 1257 (by decide +kernel) rfl
theorem se_yX8_was : Cond.selects RX8 yX8_was yX8_was ∈ T0 := mTt 1258 (by decide +kernel) rfl
set_option maxRecDepth 100000 in
theorem co_yX8_was : Cond.code yX8_was cX8_was 7 (some .int) ∈ T0 := mTt 1259 (rfl) rfl
theorem ml_RX8_299 : Cond.methodLink RX8 299 yX8_isSeen ∈ T0 := mTt 1260 (by decide +kernel) rfl
theorem im_yX8_isSeen : Cond.instanceMethod yX8_isSeen ∈ T0 := mTt 1262 (by decide +kernel) rfl
set_option maxRecDepth 100000 in
theorem co_yX8_isSeen : Cond.code yX8_isSeen cX8_isSeen 2 (some .boolean) ∈ T0 := mTt 1263 (rfl) rfl
theorem ml_RL_105 : Cond.methodLink RL 105 yX8_can ∈ T0 := mTt 1264 (by decide +kernel) rfl
theorem im_yX8_can : Cond.instanceMethod yX8_can ∈ T0 := mTt 1265 (by decide +kernel) rfl
theorem se_yX8_can : Cond.selects RX8 yX8_can yX8_can ∈ T0 := mTt 1266 (by decide +kernel) rfl
set_option maxRecDepth 100000 in
theorem co_yX8_can : Cond.code yX8_can cX8_can 7 (some .int) ∈ T0 := mTt 1267 (rfl) rfl
theorem ml_RL_110 : Cond.methodLink RL 110 yX8_odds ∈ T0 := mTt 1268 (by decide +kernel) rfl
theorem im_yX8_odds : Cond.instanceMethod yX8_odds ∈ T0 := mTt 1269 (by decide +kernel) rfl
theorem se_yX8_odds : Cond.selects RX8 yX8_odds yX8_odds ∈ T0 := mTt 1270 (by decide +kernel) rfl
set_option maxRecDepth 100000 in
theorem co_yX8_odds : Cond.code yX8_odds cX8_odds 5 (some .long) ∈ T0 := mTt 1271 (rfl) rfl
theorem cl_RX8_302 : Cond.constantLong RX8 302 (-9223372036854775808 : Int64) ∈ T0 := mTt 1272 (by decide +kernel) rfl
theorem ml_RX8_304 : Cond.methodLink RX8 304 yX8_part ∈ T0 := mTt 1273 (by decide +kernel) rfl
theorem st_yX8_part : Cond.static yX8_part ∈ T0 := mTt 1274 (by decide +kernel) rfl
set_option maxRecDepth 100000 in
theorem co_yX8_part : Cond.code yX8_part cX8_part 6 (some .long) ∈ T0 := mTt 1275 (rfl) rfl
theorem ml_RL_114 : Cond.methodLink RL 114 yX8_mean ∈ T0 := mTt 1276 (by decide +kernel) rfl
theorem im_yX8_mean : Cond.instanceMethod yX8_mean ∈ T0 := mTt 1277 (by decide +kernel) rfl
theorem se_yX8_mean : Cond.selects RX8 yX8_mean yX8_mean ∈ T0 := mTt 1278 (by decide +kernel) rfl
set_option maxRecDepth 100000 in
theorem co_yX8_mean : Cond.code yX8_mean cX8_mean 5 (some .long) ∈ T0 := mTt 1279 (rfl) rfl
theorem ml_RL_118 : Cond.methodLink RL 118 yX8_winter ∈ T0 := mTt 1280 (by decide +kernel) rfl
theorem im_yX8_winter : Cond.instanceMethod yX8_winter ∈ T0 := mTt 1281 (by decide +kernel) rfl
theorem se_yX8_winter : Cond.selects RX8 yX8_winter yX8_winter ∈ T0 := mTt 1282 (by decide +kernel) rfl
set_option maxRecDepth 100000 in
theorem co_yX8_winter : Cond.code yX8_winter cX8_winter 3 (some .int) ∈ T0 := mTt 1283 (rfl) rfl
theorem ml_RL_122 : Cond.methodLink RL 122 yX8_gone ∈ T0 := mTt 1284 (by decide +kernel) rfl
theorem im_yX8_gone : Cond.instanceMethod yX8_gone ∈ T0 := mTt 1285 (by decide +kernel) rfl
theorem se_yX8_gone : Cond.selects RX8 yX8_gone yX8_gone ∈ T0 := mTt 1286 (by decide +kernel) rfl
set_option maxRecDepth 100000 in
theorem co_yX8_gone : Cond.code yX8_gone cX8_gone 3 (some .int) ∈ T0 := mTt 1287 (rfl) rfl
theorem ml_RL_126 : Cond.methodLink RL 126 yX8_book ∈ T0 := mTt 1288 (by decide +kernel) rfl
theorem im_yX8_book : Cond.instanceMethod yX8_book ∈ T0 := mTt 1289 (by decide +kernel) rfl
theorem se_yX8_book : Cond.selects RX8 yX8_book yX8_book ∈ T0 := mTt 1290 (by decide +kernel) rfl
set_option maxRecDepth 100000 in
theorem co_yX8_book : Cond.code yX8_book cX8_book 3 (some .int) ∈ T0 := mTt 1291 (rfl) rfl
theorem ml_RL_130 : Cond.methodLink RL 130 yX8_looked ∈ T0 := mTt 1292 (by decide +kernel) rfl
theorem im_yX8_looked : Cond.instanceMethod yX8_looked ∈ T0 := mTt 1293 (by decide +kernel) rfl
theorem se_yX8_looked : Cond.selects RX8 yX8_looked yX8_looked ∈ T0 := mTt 1294 (by decide +kernel) rfl
set_option maxRecDepth 100000 in
theorem co_yX8_looked : Cond.code yX8_looked cX8_looked 2 (some .int) ∈ T0 := mTt 1295 (rfl) rfl
theorem ml_RL_134 : Cond.methodLink RL 134 yX8_judge ∈ T0 := mTt 1296 (by decide +kernel) rfl
theorem im_yX8_judge : Cond.instanceMethod yX8_judge ∈ T0 := mTt 1297 (by decide +kernel) rfl
theorem se_yX8_judge : Cond.selects RX8 yX8_judge yX8_judge ∈ T0 := mTt 1298 (by decide +kernel) rfl
set_option maxRecDepth 100000 in
theorem co_yX8_judge : Cond.code yX8_judge cX8_judge 4 (some .int) ∈ T0 := mTt 1299 (rfl) rfl
theorem ml_RL_138 : Cond.methodLink RL 138 yX8_image ∈ T0 := mTt 1300 (by decide +kernel) rfl
theorem im_yX8_image : Cond.instanceMethod yX8_image ∈ T0 := mTt 1301 (by decide +kernel) rfl
theorem se_yX8_image : Cond.selects RX8 yX8_image yX8_image ∈ T0 := mTt 1302 (by decide +kernel) rfl
set_option maxRecDepth 100000 in
theorem co_yX8_image : Cond.code yX8_image cX8_image 2 (some .int) ∈ T0 := mTt 1303 (rfl) rfl
theorem ml_RL_142 : Cond.methodLink RL 142 yX8_undo ∈ T0 := mTt 1304 (by decide +kernel) rfl
theorem im_yX8_undo : Cond.instanceMethod yX8_undo ∈ T0 := mTt 1305 (by decide +kernel) rfl
theorem se_yX8_undo : Cond.selects RX8 yX8_undo yX8_undo ∈ T0 := mTt 1306 (by decide +kernel) rfl
set_option maxRecDepth 100000 in
theorem co_yX8_undo : Cond.code yX8_undo cX8_undo 2 (some .int) ∈ T0 := mTt 1307 (rfl) rfl
theorem ml_RL_146 : Cond.methodLink RL 146 yX8_act ∈ T0 := mTt 1308 (by decide +kernel) rfl
theorem im_yX8_act : Cond.instanceMethod yX8_act ∈ T0 := mTt 1309 (by decide +kernel) rfl
theorem se_yX8_act : Cond.selects RX8 yX8_act yX8_act ∈ T0 := mTt 1310 (by decide +kernel) rfl
set_option maxRecDepth 100000 in
theorem co_yX8_act : Cond.code yX8_act cX8_act 5 (some .int) ∈ T0 := mTt 1311 (rfl) rfl
theorem ml_RX8_324 : Cond.methodLink RX8 324 yX8_opens_ ∈ T0 := mTt 1312 (by decide +kernel) rfl
theorem im_yX8_opens_ : Cond.instanceMethod yX8_opens_ ∈ T0 := mTt 1314 (by decide +kernel) rfl
set_option maxRecDepth 100000 in
theorem co_yX8_opens_ : Cond.code yX8_opens_ cX8_opens_ 4 (some .int) ∈ T0 := mTt 1315 (rfl) rfl
theorem ml_RX8_321 : Cond.methodLink RX8 321 yX8_ran ∈ T0 := mTt 1316 (by decide +kernel) rfl
theorem im_yX8_ran : Cond.instanceMethod yX8_ran ∈ T0 := mTt 1318 (by decide +kernel) rfl
set_option maxRecDepth 100000 in
theorem co_yX8_ran : Cond.code yX8_ran cX8_ran 2 none ∈ T0 := mTt 1319 (rfl) rfl
theorem ml_RX8_327 : Cond.methodLink RX8 327 yX8_above ∈ T0 := mTt 1320 (by decide +kernel) rfl
theorem st_yX8_above : Cond.static yX8_above ∈ T0 := mTt 1321 (by decide +kernel) rfl
set_option maxRecDepth 100000 in
theorem co_yX8_above : Cond.code yX8_above cX8_above 1 (some .int) ∈ T0 := mTt 1322 (rfl) rfl
theorem ml_RX8_330 : Cond.methodLink RX8 330 yX8_prays_ ∈ T0 := mTt 1323 (by decide +kernel) rfl
theorem im_yX8_prays_ : Cond.instanceMethod yX8_prays_ ∈ T0 := mTt 1325 (by decide +kernel) rfl
set_option maxRecDepth 100000 in
theorem co_yX8_prays_ : Cond.code yX8_prays_ cX8_prays_ 5 (some .int) ∈ T0 := mTt 1326 (rfl) rfl
theorem ml_RX8_332 : Cond.methodLink RX8 332 yX8_tells ∈ T0 := mTt 1327 (by decide +kernel) rfl
theorem im_yX8_tells : Cond.instanceMethod yX8_tells ∈ T0 := mTt 1329 (by decide +kernel) rfl
set_option maxRecDepth 100000 in
theorem co_yX8_tells : Cond.code yX8_tells cX8_tells 5 (some .int) ∈ T0 := mTt 1330 (rfl) rfl
theorem ml_RL_150 : Cond.methodLink RL 150 yX8_trace ∈ T0 := mTt 1331 (by decide +kernel) rfl
theorem im_yX8_trace : Cond.instanceMethod yX8_trace ∈ T0 := mTt 1332 (by decide +kernel) rfl
theorem se_yX8_trace : Cond.selects RX8 yX8_trace yX8_trace ∈ T0 := mTt 1333 (by decide +kernel) rfl
set_option maxRecDepth 100000 in
theorem co_yX8_trace : Cond.code yX8_trace cX8_trace 2 (some .int) ∈ T0 := mTt 1334 (rfl) rfl
theorem ml_RL_154 : Cond.methodLink RL 154 yX8_taken ∈ T0 := mTt 1335 (by decide +kernel) rfl
theorem im_yX8_taken : Cond.instanceMethod yX8_taken ∈ T0 := mTt 1336 (by decide +kernel) rfl
theorem se_yX8_taken : Cond.selects RX8 yX8_taken yX8_taken ∈ T0 := mTt 1337 (by decide +kernel) rfl
set_option maxRecDepth 100000 in
theorem co_yX8_taken : Cond.code yX8_taken cX8_taken 4 (some .int) ∈ T0 := mTt 1338 (rfl) rfl
theorem ml_RL_158 : Cond.methodLink RL 158 yX8_count ∈ T0 := mTt 1339 (by decide +kernel) rfl
theorem im_yX8_count : Cond.instanceMethod yX8_count ∈ T0 := mTt 1340 (by decide +kernel) rfl
theorem se_yX8_count : Cond.selects RX8 yX8_count yX8_count ∈ T0 := mTt 1341 (by decide +kernel) rfl
set_option maxRecDepth 100000 in
theorem co_yX8_count : Cond.code yX8_count cX8_count 2 (some .int) ∈ T0 := mTt 1342 (rfl) rfl
theorem ml_RL_162 : Cond.methodLink RL 162 yX8_tape ∈ T0 := mTt 1343 (by decide +kernel) rfl
theorem im_yX8_tape : Cond.instanceMethod yX8_tape ∈ T0 := mTt 1344 (by decide +kernel) rfl
theorem se_yX8_tape : Cond.selects RX8 yX8_tape yX8_tape ∈ T0 := mTt 1345 (by decide +kernel) rfl
set_option maxRecDepth 100000 in
theorem co_yX8_tape : Cond.code yX8_tape cX8_tape 5 (some .int) ∈ T0 := mTt 1346 (rfl) rfl
theorem ml_RX8_335 : Cond.methodLink RX8 335 yX8_isTape ∈ T0 := mTt 1347 (by decide +kernel) rfl
theorem st_yX8_isTape : Cond.static yX8_isTape ∈ T0 := mTt 1348 (by decide +kernel) rfl
set_option maxRecDepth 100000 in
theorem co_yX8_isTape : Cond.code yX8_isTape cX8_isTape 1 (some .boolean) ∈ T0 := mTt 1349 (rfl) rfl
theorem ml_RL_169 : Cond.methodLink RL 169 yX8_item ∈ T0 := mTt 1350 (by decide +kernel) rfl
theorem im_yX8_item : Cond.instanceMethod yX8_item ∈ T0 := mTt 1351 (by decide +kernel) rfl
theorem se_yX8_item : Cond.selects RX8 yX8_item yX8_item ∈ T0 := mTt 1352 (by decide +kernel) rfl
set_option maxRecDepth 100000 in
theorem co_yX8_item : Cond.code yX8_item cX8_item 5 (some .int) ∈ T0 := mTt 1353 (rfl) rfl
theorem ml_RX8_338 : Cond.methodLink RX8 338 yX8_kept ∈ T0 := mTt 1354 (by decide +kernel) rfl
theorem st_yX8_kept : Cond.static yX8_kept ∈ T0 := mTt 1355 (by decide +kernel) rfl
set_option maxRecDepth 100000 in
theorem co_yX8_kept : Cond.code yX8_kept cX8_kept 3 (some .long) ∈ T0 := mTt 1356 (rfl) rfl
theorem ml_RL_173 : Cond.methodLink RL 173 yX8_read ∈ T0 := mTt 1357 (by decide +kernel) rfl
theorem im_yX8_read : Cond.instanceMethod yX8_read ∈ T0 := mTt 1358 (by decide +kernel) rfl
theorem se_yX8_read : Cond.selects RX8 yX8_read yX8_read ∈ T0 := mTt 1359 (by decide +kernel) rfl
set_option maxRecDepth 100000 in
theorem co_yX8_read : Cond.code yX8_read cX8_read 3 (some .long) ∈ T0 := mTt 1360 (rfl) rfl
theorem ml_RL_178 : Cond.methodLink RL 178 yX8_shift ∈ T0 := mTt 1361 (by decide +kernel) rfl
theorem im_yX8_shift : Cond.instanceMethod yX8_shift ∈ T0 := mTt 1362 (by decide +kernel) rfl
theorem se_yX8_shift : Cond.selects RX8 yX8_shift yX8_shift ∈ T0 := mTt 1363 (by decide +kernel) rfl
set_option maxRecDepth 100000 in
theorem co_yX8_shift : Cond.code yX8_shift cX8_shift 7 (some .int) ∈ T0 := mTt 1364 (rfl) rfl
theorem cl_RL_163 : Cond.constantLong RL 163 (4294967295 : Int64) ∈ T0 := mTt 1365 (by decide +kernel) rfl
theorem fw_RJ0_9 : Cond.fieldLink RJ0 9 RJ0 "value" "[B" ∈ T0 := mTt 1366 (by decide +kernel) rfl
theorem fw_RJ0_15 : Cond.fieldLink RJ0 15 RJ0 "coder" "B" ∈ T0 := mTt 1367 (by decide +kernel) rfl
theorem se_yX7_isPerson : Cond.selects RX7 yX7_isPerson yX7_isPerson ∈ T0 := mTs (q := (yX7_isPerson, 10)) 0 rfl
theorem se_yX1_passTest : Cond.selects RX1 yX1_passTest yX1_passTest ∈ T0 := mTs (q := (yX1_passTest, 11)) 1 rfl
theorem se_yX5_clause : Cond.selects RX5 yX5_clause yX5_clause ∈ T0 := mTs (q := (yX5_clause, 3)) 2 rfl
theorem se_yX5_word : Cond.selects RX5 yX5_word yX5_word ∈ T0 := mTs (q := (yX5_word, 3)) 3 rfl
theorem se_yX5_skip : Cond.selects RX5 yX5_skip yX5_skip ∈ T0 := mTs (q := (yX5_skip, 3)) 4 rfl
theorem se_yX5_number : Cond.selects RX5 yX5_number yX5_number ∈ T0 := mTs (q := (yX5_number, 3)) 5 rfl
theorem se_yX5_either : Cond.selects RX5 yX5_either yX5_either ∈ T0 := mTs (q := (yX5_either, 3)) 6 rfl
theorem se_yX5_single : Cond.selects RX5 yX5_single yX5_single ∈ T0 := mTs (q := (yX5_single, 3)) 7 rfl
theorem se_yX5_test : Cond.selects RX5 yX5_test yX5_test ∈ T0 := mTs (q := (yX5_test, 3)) 8 rfl
theorem se_yX5_oneOf : Cond.selects RX5 yX5_oneOf yX5_oneOf ∈ T0 := mTs (q := (yX5_oneOf, 3)) 9 rfl
theorem se_yX6_givePocket : Cond.selects RX6 yX6_givePocket yX6_givePocket ∈ T0 := mTs (q := (yX6_givePocket, 14)) 10 rfl
theorem se_yX7_isGoneWithout : Cond.selects RX7 yX7_isGoneWithout yX7_isGoneWithout ∈ T0 := mTs (q := (yX7_isGoneWithout, 10)) 11 rfl
theorem se_yX7_fitting : Cond.selects RX7 yX7_fitting yX7_fitting ∈ T0 := mTs (q := (yX7_fitting, 10)) 12 rfl
theorem se_yX0_go : Cond.selects RX0 yX0_go yX0_go ∈ T0 := mTs (q := (yX0_go, 5)) 13 rfl
theorem se_yX0_note : Cond.selects RX0 yX0_note yX0_note ∈ T0 := mTs (q := (yX0_note, 5)) 14 rfl
theorem se_yX8_isOne : Cond.selects RX8 yX8_isOne yX8_isOne ∈ T0 := mTs (q := (yX8_isOne, 48)) 15 rfl
theorem se_yX8_welcome : Cond.selects RX8 yX8_welcome yX8_welcome ∈ T0 := mTs (q := (yX8_welcome, 48)) 16 rfl
theorem se_yX8_door : Cond.selects RX8 yX8_door yX8_door ∈ T0 := mTs (q := (yX8_door, 48)) 17 rfl
theorem se_yX8_isTrue : Cond.selects RX8 yX8_isTrue yX8_isTrue ∈ T0 := mTs (q := (yX8_isTrue, 48)) 18 rfl
theorem se_yX8_letterOf : Cond.selects RX8 yX8_letterOf yX8_letterOf ∈ T0 := mTs (q := (yX8_letterOf, 48)) 19 rfl
theorem se_yX8_lets : Cond.selects RX8 yX8_lets yX8_lets ∈ T0 := mTs (q := (yX8_lets, 48)) 20 rfl
theorem se_yX8_prays : Cond.selects RX8 yX8_prays yX8_prays ∈ T0 := mTs (q := (yX8_prays, 48)) 21 rfl
theorem se_yX8_thanksFor : Cond.selects RX8 yX8_thanksFor yX8_thanksFor ∈ T0 := mTs (q := (yX8_thanksFor, 48)) 22 rfl
theorem se_yX8_isClause : Cond.selects RX8 yX8_isClause yX8_isClause ∈ T0 := mTs (q := (yX8_isClause, 48)) 23 rfl
theorem se_yX8_isAll : Cond.selects RX8 yX8_isAll yX8_isAll ∈ T0 := mTs (q := (yX8_isAll, 48)) 24 rfl
theorem se_yX8_is : Cond.selects RX8 yX8_is yX8_is ∈ T0 := mTs (q := (yX8_is, 48)) 25 rfl
theorem se_yX8_isNumber : Cond.selects RX8 yX8_isNumber yX8_isNumber ∈ T0 := mTs (q := (yX8_isNumber, 48)) 26 rfl
theorem se_yX8_isDigit : Cond.selects RX8 yX8_isDigit yX8_isDigit ∈ T0 := mTs (q := (yX8_isDigit, 48)) 27 rfl
theorem se_yX8_isE : Cond.selects RX8 yX8_isE yX8_isE ∈ T0 := mTs (q := (yX8_isE, 48)) 28 rfl
theorem se_yX8_isT : Cond.selects RX8 yX8_isT yX8_isT ∈ T0 := mTs (q := (yX8_isT, 48)) 29 rfl
theorem se_yX8_isF : Cond.selects RX8 yX8_isF yX8_isF ∈ T0 := mTs (q := (yX8_isF, 48)) 30 rfl
theorem se_yX8_opens : Cond.selects RX8 yX8_opens yX8_opens ∈ T0 := mTs (q := (yX8_opens, 48)) 31 rfl
theorem se_yX8_codes : Cond.selects RX8 yX8_codes yX8_codes ∈ T0 := mTs (q := (yX8_codes, 48)) 32 rfl
theorem se_yX8_isTest : Cond.selects RX8 yX8_isTest yX8_isTest ∈ T0 := mTs (q := (yX8_isTest, 48)) 33 rfl
theorem se_yX8_cold : Cond.selects RX8 yX8_cold yX8_cold ∈ T0 := mTs (q := (yX8_cold, 48)) 34 rfl
theorem se_yX8_lastOf : Cond.selects RX8 yX8_lastOf yX8_lastOf ∈ T0 := mTs (q := (yX8_lastOf, 48)) 35 rfl
theorem se_yX8_pocket : Cond.selects RX8 yX8_pocket yX8_pocket ∈ T0 := mTs (q := (yX8_pocket, 48)) 36 rfl
theorem se_yX8_letting : Cond.selects RX8 yX8_letting yX8_letting ∈ T0 := mTs (q := (yX8_letting, 48)) 37 rfl
theorem se_yX8_prayers : Cond.selects RX8 yX8_prayers yX8_prayers ∈ T0 := mTs (q := (yX8_prayers, 48)) 38 rfl
theorem se_yX8_days : Cond.selects RX8 yX8_days yX8_days ∈ T0 := mTs (q := (yX8_days, 48)) 39 rfl
theorem se_yX8_goesDay : Cond.selects RX8 yX8_goesDay yX8_goesDay ∈ T0 := mTs (q := (yX8_goesDay, 48)) 40 rfl
theorem se_yX8_keep : Cond.selects RX8 yX8_keep yX8_keep ∈ T0 := mTs (q := (yX8_keep, 48)) 41 rfl
theorem se_yX8_again : Cond.selects RX8 yX8_again yX8_again ∈ T0 := mTs (q := (yX8_again, 48)) 42 rfl
theorem se_yX8_isGone : Cond.selects RX8 yX8_isGone yX8_isGone ∈ T0 := mTs (q := (yX8_isGone, 48)) 43 rfl
theorem se_yX8_healthOn : Cond.selects RX8 yX8_healthOn yX8_healthOn ∈ T0 := mTs (q := (yX8_healthOn, 48)) 44 rfl
theorem se_yX8_change : Cond.selects RX8 yX8_change yX8_change ∈ T0 := mTs (q := (yX8_change, 48)) 45 rfl
theorem se_yX8_isGoneWithout : Cond.selects RX8 yX8_isGoneWithout yX8_isGoneWithout ∈ T0 := mTs (q := (yX8_isGoneWithout, 48)) 46 rfl
theorem se_yX8_isSeen : Cond.selects RX8 yX8_isSeen yX8_isSeen ∈ T0 := mTs (q := (yX8_isSeen, 48)) 47 rfl
theorem se_yX8_opens_ : Cond.selects RX8 yX8_opens_ yX8_opens_ ∈ T0 := mTs (q := (yX8_opens_, 48)) 48 rfl
theorem se_yX8_ran : Cond.selects RX8 yX8_ran yX8_ran ∈ T0 := mTs (q := (yX8_ran, 48)) 49 rfl
theorem se_yX8_prays_ : Cond.selects RX8 yX8_prays_ yX8_prays_ ∈ T0 := mTs (q := (yX8_prays_, 48)) 50 rfl
theorem se_yX8_tells : Cond.selects RX8 yX8_tells yX8_tells ∈ T0 := mTs (q := (yX8_tells, 48)) 51 rfl
theorem inX0 : ∀ w ∈ wsX00, w ∈ T0 := by decide +kernel
theorem inX1 : ∀ w ∈ wsX10, w ∈ T0 := by decide +kernel
theorem inX2 : ∀ w ∈ wsX20, w ∈ T0 := by decide +kernel
theorem inX3 : ∀ w ∈ wsX30, w ∈ T0 := by decide +kernel
theorem inX4 : ∀ w ∈ wsX40, w ∈ T0 := by decide +kernel
theorem inX5 : ∀ w ∈ wsX50, w ∈ T0 := by decide +kernel
theorem inX6 : ∀ w ∈ wsX60, w ∈ T0 := by decide +kernel
theorem inX7 : ∀ w ∈ wsX70, w ∈ T0 := by decide +kernel
theorem inX8 : ∀ w ∈ wsX80, w ∈ T0 := by decide +kernel
