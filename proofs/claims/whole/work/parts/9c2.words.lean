set_option maxRecDepth 20000 in
theorem mwL_150 : ax_CH RL 150 ML_appendByte 3 := ⟨TB_4 51 rfl rfl, TB_1 0 rfl rfl, TB_4 53 rfl rfl, by decide, by decide +kernel, by decide, TB_4 52 rfl rfl⟩
set_option maxRecDepth 20000 in
theorem mwL_180 : ax_CH RL 180 ML_nameByte 4 := ⟨TB_4 129 rfl rfl, TB_1 0 rfl rfl, TB_4 131 rfl rfl, by decide, by decide +kernel, by decide, TB_4 130 rfl rfl⟩
set_option maxRecDepth 20000 in
theorem mwL_188 : ax_CH RL 188 ML_advance 3 := ⟨TB_4 161 rfl rfl, TB_1 0 rfl rfl, TB_4 163 rfl rfl, by decide, by decide +kernel, by decide, TB_4 162 rfl rfl⟩
set_option maxRecDepth 20000 in
theorem mwL_191 : ax_CH RL 191 ML_setPick 3 := ⟨TB_4 173 rfl rfl, TB_1 0 rfl rfl, TB_4 175 rfl rfl, by decide, by decide +kernel, by decide, TB_4 174 rfl rfl⟩
set_option maxRecDepth 20000 in
theorem mwL_194 : ax_CH RL 194 ML_transfer 6 := ⟨TB_4 181 rfl rfl, TB_1 0 rfl rfl, TB_4 183 rfl rfl, by decide, by decide +kernel, by decide, TB_4 182 rfl rfl⟩
set_option maxRecDepth 20000 in
theorem mwL_198 : ax_CH RL 198 ML_transferBlock 5 := ⟨TB_4 202 rfl rfl, TB_1 0 rfl rfl, TB_4 204 rfl rfl, by decide, by decide +kernel, by decide, TB_4 203 rfl rfl⟩
set_option maxRecDepth 20000 in
theorem mwL_202 : ax_CH RL 202 ML_reverse 3 := ⟨TB_4 222 rfl rfl, TB_1 0 rfl rfl, TB_4 224 rfl rfl, by decide, by decide +kernel, by decide, TB_4 223 rfl rfl⟩
set_option maxRecDepth 20000 in
theorem mwL_205 : ax_CH RL 205 ML_reserve 6 := ⟨TB_4 235 rfl rfl, TB_1 0 rfl rfl, TB_4 237 rfl rfl, by decide, by decide +kernel, by decide, TB_4 236 rfl rfl⟩
set_option maxRecDepth 20000 in
theorem mwL_208 : ax_CH RL 208 ML_commit 4 := ⟨TB_5 3 rfl rfl, TB_1 0 rfl rfl, TB_5 5 rfl rfl, by decide, by decide +kernel, by decide, TB_5 4 rfl rfl⟩
set_option maxRecDepth 20000 in
theorem mwL_211 : ax_CH RL 211 ML_release 3 := ⟨TB_5 22 rfl rfl, TB_1 0 rfl rfl, TB_5 24 rfl rfl, by decide, by decide +kernel, by decide, TB_5 23 rfl rfl⟩
set_option maxRecDepth 20000 in
theorem mwL_214 : ax_CH RL 214 ML_extend 4 := ⟨TB_5 37 rfl rfl, TB_1 0 rfl rfl, TB_5 39 rfl rfl, by decide, by decide +kernel, by decide, TB_5 38 rfl rfl⟩
set_option maxRecDepth 20000 in
theorem mwL_221 : ax_CH RL 221 ML_balance 3 := ⟨TB_5 48 rfl rfl, TB_1 0 rfl rfl, TB_5 50 rfl rfl, by decide, by decide +kernel, by decide, TB_5 49 rfl rfl⟩
set_option maxRecDepth 20000 in
theorem mwL_224 : ax_CH RL 224 ML_booked 3 := ⟨TB_5 56 rfl rfl, TB_1 0 rfl rfl, TB_5 58 rfl rfl, by decide, by decide +kernel, by decide, TB_5 57 rfl rfl⟩
set_option maxRecDepth 20000 in
theorem mwL_227 : ax_CH RL 227 ML_available 3 := ⟨TB_5 64 rfl rfl, TB_1 0 rfl rfl, TB_5 66 rfl rfl, by decide, by decide +kernel, by decide, TB_5 65 rfl rfl⟩
set_option maxRecDepth 20000 in
theorem mwL_230 : ax_CH RL 230 ML_room 3 := ⟨TB_5 72 rfl rfl, TB_1 0 rfl rfl, TB_5 74 rfl rfl, by decide, by decide +kernel, by decide, TB_5 73 rfl rfl⟩
set_option maxRecDepth 20000 in
theorem mwL_233 : ax_CH RL 233 ML_largestTransfer 4 := ⟨TB_5 80 rfl rfl, TB_1 0 rfl rfl, TB_5 82 rfl rfl, by decide, by decide +kernel, by decide, TB_5 81 rfl rfl⟩
set_option maxRecDepth 20000 in
theorem mwL_236 : ax_CH RL 236 ML_poolOf 3 := ⟨TB_5 91 rfl rfl, TB_1 0 rfl rfl, TB_5 93 rfl rfl, by decide, by decide +kernel, by decide, TB_5 92 rfl rfl⟩
set_option maxRecDepth 20000 in
theorem mwL_239 : ax_CH RL 239 ML_since 3 := ⟨TB_5 98 rfl rfl, TB_1 0 rfl rfl, TB_5 100 rfl rfl, by decide, by decide +kernel, by decide, TB_5 99 rfl rfl⟩
set_option maxRecDepth 20000 in
theorem mwL_242 : ax_CH RL 242 ML_blockAt 4 := ⟨TB_5 105 rfl rfl, TB_1 0 rfl rfl, TB_5 107 rfl rfl, by decide, by decide +kernel, by decide, TB_5 106 rfl rfl⟩
set_option maxRecDepth 20000 in
theorem mwL_245 : ax_CH RL 245 ML_wouldPick 5 := ⟨TB_5 116 rfl rfl, TB_1 0 rfl rfl, TB_5 118 rfl rfl, by decide, by decide +kernel, by decide, TB_5 117 rfl rfl⟩
set_option maxRecDepth 20000 in
theorem mwL_248 : ax_CH RL 248 ML_runCount 3 := ⟨TB_5 128 rfl rfl, TB_1 0 rfl rfl, TB_5 130 rfl rfl, by decide, by decide +kernel, by decide, TB_5 129 rfl rfl⟩
set_option maxRecDepth 20000 in
theorem mwL_251 : ax_CH RL 251 ML_longestRun 3 := ⟨TB_5 139 rfl rfl, TB_1 0 rfl rfl, TB_5 141 rfl rfl, by decide, by decide +kernel, by decide, TB_5 140 rfl rfl⟩
set_option maxRecDepth 20000 in
theorem mwL_254 : ax_CH RL 254 ML_fragmentation 3 := ⟨TB_5 151 rfl rfl, TB_1 0 rfl rfl, TB_5 153 rfl rfl, by decide, by decide +kernel, by decide, TB_5 152 rfl rfl⟩
set_option maxRecDepth 20000 in
theorem mwL_258 : ax_CH RL 258 ML_swap 4 := ⟨TB_5 158 rfl rfl, TB_1 0 rfl rfl, TB_5 160 rfl rfl, by decide, by decide +kernel, by decide, TB_5 159 rfl rfl⟩
set_option maxRecDepth 20000 in
theorem mwL_261 : ax_CH RL 261 ML_bestSwap 3 := ⟨TB_5 170 rfl rfl, TB_1 0 rfl rfl, TB_5 172 rfl rfl, by decide, by decide +kernel, by decide, TB_5 171 rfl rfl⟩
set_option maxRecDepth 20000 in
theorem mwL_268 : ax_CH RL 268 ML_entryValue 4 := ⟨TB_5 186 rfl rfl, TB_1 0 rfl rfl, TB_5 188 rfl rfl, by decide, by decide +kernel, by decide, TB_5 187 rfl rfl⟩
set_option maxRecDepth 20000 in
theorem mwL_271 : ax_CH RL 271 ML_entryBlock 4 := ⟨TB_5 195 rfl rfl, TB_1 0 rfl rfl, TB_5 197 rfl rfl, by decide, by decide +kernel, by decide, TB_5 196 rfl rfl⟩
set_option maxRecDepth 20000 in
theorem mwL_274 : ax_CH RL 274 ML_bookedAt 4 := ⟨TB_5 203 rfl rfl, TB_1 0 rfl rfl, TB_5 205 rfl rfl, by decide, by decide +kernel, by decide, TB_5 204 rfl rfl⟩
set_option maxRecDepth 20000 in
theorem mwL_277 : ax_CH RL 277 ML_peak 5 := ⟨TB_5 216 rfl rfl, TB_1 0 rfl rfl, TB_5 218 rfl rfl, by decide, by decide +kernel, by decide, TB_5 217 rfl rfl⟩
set_option maxRecDepth 20000 in
theorem mwL_280 : ax_CH RL 280 ML_flow 6 := ⟨TB_5 232 rfl rfl, TB_1 0 rfl rfl, TB_5 234 rfl rfl, by decide, by decide +kernel, by decide, TB_5 233 rfl rfl⟩
set_option maxRecDepth 20000 in
theorem mwL_283 : ax_CH RL 283 ML_reasonTotal 5 := ⟨TB_6 7 rfl rfl, TB_1 0 rfl rfl, TB_6 9 rfl rfl, by decide, by decide +kernel, by decide, TB_6 8 rfl rfl⟩
set_option maxRecDepth 20000 in
theorem mwL_286 : ax_CH RL 286 ML_busiest 4 := ⟨TB_6 22 rfl rfl, TB_1 0 rfl rfl, TB_6 24 rfl rfl, by decide, by decide +kernel, by decide, TB_6 23 rfl rfl⟩
set_option maxRecDepth 20000 in
theorem mwL_293 : ax_CH RL 293 ML_reservationValue 4 := ⟨TB_6 37 rfl rfl, TB_1 0 rfl rfl, TB_6 39 rfl rfl, by decide, by decide +kernel, by decide, TB_6 38 rfl rfl⟩
set_option maxRecDepth 20000 in
theorem mwL_296 : ax_CH RL 296 ML_reservedFrom 3 := ⟨TB_6 45 rfl rfl, TB_1 0 rfl rfl, TB_6 47 rfl rfl, by decide, by decide +kernel, by decide, TB_6 46 rfl rfl⟩
set_option maxRecDepth 20000 in
theorem mwL_303 : ax_CH RL 303 ML_whenAvailable 4 := ⟨TB_6 53 rfl rfl, TB_1 0 rfl rfl, TB_6 55 rfl rfl, by decide, by decide +kernel, by decide, TB_6 54 rfl rfl⟩
set_option maxRecDepth 20000 in
theorem mwL_306 : ax_CH RL 306 ML_rent 3 := ⟨TB_6 72 rfl rfl, TB_1 0 rfl rfl, TB_6 74 rfl rfl, by decide, by decide +kernel, by decide, TB_6 73 rfl rfl⟩
set_option maxRecDepth 20000 in
theorem mwL_314 : ax_CH RL 314 ML_rentAhead 4 := ⟨TB_6 79 rfl rfl, TB_1 0 rfl rfl, TB_6 81 rfl rfl, by decide, by decide +kernel, by decide, TB_6 80 rfl rfl⟩
set_option maxRecDepth 20000 in
theorem mwL_318 : ax_CH RL 318 ML_corrupt 4 := ⟨TB_6 87 rfl rfl, TB_1 0 rfl rfl, TB_6 89 rfl rfl, by decide, by decide +kernel, by decide, TB_6 88 rfl rfl⟩
set_option maxRecDepth 20000 in
theorem mwL_333 : ax_CH RL 333 ML_auditSet 4 := ⟨TB_6 95 rfl rfl, TB_1 0 rfl rfl, TB_6 97 rfl rfl, by decide, by decide +kernel, by decide, TB_6 96 rfl rfl⟩
set_option maxRecDepth 20000 in
theorem mwL_336 : ax_CH RL 336 ML_auditOf 5 := ⟨TB_6 123 rfl rfl, TB_1 0 rfl rfl, TB_6 125 rfl rfl, by decide, by decide +kernel, by decide, TB_6 124 rfl rfl⟩
set_option maxRecDepth 20000 in
theorem mwL_339 : ax_CH RL 339 ML_saveSnapshot 3 := ⟨TB_6 131 rfl rfl, TB_1 0 rfl rfl, TB_6 133 rfl rfl, by decide, by decide +kernel, by decide, TB_6 132 rfl rfl⟩
set_option maxRecDepth 20000 in
theorem mwL_342 : ax_CH RL 342 ML_restoreSnapshot 3 := ⟨TB_6 142 rfl rfl, TB_1 0 rfl rfl, TB_6 144 rfl rfl, by decide, by decide +kernel, by decide, TB_6 143 rfl rfl⟩
