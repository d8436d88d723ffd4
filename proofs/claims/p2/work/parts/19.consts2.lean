/-! for the reference -/
theorem kspM_toInt {rg p : Int32} (h : kB rg 128 255) (hp : kB p 0 255) : (1 + ((rg - 1) * p) / 256).toInt = 1 + (rg.toInt - 1) * p.toInt / 256 := by
  obtain ⟨h1, h2⟩ := h; obtain ⟨p1, p2⟩ := hp
  have c1 : (1 : Int32).toInt = 1 := by decide
  have c2 : (256 : Int32).toInt = 256 := by decide
  have e1 : (rg - 1).toInt = rg.toInt - 1 := by rw [kI_sub (by rw [c1]; omega) (by rw [c1]; omega), c1]
  have m1 : 0 ≤ (rg.toInt - 1) * p.toInt := Int.mul_nonneg (by omega) p1
  have m2 : (rg.toInt - 1) * p.toInt ≤ 254 * 255 := Int.mul_le_mul (by omega) p2 p1 (by omega)
  have e2 : ((rg - 1) * p).toInt = (rg.toInt - 1) * p.toInt := by rw [kI_mul (by rw [e1]; omega) (by rw [e1]; omega), e1]
  have e3 : (((rg - 1) * p) / 256).toInt = (rg.toInt - 1) * p.toInt / 256 := by rw [lg_idiv_nonneg (by rw [e2]; exact m1) (by rw [c2]; decide), e2, c2]
  rw [kI_add (by rw [c1, e3]; omega) (by rw [c1, e3]; omega), c1, e3]
/-- how many doublings are left -/
def kdl (r : Int) : Int := if 128 ≤ r then 0 else if 64 ≤ r then 1 else if 32 ≤ r then 2 else if 16 ≤ r then 3 else if 8 ≤ r then 4 else if 4 ≤ r then 5 else if 2 ≤ r then 6 else 7
theorem kdl_le (r : Int) : 0 ≤ kdl r ∧ kdl r ≤ 7 := by unfold kdl; repeat' split <;> omega
theorem kdl_0 {r : Int} (h : 128 ≤ r) : kdl r = 0 := by unfold kdl; rw [if_pos h]
theorem kdl_dbl {r : Int} (h1 : 1 ≤ r) (h2 : r < 128) : kdl (2 * r) + 1 = kdl r := by unfold kdl; repeat' split <;> omega
theorem kdbl2 {x : Int32} (h : kB x 0 1000000000) : ((2 : Int32) * x).toInt = 2 * x.toInt := by
  have c1 : (2 : Int32).toInt = 2 := by decide
  rw [kI_mul (by rw [c1]; omega) (by rw [c1]; omega), c1]
theorem kl255 {x : Int64} : kB (x &&& 255).toInt32 0 255 := by
  have h : (x &&& 255).toInt32 = x.toInt32 &&& 255 := by
    apply Int32.toBitVec_inj.mp
    simp [Int64.toBitVec_and, Int32.toBitVec_and]
  rw [h]
  exact kB_and 8 (by decide) (by decide)
theorem kdivc {b c v : Int32} {R : Int} (hb : kB b 0 15) (hc : kB c 1 4) (h : b.toInt < c.toInt * R) (hR : R ≤ 4) (ev : v = b / c) : kB v 0 3 := by
  obtain ⟨b1, b2⟩ := hb; obtain ⟨c1, c2⟩ := hc
  have e : v.toInt = b.toInt / c.toInt := by rw [ev, lg_idiv_nonneg (by omega) (by omega)]
  have m1 : 0 ≤ b.toInt / c.toInt := Int.ediv_nonneg (by omega) (by omega)
  have m2 : b.toInt / c.toInt < R := Int.ediv_lt_of_lt_mul (by omega) (by rw [Int.mul_comm]; exact h)
  exact ⟨by omega, by omega⟩
theorem kremp {b c v : Int32} (hb : kB b 0 15) (hc : kB c 1 4) (ev : v = b - b / c * c) (h : 0 < v) : kB b 1 15 := by
  refine ⟨?_, hb.2⟩
  rcases Int.lt_or_le 0 b.toInt with q | q
  · omega
  · have e0 : b.toInt = 0 := by have := hb.1; omega
    have h2 := Int32.lt_iff_toInt_lt.mp h
    rw [ev, rem_toInt, e0, show (0 : Int32).toInt = 0 from by decide, Int.zero_tmod] at h2
    omega
theorem kmulI {a b : Int32} (ha : kB a 0 4) (hb : kB b 0 4) : (a * b).toInt = a.toInt * b.toInt := by
  have m1 : 0 ≤ a.toInt * b.toInt := Int.mul_nonneg ha.1 hb.1
  have m2 : a.toInt * b.toInt ≤ 4 * 4 := Int.mul_le_mul ha.2 hb.2 hb.1 (by decide)
  exact kI_mul (by omega) (by omega)
theorem kc_12 : kB (12 : Int32) 12 12 := ⟨by decide, by decide⟩
theorem kc_13 : kB (13 : Int32) 13 13 := ⟨by decide, by decide⟩
theorem kc_14 : kB (14 : Int32) 14 14 := ⟨by decide, by decide⟩
theorem kc_15 : kB (15 : Int32) 15 15 := ⟨by decide, by decide⟩
theorem kc_19 : kB (19 : Int32) 19 19 := ⟨by decide, by decide⟩
theorem kc_35 : kB (35 : Int32) 35 35 := ⟨by decide, by decide⟩
theorem kc_67 : kB (67 : Int32) 67 67 := ⟨by decide, by decide⟩
theorem kc_130 : kB (130 : Int32) 130 130 := ⟨by decide, by decide⟩
theorem kc_133 : kB (133 : Int32) 133 133 := ⟨by decide, by decide⟩
theorem kc_153 : kB (153 : Int32) 153 153 := ⟨by decide, by decide⟩
theorem kc_177 : kB (177 : Int32) 177 177 := ⟨by decide, by decide⟩
theorem kc_196 : kB (196 : Int32) 196 196 := ⟨by decide, by decide⟩
theorem kc_230 : kB (230 : Int32) 230 230 := ⟨by decide, by decide⟩
theorem kc_243 : kB (243 : Int32) 243 243 := ⟨by decide, by decide⟩
theorem kc_254 : kB (254 : Int32) 254 254 := ⟨by decide, by decide⟩
theorem mk_183 : Cond.fieldLink RX8 32 "KeyFramesModel" "refusal" "I" ∈ kW := kW_mem (by decide +kernel) (by decide +kernel)
theorem mk_184 : Cond.fieldLink RX8 40 "KeyFramesModel" "size" "I" ∈ kW := kW_mem (by decide +kernel) (by decide +kernel)
theorem mk_185 : Cond.fieldLink RX8 7 "KeyFramesModel" "bytes" "[I" ∈ kW := kW_mem (by decide +kernel) (by decide +kernel)
theorem mk_186 : Cond.methodLink RX8 81 yX8_byteAt ∈ kW := kW_mem (by decide +kernel) (by decide +kernel)
theorem mk_187 : Cond.instanceMethod yX8_byteAt ∈ kW := kW_mem (by decide +kernel) (by decide +kernel)
theorem mk_188 : Cond.selects RX8 yX8_byteAt yX8_byteAt ∈ kW := kW_mem (by decide +kernel) (by decide +kernel)
theorem mk_189 : Cond.initialized RX8 ∈ kW := kW_mem (by decide +kernel) (by decide +kernel)
theorem mk_190 : Cond.code yX8_byteAt cX8_byteAt 2 (some .int) ∈ kW := kW_mem (by decide +kernel) (by decide +kernel)
theorem mk_191 : Cond.fieldLink RX8 85 "KeyFramesModel" "value" "I" ∈ kW := kW_mem (by decide +kernel) (by decide +kernel)
theorem mk_192 : Cond.fieldLink RX8 88 "KeyFramesModel" "place" "I" ∈ kW := kW_mem (by decide +kernel) (by decide +kernel)
theorem mk_193 : Cond.fieldLink RX8 54 "KeyFramesModel" "range" "I" ∈ kW := kW_mem (by decide +kernel) (by decide +kernel)
theorem mk_194 : Cond.fieldLink RX8 57 "KeyFramesModel" "count" "I" ∈ kW := kW_mem (by decide +kernel) (by decide +kernel)
theorem mk_195 : Cond.fieldLink RX8 47 "KeyFramesModel" "begun" "I" ∈ kW := kW_mem (by decide +kernel) (by decide +kernel)
theorem mk_196 : Cond.methodLink RX8 91 yX8_open ∈ kW := kW_mem (by decide +kernel) (by decide +kernel)
theorem mk_197 : Cond.instanceMethod yX8_open ∈ kW := kW_mem (by decide +kernel) (by decide +kernel)
theorem mk_198 : Cond.selects RX8 yX8_open yX8_open ∈ kW := kW_mem (by decide +kernel) (by decide +kernel)
theorem mk_199 : Cond.code yX8_open cX8_open 1 none ∈ kW := kW_mem (by decide +kernel) (by decide +kernel)
theorem mk_200 : Cond.methodLink RX8 94 yX8_readBit ∈ kW := kW_mem (by decide +kernel) (by decide +kernel)
theorem mk_201 : Cond.instanceMethod yX8_readBit ∈ kW := kW_mem (by decide +kernel) (by decide +kernel)
theorem mk_202 : Cond.selects RX8 yX8_readBit yX8_readBit ∈ kW := kW_mem (by decide +kernel) (by decide +kernel)
theorem mk_203 : Cond.code yX8_readBit cX8_readBit 4 (some .int) ∈ kW := kW_mem (by decide +kernel) (by decide +kernel)
theorem mk_204 : Cond.fieldLink RX8 13 "KeyFramesModel" "probability" "[I" ∈ kW := kW_mem (by decide +kernel) (by decide +kernel)
theorem mk_205 : Cond.constantLong RX8 60 (255) ∈ kW := kW_mem (by decide +kernel) (by decide +kernel)
theorem mk_206 : Cond.methodLink RX8 101 yX8_tell ∈ kW := kW_mem (by decide +kernel) (by decide +kernel)
theorem mk_207 : Cond.instanceMethod yX8_tell ∈ kW := kW_mem (by decide +kernel) (by decide +kernel)
theorem mk_208 : Cond.selects RX8 yX8_tell yX8_tell ∈ kW := kW_mem (by decide +kernel) (by decide +kernel)
theorem mk_209 : Cond.code yX8_tell cX8_tell 3 (some .int) ∈ kW := kW_mem (by decide +kernel) (by decide +kernel)
theorem mk_210 : Cond.constantLong RX8 116 (775737411202) ∈ kW := kW_mem (by decide +kernel) (by decide +kernel)
theorem mk_211 : Cond.methodLink RX8 106 yX8_added ∈ kW := kW_mem (by decide +kernel) (by decide +kernel)
theorem mk_212 : Cond.instanceMethod yX8_added ∈ kW := kW_mem (by decide +kernel) (by decide +kernel)
theorem mk_213 : Cond.selects RX8 yX8_added yX8_added ∈ kW := kW_mem (by decide +kernel) (by decide +kernel)
theorem mk_214 : Cond.code yX8_added cX8_added 7 (some .int) ∈ kW := kW_mem (by decide +kernel) (by decide +kernel)
theorem mk_215 : Cond.constantLong RX8 114 (2962984071) ∈ kW := kW_mem (by decide +kernel) (by decide +kernel)
theorem mk_216 : Cond.constantLong RX8 112 (11375756) ∈ kW := kW_mem (by decide +kernel) (by decide +kernel)
theorem mk_217 : Cond.constantLong RX8 110 (42385) ∈ kW := kW_mem (by decide +kernel) (by decide +kernel)
theorem mk_218 : Cond.constantLong RX8 104 (159) ∈ kW := kW_mem (by decide +kernel) (by decide +kernel)
theorem mk_219 : Cond.methodLink RX8 118 yX8_last ∈ kW := kW_mem (by decide +kernel) (by decide +kernel)
theorem mk_220 : Cond.static yX8_last ∈ kW := kW_mem (by decide +kernel) (by decide +kernel)
theorem mk_221 : Cond.code yX8_last cX8_last 1 (some .int) ∈ kW := kW_mem (by decide +kernel) (by decide +kernel)
theorem mk_222 : Cond.methodLink RX8 121 yX8_large ∈ kW := kW_mem (by decide +kernel) (by decide +kernel)
theorem mk_223 : Cond.instanceMethod yX8_large ∈ kW := kW_mem (by decide +kernel) (by decide +kernel)
theorem mk_224 : Cond.selects RX8 yX8_large yX8_large ∈ kW := kW_mem (by decide +kernel) (by decide +kernel)
theorem mk_225 : Cond.code yX8_large cX8_large 4 (some .int) ∈ kW := kW_mem (by decide +kernel) (by decide +kernel)
theorem mk_226 : Cond.fieldLink RX8 22 "KeyFramesModel" "coefficient" "[I" ∈ kW := kW_mem (by decide +kernel) (by decide +kernel)
theorem mk_227 : Cond.fieldLink RX8 124 "KeyFramesModel" "columns" "I" ∈ kW := kW_mem (by decide +kernel) (by decide +kernel)
theorem mk_228 : Cond.methodLink RX8 127 yX8_hasSome ∈ kW := kW_mem (by decide +kernel) (by decide +kernel)
theorem mk_229 : Cond.instanceMethod yX8_hasSome ∈ kW := kW_mem (by decide +kernel) (by decide +kernel)
theorem mk_230 : Cond.selects RX8 yX8_hasSome yX8_hasSome ∈ kW := kW_mem (by decide +kernel) (by decide +kernel)
theorem mk_231 : Cond.code yX8_hasSome cX8_hasSome 3 (some .boolean) ∈ kW := kW_mem (by decide +kernel) (by decide +kernel)
theorem mk_232 : Cond.fieldLink RX8 19 "KeyFramesModel" "many" "[I" ∈ kW := kW_mem (by decide +kernel) (by decide +kernel)
theorem mk_233 : Cond.methodLink RX8 130 yX8_band ∈ kW := kW_mem (by decide +kernel) (by decide +kernel)
theorem mk_234 : Cond.static yX8_band ∈ kW := kW_mem (by decide +kernel) (by decide +kernel)
theorem mk_235 : Cond.code yX8_band cX8_band 1 (some .int) ∈ kW := kW_mem (by decide +kernel) (by decide +kernel)
theorem mk_236 : Cond.methodLink RX8 133 yX8_sizeOf ∈ kW := kW_mem (by decide +kernel) (by decide +kernel)
theorem mk_237 : Cond.instanceMethod yX8_sizeOf ∈ kW := kW_mem (by decide +kernel) (by decide +kernel)
theorem mk_238 : Cond.selects RX8 yX8_sizeOf yX8_sizeOf ∈ kW := kW_mem (by decide +kernel) (by decide +kernel)
theorem mk_239 : Cond.code yX8_sizeOf cX8_sizeOf 2 (some .int) ∈ kW := kW_mem (by decide +kernel) (by decide +kernel)
theorem mk_240 : Cond.constantLong RX8 136 (20091) ∈ kW := kW_mem (by decide +kernel) (by decide +kernel)
theorem mk_241 : Cond.constantLong RX8 138 (35468) ∈ kW := kW_mem (by decide +kernel) (by decide +kernel)
theorem mk_242 : Cond.fieldLink RX8 28 "KeyFramesModel" "row" "[J" ∈ kW := kW_mem (by decide +kernel) (by decide +kernel)
theorem mk_243 : Cond.methodLink RX8 140 yX8_half ∈ kW := kW_mem (by decide +kernel) (by decide +kernel)
theorem mk_244 : Cond.static yX8_half ∈ kW := kW_mem (by decide +kernel) (by decide +kernel)
theorem mk_245 : Cond.code yX8_half cX8_half 2 (some .long) ∈ kW := kW_mem (by decide +kernel) (by decide +kernel)
theorem mk_246 : Cond.methodLink RX8 144 yX8_whole ∈ kW := kW_mem (by decide +kernel) (by decide +kernel)
theorem mk_247 : Cond.static yX8_whole ∈ kW := kW_mem (by decide +kernel) (by decide +kernel)
theorem mk_248 : Cond.code yX8_whole cX8_whole 2 (some .long) ∈ kW := kW_mem (by decide +kernel) (by decide +kernel)
theorem mk_249 : Cond.constantLong RX8 156 (4) ∈ kW := kW_mem (by decide +kernel) (by decide +kernel)
theorem mk_250 : Cond.methodLink RX8 153 yX8_turn ∈ kW := kW_mem (by decide +kernel) (by decide +kernel)
theorem mk_251 : Cond.instanceMethod yX8_turn ∈ kW := kW_mem (by decide +kernel) (by decide +kernel)
theorem mk_252 : Cond.selects RX8 yX8_turn yX8_turn ∈ kW := kW_mem (by decide +kernel) (by decide +kernel)
theorem mk_253 : Cond.code yX8_turn cX8_turn 19 none ∈ kW := kW_mem (by decide +kernel) (by decide +kernel)
theorem mk_254 : Cond.fieldLink RX8 147 "KeyFramesModel" "quantum" "I" ∈ kW := kW_mem (by decide +kernel) (by decide +kernel)
theorem mk_255 : Cond.methodLink RX8 150 yX8_spot ∈ kW := kW_mem (by decide +kernel) (by decide +kernel)
theorem mk_256 : Cond.static yX8_spot ∈ kW := kW_mem (by decide +kernel) (by decide +kernel)
theorem mk_257 : Cond.code yX8_spot cX8_spot 1 (some .int) ∈ kW := kW_mem (by decide +kernel) (by decide +kernel)
theorem mk_258 : Cond.fieldLink RX8 25 "KeyFramesModel" "sample" "[I" ∈ kW := kW_mem (by decide +kernel) (by decide +kernel)
theorem mk_259 : Cond.methodLink RX8 158 yX8_at ∈ kW := kW_mem (by decide +kernel) (by decide +kernel)
theorem mk_260 : Cond.instanceMethod yX8_at ∈ kW := kW_mem (by decide +kernel) (by decide +kernel)
theorem mk_261 : Cond.selects RX8 yX8_at yX8_at ∈ kW := kW_mem (by decide +kernel) (by decide +kernel)
theorem mk_262 : Cond.code yX8_at cX8_at 3 (some .int) ∈ kW := kW_mem (by decide +kernel) (by decide +kernel)
theorem mk_263 : Cond.methodLink RX8 161 yX8_byteOf ∈ kW := kW_mem (by decide +kernel) (by decide +kernel)
theorem mk_264 : Cond.static yX8_byteOf ∈ kW := kW_mem (by decide +kernel) (by decide +kernel)
theorem mk_265 : Cond.code yX8_byteOf cX8_byteOf 2 (some .int) ∈ kW := kW_mem (by decide +kernel) (by decide +kernel)
theorem mk_266 : Cond.methodLink RX8 165 yX8_transform ∈ kW := kW_mem (by decide +kernel) (by decide +kernel)
theorem mk_267 : Cond.instanceMethod yX8_transform ∈ kW := kW_mem (by decide +kernel) (by decide +kernel)
theorem mk_268 : Cond.selects RX8 yX8_transform yX8_transform ∈ kW := kW_mem (by decide +kernel) (by decide +kernel)
theorem mk_269 : Cond.code yX8_transform cX8_transform 5 none ∈ kW := kW_mem (by decide +kernel) (by decide +kernel)
theorem mk_270 : Cond.fieldLink RX8 16 "KeyFramesModel" "way" "[I" ∈ kW := kW_mem (by decide +kernel) (by decide +kernel)
theorem mk_271 : Cond.methodLink RX8 169 yX8_guess ∈ kW := kW_mem (by decide +kernel) (by decide +kernel)
theorem mk_272 : Cond.instanceMethod yX8_guess ∈ kW := kW_mem (by decide +kernel) (by decide +kernel)
theorem mk_273 : Cond.selects RX8 yX8_guess yX8_guess ∈ kW := kW_mem (by decide +kernel) (by decide +kernel)
theorem mk_274 : Cond.code yX8_guess cX8_guess 10 (some .int) ∈ kW := kW_mem (by decide +kernel) (by decide +kernel)
theorem mk_275 : Cond.methodLink RX8 173 yX8_apart ∈ kW := kW_mem (by decide +kernel) (by decide +kernel)
theorem mk_276 : Cond.static yX8_apart ∈ kW := kW_mem (by decide +kernel) (by decide +kernel)
theorem mk_277 : Cond.code yX8_apart cX8_apart 2 (some .int) ∈ kW := kW_mem (by decide +kernel) (by decide +kernel)
theorem mk_278 : Cond.fieldLink RX8 176 "KeyFramesModel" "level" "I" ∈ kW := kW_mem (by decide +kernel) (by decide +kernel)
theorem mk_279 : Cond.methodLink RX8 179 yX8_limit ∈ kW := kW_mem (by decide +kernel) (by decide +kernel)
theorem mk_280 : Cond.static yX8_limit ∈ kW := kW_mem (by decide +kernel) (by decide +kernel)
theorem mk_281 : Cond.code yX8_limit cX8_limit 1 (some .int) ∈ kW := kW_mem (by decide +kernel) (by decide +kernel)
theorem mk_282 : Cond.fieldLink RX8 182 "KeyFramesModel" "changed" "I" ∈ kW := kW_mem (by decide +kernel) (by decide +kernel)
theorem mk_283 : Cond.methodLink RX8 188 yX8_smooth ∈ kW := kW_mem (by decide +kernel) (by decide +kernel)
theorem mk_284 : Cond.instanceMethod yX8_smooth ∈ kW := kW_mem (by decide +kernel) (by decide +kernel)
theorem mk_285 : Cond.selects RX8 yX8_smooth yX8_smooth ∈ kW := kW_mem (by decide +kernel) (by decide +kernel)
theorem mk_286 : Cond.code yX8_smooth cX8_smooth 10 none ∈ kW := kW_mem (by decide +kernel) (by decide +kernel)
theorem mk_287 : Cond.fieldLink RX8 185 "KeyFramesModel" "rows" "I" ∈ kW := kW_mem (by decide +kernel) (by decide +kernel)
theorem mk_288 : Cond.methodLink RX8 97 yX8_readMany ∈ kW := kW_mem (by decide +kernel) (by decide +kernel)
theorem mk_289 : Cond.instanceMethod yX8_readMany ∈ kW := kW_mem (by decide +kernel) (by decide +kernel)
theorem mk_290 : Cond.selects RX8 yX8_readMany yX8_readMany ∈ kW := kW_mem (by decide +kernel) (by decide +kernel)
theorem mk_291 : Cond.code yX8_readMany cX8_readMany 5 (some .int) ∈ kW := kW_mem (by decide +kernel) (by decide +kernel)
theorem mk_292 : Cond.fieldLink RX8 191 "KeyFramesModel" "told" "I" ∈ kW := kW_mem (by decide +kernel) (by decide +kernel)
theorem mk_293 : Cond.fieldLink RX8 207 "KeyFramesModel" "beyond" "I" ∈ kW := kW_mem (by decide +kernel) (by decide +kernel)
theorem mk_294 : Cond.methodLink RX8 204 yX8_filter ∈ kW := kW_mem (by decide +kernel) (by decide +kernel)
theorem mk_295 : Cond.instanceMethod yX8_filter ∈ kW := kW_mem (by decide +kernel) (by decide +kernel)
theorem mk_296 : Cond.selects RX8 yX8_filter yX8_filter ∈ kW := kW_mem (by decide +kernel) (by decide +kernel)
theorem mk_297 : Cond.code yX8_filter cX8_filter 5 none ∈ kW := kW_mem (by decide +kernel) (by decide +kernel)
theorem mk_298 : Cond.methodLink RX8 194 yX8_readWay ∈ kW := kW_mem (by decide +kernel) (by decide +kernel)
theorem mk_299 : Cond.instanceMethod yX8_readWay ∈ kW := kW_mem (by decide +kernel) (by decide +kernel)
theorem mk_300 : Cond.selects RX8 yX8_readWay yX8_readWay ∈ kW := kW_mem (by decide +kernel) (by decide +kernel)
theorem mk_301 : Cond.code yX8_readWay cX8_readWay 1 (some .int) ∈ kW := kW_mem (by decide +kernel) (by decide +kernel)
theorem mk_302 : Cond.methodLink RX8 198 yX8_readCoefficients ∈ kW := kW_mem (by decide +kernel) (by decide +kernel)
theorem mk_303 : Cond.instanceMethod yX8_readCoefficients ∈ kW := kW_mem (by decide +kernel) (by decide +kernel)
theorem mk_304 : Cond.selects RX8 yX8_readCoefficients yX8_readCoefficients ∈ kW := kW_mem (by decide +kernel) (by decide +kernel)
theorem mk_305 : Cond.code yX8_readCoefficients cX8_readCoefficients 8 none ∈ kW := kW_mem (by decide +kernel) (by decide +kernel)
theorem mk_306 : Cond.methodLink RX8 201 yX8_build ∈ kW := kW_mem (by decide +kernel) (by decide +kernel)
theorem mk_307 : Cond.instanceMethod yX8_build ∈ kW := kW_mem (by decide +kernel) (by decide +kernel)
theorem mk_308 : Cond.selects RX8 yX8_build yX8_build ∈ kW := kW_mem (by decide +kernel) (by decide +kernel)
theorem mk_309 : Cond.code yX8_build cX8_build 6 none ∈ kW := kW_mem (by decide +kernel) (by decide +kernel)
