/-! writing: the range, how many shifts, how many bytes -/
abbrev kNF (sl sz : Int) : Prop := (sz = 0 ∧ 1 ≤ sl ∧ sl ≤ 24) ∨ (1 ≤ sz ∧ 1 ≤ sl ∧ sl ≤ 8)
def krn (r : Int) : Int := if 128 ≤ r then r else if 64 ≤ r then 2 * r else if 32 ≤ r then 4 * r else if 16 ≤ r then 8 * r else if 8 ≤ r then 16 * r else if 4 ≤ r then 32 * r else if 2 ≤ r then 64 * r else 128 * r
theorem krn_0 {r : Int} (h : 128 ≤ r) : krn r = r := by unfold krn; rw [if_pos h]
theorem krn_dbl {r : Int} (h1 : 1 ≤ r) (h2 : r < 128) : krn (2 * r) = krn r := by unfold krn; repeat' split <;> omega
theorem kdl_z {r : Int} (h : kdl r = 0) : 128 ≤ r := by
  rcases Int.lt_or_le r 128 with q | q
  · exfalso; revert h; unfold kdl; repeat' split <;> omega
  · exact q
def kr1 (p b r : Int) : Int := if b = 0 then 1 + (r - 1) * p / 256 else r - (1 + (r - 1) * p / 256)
theorem kr1_in {p b r : Int} (h1 : 128 ≤ r) (h2 : r ≤ 255) (p1 : 0 ≤ p) (p2 : p ≤ 255) : 1 ≤ kr1 p b r ∧ kr1 p b r ≤ 254 := by
  have := ksp_lt h1 h2 p1 p2
  unfold kr1; split <;> omega
def kput (p : Int) (bt : Nat → Int) : Nat → Int × Int → Int × Int
  | 0, s => s
  | n + 1, s => kput p bt n (krn (kr1 p (bt n) s.1), s.2 + kdl (kr1 p (bt n) s.1))
theorem kdec1 {x : Int32} (h : kB x (-2147483647) 2147483647) : (x - 1).toInt = x.toInt - 1 := by
  have c1 : (1 : Int32).toInt = 1 := by decide
  rw [kI_sub (by rw [c1]; have := h.1; omega) (by rw [c1]; have := h.2; omega), c1]
theorem k0 {x : Int32} (h : x = 0) : x.toInt = 0 := by rw [h]; decide
theorem kn0 {x : Int32} (h : ¬ x = 0) : ¬ x.toInt = 0 := fun q => h (Int32.toInt_inj.mp (by rw [q]; decide))
theorem kc_24 : kB (24 : Int32) 24 24 := ⟨by decide, by decide⟩
theorem kc_32 : kB (32 : Int32) 32 32 := ⟨by decide, by decide⟩
theorem kc_16777215 : kB (16777215 : Int32) 16777215 16777215 := ⟨by decide, by decide⟩
theorem mk_310 : Cond.fieldLink RX1 13 "KeyFrames$BitWriter" "bottom" "I" ∈ kW := kW_mem (by decide +kernel) (by decide +kernel)
theorem mk_311 : Cond.fieldLink RX1 17 "KeyFrames$BitWriter" "range" "I" ∈ kW := kW_mem (by decide +kernel) (by decide +kernel)
theorem mk_312 : Cond.fieldLink RX1 20 "KeyFrames$BitWriter" "shiftsLeft" "I" ∈ kW := kW_mem (by decide +kernel) (by decide +kernel)
theorem mk_313 : Cond.fieldLink RX1 7 "KeyFrames$BitWriter" "octets" "LKeyFrames$Octets;" ∈ kW := kW_mem (by decide +kernel) (by decide +kernel)
theorem mk_314 : Cond.methodLink RX1 37 yX3_append ∈ kW := kW_mem (by decide +kernel) (by decide +kernel)
theorem mk_315 : Cond.instanceMethod yX3_append ∈ kW := kW_mem (by decide +kernel) (by decide +kernel)
theorem mk_316 : Cond.selects RX3 yX3_append yX3_append ∈ kW := kW_mem (by decide +kernel) (by decide +kernel)
theorem mk_317 : Cond.code yX3_append cX3_append 2 none ∈ kW := kW_mem (by decide +kernel) (by decide +kernel)
theorem mk_318 : Cond.constant RX1 41 (16777215) ∈ kW := kW_mem (by decide +kernel) (by decide +kernel)
theorem mk_319 : Cond.methodLink RX1 32 yX3_addOneToLast ∈ kW := kW_mem (by decide +kernel) (by decide +kernel)
theorem mk_320 : Cond.instanceMethod yX3_addOneToLast ∈ kW := kW_mem (by decide +kernel) (by decide +kernel)
theorem mk_321 : Cond.selects RX3 yX3_addOneToLast yX3_addOneToLast ∈ kW := kW_mem (by decide +kernel) (by decide +kernel)
theorem mk_322 : Cond.code yX3_addOneToLast cX3_addOneToLast 2 none ∈ kW := kW_mem (by decide +kernel) (by decide +kernel)
theorem mk_323 : Cond.methodLink RX1 29 yX1_shiftBottom ∈ kW := kW_mem (by decide +kernel) (by decide +kernel)
theorem mk_324 : Cond.instanceMethod yX1_shiftBottom ∈ kW := kW_mem (by decide +kernel) (by decide +kernel)
theorem mk_325 : Cond.selects RX1 yX1_shiftBottom yX1_shiftBottom ∈ kW := kW_mem (by decide +kernel) (by decide +kernel)
theorem mk_326 : Cond.initialized RX1 ∈ kW := kW_mem (by decide +kernel) (by decide +kernel)
theorem mk_327 : Cond.code yX1_shiftBottom cX1_shiftBottom 1 none ∈ kW := kW_mem (by decide +kernel) (by decide +kernel)
theorem mk_328 : Cond.fieldLink RX7 10 "KeyFrames" "octets" "LKeyFrames$Octets;" ∈ kW := kW_mem (by decide +kernel) (by decide +kernel)
theorem mk_329 : Cond.methodLink RX7 50 yX3_size ∈ kW := kW_mem (by decide +kernel) (by decide +kernel)
theorem mk_330 : Cond.methodLink RX7 63 yX3_clear ∈ kW := kW_mem (by decide +kernel) (by decide +kernel)
theorem mk_331 : Cond.instanceMethod yX3_clear ∈ kW := kW_mem (by decide +kernel) (by decide +kernel)
theorem mk_332 : Cond.selects RX3 yX3_clear yX3_clear ∈ kW := kW_mem (by decide +kernel) (by decide +kernel)
theorem mk_333 : Cond.code yX3_clear cX3_clear 1 none ∈ kW := kW_mem (by decide +kernel) (by decide +kernel)
theorem mk_334 : Cond.fieldLink RX7 39 "KeyFrames" "begun" "I" ∈ kW := kW_mem (by decide +kernel) (by decide +kernel)
theorem mk_335 : Cond.fieldLink RX7 21 "KeyFrames" "writer" "LKeyFrames$BitWriter;" ∈ kW := kW_mem (by decide +kernel) (by decide +kernel)
theorem mk_336 : Cond.methodLink RX7 66 yX1_start ∈ kW := kW_mem (by decide +kernel) (by decide +kernel)
theorem mk_337 : Cond.instanceMethod yX1_start ∈ kW := kW_mem (by decide +kernel) (by decide +kernel)
theorem mk_338 : Cond.selects RX1 yX1_start yX1_start ∈ kW := kW_mem (by decide +kernel) (by decide +kernel)
theorem mk_339 : Cond.code yX1_start cX1_start 1 none ∈ kW := kW_mem (by decide +kernel) (by decide +kernel)
theorem mk_340 : Cond.fieldLink RX7 28 "KeyFrames" "reader" "LKeyFrames$BitReader;" ∈ kW := kW_mem (by decide +kernel) (by decide +kernel)
theorem mk_341 : Cond.methodLink RX7 83 yX0_start ∈ kW := kW_mem (by decide +kernel) (by decide +kernel)
theorem mk_342 : Cond.instanceMethod yX0_start ∈ kW := kW_mem (by decide +kernel) (by decide +kernel)
theorem mk_343 : Cond.selects RX0 yX0_start yX0_start ∈ kW := kW_mem (by decide +kernel) (by decide +kernel)
theorem mk_344 : Cond.code yX0_start cX0_start 1 none ∈ kW := kW_mem (by decide +kernel) (by decide +kernel)
theorem mk_345 : Cond.methodLink RX7 135 yX3_at ∈ kW := kW_mem (by decide +kernel) (by decide +kernel)
theorem mk_346 : Cond.fieldLink RX7 35 "KeyFrames" "picture" "LKeyFrames$Picture;" ∈ kW := kW_mem (by decide +kernel) (by decide +kernel)
theorem mk_347 : Cond.methodLink RX7 97 yX4_sampleAt ∈ kW := kW_mem (by decide +kernel) (by decide +kernel)
theorem mk_348 : Cond.instanceMethod yX4_sampleAt ∈ kW := kW_mem (by decide +kernel) (by decide +kernel)
theorem mk_349 : Cond.selects RX4 yX4_sampleAt yX4_sampleAt ∈ kW := kW_mem (by decide +kernel) (by decide +kernel)
theorem mk_350 : Cond.code yX4_sampleAt cX4_sampleAt 4 (some .int) ∈ kW := kW_mem (by decide +kernel) (by decide +kernel)
theorem mk_351 : Cond.methodLink RX7 90 yX4_readFrom ∈ kW := kW_mem (by decide +kernel) (by decide +kernel)
theorem mk_352 : Cond.instanceMethod yX4_readFrom ∈ kW := kW_mem (by decide +kernel) (by decide +kernel)
theorem mk_353 : Cond.selects RX4 yX4_readFrom yX4_readFrom ∈ kW := kW_mem (by decide +kernel) (by decide +kernel)
theorem mk_354 : Cond.code yX4_readFrom cX4_readFrom 5 none ∈ kW := kW_mem (by decide +kernel) (by decide +kernel)
theorem mk_355 : Cond.methodLink RX7 94 yX4_blocks ∈ kW := kW_mem (by decide +kernel) (by decide +kernel)
theorem mk_356 : Cond.fieldLink RX8 50 "KeyFramesModel" "bottom" "J" ∈ kW := kW_mem (by decide +kernel) (by decide +kernel)
theorem mk_357 : Cond.constantLong RX8 62 (4294967295) ∈ kW := kW_mem (by decide +kernel) (by decide +kernel)
theorem mk_358 : Cond.constantLong RX8 64 (2147483648) ∈ kW := kW_mem (by decide +kernel) (by decide +kernel)
theorem mk_359 : Cond.constantLong RX8 69 (2) ∈ kW := kW_mem (by decide +kernel) (by decide +kernel)
theorem mk_360 : Cond.methodLink RX8 71 yX8_append ∈ kW := kW_mem (by decide +kernel) (by decide +kernel)
theorem mk_361 : Cond.instanceMethod yX8_append ∈ kW := kW_mem (by decide +kernel) (by decide +kernel)
theorem mk_362 : Cond.selects RX8 yX8_append yX8_append ∈ kW := kW_mem (by decide +kernel) (by decide +kernel)
theorem mk_363 : Cond.code yX8_append cX8_append 3 none ∈ kW := kW_mem (by decide +kernel) (by decide +kernel)
theorem mk_364 : Cond.constantLong RX8 75 (16777215) ∈ kW := kW_mem (by decide +kernel) (by decide +kernel)
theorem mk_365 : Cond.methodLink RX8 66 yX8_carry ∈ kW := kW_mem (by decide +kernel) (by decide +kernel)
theorem mk_366 : Cond.instanceMethod yX8_carry ∈ kW := kW_mem (by decide +kernel) (by decide +kernel)
theorem mk_367 : Cond.selects RX8 yX8_carry yX8_carry ∈ kW := kW_mem (by decide +kernel) (by decide +kernel)
theorem mk_368 : Cond.code yX8_carry cX8_carry 2 none ∈ kW := kW_mem (by decide +kernel) (by decide +kernel)
