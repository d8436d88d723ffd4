theorem kc_m1 : kB (-1 : Int32) (-1) (-1) := ⟨by decide, by decide⟩
theorem kc_0 : kB (0 : Int32) 0 0 := ⟨by decide, by decide⟩
theorem kc_1 : kB (1 : Int32) 1 1 := ⟨by decide, by decide⟩
theorem kc_7 : kB (7 : Int32) 7 7 := ⟨by decide, by decide⟩
theorem kc_8 : kB (8 : Int32) 8 8 := ⟨by decide, by decide⟩
theorem kc_24 : kB (24 : Int32) 24 24 := ⟨by decide, by decide⟩
theorem kc_128 : kB (128 : Int32) 128 128 := ⟨by decide, by decide⟩
theorem kc_255 : kB (255 : Int32) 255 255 := ⟨by decide, by decide⟩
theorem kc_600 : kB (600 : Int32) 600 600 := ⟨by decide, by decide⟩
theorem kc_16777215 : kB (16777215 : Int32) 16777215 16777215 := ⟨by decide, by decide⟩
theorem in_X0 : ∀ w ∈ u_ws RX0 TX0 5, w ∈ kW := fun w h => kW_mem ((show ∀ w ∈ u_ws RX0 TX0 5, w ∈ lw_tbl by decide +kernel) w h) ((show ∀ w ∈ u_ws RX0 TX0 5, goodWord w = true by decide +kernel) w h)
theorem in_X1 : ∀ w ∈ u_ws RX1 TX1 4, w ∈ kW := fun w h => kW_mem ((show ∀ w ∈ u_ws RX1 TX1 4, w ∈ lw_tbl by decide +kernel) w h) ((show ∀ w ∈ u_ws RX1 TX1 4, goodWord w = true by decide +kernel) w h)
theorem in_X2 : ∀ w ∈ u_ws RX2 TX2 1, w ∈ kW := fun w h => kW_mem ((show ∀ w ∈ u_ws RX2 TX2 1, w ∈ lw_tbl by decide +kernel) w h) ((show ∀ w ∈ u_ws RX2 TX2 1, goodWord w = true by decide +kernel) w h)
theorem in_X3 : ∀ w ∈ u_ws RX3 TX3 2, w ∈ kW := fun w h => kW_mem ((show ∀ w ∈ u_ws RX3 TX3 2, w ∈ lw_tbl by decide +kernel) w h) ((show ∀ w ∈ u_ws RX3 TX3 2, goodWord w = true by decide +kernel) w h)
theorem in_X4 : ∀ w ∈ u_ws RX4 TX4 14, w ∈ kW := fun w h => kW_mem ((show ∀ w ∈ u_ws RX4 TX4 14, w ∈ lw_tbl by decide +kernel) w h) ((show ∀ w ∈ u_ws RX4 TX4 14, goodWord w = true by decide +kernel) w h)
theorem in_X5 : ∀ w ∈ u_ws RX5 TX5 1, w ∈ kW := fun w h => kW_mem ((show ∀ w ∈ u_ws RX5 TX5 1, w ∈ lw_tbl by decide +kernel) w h) ((show ∀ w ∈ u_ws RX5 TX5 1, goodWord w = true by decide +kernel) w h)
theorem in_X6 : ∀ w ∈ u_ws RX6 TX6 1, w ∈ kW := fun w h => kW_mem ((show ∀ w ∈ u_ws RX6 TX6 1, w ∈ lw_tbl by decide +kernel) w h) ((show ∀ w ∈ u_ws RX6 TX6 1, goodWord w = true by decide +kernel) w h)
theorem in_X7 : ∀ w ∈ u_ws RX7 TX7 5, w ∈ kW := fun w h => kW_mem ((show ∀ w ∈ u_ws RX7 TX7 5, w ∈ lw_tbl by decide +kernel) w h) ((show ∀ w ∈ u_ws RX7 TX7 5, goodWord w = true by decide +kernel) w h)
theorem in_X8 : ∀ w ∈ u_ws RX8 TX8 22, w ∈ kW := fun w h => kW_mem ((show ∀ w ∈ u_ws RX8 TX8 22, w ∈ lw_tbl by decide +kernel) w h) ((show ∀ w ∈ u_ws RX8 TX8 22, goodWord w = true by decide +kernel) w h)
theorem mk_0 : Cond.fieldLink RX3 15 "KeyFrames$Octets" "size" "I" ∈ kW := kW_mem (by decide +kernel) (by decide +kernel)
theorem mk_1 : Cond.fieldLink RX3 9 "KeyFrames$Octets" "held" "[I" ∈ kW := kW_mem (by decide +kernel) (by decide +kernel)
theorem mk_2 : Cond.fieldLink RX1 13 "KeyFrames$BitWriter" "bottom" "I" ∈ kW := kW_mem (by decide +kernel) (by decide +kernel)
theorem mk_3 : Cond.fieldLink RX1 17 "KeyFrames$BitWriter" "range" "I" ∈ kW := kW_mem (by decide +kernel) (by decide +kernel)
theorem mk_4 : Cond.fieldLink RX1 20 "KeyFrames$BitWriter" "shiftsLeft" "I" ∈ kW := kW_mem (by decide +kernel) (by decide +kernel)
theorem mk_5 : Cond.fieldLink RX1 7 "KeyFrames$BitWriter" "octets" "LKeyFrames$Octets;" ∈ kW := kW_mem (by decide +kernel) (by decide +kernel)
theorem mk_6 : Cond.methodLink RX1 37 yX3_append ∈ kW := kW_mem (by decide +kernel) (by decide +kernel)
theorem mk_7 : Cond.instanceMethod yX3_append ∈ kW := kW_mem (by decide +kernel) (by decide +kernel)
theorem mk_8 : Cond.selects RX3 yX3_append yX3_append ∈ kW := kW_mem (by decide +kernel) (by decide +kernel)
theorem mk_9 : Cond.initialized RX3 ∈ kW := kW_mem (by decide +kernel) (by decide +kernel)
theorem mk_10 : Cond.code yX3_append cX3_append 2 none ∈ kW := kW_mem (by decide +kernel) (by decide +kernel)
theorem mk_11 : Cond.constant RX1 41 (16777215) ∈ kW := kW_mem (by decide +kernel) (by decide +kernel)
theorem mk_12 : Cond.methodLink RX1 32 yX3_addOneToLast ∈ kW := kW_mem (by decide +kernel) (by decide +kernel)
theorem mk_13 : Cond.instanceMethod yX3_addOneToLast ∈ kW := kW_mem (by decide +kernel) (by decide +kernel)
theorem mk_14 : Cond.selects RX3 yX3_addOneToLast yX3_addOneToLast ∈ kW := kW_mem (by decide +kernel) (by decide +kernel)
theorem mk_15 : Cond.code yX3_addOneToLast cX3_addOneToLast 2 none ∈ kW := kW_mem (by decide +kernel) (by decide +kernel)
theorem mk_16 : Cond.code yX7_splitOf cX7_splitOf 2 (some .int) ∈ kW := kW_mem (by decide +kernel) (by decide +kernel)
theorem mk_17 : Cond.initialized RX7 ∈ kW := kW_mem (by decide +kernel) (by decide +kernel)
theorem mk_18 : Cond.static yX7_splitOf ∈ kW := kW_mem (by decide +kernel) (by decide +kernel)
theorem mk_19 : Cond.methodLink RX1 29 yX1_shiftBottom ∈ kW := kW_mem (by decide +kernel) (by decide +kernel)
theorem mk_20 : Cond.instanceMethod yX1_shiftBottom ∈ kW := kW_mem (by decide +kernel) (by decide +kernel)
theorem mk_21 : Cond.selects RX1 yX1_shiftBottom yX1_shiftBottom ∈ kW := kW_mem (by decide +kernel) (by decide +kernel)
theorem mk_22 : Cond.initialized RX1 ∈ kW := kW_mem (by decide +kernel) (by decide +kernel)
theorem mk_23 : Cond.code yX1_shiftBottom cX1_shiftBottom 1 none ∈ kW := kW_mem (by decide +kernel) (by decide +kernel)
