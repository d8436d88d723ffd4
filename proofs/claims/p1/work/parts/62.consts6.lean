/-! what a 'throw new .. (text)' of the class needs -/
abbrev kxA : List Cond := vx_atS RX7 47 "java/lang/IllegalArgumentException" ["java/lang/RuntimeException", "java/lang/Exception"]
abbrev kxS : List Cond := vx_atS RX7 58 "java/lang/IllegalStateException" ["java/lang/RuntimeException", "java/lang/Exception"]
def kxB : List Cond := kxA.filter (fun w => !goodWord w) ++ kxS.filter (fun w => !goodWord w)
def kxk : Cond → Bool
  | .declares _ => true
  | .castable _ _ => true
  | _ => false
theorem kxB_k : ∀ w ∈ kxB, kxk w = true := by decide +kernel
theorem kxB_tab : ∀ w ∈ kxB, w.onTables = true := by decide +kernel
theorem kx_inA : ∀ w ∈ kxA.filter goodWord, w ∈ lw_tbl := by decide +kernel
theorem kx_inS : ∀ w ∈ kxS.filter goodWord, w ∈ lw_tbl := by decide +kernel
theorem kxg_IllegalArgumentException : ∀ w ∈ Cond.classLink RX7 43 "java/lang/IllegalArgumentException" :: Cond.initialized "java/lang/IllegalArgumentException" :: kxA, vx_ot w = true := by decide +kernel
theorem kxg_IllegalStateException : ∀ w ∈ Cond.classLink RX7 54 "java/lang/IllegalStateException" :: Cond.initialized "java/lang/IllegalStateException" :: kxS, vx_ot w = true := by decide +kernel
def kXs : List (Nat × String) := [(45, "many is not 0 .. 16"), (56, "there would be more than 600 bytes"), (73, "writing is not begun"), (75, "there are more than 560 bytes"), (84, "reading is not begun"), (100, "what is not 0 .. 17"), (133, "what is not 0 .. 6"), (138, "p is not 1 .. 255"), (140, "many is not 0 .. 32")]
def kX (A : Nat → Prop) (U : State) (H : Heap) : Prop := vx_Zq Bundle.tN "UNASSIGNED_STACK" Bundle.steD A U H ∧ vx_Zq Bundle.tN "SUPPRESSED_SENTINEL" Bundle.listD A U H ∧ (∀ w ∈ kxB, va_Nw w U) ∧ ∀ q ∈ kXs, ∃ a : Nat, vk_R RX7 q.1 q.2 a U
theorem kxB_warm {s U : State} (hW : s.WarmedH U.vm) (h : ∀ w ∈ kxB, va_Nw w s) : ∀ w ∈ kxB, va_Nw w U := by
  intro w hw
  have hk := kxB_k w hw
  have h1 := h w hw
  cases w <;> first | exact va_Nw.warmD hW h1 | exact va_Nw.warmC hW h1 | (simp [kxk] at hk)
theorem kX.at {A B : Nat → Prop} {s U : State} {H : Heap} {locs : List Loc} (h : kX A s s.heap) (hS : va_S A s.heap H locs) (hF : ∀ q, B q → A q) (hW : s.WarmedH U.vm) : kX B U H :=
  ⟨((h.1.kept hS.2.1).narrow hF).moved hW.alike, ((h.2.1.kept hS.2.1).narrow hF).moved hW.alike, kxB_warm hW h.2.2.1, fun q hq => by obtain ⟨a, ha⟩ := h.2.2.2 q hq; exact ⟨a, ha.warm hW⟩⟩
theorem kX.call {A : Nat → Prop} {U : State} {g : JFrame} {mk : MethodId} {a : Array Value} (h : kX A U U.heap) : kX A (U.calling g mk a) (U.calling g mk a).heap :=
  ⟨vx_Zq.moved (u := U) (U := U.calling g mk a) (Vm.Alike.refl U.vm) h.1, vx_Zq.moved (u := U) (U := U.calling g mk a) (Vm.Alike.refl U.vm) h.2.1, fun w hw => va_Nw.same (u := U) (U := U.calling g mk a) (kxB_tab w hw) rfl (h.2.2.1 w hw), fun q hq => by obtain ⟨b, hb⟩ := h.2.2.2 q hq; exact ⟨b, vk_R.same (u := U) (U := U.calling g mk a) rfl hb⟩⟩
theorem kx_IllegalArgumentException {A : Nat → Prop} {s : State} {H : Heap} {args : Array Value} (hts : ∀ w ∈ kW, w.before args s = true) (hX : kX A s H) : ∀ w ∈ kxA, w.before args s = true :=
  vx_hat (B := kxB) (fun w hw => hts w (kW_mem (kx_inA w hw) (List.mem_filter.mp hw).2)) (fun w hw => List.mem_append_left _ hw) (fun w hw => va_Nw.use (kxB_tab w hw) (hX.2.2.1 w hw))
theorem kx_IllegalStateException {A : Nat → Prop} {s : State} {H : Heap} {args : Array Value} (hts : ∀ w ∈ kW, w.before args s = true) (hX : kX A s H) : ∀ w ∈ kxS, w.before args s = true :=
  vx_hat (B := kxB) (fun w hw => hts w (kW_mem (kx_inS w hw) (List.mem_filter.mp hw).2)) (fun w hw => List.mem_append_right _ hw) (fun w hw => va_Nw.use (kxB_tab w hw) (hX.2.2.1 w hw))
theorem kFt {A : Nat → Prop} {s t : State} {H : Heap} {locs : List Loc} (hS : va_S A s.heap H locs) (h1 : H.size ≤ t.heap.size) (h2 : ∀ q : Nat, q < H.size → t.heap[q]? = H[q]?) : va_F A s t := ⟨Nat.le_trans hS.1 h1, fun q hq hn => (h2 q (Nat.lt_of_lt_of_le hq hS.1)).trans (hS.2.1 q hq hn)⟩
theorem kc_18 : kB (18 : Int32) 18 18 := ⟨by decide, by decide⟩
theorem mk_424 : Cond.classLink RX7 43 "java/lang/IllegalArgumentException" ∈ kW := kW_mem (by decide +kernel) (by decide +kernel)
theorem mk_425 : Cond.initialized "java/lang/IllegalArgumentException" ∈ kW := kW_mem (by decide +kernel) (by decide +kernel)
theorem mk_426 : Cond.classLink RX7 54 "java/lang/IllegalStateException" ∈ kW := kW_mem (by decide +kernel) (by decide +kernel)
theorem mk_427 : Cond.initialized "java/lang/IllegalStateException" ∈ kW := kW_mem (by decide +kernel) (by decide +kernel)
theorem mk_428 : Cond.methodLink RX7 59 yX3_append ∈ kW := kW_mem (by decide +kernel) (by decide +kernel)
theorem mk_429 : Cond.methodLink RX7 69 yX7_checkBits ∈ kW := kW_mem (by decide +kernel) (by decide +kernel)
theorem mk_430 : Cond.static yX7_checkBits ∈ kW := kW_mem (by decide +kernel) (by decide +kernel)
theorem mk_431 : Cond.code yX7_checkBits cX7_checkBits 2 none ∈ kW := kW_mem (by decide +kernel) (by decide +kernel)
theorem mk_432 : Cond.methodLink RX7 77 yX1_writeBit ∈ kW := kW_mem (by decide +kernel) (by decide +kernel)
theorem mk_433 : Cond.instanceMethod yX1_writeBit ∈ kW := kW_mem (by decide +kernel) (by decide +kernel)
theorem mk_434 : Cond.selects RX1 yX1_writeBit yX1_writeBit ∈ kW := kW_mem (by decide +kernel) (by decide +kernel)
theorem mk_435 : Cond.code yX1_writeBit cX1_writeBit 5 none ∈ kW := kW_mem (by decide +kernel) (by decide +kernel)
theorem mk_436 : Cond.methodLink RX7 80 yX1_finish ∈ kW := kW_mem (by decide +kernel) (by decide +kernel)
theorem mk_437 : Cond.instanceMethod yX1_finish ∈ kW := kW_mem (by decide +kernel) (by decide +kernel)
theorem mk_438 : Cond.selects RX1 yX1_finish yX1_finish ∈ kW := kW_mem (by decide +kernel) (by decide +kernel)
theorem mk_439 : Cond.code yX1_finish cX1_finish 2 none ∈ kW := kW_mem (by decide +kernel) (by decide +kernel)
theorem mk_440 : Cond.methodLink RX7 86 yX0_readBits ∈ kW := kW_mem (by decide +kernel) (by decide +kernel)
theorem mk_441 : Cond.methodLink RX7 109 yX4_coefficientsReadOf ∈ kW := kW_mem (by decide +kernel) (by decide +kernel)
theorem mk_442 : Cond.instanceMethod yX4_coefficientsReadOf ∈ kW := kW_mem (by decide +kernel) (by decide +kernel)
theorem mk_443 : Cond.selects RX4 yX4_coefficientsReadOf yX4_coefficientsReadOf ∈ kW := kW_mem (by decide +kernel) (by decide +kernel)
theorem mk_444 : Cond.code yX4_coefficientsReadOf cX4_coefficientsReadOf 2 (some .int) ∈ kW := kW_mem (by decide +kernel) (by decide +kernel)
theorem mk_445 : Cond.methodLink RX7 105 yX4_wayOf ∈ kW := kW_mem (by decide +kernel) (by decide +kernel)
theorem mk_446 : Cond.instanceMethod yX4_wayOf ∈ kW := kW_mem (by decide +kernel) (by decide +kernel)
theorem mk_447 : Cond.selects RX4 yX4_wayOf yX4_wayOf ∈ kW := kW_mem (by decide +kernel) (by decide +kernel)
theorem mk_448 : Cond.code yX4_wayOf cX4_wayOf 2 (some .int) ∈ kW := kW_mem (by decide +kernel) (by decide +kernel)
theorem mk_449 : Cond.methodLink RX7 102 yX4_coefficientOf ∈ kW := kW_mem (by decide +kernel) (by decide +kernel)
theorem mk_450 : Cond.instanceMethod yX4_coefficientOf ∈ kW := kW_mem (by decide +kernel) (by decide +kernel)
theorem mk_451 : Cond.selects RX4 yX4_coefficientOf yX4_coefficientOf ∈ kW := kW_mem (by decide +kernel) (by decide +kernel)
theorem mk_452 : Cond.code yX4_coefficientOf cX4_coefficientOf 3 (some .int) ∈ kW := kW_mem (by decide +kernel) (by decide +kernel)
