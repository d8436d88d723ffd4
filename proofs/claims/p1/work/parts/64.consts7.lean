/-! the law's helpers -/
def kY (U : State) : Prop := va_Nc "java/lang/IllegalStateException" "java/lang/IllegalArgumentException" U
theorem kY.call {U : State} {g : JFrame} {mk : MethodId} {a : Array Value} (h : kY U) : kY (U.calling g mk a) := va_Nc.moved (u := U) (U := U.calling g mk a) (Vm.Alike.refl U.vm) h
theorem kY.warm {s U : State} (hW : s.WarmedH U.vm) (h : kY s) : kY U := va_Nc.moved hW.alike h
theorem kg_SW {own : String} {idx : Nat} {y : MethodName} {w : Cond} (h1 : Cond.methodLink own idx y ∈ kW) (h2 : Cond.static y ∈ kW) (h4 : Cond.initialized y.cls ∈ kW) (h5 : w ∈ kW) : GoodIn kW (va_wsS own idx y (w :: kW)) := by
  have key : ∀ x ∈ va_wsS own idx y (w :: kW), x ∈ kW := by
    intro x hx
    simp only [va_wsS, List.mem_append, List.mem_cons, List.not_mem_nil, or_false] at hx
    rcases hx with (h | h | h) | h | h
    all_goals first | exact h | (subst h; assumption)
  exact fun x hx => ⟨key x hx, kW_good _ (key x hx)⟩
theorem kg0 {g f : Nat → Int64} {v : Int64} (h : vp_updL g (0 : Int32).toNatClampNeg v = f) : f 0 = v := by
  rw [← h, show (0 : Int32).toNatClampNeg = 0 from by decide]; exact pk_uLs
theorem mk_453 : Cond.methodLink RL 7 yX7_feed ∈ kW := kW_mem (by decide +kernel) (by decide +kernel)
theorem mk_454 : Cond.instanceMethod yX7_feed ∈ kW := kW_mem (by decide +kernel) (by decide +kernel)
theorem mk_455 : Cond.selects RX7 yX7_feed yX7_feed ∈ kW := kW_mem (by decide +kernel) (by decide +kernel)
theorem mk_456 : Cond.code yX7_feed cX7_feed 8 (some .int) ∈ kW := kW_mem (by decide +kernel) (by decide +kernel)
theorem mk_457 : Cond.classLink RL 13 "java/lang/IllegalArgumentException" ∈ kW := kW_mem (by decide +kernel) (by decide +kernel)
theorem mk_458 : Cond.classLink RL 15 "java/lang/IllegalStateException" ∈ kW := kW_mem (by decide +kernel) (by decide +kernel)
theorem mk_459 : Cond.methodLink RL 17 yX7_put ∈ kW := kW_mem (by decide +kernel) (by decide +kernel)
theorem mk_460 : Cond.instanceMethod yX7_put ∈ kW := kW_mem (by decide +kernel) (by decide +kernel)
theorem mk_461 : Cond.selects RX7 yX7_put yX7_put ∈ kW := kW_mem (by decide +kernel) (by decide +kernel)
theorem mk_462 : Cond.code yX7_put cX7_put 5 (some .int) ∈ kW := kW_mem (by decide +kernel) (by decide +kernel)
theorem mk_463 : Cond.methodLink RL 21 yX7_end ∈ kW := kW_mem (by decide +kernel) (by decide +kernel)
theorem mk_464 : Cond.instanceMethod yX7_end ∈ kW := kW_mem (by decide +kernel) (by decide +kernel)
theorem mk_465 : Cond.selects RX7 yX7_end yX7_end ∈ kW := kW_mem (by decide +kernel) (by decide +kernel)
theorem mk_466 : Cond.code yX7_end cX7_end 1 (some .int) ∈ kW := kW_mem (by decide +kernel) (by decide +kernel)
theorem mk_467 : Cond.methodLink RL 25 yX7_get ∈ kW := kW_mem (by decide +kernel) (by decide +kernel)
theorem mk_468 : Cond.instanceMethod yX7_get ∈ kW := kW_mem (by decide +kernel) (by decide +kernel)
theorem mk_469 : Cond.selects RX7 yX7_get yX7_get ∈ kW := kW_mem (by decide +kernel) (by decide +kernel)
theorem mk_470 : Cond.code yX7_get cX7_get 3 (some .int) ∈ kW := kW_mem (by decide +kernel) (by decide +kernel)
theorem mk_471 : Cond.methodLink RL 29 yX7_block ∈ kW := kW_mem (by decide +kernel) (by decide +kernel)
theorem mk_472 : Cond.instanceMethod yX7_block ∈ kW := kW_mem (by decide +kernel) (by decide +kernel)
theorem mk_473 : Cond.selects RX7 yX7_block yX7_block ∈ kW := kW_mem (by decide +kernel) (by decide +kernel)
theorem mk_474 : Cond.code yX7_block cX7_block 3 (some .int) ∈ kW := kW_mem (by decide +kernel) (by decide +kernel)
theorem mk_475 : Cond.methodLink RL 32 yX7_count ∈ kW := kW_mem (by decide +kernel) (by decide +kernel)
theorem mk_476 : Cond.instanceMethod yX7_count ∈ kW := kW_mem (by decide +kernel) (by decide +kernel)
theorem mk_477 : Cond.selects RX7 yX7_count yX7_count ∈ kW := kW_mem (by decide +kernel) (by decide +kernel)
theorem mk_478 : Cond.code yX7_count cX7_count 2 (some .int) ∈ kW := kW_mem (by decide +kernel) (by decide +kernel)
