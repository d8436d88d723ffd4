abbrev kw_X7_within : List Cond := Cond.code yX7_within cX7_within 4 (some .int) :: kW
set_option maxHeartbeats 4000000 in
set_option maxRecDepth 100000 in
theorem c_X7_within (l : Launch) (D : va_G) (cI cJ cZ : ClassId) (n : Int64) (wl : Int32) (wh : Int32) (hpz : Nat) : Met l yX7_within kw_X7_within ({ frames := 0, cells := 0, slots := 0, locals := 0 }) (va_Pc [.long n, .int wl, .int wh] (fun U => U.heap.size = hpz ∧ va_P D vwCl [] U.heap ∧ kK D cI cJ cZ U ∧ va_D (fun _ => True) [])) (va_Qi (fun (r : Int32) (u : Unit) => True) (fun (u : Unit) (t : State) => va_P D vwCl [] t.heap ∧ va_D (va_A [] hpz) []) (va_A [] hpz)) 0 0 (va_A [] hpz) := by
  refine Met.ofW (cc := cX7_within) (maxL := 4) (ret := (some .int)) (by decide) rfl ?_
  intro p e s m args below meth c s₁ B hml hv
  obtain ⟨rfl, hsz, hP, hK, hD0⟩ := hv
  have hx := B.exec
  have hb := B.bytes
  have hr := B.returns
  have hts := fun (w : Cond) (h : w ∈ kW) => atoms_spec (ws := kw_X7_within) B.pre w (List.mem_cons_of_mem _ h)
  have hown : s.vm.findClass RX7 = some m.cls := findClass_of_methodNamed B.named
  have hlocks := B.notSynchronized
  subst hsz
  have hD := hD0.self (sz := s.heap.size)
  generalize hAe : va_A [] s.heap.size = A at hD ⊢
  have hA : ∀ q : Nat, s.heap.size ≤ q → A q := fun q h => by rw [← hAe]; exact Or.inr h
  have hS : va_S A s.heap s.heap [] := va_S.rf
  have hP : va_P D vwCl [] s.heap := hP
  have hl := lv_entry ([.long n, .int wl, .int wh]) (n := 4) (Nat.le_of_ble_eq_true rfl)
  rw [lg_entry_eq]
  generalize (lg_sl ([.long n, .int wl, .int wh]) ++ List.replicate (4 - (lg_sl ([.long n, .int wl, .int wh])).length) Slot.unset).toArray = ls at hl ⊢
  have hl : lv_has ls 4 [(0, .long n), (2, .int wl), (3, .int wh)] := hl
  refine lv_lload_n hx hb dX7_within_0 rfl (lv_at hl 0 rfl) ?_
  refine lv_iload_n hx hb dX7_within_1 rfl (lv_at hl 1 rfl) ?_
  refine lv_i2l hx hb dX7_within_2 rfl ?_
  refine lv_topl (fun v2 e2 => ?_)
  refine W.lcmp hx hb dX7_within_3 ?_
  refine lv_topi (fun v3 e3 => ?_)
  refine lv_if_ge (tgt := 11) hx hb dX7_within_4 (by decide) (fun c4 => ?_) (fun c4 => ?_)
  · have c4b := kB_all v3
    have c4y : kB v3 0 2147483647 := kB_le_r kc_0 c4b c4 (by decide)
    refine lv_lload_n hx hb dX7_within_11 rfl (lv_at hl 0 rfl) ?_
    refine lv_iload_n hx hb dX7_within_12 rfl (lv_at hl 2 rfl) ?_
    refine lv_i2l hx hb dX7_within_13 rfl ?_
    refine lv_topl (fun v13 e13 => ?_)
    refine W.lcmp hx hb dX7_within_14 ?_
    refine lv_topi (fun v14 e14 => ?_)
    refine lv_if_le (tgt := 22) hx hb dX7_within_15 (by decide) (fun c15 => ?_) (fun c15 => ?_)
    · have c15a := kB_all v14
      have c15x : kB v14 (-2147483648) 0 := kB_le_l c15a kc_0 c15 (by decide)
      refine lv_lload_n hx hb dX7_within_22 rfl (lv_at hl 0 rfl) ?_
      refine lv_l2i hx hb dX7_within_23 rfl ?_
      refine lv_topi (fun v23 e23 => ?_)
      exact W.iret (v := v23) hx hb hr (fun t9 ht9 hW9 => ⟨⟨v23, (), rfl, trivial, by rw [ht9]; exact hP, hD⟩, hS.F ht9⟩) hS.2.2 dX7_within_24
    · have c15n : 0 < v14 := kN_le c15
      have c15nb := kB_all v14
      have c15ny : kB v14 1 2147483647 := kB_lt_r kc_0 c15nb c15n (by decide)
      refine lv_iload_n hx hb dX7_within_18 rfl (lv_at hl 2 rfl) ?_
      refine lv_goto (tgt := 24) hx hb dX7_within_19 (by decide) ?_
      exact W.iret (v := wh) hx hb hr (fun t9 ht9 hW9 => ⟨⟨wh, (), rfl, trivial, by rw [ht9]; exact hP, hD⟩, hS.F ht9⟩) hS.2.2 dX7_within_24
  · have c4n : v3 < 0 := kN_le c4
    have c4na := kB_all v3
    have c4nx : kB v3 (-2147483648) (-1) := kB_lt_l c4na kc_0 c4n (by decide)
    refine lv_iload_n hx hb dX7_within_7 rfl (lv_at hl 1 rfl) ?_
    refine lv_goto (tgt := 24) hx hb dX7_within_8 (by decide) ?_
    exact W.iret (v := wl) hx hb hr (fun t9 ht9 hW9 => ⟨⟨wl, (), rfl, trivial, by rw [ht9]; exact hP, hD⟩, hS.F ht9⟩) hS.2.2 dX7_within_24
abbrev kw_X5_at : List Cond := Cond.code yX5_at cX5_at 3 (some .int) :: kW
set_option maxHeartbeats 4000000 in
set_option maxRecDepth 100000 in
theorem c_X5_at (l : Launch) (D : va_G) (cI cJ cZ : ClassId) (hpl hs : Nat) (sm : Nat → Int32) (x : Int32) (y : Int32) (bx : kB x 0 15) (byy : kB y 0 15) (hpz : Nat) : Met l yX5_at kw_X5_at ({ frames := 0, cells := 0, slots := 0, locals := 0 }) (va_Pc [.ref hpl, .int x, .int y] (fun U => U.heap.size = hpz ∧ va_P D vwCl [(hpl, .inr (5, [.ref hs])), (hs, .inl (cI, 256, .inl sm))] U.heap ∧ kK D cI cJ cZ U ∧ va_D (fun _ => True) [(hpl, .inr (5, [.ref hs])), (hs, .inl (cI, 256, .inl sm))])) (va_Qi (fun (r : Int32) (u : Unit) => True) (fun (u : Unit) (t : State) => va_P D vwCl [(hpl, .inr (5, [.ref hs])), (hs, .inl (cI, 256, .inl sm))] t.heap ∧ va_D (va_A [(hpl, .inr (5, [.ref hs])), (hs, .inl (cI, 256, .inl sm))] hpz) [(hpl, .inr (5, [.ref hs])), (hs, .inl (cI, 256, .inl sm))]) (va_A [(hpl, .inr (5, [.ref hs])), (hs, .inl (cI, 256, .inl sm))] hpz)) 0 0 (va_A [(hpl, .inr (5, [.ref hs])), (hs, .inl (cI, 256, .inl sm))] hpz) := by
  refine Met.ofW (cc := cX5_at) (maxL := 3) (ret := (some .int)) (by decide) rfl ?_
  intro p e s m args below meth c s₁ B hml hv
  obtain ⟨rfl, hsz, hP, hK, hD0⟩ := hv
  have hx := B.exec
  have hb := B.bytes
  have hr := B.returns
  have hts := fun (w : Cond) (h : w ∈ kW) => atoms_spec (ws := kw_X5_at) B.pre w (List.mem_cons_of_mem _ h)
  have hown : s.vm.findClass RX5 = some m.cls := findClass_of_methodNamed B.named
  have hlocks := B.notSynchronized
  subst hsz
  have hD := hD0.self (sz := s.heap.size)
  generalize hAe : va_A [(hpl, .inr (5, [.ref hs])), (hs, .inl (cI, 256, .inl sm))] s.heap.size = A at hD ⊢
  have hA : ∀ q : Nat, s.heap.size ≤ q → A q := fun q h => by rw [← hAe]; exact Or.inr h
  have hS : va_S A s.heap s.heap [] := va_S.rf
  have hP : va_P D vwCl [(hpl, .inr (5, [.ref hs])), (hs, .inl (cI, 256, .inl sm))] s.heap := hP
  have hl := lv_entry ([.ref hpl, .int x, .int y]) (n := 3) (Nat.le_of_ble_eq_true rfl)
  rw [lg_entry_eq]
  generalize (lg_sl ([.ref hpl, .int x, .int y]) ++ List.replicate (3 - (lg_sl ([.ref hpl, .int x, .int y])).length) Slot.unset).toArray = ls at hl ⊢
  have hl : lv_has ls 3 [(0, .ref hpl), (1, .int x), (2, .int y)] := hl
  refine lv_aload_n hx hb dX5_at_0 rfl (lv_at hl 0 rfl) ?_
  refine va_get (D := D) (ci := 5) (v := .ref hs) (C := RX5) (T := TX5) (N := 1) hx hb hts in_X5 hown hK.1 hP 0 rfl rfl 0 (by decide) (hts _ mk_76) (fun _ h9 => h9) rfl dX5_at_1 ?_
  refine lv_iload_n hx hb dX5_at_4 rfl (lv_at hl 2 rfl) ?_
  refine lv_bipush (v := 16) hx hb dX5_at_5 (by decide) ?_
  refine lv_imul hx hb dX5_at_7 ?_
  refine lv_topi (fun v7 e7 => ?_)
  have b7 : kB v7 0 240 := kB_eq e7 (kB_mulc byy kc_16 (by decide))
  refine lv_iload_n hx hb dX5_at_8 rfl (lv_at hl 1 rfl) ?_
  refine lv_iadd hx hb dX5_at_9 ?_
  refine lv_topi (fun v9 e9 => ?_)
  have b9 : kB v9 0 255 := kB_eq e9 (kB_add b7 bx (by decide))
  refine va_iald hx hb hK.1 hP 1 0 rfl rfl (kB_in b9 (by decide)) dX5_at_10 ?_
  refine lv_topi (fun v10 e10 => ?_)
  exact W.iret (v := v10) hx hb hr (fun t9 ht9 hW9 => ⟨⟨v10, (), rfl, trivial, by rw [ht9]; exact hP, hD⟩, hS.F ht9⟩) hS.2.2 dX5_at_11
abbrev kw_X5_above : List Cond := Cond.code yX5_above cX5_above 3 (some .int) :: kW
set_option maxHeartbeats 4000000 in
set_option maxRecDepth 100000 in
theorem c_X5_above (l : Launch) (D : va_G) (cI cJ cZ : ClassId) (hpl hs : Nat) (sm : Nat → Int32) (x : Int32) (y : Int32) (bx : kB x 0 15) (byy : kB y 0 15) (hpz : Nat) : Met l yX5_above kw_X5_above ({ frames := 1, cells := 0, slots := 0, locals := 22 }) (va_Pc [.ref hpl, .int x, .int y] (fun U => U.heap.size = hpz ∧ va_P D vwCl [(hpl, .inr (5, [.ref hs])), (hs, .inl (cI, 256, .inl sm))] U.heap ∧ kK D cI cJ cZ U ∧ va_D (fun _ => True) [(hpl, .inr (5, [.ref hs])), (hs, .inl (cI, 256, .inl sm))])) (va_Qi (fun (r : Int32) (u : Unit) => True) (fun (u : Unit) (t : State) => va_P D vwCl [(hpl, .inr (5, [.ref hs])), (hs, .inl (cI, 256, .inl sm))] t.heap ∧ va_D (va_A [(hpl, .inr (5, [.ref hs])), (hs, .inl (cI, 256, .inl sm))] hpz) [(hpl, .inr (5, [.ref hs])), (hs, .inl (cI, 256, .inl sm))]) (va_A [(hpl, .inr (5, [.ref hs])), (hs, .inl (cI, 256, .inl sm))] hpz)) 0 0 (va_A [(hpl, .inr (5, [.ref hs])), (hs, .inl (cI, 256, .inl sm))] hpz) := by
  refine Met.ofW (cc := cX5_above) (maxL := 3) (ret := (some .int)) (by decide) rfl ?_
  intro p e s m args below meth c s₁ B hml hv
  obtain ⟨rfl, hsz, hP, hK, hD0⟩ := hv
  have hx := B.exec
  have hb := B.bytes
  have hr := B.returns
  have hts := fun (w : Cond) (h : w ∈ kW) => atoms_spec (ws := kw_X5_above) B.pre w (List.mem_cons_of_mem _ h)
  have hown : s.vm.findClass RX5 = some m.cls := findClass_of_methodNamed B.named
  have hlocks := B.notSynchronized
  subst hsz
  have hD := hD0.self (sz := s.heap.size)
  generalize hAe : va_A [(hpl, .inr (5, [.ref hs])), (hs, .inl (cI, 256, .inl sm))] s.heap.size = A at hD ⊢
  have hA : ∀ q : Nat, s.heap.size ≤ q → A q := fun q h => by rw [← hAe]; exact Or.inr h
  have hS : va_S A s.heap s.heap [] := va_S.rf
  have hP : va_P D vwCl [(hpl, .inr (5, [.ref hs])), (hs, .inl (cI, 256, .inl sm))] s.heap := hP
  have hl := lv_entry ([.ref hpl, .int x, .int y]) (n := 3) (Nat.le_of_ble_eq_true rfl)
  rw [lg_entry_eq]
  generalize (lg_sl ([.ref hpl, .int x, .int y]) ++ List.replicate (3 - (lg_sl ([.ref hpl, .int x, .int y])).length) Slot.unset).toArray = ls at hl ⊢
  have hl : lv_has ls 3 [(0, .ref hpl), (1, .int x), (2, .int y)] := hl
  refine lv_iload_n hx hb dX5_above_0 rfl (lv_at hl 2 rfl) ?_
  refine lv_if_ne (tgt := 9) hx hb dX5_above_1 (by decide) (fun c1 => ?_) (fun c1 => ?_)
  · have c1x : kB y 1 15 := kB_nlo byy c1 kc_0 (by decide)
    refine lv_aload_n hx hb dX5_above_9 rfl (lv_at hl 0 rfl) ?_
    refine lv_iload_n hx hb dX5_above_10 rfl (lv_at hl 1 rfl) ?_
    refine lv_iload_n hx hb dX5_above_11 rfl (lv_at hl 2 rfl) ?_
    refine lv_iconst (v := 1) hx hb dX5_above_12 (by decide) ?_
    refine lv_isub hx hb dX5_above_13 ?_
    refine lv_topi (fun v13 e13 => ?_)
    have b13 : kB v13 0 14 := kB_eq e13 (kB_sub c1x kc_1 (by decide))
    have hPc := hP.sub (ws' := [(hpl, .inr (5, [.ref hs])), (hs, .inl (cI, 256, .inl sm))]) [0, 1] rfl
    have hDc := hD.sub (ws' := [(hpl, .inr (5, [.ref hs])), (hs, .inl (cI, 256, .inl sm))]) [0, 1] (by decide) rfl
    have hFc := va_free (wc := [(hpl, .inr (5, [.ref hs])), (hs, .inl (cI, 256, .inl sm))]) hD hS hA [0, 1] rfl
    refine va_calli (va_runV (As := [.int x, .int v13]) (rest := []) ⟨hx, hb, hml, hown, hts⟩ (c_X5_at l D cI cJ cZ hpl hs sm x v13 bx (kB_w b13 (by decide) (by decide)) (s.heap).size) (cwV 2 hts (kg_V mk_77 mk_78 mk_79 mk_80 mk_81) rfl rfl rfl (by decide +kernel) ⟨Nat.le_of_ble_eq_true rfl, Nat.le_of_ble_eq_true rfl⟩) ⟨fun a U g mk q => by obtain ⟨q0, q1, qP, qK, qD⟩ := q; exact ⟨q0, q1, qP, kK.call qK, qD⟩, va_recv hK.1 hPc (ci := 5) (q0 := 0) rfl rfl, fun U hU hW => ⟨rfl, by rw [hU], by rw [hU]; exact hPc, kK.warm hW hK, hDc.weaken (fun _ _ _ _ => trivial)⟩⟩ rfl rfl hl.1 rfl (lv_room (Nat.le_of_ble_eq_true rfl)) dX5_above_14 ⟨Nat.zero_le _, Nat.zero_le _⟩) hS (fun q _ h => hFc q h) hFc (fun r14 u t9 H1 locs ht9 hvm9 hw9 hB9 hz9 hk9 hS => ?_)
    obtain ⟨hP1, hD1⟩ := hB9
    rw [ht9] at hP1
    have hP1 : va_P D vwCl [(hpl, .inr (5, [.ref hs])), (hs, .inl (cI, 256, .inl sm))] H1 := hP1
    obtain ⟨hP, hD⟩ := va_join (wr := []) (w1 := [(hpl, .inr (5, [.ref hs])), (hs, .inl (cI, 256, .inl sm))]) hP hD [0, 1] [] rfl rfl (by decide) (by decide) hk9 hFc hP1 hD1
    have hP := hP.sub (ws' := [(hpl, .inr (5, [.ref hs])), (hs, .inl (cI, 256, .inl sm))]) [0, 1] rfl
    have hD := hD.sub (ws' := [(hpl, .inr (5, [.ref hs])), (hs, .inl (cI, 256, .inl sm))]) [0, 1] (by decide) rfl
    generalize H1 = H at hP hS ⊢
    exact W.iret (v := r14) hx hb hr (fun t9 ht9 hW9 => ⟨⟨r14, (), rfl, trivial, by rw [ht9]; exact hP, hD⟩, hS.F ht9⟩) hS.2.2 dX5_above_17
  · have c1x : kB y 0 0 := kB_eq c1 kc_0
    refine lv_bipush (v := 127) hx hb dX5_above_4 (by decide) ?_
    refine lv_goto (tgt := 17) hx hb dX5_above_6 (by decide) ?_
    exact W.iret (v := 127) hx hb hr (fun t9 ht9 hW9 => ⟨⟨127, (), rfl, trivial, by rw [ht9]; exact hP, hD⟩, hS.F ht9⟩) hS.2.2 dX5_above_17
abbrev kw_X5_leftOf : List Cond := Cond.code yX5_leftOf cX5_leftOf 3 (some .int) :: kW
set_option maxHeartbeats 4000000 in
set_option maxRecDepth 100000 in
theorem c_X5_leftOf (l : Launch) (D : va_G) (cI cJ cZ : ClassId) (hpl hs : Nat) (sm : Nat → Int32) (x : Int32) (y : Int32) (bx : kB x 0 15) (byy : kB y 0 15) (hpz : Nat) : Met l yX5_leftOf kw_X5_leftOf ({ frames := 1, cells := 0, slots := 0, locals := 22 }) (va_Pc [.ref hpl, .int x, .int y] (fun U => U.heap.size = hpz ∧ va_P D vwCl [(hpl, .inr (5, [.ref hs])), (hs, .inl (cI, 256, .inl sm))] U.heap ∧ kK D cI cJ cZ U ∧ va_D (fun _ => True) [(hpl, .inr (5, [.ref hs])), (hs, .inl (cI, 256, .inl sm))])) (va_Qi (fun (r : Int32) (u : Unit) => True) (fun (u : Unit) (t : State) => va_P D vwCl [(hpl, .inr (5, [.ref hs])), (hs, .inl (cI, 256, .inl sm))] t.heap ∧ va_D (va_A [(hpl, .inr (5, [.ref hs])), (hs, .inl (cI, 256, .inl sm))] hpz) [(hpl, .inr (5, [.ref hs])), (hs, .inl (cI, 256, .inl sm))]) (va_A [(hpl, .inr (5, [.ref hs])), (hs, .inl (cI, 256, .inl sm))] hpz)) 0 0 (va_A [(hpl, .inr (5, [.ref hs])), (hs, .inl (cI, 256, .inl sm))] hpz) := by
  refine Met.ofW (cc := cX5_leftOf) (maxL := 3) (ret := (some .int)) (by decide) rfl ?_
  intro p e s m args below meth c s₁ B hml hv
  obtain ⟨rfl, hsz, hP, hK, hD0⟩ := hv
  have hx := B.exec
  have hb := B.bytes
  have hr := B.returns
  have hts := fun (w : Cond) (h : w ∈ kW) => atoms_spec (ws := kw_X5_leftOf) B.pre w (List.mem_cons_of_mem _ h)
  have hown : s.vm.findClass RX5 = some m.cls := findClass_of_methodNamed B.named
  have hlocks := B.notSynchronized
  subst hsz
  have hD := hD0.self (sz := s.heap.size)
  generalize hAe : va_A [(hpl, .inr (5, [.ref hs])), (hs, .inl (cI, 256, .inl sm))] s.heap.size = A at hD ⊢
  have hA : ∀ q : Nat, s.heap.size ≤ q → A q := fun q h => by rw [← hAe]; exact Or.inr h
  have hS : va_S A s.heap s.heap [] := va_S.rf
  have hP : va_P D vwCl [(hpl, .inr (5, [.ref hs])), (hs, .inl (cI, 256, .inl sm))] s.heap := hP
  have hl := lv_entry ([.ref hpl, .int x, .int y]) (n := 3) (Nat.le_of_ble_eq_true rfl)
  rw [lg_entry_eq]
  generalize (lg_sl ([.ref hpl, .int x, .int y]) ++ List.replicate (3 - (lg_sl ([.ref hpl, .int x, .int y])).length) Slot.unset).toArray = ls at hl ⊢
  have hl : lv_has ls 3 [(0, .ref hpl), (1, .int x), (2, .int y)] := hl
  refine lv_iload_n hx hb dX5_leftOf_0 rfl (lv_at hl 1 rfl) ?_
  refine lv_if_ne (tgt := 10) hx hb dX5_leftOf_1 (by decide) (fun c1 => ?_) (fun c1 => ?_)
  · have c1x : kB x 1 15 := kB_nlo bx c1 kc_0 (by decide)
    refine lv_aload_n hx hb dX5_leftOf_10 rfl (lv_at hl 0 rfl) ?_
    refine lv_iload_n hx hb dX5_leftOf_11 rfl (lv_at hl 1 rfl) ?_
    refine lv_iconst (v := 1) hx hb dX5_leftOf_12 (by decide) ?_
    refine lv_isub hx hb dX5_leftOf_13 ?_
    refine lv_topi (fun v13 e13 => ?_)
    have b13 : kB v13 0 14 := kB_eq e13 (kB_sub c1x kc_1 (by decide))
    refine lv_iload_n hx hb dX5_leftOf_14 rfl (lv_at hl 2 rfl) ?_
    have hPc := hP.sub (ws' := [(hpl, .inr (5, [.ref hs])), (hs, .inl (cI, 256, .inl sm))]) [0, 1] rfl
    have hDc := hD.sub (ws' := [(hpl, .inr (5, [.ref hs])), (hs, .inl (cI, 256, .inl sm))]) [0, 1] (by decide) rfl
    have hFc := va_free (wc := [(hpl, .inr (5, [.ref hs])), (hs, .inl (cI, 256, .inl sm))]) hD hS hA [0, 1] rfl
    refine va_calli (va_runV (As := [.int v13, .int y]) (rest := []) ⟨hx, hb, hml, hown, hts⟩ (c_X5_at l D cI cJ cZ hpl hs sm v13 y (kB_w b13 (by decide) (by decide)) byy (s.heap).size) (cwV 2 hts (kg_V mk_77 mk_78 mk_79 mk_80 mk_81) rfl rfl rfl (by decide +kernel) ⟨Nat.le_of_ble_eq_true rfl, Nat.le_of_ble_eq_true rfl⟩) ⟨fun a U g mk q => by obtain ⟨q0, q1, qP, qK, qD⟩ := q; exact ⟨q0, q1, qP, kK.call qK, qD⟩, va_recv hK.1 hPc (ci := 5) (q0 := 0) rfl rfl, fun U hU hW => ⟨rfl, by rw [hU], by rw [hU]; exact hPc, kK.warm hW hK, hDc.weaken (fun _ _ _ _ => trivial)⟩⟩ rfl rfl hl.1 rfl (lv_room (Nat.le_of_ble_eq_true rfl)) dX5_leftOf_15 ⟨Nat.zero_le _, Nat.zero_le _⟩) hS (fun q _ h => hFc q h) hFc (fun r15 u t9 H1 locs ht9 hvm9 hw9 hB9 hz9 hk9 hS => ?_)
    obtain ⟨hP1, hD1⟩ := hB9
    rw [ht9] at hP1
    have hP1 : va_P D vwCl [(hpl, .inr (5, [.ref hs])), (hs, .inl (cI, 256, .inl sm))] H1 := hP1
    obtain ⟨hP, hD⟩ := va_join (wr := []) (w1 := [(hpl, .inr (5, [.ref hs])), (hs, .inl (cI, 256, .inl sm))]) hP hD [0, 1] [] rfl rfl (by decide) (by decide) hk9 hFc hP1 hD1
    have hP := hP.sub (ws' := [(hpl, .inr (5, [.ref hs])), (hs, .inl (cI, 256, .inl sm))]) [0, 1] rfl
    have hD := hD.sub (ws' := [(hpl, .inr (5, [.ref hs])), (hs, .inl (cI, 256, .inl sm))]) [0, 1] (by decide) rfl
    generalize H1 = H at hP hS ⊢
    exact W.iret (v := r15) hx hb hr (fun t9 ht9 hW9 => ⟨⟨r15, (), rfl, trivial, by rw [ht9]; exact hP, hD⟩, hS.F ht9⟩) hS.2.2 dX5_leftOf_18
  · have c1x : kB x 0 0 := kB_eq c1 kc_0
    refine lv_sipush (v := 129) hx hb dX5_leftOf_4 (by decide) ?_
    refine lv_goto (tgt := 18) hx hb dX5_leftOf_7 (by decide) ?_
    exact W.iret (v := 129) hx hb hr (fun t9 ht9 hW9 => ⟨⟨129, (), rfl, trivial, by rw [ht9]; exact hP, hD⟩, hS.F ht9⟩) hS.2.2 dX5_leftOf_18
abbrev kw_X5_corner : List Cond := Cond.code yX5_corner cX5_corner 3 (some .int) :: kW
set_option maxHeartbeats 4000000 in
set_option maxRecDepth 100000 in
theorem c_X5_corner (l : Launch) (D : va_G) (cI cJ cZ : ClassId) (hpl hs : Nat) (sm : Nat → Int32) (x : Int32) (y : Int32) (bx : kB x 0 15) (byy : kB y 0 15) (hpz : Nat) : Met l yX5_corner kw_X5_corner ({ frames := 2, cells := 0, slots := 0, locals := 44 }) (va_Pc [.ref hpl, .int x, .int y] (fun U => U.heap.size = hpz ∧ va_P D vwCl [(hpl, .inr (5, [.ref hs])), (hs, .inl (cI, 256, .inl sm))] U.heap ∧ kK D cI cJ cZ U ∧ va_D (fun _ => True) [(hpl, .inr (5, [.ref hs])), (hs, .inl (cI, 256, .inl sm))])) (va_Qi (fun (r : Int32) (u : Unit) => True) (fun (u : Unit) (t : State) => va_P D vwCl [(hpl, .inr (5, [.ref hs])), (hs, .inl (cI, 256, .inl sm))] t.heap ∧ va_D (va_A [(hpl, .inr (5, [.ref hs])), (hs, .inl (cI, 256, .inl sm))] hpz) [(hpl, .inr (5, [.ref hs])), (hs, .inl (cI, 256, .inl sm))]) (va_A [(hpl, .inr (5, [.ref hs])), (hs, .inl (cI, 256, .inl sm))] hpz)) 0 0 (va_A [(hpl, .inr (5, [.ref hs])), (hs, .inl (cI, 256, .inl sm))] hpz) := by
  refine Met.ofW (cc := cX5_corner) (maxL := 3) (ret := (some .int)) (by decide) rfl ?_
  intro p e s m args below meth c s₁ B hml hv
  obtain ⟨rfl, hsz, hP, hK, hD0⟩ := hv
  have hx := B.exec
  have hb := B.bytes
  have hr := B.returns
  have hts := fun (w : Cond) (h : w ∈ kW) => atoms_spec (ws := kw_X5_corner) B.pre w (List.mem_cons_of_mem _ h)
  have hown : s.vm.findClass RX5 = some m.cls := findClass_of_methodNamed B.named
  have hlocks := B.notSynchronized
  subst hsz
  have hD := hD0.self (sz := s.heap.size)
  generalize hAe : va_A [(hpl, .inr (5, [.ref hs])), (hs, .inl (cI, 256, .inl sm))] s.heap.size = A at hD ⊢
  have hA : ∀ q : Nat, s.heap.size ≤ q → A q := fun q h => by rw [← hAe]; exact Or.inr h
  have hS : va_S A s.heap s.heap [] := va_S.rf
  have hP : va_P D vwCl [(hpl, .inr (5, [.ref hs])), (hs, .inl (cI, 256, .inl sm))] s.heap := hP
  have hl := lv_entry ([.ref hpl, .int x, .int y]) (n := 3) (Nat.le_of_ble_eq_true rfl)
  rw [lg_entry_eq]
  generalize (lg_sl ([.ref hpl, .int x, .int y]) ++ List.replicate (3 - (lg_sl ([.ref hpl, .int x, .int y])).length) Slot.unset).toArray = ls at hl ⊢
  have hl : lv_has ls 3 [(0, .ref hpl), (1, .int x), (2, .int y)] := hl
  refine lv_iload_n hx hb dX5_corner_0 rfl (lv_at hl 2 rfl) ?_
  refine lv_if_ne (tgt := 9) hx hb dX5_corner_1 (by decide) (fun c1 => ?_) (fun c1 => ?_)
  · have c1x : kB y 1 15 := kB_nlo byy c1 kc_0 (by decide)
    refine lv_aload_n hx hb dX5_corner_9 rfl (lv_at hl 0 rfl) ?_
    refine lv_iload_n hx hb dX5_corner_10 rfl (lv_at hl 1 rfl) ?_
    refine lv_iload_n hx hb dX5_corner_11 rfl (lv_at hl 2 rfl) ?_
    refine lv_iconst (v := 1) hx hb dX5_corner_12 (by decide) ?_
    refine lv_isub hx hb dX5_corner_13 ?_
    refine lv_topi (fun v13 e13 => ?_)
    have b13 : kB v13 0 14 := kB_eq e13 (kB_sub c1x kc_1 (by decide))
    have hPc := hP.sub (ws' := [(hpl, .inr (5, [.ref hs])), (hs, .inl (cI, 256, .inl sm))]) [0, 1] rfl
    have hDc := hD.sub (ws' := [(hpl, .inr (5, [.ref hs])), (hs, .inl (cI, 256, .inl sm))]) [0, 1] (by decide) rfl
    have hFc := va_free (wc := [(hpl, .inr (5, [.ref hs])), (hs, .inl (cI, 256, .inl sm))]) hD hS hA [0, 1] rfl
    refine va_calli (va_runV (As := [.int x, .int v13]) (rest := []) ⟨hx, hb, hml, hown, hts⟩ (c_X5_leftOf l D cI cJ cZ hpl hs sm x v13 bx (kB_w b13 (by decide) (by decide)) (s.heap).size) (cwV 2 hts (kg_V mk_82 mk_83 mk_84 mk_80 mk_85) rfl rfl rfl (by decide +kernel) ⟨Nat.le_of_ble_eq_true rfl, Nat.le_of_ble_eq_true rfl⟩) ⟨fun a U g mk q => by obtain ⟨q0, q1, qP, qK, qD⟩ := q; exact ⟨q0, q1, qP, kK.call qK, qD⟩, va_recv hK.1 hPc (ci := 5) (q0 := 0) rfl rfl, fun U hU hW => ⟨rfl, by rw [hU], by rw [hU]; exact hPc, kK.warm hW hK, hDc.weaken (fun _ _ _ _ => trivial)⟩⟩ rfl rfl hl.1 rfl (lv_room (Nat.le_of_ble_eq_true rfl)) dX5_corner_14 ⟨Nat.zero_le _, Nat.zero_le _⟩) hS (fun q _ h => hFc q h) hFc (fun r14 u t9 H1 locs ht9 hvm9 hw9 hB9 hz9 hk9 hS => ?_)
    obtain ⟨hP1, hD1⟩ := hB9
    rw [ht9] at hP1
    have hP1 : va_P D vwCl [(hpl, .inr (5, [.ref hs])), (hs, .inl (cI, 256, .inl sm))] H1 := hP1
    obtain ⟨hP, hD⟩ := va_join (wr := []) (w1 := [(hpl, .inr (5, [.ref hs])), (hs, .inl (cI, 256, .inl sm))]) hP hD [0, 1] [] rfl rfl (by decide) (by decide) hk9 hFc hP1 hD1
    have hP := hP.sub (ws' := [(hpl, .inr (5, [.ref hs])), (hs, .inl (cI, 256, .inl sm))]) [0, 1] rfl
    have hD := hD.sub (ws' := [(hpl, .inr (5, [.ref hs])), (hs, .inl (cI, 256, .inl sm))]) [0, 1] (by decide) rfl
    generalize H1 = H at hP hS ⊢
    exact W.iret (v := r14) hx hb hr (fun t9 ht9 hW9 => ⟨⟨r14, (), rfl, trivial, by rw [ht9]; exact hP, hD⟩, hS.F ht9⟩) hS.2.2 dX5_corner_17
  · have c1x : kB y 0 0 := kB_eq c1 kc_0
    refine lv_bipush (v := 127) hx hb dX5_corner_4 (by decide) ?_
    refine lv_goto (tgt := 17) hx hb dX5_corner_6 (by decide) ?_
    exact W.iret (v := 127) hx hb hr (fun t9 ht9 hW9 => ⟨⟨127, (), rfl, trivial, by rw [ht9]; exact hP, hD⟩, hS.F ht9⟩) hS.2.2 dX5_corner_17
abbrev kw_X5_evenOf : List Cond := Cond.code yX5_evenOf cX5_evenOf 5 (some .int) :: kW
set_option maxHeartbeats 4000000 in
set_option maxRecDepth 100000 in
theorem lp_X5_evenOf_5 {p : Program} {l : Launch} {e : Env} {s : State} {m : MethodId} {args : Array Value} {below : List Frame} {meth : Method} {c : Code} {A : Nat → Prop} (D : va_G) (cI cJ cZ : ClassId) (hpl hs : Nat) (sm : Nat → Int32) (x : Int32) (y : Int32) (bx : kB x 0 12) (byy : kB y 0 12) (hx : p.tables.exec = Jvm.exec) (hb : c.code = cX5_evenOf) (hr : meth.sig.returnType = (some .int)) (hml : c.maxLocals = 5) (hown : s.vm.findClass RX5 = some m.cls) (hts : ∀ w ∈ kW, w.before args s = true) (hlocks : meth.locks = false) (hK : kK D cI cJ cZ s) (hA : ∀ q : Nat, s.heap.size ≤ q → A q) : ∀ n : Nat, ∀ (x3 : Int32) (x4 : Int32), (4 - x4.toInt).toNat < n → (kB x4 0 4) → ∀ (H : Heap) (locs : List Loc) (ls : Array Slot), va_P D vwCl [(hpl, .inr (5, [.ref hs])), (hs, .inl (cI, 256, .inl sm))] H → va_D A [(hpl, .inr (5, [.ref hs])), (hs, .inl (cI, 256, .inl sm))] → va_S A s.heap H locs → lv_has ls 5 [(0, .ref hpl), (1, .int x), (2, .int y), (3, .int x3), (4, .int x4)] → W p l e (headSpec kw_X5_evenOf ({ frames := 2, cells := 0, slots := 0, locals := 44 })).room s m args below meth c H locs 0 0 (MQ below (va_Qi (fun (r : Int32) (u : Unit) => True) (fun (u : Unit) (t : State) => va_P D vwCl [(hpl, .inr (5, [.ref hs])), (hs, .inl (cI, 256, .inl sm))] t.heap ∧ va_D A [(hpl, .inr (5, [.ref hs])), (hs, .inl (cI, 256, .inl sm))]) A) args s 0 0 A) (F0 m 5 ls []) := by
  intro n
  induction n with
  | zero => intro x3 x4 hmeas; exact absurd hmeas (Nat.not_lt_zero _)
  | succ n ih =>
    intro x3 x4 hmeas b4 H locs ls hP hD hS hl
    refine lv_iload hx hb dX5_evenOf_5 (lv_at hl 4 rfl) ?_
    refine lv_iconst (v := 4) hx hb dX5_evenOf_7 (by decide) ?_
    refine lv_icmp_ge (tgt := 39) hx hb dX5_evenOf_8 (by decide) (fun c8 => ?_) (fun c8 => ?_)
    · have c8y : kB x4 4 4 := kB_le_r kc_4 b4 c8 (by decide)
      refine lv_iload_n hx hb dX5_evenOf_39 rfl (lv_at hl 3 rfl) ?_
      refine lv_bipush (v := 8) hx hb dX5_evenOf_40 (by decide) ?_
      refine lv_idiv hx hb dX5_evenOf_42 (kB_ne0 kc_8 (Or.inl (by decide))) ?_
      refine lv_topi (fun v42 e42 => ?_)
      exact W.iret (v := v42) hx hb hr (fun t9 ht9 hW9 => ⟨⟨v42, (), rfl, trivial, by rw [ht9]; exact hP, hD⟩, hS.F ht9⟩) hS.2.2 dX5_evenOf_43
    · have c8n : x4 < 4 := kN_le c8
      have c8nx : kB x4 0 3 := kB_lt_l b4 kc_4 c8n (by decide)
      refine lv_iload_n hx hb dX5_evenOf_11 rfl (lv_at hl 3 rfl) ?_
      refine lv_aload_n hx hb dX5_evenOf_12 rfl (lv_at hl 0 rfl) ?_
      refine lv_iload_n hx hb dX5_evenOf_13 rfl (lv_at hl 1 rfl) ?_
      refine lv_iload hx hb dX5_evenOf_14 (lv_at hl 4 rfl) ?_
      refine lv_iadd hx hb dX5_evenOf_16 ?_
      refine lv_topi (fun v16 e16 => ?_)
      have b16 : kB v16 0 15 := kB_eq e16 (kB_add bx c8nx (by decide))
      refine lv_iload_n hx hb dX5_evenOf_17 rfl (lv_at hl 2 rfl) ?_
      have hPc := hP.sub (ws' := [(hpl, .inr (5, [.ref hs])), (hs, .inl (cI, 256, .inl sm))]) [0, 1] rfl
      have hDc := hD.sub (ws' := [(hpl, .inr (5, [.ref hs])), (hs, .inl (cI, 256, .inl sm))]) [0, 1] (by decide) rfl
      have hFc := va_free (wc := [(hpl, .inr (5, [.ref hs])), (hs, .inl (cI, 256, .inl sm))]) hD hS hA [0, 1] rfl
      refine va_calli (va_runV (As := [.int v16, .int y]) (rest := [.int x3]) ⟨hx, hb, hml, hown, hts⟩ (c_X5_above l D cI cJ cZ hpl hs sm v16 y b16 (kB_w byy (by decide) (by decide)) (H).size) (cwV 2 hts (kg_V mk_86 mk_87 mk_88 mk_80 mk_89) rfl rfl rfl (by decide +kernel) ⟨Nat.le_of_ble_eq_true rfl, Nat.le_of_ble_eq_true rfl⟩) ⟨fun a U g mk q => by obtain ⟨q0, q1, qP, qK, qD⟩ := q; exact ⟨q0, q1, qP, kK.call qK, qD⟩, va_recv hK.1 hPc (ci := 5) (q0 := 0) rfl rfl, fun U hU hW => ⟨rfl, by rw [hU], by rw [hU]; exact hPc, kK.warm hW hK, hDc.weaken (fun _ _ _ _ => trivial)⟩⟩ rfl rfl hl.1 rfl (lv_room (Nat.le_of_ble_eq_true rfl)) dX5_evenOf_18 ⟨Nat.zero_le _, Nat.zero_le _⟩) hS (fun q _ h => hFc q h) hFc (fun r18 u t9 H1 locs ht9 hvm9 hw9 hB9 hz9 hk9 hS => ?_)
      obtain ⟨hP1, hD1⟩ := hB9
      rw [ht9] at hP1
      have hP1 : va_P D vwCl [(hpl, .inr (5, [.ref hs])), (hs, .inl (cI, 256, .inl sm))] H1 := hP1
      obtain ⟨hP, hD⟩ := va_join (wr := []) (w1 := [(hpl, .inr (5, [.ref hs])), (hs, .inl (cI, 256, .inl sm))]) hP hD [0, 1] [] rfl rfl (by decide) (by decide) hk9 hFc hP1 hD1
      have hP := hP.sub (ws' := [(hpl, .inr (5, [.ref hs])), (hs, .inl (cI, 256, .inl sm))]) [0, 1] rfl
      have hD := hD.sub (ws' := [(hpl, .inr (5, [.ref hs])), (hs, .inl (cI, 256, .inl sm))]) [0, 1] (by decide) rfl
      generalize H1 = H at hP hS ⊢
      refine lv_aload_n hx hb dX5_evenOf_21 rfl (lv_at hl 0 rfl) ?_
      refine lv_iload_n hx hb dX5_evenOf_22 rfl (lv_at hl 1 rfl) ?_
      refine lv_iload_n hx hb dX5_evenOf_23 rfl (lv_at hl 2 rfl) ?_
      refine lv_iload hx hb dX5_evenOf_24 (lv_at hl 4 rfl) ?_
      refine lv_iadd hx hb dX5_evenOf_26 ?_
      refine lv_topi (fun v26 e26 => ?_)
      have b26 : kB v26 0 15 := kB_eq e26 (kB_add byy c8nx (by decide))
      have hPc := hP.sub (ws' := [(hpl, .inr (5, [.ref hs])), (hs, .inl (cI, 256, .inl sm))]) [0, 1] rfl
      have hDc := hD.sub (ws' := [(hpl, .inr (5, [.ref hs])), (hs, .inl (cI, 256, .inl sm))]) [0, 1] (by decide) rfl
      have hFc := va_free (wc := [(hpl, .inr (5, [.ref hs])), (hs, .inl (cI, 256, .inl sm))]) hD hS hA [0, 1] rfl
      refine va_calli (va_runV (As := [.int x, .int v26]) (rest := [.int r18, .int x3]) ⟨hx, hb, hml, hown, hts⟩ (c_X5_leftOf l D cI cJ cZ hpl hs sm x v26 (kB_w bx (by decide) (by decide)) b26 (H).size) (cwV 2 hts (kg_V mk_82 mk_83 mk_84 mk_80 mk_85) rfl rfl rfl (by decide +kernel) ⟨Nat.le_of_ble_eq_true rfl, Nat.le_of_ble_eq_true rfl⟩) ⟨fun a U g mk q => by obtain ⟨q0, q1, qP, qK, qD⟩ := q; exact ⟨q0, q1, qP, kK.call qK, qD⟩, va_recv hK.1 hPc (ci := 5) (q0 := 0) rfl rfl, fun U hU hW => ⟨rfl, by rw [hU], by rw [hU]; exact hPc, kK.warm hW hK, hDc.weaken (fun _ _ _ _ => trivial)⟩⟩ rfl rfl hl.1 rfl (lv_room (Nat.le_of_ble_eq_true rfl)) dX5_evenOf_27 ⟨Nat.zero_le _, Nat.zero_le _⟩) hS (fun q _ h => hFc q h) hFc (fun r27 u t9 H1 locs ht9 hvm9 hw9 hB9 hz9 hk9 hS => ?_)
      obtain ⟨hP1, hD1⟩ := hB9
      rw [ht9] at hP1
      have hP1 : va_P D vwCl [(hpl, .inr (5, [.ref hs])), (hs, .inl (cI, 256, .inl sm))] H1 := hP1
      obtain ⟨hP, hD⟩ := va_join (wr := []) (w1 := [(hpl, .inr (5, [.ref hs])), (hs, .inl (cI, 256, .inl sm))]) hP hD [0, 1] [] rfl rfl (by decide) (by decide) hk9 hFc hP1 hD1
      have hP := hP.sub (ws' := [(hpl, .inr (5, [.ref hs])), (hs, .inl (cI, 256, .inl sm))]) [0, 1] rfl
      have hD := hD.sub (ws' := [(hpl, .inr (5, [.ref hs])), (hs, .inl (cI, 256, .inl sm))]) [0, 1] (by decide) rfl
      generalize H1 = H at hP hS ⊢
      refine lv_iadd hx hb dX5_evenOf_30 ?_
      refine lv_topi (fun v30 e30 => ?_)
      refine lv_iadd hx hb dX5_evenOf_31 ?_
      refine lv_topi (fun v31 e31 => ?_)
      refine lv_istore_n (lv' := [(3, .int v31), (0, .ref hpl), (1, .int x), (2, .int y), (4, .int x4)]) hx hb dX5_evenOf_32 rfl hl (by decide) rfl (fun ls hl => ?_)
      obtain ⟨v33, e33⟩ : ∃ y : Int32, y = x4 + 1 := ⟨_, rfl⟩
      refine lv_iinc (v := v33) (lv' := [(4, .int v33), (3, .int v31), (0, .ref hpl), (1, .int x), (2, .int y)]) hx hb dX5_evenOf_33 hl (k := 4) rfl (by rw [e33]; rfl) (by decide) rfl (fun ls hl => ?_)
      have b33 : kB v33 1 4 := kB_eq e33 (kB_add c8nx kc_1 (by decide))
      have t33 : v33.toInt = x4.toInt + 1 := by rw [e33]; exact kinc (kB_w c8nx (by decide) (by decide))
      refine lv_goto (tgt := 5) hx hb dX5_evenOf_36 (by decide) ?_
      exact ih v31 v33 (by have := b33.1; have := b33.2; have := c8nx.1; have := c8nx.2; omega) (kB_w b33 (by decide) (by decide)) _ _ ls hP hD hS (lv_sub hl [2, 3, 4, 1, 0] rfl)
set_option maxHeartbeats 4000000 in
set_option maxRecDepth 100000 in
theorem c_X5_evenOf (l : Launch) (D : va_G) (cI cJ cZ : ClassId) (hpl hs : Nat) (sm : Nat → Int32) (x : Int32) (y : Int32) (bx : kB x 0 12) (byy : kB y 0 12) (hpz : Nat) : Met l yX5_evenOf kw_X5_evenOf ({ frames := 2, cells := 0, slots := 0, locals := 44 }) (va_Pc [.ref hpl, .int x, .int y] (fun U => U.heap.size = hpz ∧ va_P D vwCl [(hpl, .inr (5, [.ref hs])), (hs, .inl (cI, 256, .inl sm))] U.heap ∧ kK D cI cJ cZ U ∧ va_D (fun _ => True) [(hpl, .inr (5, [.ref hs])), (hs, .inl (cI, 256, .inl sm))])) (va_Qi (fun (r : Int32) (u : Unit) => True) (fun (u : Unit) (t : State) => va_P D vwCl [(hpl, .inr (5, [.ref hs])), (hs, .inl (cI, 256, .inl sm))] t.heap ∧ va_D (va_A [(hpl, .inr (5, [.ref hs])), (hs, .inl (cI, 256, .inl sm))] hpz) [(hpl, .inr (5, [.ref hs])), (hs, .inl (cI, 256, .inl sm))]) (va_A [(hpl, .inr (5, [.ref hs])), (hs, .inl (cI, 256, .inl sm))] hpz)) 0 0 (va_A [(hpl, .inr (5, [.ref hs])), (hs, .inl (cI, 256, .inl sm))] hpz) := by
  refine Met.ofW (cc := cX5_evenOf) (maxL := 5) (ret := (some .int)) (by decide) rfl ?_
  intro p e s m args below meth c s₁ B hml hv
  obtain ⟨rfl, hsz, hP, hK, hD0⟩ := hv
  have hx := B.exec
  have hb := B.bytes
  have hr := B.returns
  have hts := fun (w : Cond) (h : w ∈ kW) => atoms_spec (ws := kw_X5_evenOf) B.pre w (List.mem_cons_of_mem _ h)
  have hown : s.vm.findClass RX5 = some m.cls := findClass_of_methodNamed B.named
  have hlocks := B.notSynchronized
  subst hsz
  have hD := hD0.self (sz := s.heap.size)
  generalize hAe : va_A [(hpl, .inr (5, [.ref hs])), (hs, .inl (cI, 256, .inl sm))] s.heap.size = A at hD ⊢
  have hA : ∀ q : Nat, s.heap.size ≤ q → A q := fun q h => by rw [← hAe]; exact Or.inr h
  have hS : va_S A s.heap s.heap [] := va_S.rf
  have hP : va_P D vwCl [(hpl, .inr (5, [.ref hs])), (hs, .inl (cI, 256, .inl sm))] s.heap := hP
  have hl := lv_entry ([.ref hpl, .int x, .int y]) (n := 5) (Nat.le_of_ble_eq_true rfl)
  rw [lg_entry_eq]
  generalize (lg_sl ([.ref hpl, .int x, .int y]) ++ List.replicate (5 - (lg_sl ([.ref hpl, .int x, .int y])).length) Slot.unset).toArray = ls at hl ⊢
  have hl : lv_has ls 5 [(0, .ref hpl), (1, .int x), (2, .int y)] := hl
  refine lv_iconst (v := 4) hx hb dX5_evenOf_0 (by decide) ?_
  refine lv_istore_n (lv' := [(3, .int 4), (0, .ref hpl), (1, .int x), (2, .int y)]) hx hb dX5_evenOf_1 rfl hl (by decide) rfl (fun ls hl => ?_)
  refine lv_iconst (v := 0) hx hb dX5_evenOf_2 (by decide) ?_
  refine lv_istore (lv' := [(4, .int 0), (3, .int 4), (0, .ref hpl), (1, .int x), (2, .int y)]) hx hb dX5_evenOf_3 hl (by decide) rfl (fun ls hl => ?_)
  exact lp_X5_evenOf_5 D cI cJ cZ hpl hs sm x y bx byy hx hb hr hml hown hts hlocks hK hA ((4 - (0 : Int32).toInt).toNat + 1) 4 0 (Nat.lt_succ_self _) (kB_w kc_0 (by decide) (by decide)) _ _ ls hP hD hS (lv_sub hl [2, 3, 4, 1, 0] rfl)
abbrev kw_X5_rebuild : List Cond := Cond.code yX5_rebuild cX5_rebuild 11 none :: kW
set_option maxHeartbeats 4000000 in
set_option maxRecDepth 100000 in
theorem lp_X5_rebuild_19 {p : Program} {l : Launch} {e : Env} {s : State} {m : MethodId} {args : Array Value} {below : List Frame} {meth : Method} {c : Code} {A : Nat → Prop} (D : va_G) (cI cJ cZ : ClassId) (hpl hs hg : Nat) (sm : Nat → Int32) (x : Int32) (y : Int32) (wy : Int32) (g : Nat → Int64) (bx : kB x 0 12) (byy : kB y 0 12) (hx : p.tables.exec = Jvm.exec) (hb : c.code = cX5_rebuild) (hr : meth.sig.returnType = none) (hml : c.maxLocals = 11) (hown : s.vm.findClass RX5 = some m.cls) (hts : ∀ w ∈ kW, w.before args s = true) (hlocks : meth.locks = false) (hK : kK D cI cJ cZ s) (hA : ∀ q : Nat, s.heap.size ≤ q → A q) : ∀ n : Nat, ∀ (x5 : Int32) (x6 : Int32) (x7 : Int32) (sm2 : Nat → Int32), (16 - x7.toInt).toNat < n → (kB x7 0 16) → ∀ (H : Heap) (locs : List Loc) (ls : Array Slot), va_P D vwCl [(hpl, .inr (5, [.ref hs])), (hs, .inl (cI, 256, .inl sm2)), (hg, .inl (cJ, 16, .inr (.inl g)))] H → va_D A [(hpl, .inr (5, [.ref hs])), (hs, .inl (cI, 256, .inl sm2)), (hg, .inl (cJ, 16, .inr (.inl g)))] → va_S A s.heap H locs → lv_has ls 11 [(0, .ref hpl), (1, .int x), (2, .int y), (3, .int wy), (4, .ref hg), (5, .int x5), (6, .int x6), (7, .int x7)] → W p l e (headSpec kw_X5_rebuild ({ frames := 3, cells := 0, slots := 0, locals := 68 })).room s m args below meth c H locs 0 0 (MQ below (va_Qv (fun (u : (Nat → Int32)) => True) (fun (u : (Nat → Int32)) (t : State) => va_P D vwCl [(hpl, .inr (5, [.ref hs])), (hs, .inl (cI, 256, .inl u)), (hg, .inl (cJ, 16, .inr (.inl g)))] t.heap ∧ va_D A [(hpl, .inr (5, [.ref hs])), (hs, .inl (cI, 256, .inl u)), (hg, .inl (cJ, 16, .inr (.inl g)))]) A) args s 0 0 A) (F0 m 19 ls []) := by
  intro n
  induction n with
  | zero => intro x5 x6 x7 sm2 hmeas; exact absurd hmeas (Nat.not_lt_zero _)
  | succ n ih =>
    intro x5 x6 x7 sm2 hmeas b7 H locs ls hP hD hS hl
    refine lv_iload hx hb dX5_rebuild_19 (lv_at hl 7 rfl) ?_
    refine lv_bipush (v := 16) hx hb dX5_rebuild_21 (by decide) ?_
    refine lv_icmp_ge (tgt := 148) hx hb dX5_rebuild_23 (by decide) (fun c23 => ?_) (fun c23 => ?_)
    · have c23y : kB x7 16 16 := kB_le_r kc_16 b7 c23 (by decide)
      exact W.vret hx hb hr (fun t9 ht9 hW9 => ⟨⟨sm2, rfl, trivial, by rw [ht9]; exact hP, hD⟩, hS.F ht9⟩) hS.2.2 dX5_rebuild_148
    · have c23n : x7 < 16 := kN_le c23
      have c23nx : kB x7 0 15 := kB_lt_l b7 kc_16 c23n (by decide)
      refine lv_iload_n hx hb dX5_rebuild_26 rfl (lv_at hl 1 rfl) ?_
      refine lv_iload hx hb dX5_rebuild_27 (lv_at hl 7 rfl) ?_
      refine lv_iconst (v := 4) hx hb dX5_rebuild_29 (by decide) ?_
      refine lv_irem hx hb dX5_rebuild_30 (kB_ne0 kc_4 (Or.inl (by decide))) ?_
      refine lv_topi (fun v30 e30 => ?_)
      have b30 : kB v30 0 3 := kB_eq e30 (kB_rem c23nx kc_4 (by decide))
      refine lv_iadd hx hb dX5_rebuild_31 ?_
      refine lv_topi (fun v31 e31 => ?_)
      have b31 : kB v31 0 15 := kB_eq e31 (kB_add bx b30 (by decide))
      refine lv_istore (lv' := [(8, .int v31), (0, .ref hpl), (1, .int x), (2, .int y), (3, .int wy), (4, .ref hg), (5, .int x5), (6, .int x6), (7, .int x7)]) hx hb dX5_rebuild_32 hl (by decide) rfl (fun ls hl => ?_)
      refine lv_iload_n hx hb dX5_rebuild_34 rfl (lv_at hl 3 rfl) ?_
      refine lv_iload hx hb dX5_rebuild_35 (lv_at hl 8 rfl) ?_
      refine lv_iconst (v := 4) hx hb dX5_rebuild_37 (by decide) ?_
      refine lv_idiv hx hb dX5_rebuild_38 (kB_ne0 kc_4 (Or.inl (by decide))) ?_
      refine lv_topi (fun v38 e38 => ?_)
      have b38 : kB v38 0 3 := kB_eq e38 (kB_div c23nx kc_4 (by decide))
      refine lv_iadd hx hb dX5_rebuild_39 ?_
      refine lv_topi (fun v39 e39 => ?_)
      have b39 : kB v39 0 15 := kB_eq e39 (kB_add byy b38 (by decide))
      refine lv_istore (lv' := [(9, .int v39), (8, .int v31), (0, .ref hpl), (1, .int x), (2, .int y), (3, .int wy), (4, .ref hg), (5, .int x5), (6, .int x6), (7, .int x7)]) hx hb dX5_rebuild_40 hl (by decide) rfl (fun ls hl => ?_)
      refine lv_iload hx hb dX5_rebuild_42 (lv_at hl 7 rfl) ?_
      refine lv_istore (lv' := [(10, .int x5), (9, .int v39), (8, .int v31), (0, .ref hpl), (1, .int x), (2, .int y), (3, .int wy), (4, .ref hg), (5, .int x5), (6, .int x6), (7, .int x7)]) hx hb dX5_rebuild_44 hl (by decide) rfl (fun ls hl => ?_)
      refine lv_iload_n hx hb dX5_rebuild_46 rfl (lv_at hl 6 rfl) ?_
      refine lv_iconst (v := 1) hx hb dX5_rebuild_47 (by decide) ?_
      refine lv_icmp_ne (tgt := 63) hx hb dX5_rebuild_48 (by decide) (fun c48 => ?_) (fun c48 => ?_)
      · refine lv_iload_n hx hb dX5_rebuild_63 rfl (lv_at hl 6 rfl) ?_
        refine lv_iconst (v := 2) hx hb dX5_rebuild_64 (by decide) ?_
        refine lv_icmp_ne (tgt := 80) hx hb dX5_rebuild_65 (by decide) (fun c65 => ?_) (fun c65 => ?_)
        · refine lv_iload_n hx hb dX5_rebuild_80 rfl (lv_at hl 6 rfl) ?_
          refine lv_iconst (v := 3) hx hb dX5_rebuild_81 (by decide) ?_
          refine lv_icmp_ne (tgt := 113) hx hb dX5_rebuild_82 (by decide) (fun c82 => ?_) (fun c82 => ?_)
          · refine lv_aload_n hx hb dX5_rebuild_113 rfl (lv_at hl 3 rfl) ?_
            refine va_get (D := D) (ci := 5) (v := .ref hs) (C := RX5) (T := TX5) (N := 1) hx hb hts in_X5 hown hK.1 hP 0 rfl rfl 0 (by decide) (hts _ mk_76) (fun _ h9 => h9) rfl dX5_rebuild_114 ?_
            refine lv_iload hx hb dX5_rebuild_117 (lv_at hl 1 rfl) ?_
            refine lv_bipush (v := 16) hx hb dX5_rebuild_119 (by decide) ?_
            refine lv_imul hx hb dX5_rebuild_121 ?_
            refine lv_topi (fun v121 e121 => ?_)
            have b121 : kB v121 0 240 := kB_eq e121 (kB_mulc b39 kc_16 (by decide))
            refine lv_iload hx hb dX5_rebuild_122 (lv_at hl 2 rfl) ?_
            refine lv_iadd hx hb dX5_rebuild_124 ?_
            refine lv_topi (fun v124 e124 => ?_)
            have b124 : kB v124 0 255 := kB_eq e124 (kB_add b121 b31 (by decide))
            refine lv_iload hx hb dX5_rebuild_125 (lv_at hl 0 rfl) ?_
            refine lv_i2l hx hb dX5_rebuild_127 rfl ?_
            refine lv_topl (fun v127 e127 => ?_)
            refine lv_aload hx hb dX5_rebuild_128 (lv_at hl 7 rfl) ?_
            refine lv_iload hx hb dX5_rebuild_130 (lv_at hl 10 rfl) ?_
            refine va_lald hx hb hK.1 hP 2 1 rfl rfl (kB_in c23nx (by decide)) dX5_rebuild_132 ?_
            refine lv_topl (fun v132 e132 => ?_)
            refine lv_ladd hx hb dX5_rebuild_133 ?_
            refine lv_topl (fun v133 e133 => ?_)
            refine lv_iconst (v := 0) hx hb dX5_rebuild_134 (by decide) ?_
            refine lv_sipush (v := 255) hx hb dX5_rebuild_135 (by decide) ?_
            have hPc := hP.sub (ws' := []) [] rfl
            have hDc := hD.sub (ws' := []) [] (by decide) rfl
            have hFc := va_free (wc := []) hD hS hA [] rfl
            refine va_calli (va_runSN (As := [.long v133, .int 0, .int 255]) (rest := [.int v124, .ref hs]) ⟨hx, hb, hml, hown, hts⟩ (c_X7_within l D cI cJ cZ v133 0 255 (H).size) (⟨va_cnB 3 hts (kg_N mk_98) rfl rfl rfl (hK.2 (.methodLinkNest RX5 31 yX7_within "KeyFrames") (by decide +kernel)) (hts _ mk_13) (by decide +kernel) ⟨Nat.le_of_ble_eq_true rfl, Nat.le_of_ble_eq_true rfl⟩, (hts _ mk_99), trivial⟩) ⟨fun a U g mk q => by obtain ⟨q0, q1, qP, qK, qD⟩ := q; exact ⟨q0, q1, qP, kK.call qK, qD⟩, fun U hU hW => ⟨rfl, by rw [hU], by rw [hU]; exact hPc, kK.warm hW hK, hDc.weaken (fun _ _ _ _ => trivial)⟩⟩ rfl rfl hl.1 rfl (lv_room (Nat.le_of_ble_eq_true rfl)) dX5_rebuild_138 ⟨Nat.zero_le _, Nat.zero_le _⟩) hS (fun q _ h => hFc q h) hFc (fun r138 u t9 H1 locs ht9 hvm9 hw9 hB9 hz9 hk9 hS => ?_)
            obtain ⟨hP1, hD1⟩ := hB9
            rw [ht9] at hP1
            have hP1 : va_P D vwCl [] H1 := hP1
            obtain ⟨hP, hD⟩ := va_join (wr := [(hpl, .inr (5, [.ref hs])), (hs, .inl (cI, 256, .inl sm2)), (hg, .inl (cJ, 16, .inr (.inl g)))]) (w1 := []) hP hD [] [0, 1, 2] rfl rfl (by decide) (by decide) hk9 hFc hP1 hD1
            have hP := hP.sub (ws' := [(hpl, .inr (5, [.ref hs])), (hs, .inl (cI, 256, .inl sm2)), (hg, .inl (cJ, 16, .inr (.inl g)))]) [0, 1, 2] rfl
            have hD := hD.sub (ws' := [(hpl, .inr (5, [.ref hs])), (hs, .inl (cI, 256, .inl sm2)), (hg, .inl (cJ, 16, .inr (.inl g)))]) [0, 1, 2] (by decide) rfl
            generalize H1 = H at hP hS ⊢
            refine va_iast hx hb hK.1 hP hD hS 1 0 rfl rfl (kB_in b124 (by decide)) dX5_rebuild_141 (fun H locs hP hD hS => ?_)
            have hP : va_P D vwCl [(hpl, .inr (5, [.ref hs])), (hs, .inl (cI, 256, .inl (upd sm2 v124.toNatClampNeg r138))), (hg, .inl (cJ, 16, .inr (.inl g)))] H := hP
            have hD : va_D A [(hpl, .inr (5, [.ref hs])), (hs, .inl (cI, 256, .inl (upd sm2 v124.toNatClampNeg r138))), (hg, .inl (cJ, 16, .inr (.inl g)))] := hD
            generalize hf141 : upd sm2 v124.toNatClampNeg r138 = f141 at hP hD
            obtain ⟨v142, e142⟩ : ∃ y : Int32, y = x7 + 1 := ⟨_, rfl⟩
            refine lv_iinc (v := v142) (lv' := [(7, .int v142), (10, .int x5), (9, .int v39), (8, .int v31), (0, .ref hpl), (1, .int x), (2, .int y), (3, .int wy), (4, .ref hg), (5, .int x5), (6, .int x6)]) hx hb dX5_rebuild_142 hl (k := 10) rfl (by rw [e142]; rfl) (by decide) rfl (fun ls hl => ?_)
            have b142 : kB v142 1 16 := kB_eq e142 (kB_add c23nx kc_1 (by decide))
            have t142 : v142.toInt = x7.toInt + 1 := by rw [e142]; exact kinc (kB_w c23nx (by decide) (by decide))
            refine lv_goto (tgt := 19) hx hb dX5_rebuild_145 (by decide) ?_
            exact ih x5 x6 v142 f141 (by have := b142.1; have := b142.2; have := c23nx.1; have := c23nx.2; omega) (kB_w b142 (by decide) (by decide)) _ _ ls hP hD hS (lv_sub hl [4, 5, 6, 7, 8, 9, 10, 0] rfl)
          · have c82x : kB wy 3 3 := kB_eq c82 kc_3
            refine lv_aload_n hx hb dX5_rebuild_85 rfl (lv_at hl 3 rfl) ?_
            refine lv_iload_n hx hb dX5_rebuild_86 rfl (lv_at hl 4 rfl) ?_
            refine lv_iload hx hb dX5_rebuild_87 (lv_at hl 1 rfl) ?_
            have hPc := hP.sub (ws' := [(hpl, .inr (5, [.ref hs])), (hs, .inl (cI, 256, .inl sm2))]) [0, 1] rfl
            have hDc := hD.sub (ws' := [(hpl, .inr (5, [.ref hs])), (hs, .inl (cI, 256, .inl sm2))]) [0, 1] (by decide) rfl
            have hFc := va_free (wc := [(hpl, .inr (5, [.ref hs])), (hs, .inl (cI, 256, .inl sm2))]) hD hS hA [0, 1] rfl
            refine va_calli (va_runV (As := [.int x, .int v39]) (rest := []) ⟨hx, hb, hml, hown, hts⟩ (c_X5_leftOf l D cI cJ cZ hpl hs sm2 x v39 (kB_w bx (by decide) (by decide)) b39 (H).size) (cwV 2 hts (kg_V mk_82 mk_83 mk_84 mk_80 mk_85) rfl rfl rfl (by decide +kernel) ⟨Nat.le_of_ble_eq_true rfl, Nat.le_of_ble_eq_true rfl⟩) ⟨fun a U g mk q => by obtain ⟨q0, q1, qP, qK, qD⟩ := q; exact ⟨q0, q1, qP, kK.call qK, qD⟩, va_recv hK.1 hPc (ci := 5) (q0 := 0) rfl rfl, fun U hU hW => ⟨rfl, by rw [hU], by rw [hU]; exact hPc, kK.warm hW hK, hDc.weaken (fun _ _ _ _ => trivial)⟩⟩ rfl rfl hl.1 rfl (lv_room (Nat.le_of_ble_eq_true rfl)) dX5_rebuild_89 ⟨Nat.zero_le _, Nat.zero_le _⟩) hS (fun q _ h => hFc q h) hFc (fun r89 u t9 H1 locs ht9 hvm9 hw9 hB9 hz9 hk9 hS => ?_)
            obtain ⟨hP1, hD1⟩ := hB9
            rw [ht9] at hP1
            have hP1 : va_P D vwCl [(hpl, .inr (5, [.ref hs])), (hs, .inl (cI, 256, .inl sm2))] H1 := hP1
            obtain ⟨hP, hD⟩ := va_join (wr := [(hg, .inl (cJ, 16, .inr (.inl g)))]) (w1 := [(hpl, .inr (5, [.ref hs])), (hs, .inl (cI, 256, .inl sm2))]) hP hD [0, 1] [2] rfl rfl (by decide) (by decide) hk9 hFc hP1 hD1
            have hP := hP.sub (ws' := [(hpl, .inr (5, [.ref hs])), (hs, .inl (cI, 256, .inl sm2)), (hg, .inl (cJ, 16, .inr (.inl g)))]) [1, 2, 0] rfl
            have hD := hD.sub (ws' := [(hpl, .inr (5, [.ref hs])), (hs, .inl (cI, 256, .inl sm2)), (hg, .inl (cJ, 16, .inr (.inl g)))]) [1, 2, 0] (by decide) rfl
            generalize H1 = H at hP hS ⊢
            refine lv_aload_n hx hb dX5_rebuild_92 rfl (lv_at hl 3 rfl) ?_
            refine lv_iload hx hb dX5_rebuild_93 (lv_at hl 2 rfl) ?_
            refine lv_iload_n hx hb dX5_rebuild_95 rfl (lv_at hl 5 rfl) ?_
            have hPc := hP.sub (ws' := [(hpl, .inr (5, [.ref hs])), (hs, .inl (cI, 256, .inl sm2))]) [0, 1] rfl
            have hDc := hD.sub (ws' := [(hpl, .inr (5, [.ref hs])), (hs, .inl (cI, 256, .inl sm2))]) [0, 1] (by decide) rfl
            have hFc := va_free (wc := [(hpl, .inr (5, [.ref hs])), (hs, .inl (cI, 256, .inl sm2))]) hD hS hA [0, 1] rfl
            refine va_calli (va_runV (As := [.int v31, .int y]) (rest := [.int r89]) ⟨hx, hb, hml, hown, hts⟩ (c_X5_above l D cI cJ cZ hpl hs sm2 v31 y b31 (kB_w byy (by decide) (by decide)) (H).size) (cwV 2 hts (kg_V mk_86 mk_87 mk_88 mk_80 mk_89) rfl rfl rfl (by decide +kernel) ⟨Nat.le_of_ble_eq_true rfl, Nat.le_of_ble_eq_true rfl⟩) ⟨fun a U g mk q => by obtain ⟨q0, q1, qP, qK, qD⟩ := q; exact ⟨q0, q1, qP, kK.call qK, qD⟩, va_recv hK.1 hPc (ci := 5) (q0 := 0) rfl rfl, fun U hU hW => ⟨rfl, by rw [hU], by rw [hU]; exact hPc, kK.warm hW hK, hDc.weaken (fun _ _ _ _ => trivial)⟩⟩ rfl rfl hl.1 rfl (lv_room (Nat.le_of_ble_eq_true rfl)) dX5_rebuild_96 ⟨Nat.zero_le _, Nat.zero_le _⟩) hS (fun q _ h => hFc q h) hFc (fun r96 u t9 H1 locs ht9 hvm9 hw9 hB9 hz9 hk9 hS => ?_)
            obtain ⟨hP1, hD1⟩ := hB9
            rw [ht9] at hP1
            have hP1 : va_P D vwCl [(hpl, .inr (5, [.ref hs])), (hs, .inl (cI, 256, .inl sm2))] H1 := hP1
            obtain ⟨hP, hD⟩ := va_join (wr := [(hg, .inl (cJ, 16, .inr (.inl g)))]) (w1 := [(hpl, .inr (5, [.ref hs])), (hs, .inl (cI, 256, .inl sm2))]) hP hD [0, 1] [2] rfl rfl (by decide) (by decide) hk9 hFc hP1 hD1
            have hP := hP.sub (ws' := [(hpl, .inr (5, [.ref hs])), (hs, .inl (cI, 256, .inl sm2)), (hg, .inl (cJ, 16, .inr (.inl g)))]) [1, 2, 0] rfl
            have hD := hD.sub (ws' := [(hpl, .inr (5, [.ref hs])), (hs, .inl (cI, 256, .inl sm2)), (hg, .inl (cJ, 16, .inr (.inl g)))]) [1, 2, 0] (by decide) rfl
            generalize H1 = H at hP hS ⊢
            refine lv_iadd hx hb dX5_rebuild_99 ?_
            refine lv_topi (fun v99 e99 => ?_)
            refine lv_iload hx hb dX5_rebuild_100 (lv_at hl 9 rfl) ?_
            refine lv_isub hx hb dX5_rebuild_102 ?_
            refine lv_topi (fun v102 e102 => ?_)
            refine lv_i2l hx hb dX5_rebuild_103 rfl ?_
            refine lv_topl (fun v103 e103 => ?_)
            refine lv_iconst (v := 0) hx hb dX5_rebuild_104 (by decide) ?_
            refine lv_sipush (v := 255) hx hb dX5_rebuild_105 (by decide) ?_
            have hPc := hP.sub (ws' := []) [] rfl
            have hDc := hD.sub (ws' := []) [] (by decide) rfl
            have hFc := va_free (wc := []) hD hS hA [] rfl
            refine va_calli (va_runSN (As := [.long v103, .int 0, .int 255]) (rest := []) ⟨hx, hb, hml, hown, hts⟩ (c_X7_within l D cI cJ cZ v103 0 255 (H).size) (⟨va_cnB 3 hts (kg_N mk_98) rfl rfl rfl (hK.2 (.methodLinkNest RX5 31 yX7_within "KeyFrames") (by decide +kernel)) (hts _ mk_13) (by decide +kernel) ⟨Nat.le_of_ble_eq_true rfl, Nat.le_of_ble_eq_true rfl⟩, (hts _ mk_99), trivial⟩) ⟨fun a U g mk q => by obtain ⟨q0, q1, qP, qK, qD⟩ := q; exact ⟨q0, q1, qP, kK.call qK, qD⟩, fun U hU hW => ⟨rfl, by rw [hU], by rw [hU]; exact hPc, kK.warm hW hK, hDc.weaken (fun _ _ _ _ => trivial)⟩⟩ rfl rfl hl.1 rfl (lv_room (Nat.le_of_ble_eq_true rfl)) dX5_rebuild_108 ⟨Nat.zero_le _, Nat.zero_le _⟩) hS (fun q _ h => hFc q h) hFc (fun r108 u t9 H1 locs ht9 hvm9 hw9 hB9 hz9 hk9 hS => ?_)
            obtain ⟨hP1, hD1⟩ := hB9
            rw [ht9] at hP1
            have hP1 : va_P D vwCl [] H1 := hP1
            obtain ⟨hP, hD⟩ := va_join (wr := [(hpl, .inr (5, [.ref hs])), (hs, .inl (cI, 256, .inl sm2)), (hg, .inl (cJ, 16, .inr (.inl g)))]) (w1 := []) hP hD [] [0, 1, 2] rfl rfl (by decide) (by decide) hk9 hFc hP1 hD1
            have hP := hP.sub (ws' := [(hpl, .inr (5, [.ref hs])), (hs, .inl (cI, 256, .inl sm2)), (hg, .inl (cJ, 16, .inr (.inl g)))]) [0, 1, 2] rfl
            have hD := hD.sub (ws' := [(hpl, .inr (5, [.ref hs])), (hs, .inl (cI, 256, .inl sm2)), (hg, .inl (cJ, 16, .inr (.inl g)))]) [0, 1, 2] (by decide) rfl
            generalize H1 = H at hP hS ⊢
            refine lv_istore (lv' := [(10, .int r108), (9, .int v39), (8, .int v31), (0, .ref hpl), (1, .int x), (2, .int y), (3, .int wy), (4, .ref hg), (5, .int x5), (6, .int x6), (7, .int x7)]) hx hb dX5_rebuild_111 hl (by decide) rfl (fun ls hl => ?_)
            refine lv_aload_n hx hb dX5_rebuild_113 rfl (lv_at hl 3 rfl) ?_
            refine va_get (D := D) (ci := 5) (v := .ref hs) (C := RX5) (T := TX5) (N := 1) hx hb hts in_X5 hown hK.1 hP 0 rfl rfl 0 (by decide) (hts _ mk_76) (fun _ h9 => h9) rfl dX5_rebuild_114 ?_
            refine lv_iload hx hb dX5_rebuild_117 (lv_at hl 1 rfl) ?_
            refine lv_bipush (v := 16) hx hb dX5_rebuild_119 (by decide) ?_
            refine lv_imul hx hb dX5_rebuild_121 ?_
            refine lv_topi (fun v121 e121 => ?_)
            have b121 : kB v121 0 240 := kB_eq e121 (kB_mulc b39 kc_16 (by decide))
            refine lv_iload hx hb dX5_rebuild_122 (lv_at hl 2 rfl) ?_
            refine lv_iadd hx hb dX5_rebuild_124 ?_
            refine lv_topi (fun v124 e124 => ?_)
            have b124 : kB v124 0 255 := kB_eq e124 (kB_add b121 b31 (by decide))
            refine lv_iload hx hb dX5_rebuild_125 (lv_at hl 0 rfl) ?_
            refine lv_i2l hx hb dX5_rebuild_127 rfl ?_
            refine lv_topl (fun v127 e127 => ?_)
            refine lv_aload hx hb dX5_rebuild_128 (lv_at hl 7 rfl) ?_
            refine lv_iload hx hb dX5_rebuild_130 (lv_at hl 10 rfl) ?_
            refine va_lald hx hb hK.1 hP 2 1 rfl rfl (kB_in c23nx (by decide)) dX5_rebuild_132 ?_
            refine lv_topl (fun v132 e132 => ?_)
            refine lv_ladd hx hb dX5_rebuild_133 ?_
            refine lv_topl (fun v133 e133 => ?_)
            refine lv_iconst (v := 0) hx hb dX5_rebuild_134 (by decide) ?_
            refine lv_sipush (v := 255) hx hb dX5_rebuild_135 (by decide) ?_
            have hPc := hP.sub (ws' := []) [] rfl
            have hDc := hD.sub (ws' := []) [] (by decide) rfl
            have hFc := va_free (wc := []) hD hS hA [] rfl
            refine va_calli (va_runSN (As := [.long v133, .int 0, .int 255]) (rest := [.int v124, .ref hs]) ⟨hx, hb, hml, hown, hts⟩ (c_X7_within l D cI cJ cZ v133 0 255 (H).size) (⟨va_cnB 3 hts (kg_N mk_98) rfl rfl rfl (hK.2 (.methodLinkNest RX5 31 yX7_within "KeyFrames") (by decide +kernel)) (hts _ mk_13) (by decide +kernel) ⟨Nat.le_of_ble_eq_true rfl, Nat.le_of_ble_eq_true rfl⟩, (hts _ mk_99), trivial⟩) ⟨fun a U g mk q => by obtain ⟨q0, q1, qP, qK, qD⟩ := q; exact ⟨q0, q1, qP, kK.call qK, qD⟩, fun U hU hW => ⟨rfl, by rw [hU], by rw [hU]; exact hPc, kK.warm hW hK, hDc.weaken (fun _ _ _ _ => trivial)⟩⟩ rfl rfl hl.1 rfl (lv_room (Nat.le_of_ble_eq_true rfl)) dX5_rebuild_138 ⟨Nat.zero_le _, Nat.zero_le _⟩) hS (fun q _ h => hFc q h) hFc (fun r138 u t9 H1 locs ht9 hvm9 hw9 hB9 hz9 hk9 hS => ?_)
            obtain ⟨hP1, hD1⟩ := hB9
            rw [ht9] at hP1
            have hP1 : va_P D vwCl [] H1 := hP1
            obtain ⟨hP, hD⟩ := va_join (wr := [(hpl, .inr (5, [.ref hs])), (hs, .inl (cI, 256, .inl sm2)), (hg, .inl (cJ, 16, .inr (.inl g)))]) (w1 := []) hP hD [] [0, 1, 2] rfl rfl (by decide) (by decide) hk9 hFc hP1 hD1
            have hP := hP.sub (ws' := [(hpl, .inr (5, [.ref hs])), (hs, .inl (cI, 256, .inl sm2)), (hg, .inl (cJ, 16, .inr (.inl g)))]) [0, 1, 2] rfl
            have hD := hD.sub (ws' := [(hpl, .inr (5, [.ref hs])), (hs, .inl (cI, 256, .inl sm2)), (hg, .inl (cJ, 16, .inr (.inl g)))]) [0, 1, 2] (by decide) rfl
            generalize H1 = H at hP hS ⊢
            refine va_iast hx hb hK.1 hP hD hS 1 0 rfl rfl (kB_in b124 (by decide)) dX5_rebuild_141 (fun H locs hP hD hS => ?_)
            have hP : va_P D vwCl [(hpl, .inr (5, [.ref hs])), (hs, .inl (cI, 256, .inl (upd sm2 v124.toNatClampNeg r138))), (hg, .inl (cJ, 16, .inr (.inl g)))] H := hP
            have hD : va_D A [(hpl, .inr (5, [.ref hs])), (hs, .inl (cI, 256, .inl (upd sm2 v124.toNatClampNeg r138))), (hg, .inl (cJ, 16, .inr (.inl g)))] := hD
            generalize hf141 : upd sm2 v124.toNatClampNeg r138 = f141 at hP hD
            obtain ⟨v142, e142⟩ : ∃ y : Int32, y = x7 + 1 := ⟨_, rfl⟩
            refine lv_iinc (v := v142) (lv' := [(7, .int v142), (10, .int r108), (9, .int v39), (8, .int v31), (0, .ref hpl), (1, .int x), (2, .int y), (3, .int wy), (4, .ref hg), (5, .int x5), (6, .int x6)]) hx hb dX5_rebuild_142 hl (k := 10) rfl (by rw [e142]; rfl) (by decide) rfl (fun ls hl => ?_)
            have b142 : kB v142 1 16 := kB_eq e142 (kB_add c23nx kc_1 (by decide))
            have t142 : v142.toInt = x7.toInt + 1 := by rw [e142]; exact kinc (kB_w c23nx (by decide) (by decide))
            refine lv_goto (tgt := 19) hx hb dX5_rebuild_145 (by decide) ?_
            exact ih x5 x6 v142 f141 (by have := b142.1; have := b142.2; have := c23nx.1; have := c23nx.2; omega) (kB_w b142 (by decide) (by decide)) _ _ ls hP hD hS (lv_sub hl [4, 5, 6, 7, 8, 9, 10, 0] rfl)
        · have c65x : kB wy 2 2 := kB_eq c65 kc_2
          refine lv_aload_n hx hb dX5_rebuild_68 rfl (lv_at hl 3 rfl) ?_
          refine lv_iload_n hx hb dX5_rebuild_69 rfl (lv_at hl 4 rfl) ?_
          refine lv_iload hx hb dX5_rebuild_70 (lv_at hl 1 rfl) ?_
          have hPc := hP.sub (ws' := [(hpl, .inr (5, [.ref hs])), (hs, .inl (cI, 256, .inl sm2))]) [0, 1] rfl
          have hDc := hD.sub (ws' := [(hpl, .inr (5, [.ref hs])), (hs, .inl (cI, 256, .inl sm2))]) [0, 1] (by decide) rfl
          have hFc := va_free (wc := [(hpl, .inr (5, [.ref hs])), (hs, .inl (cI, 256, .inl sm2))]) hD hS hA [0, 1] rfl
          refine va_calli (va_runV (As := [.int x, .int v39]) (rest := []) ⟨hx, hb, hml, hown, hts⟩ (c_X5_leftOf l D cI cJ cZ hpl hs sm2 x v39 (kB_w bx (by decide) (by decide)) b39 (H).size) (cwV 2 hts (kg_V mk_82 mk_83 mk_84 mk_80 mk_85) rfl rfl rfl (by decide +kernel) ⟨Nat.le_of_ble_eq_true rfl, Nat.le_of_ble_eq_true rfl⟩) ⟨fun a U g mk q => by obtain ⟨q0, q1, qP, qK, qD⟩ := q; exact ⟨q0, q1, qP, kK.call qK, qD⟩, va_recv hK.1 hPc (ci := 5) (q0 := 0) rfl rfl, fun U hU hW => ⟨rfl, by rw [hU], by rw [hU]; exact hPc, kK.warm hW hK, hDc.weaken (fun _ _ _ _ => trivial)⟩⟩ rfl rfl hl.1 rfl (lv_room (Nat.le_of_ble_eq_true rfl)) dX5_rebuild_72 ⟨Nat.zero_le _, Nat.zero_le _⟩) hS (fun q _ h => hFc q h) hFc (fun r72 u t9 H1 locs ht9 hvm9 hw9 hB9 hz9 hk9 hS => ?_)
          obtain ⟨hP1, hD1⟩ := hB9
          rw [ht9] at hP1
          have hP1 : va_P D vwCl [(hpl, .inr (5, [.ref hs])), (hs, .inl (cI, 256, .inl sm2))] H1 := hP1
          obtain ⟨hP, hD⟩ := va_join (wr := [(hg, .inl (cJ, 16, .inr (.inl g)))]) (w1 := [(hpl, .inr (5, [.ref hs])), (hs, .inl (cI, 256, .inl sm2))]) hP hD [0, 1] [2] rfl rfl (by decide) (by decide) hk9 hFc hP1 hD1
          have hP := hP.sub (ws' := [(hpl, .inr (5, [.ref hs])), (hs, .inl (cI, 256, .inl sm2)), (hg, .inl (cJ, 16, .inr (.inl g)))]) [1, 2, 0] rfl
          have hD := hD.sub (ws' := [(hpl, .inr (5, [.ref hs])), (hs, .inl (cI, 256, .inl sm2)), (hg, .inl (cJ, 16, .inr (.inl g)))]) [1, 2, 0] (by decide) rfl
          generalize H1 = H at hP hS ⊢
          refine lv_istore (lv' := [(10, .int r72), (9, .int v39), (8, .int v31), (0, .ref hpl), (1, .int x), (2, .int y), (3, .int wy), (4, .ref hg), (5, .int x5), (6, .int x6), (7, .int x7)]) hx hb dX5_rebuild_75 hl (by decide) rfl (fun ls hl => ?_)
          refine lv_goto (tgt := 113) hx hb dX5_rebuild_77 (by decide) ?_
          refine lv_aload_n hx hb dX5_rebuild_113 rfl (lv_at hl 3 rfl) ?_
          refine va_get (D := D) (ci := 5) (v := .ref hs) (C := RX5) (T := TX5) (N := 1) hx hb hts in_X5 hown hK.1 hP 0 rfl rfl 0 (by decide) (hts _ mk_76) (fun _ h9 => h9) rfl dX5_rebuild_114 ?_
          refine lv_iload hx hb dX5_rebuild_117 (lv_at hl 1 rfl) ?_
          refine lv_bipush (v := 16) hx hb dX5_rebuild_119 (by decide) ?_
          refine lv_imul hx hb dX5_rebuild_121 ?_
          refine lv_topi (fun v121 e121 => ?_)
          have b121 : kB v121 0 240 := kB_eq e121 (kB_mulc b39 kc_16 (by decide))
          refine lv_iload hx hb dX5_rebuild_122 (lv_at hl 2 rfl) ?_
          refine lv_iadd hx hb dX5_rebuild_124 ?_
          refine lv_topi (fun v124 e124 => ?_)
          have b124 : kB v124 0 255 := kB_eq e124 (kB_add b121 b31 (by decide))
          refine lv_iload hx hb dX5_rebuild_125 (lv_at hl 0 rfl) ?_
          refine lv_i2l hx hb dX5_rebuild_127 rfl ?_
          refine lv_topl (fun v127 e127 => ?_)
          refine lv_aload hx hb dX5_rebuild_128 (lv_at hl 7 rfl) ?_
          refine lv_iload hx hb dX5_rebuild_130 (lv_at hl 10 rfl) ?_
          refine va_lald hx hb hK.1 hP 2 1 rfl rfl (kB_in c23nx (by decide)) dX5_rebuild_132 ?_
          refine lv_topl (fun v132 e132 => ?_)
          refine lv_ladd hx hb dX5_rebuild_133 ?_
          refine lv_topl (fun v133 e133 => ?_)
          refine lv_iconst (v := 0) hx hb dX5_rebuild_134 (by decide) ?_
          refine lv_sipush (v := 255) hx hb dX5_rebuild_135 (by decide) ?_
          have hPc := hP.sub (ws' := []) [] rfl
          have hDc := hD.sub (ws' := []) [] (by decide) rfl
          have hFc := va_free (wc := []) hD hS hA [] rfl
          refine va_calli (va_runSN (As := [.long v133, .int 0, .int 255]) (rest := [.int v124, .ref hs]) ⟨hx, hb, hml, hown, hts⟩ (c_X7_within l D cI cJ cZ v133 0 255 (H).size) (⟨va_cnB 3 hts (kg_N mk_98) rfl rfl rfl (hK.2 (.methodLinkNest RX5 31 yX7_within "KeyFrames") (by decide +kernel)) (hts _ mk_13) (by decide +kernel) ⟨Nat.le_of_ble_eq_true rfl, Nat.le_of_ble_eq_true rfl⟩, (hts _ mk_99), trivial⟩) ⟨fun a U g mk q => by obtain ⟨q0, q1, qP, qK, qD⟩ := q; exact ⟨q0, q1, qP, kK.call qK, qD⟩, fun U hU hW => ⟨rfl, by rw [hU], by rw [hU]; exact hPc, kK.warm hW hK, hDc.weaken (fun _ _ _ _ => trivial)⟩⟩ rfl rfl hl.1 rfl (lv_room (Nat.le_of_ble_eq_true rfl)) dX5_rebuild_138 ⟨Nat.zero_le _, Nat.zero_le _⟩) hS (fun q _ h => hFc q h) hFc (fun r138 u t9 H1 locs ht9 hvm9 hw9 hB9 hz9 hk9 hS => ?_)
          obtain ⟨hP1, hD1⟩ := hB9
          rw [ht9] at hP1
          have hP1 : va_P D vwCl [] H1 := hP1
          obtain ⟨hP, hD⟩ := va_join (wr := [(hpl, .inr (5, [.ref hs])), (hs, .inl (cI, 256, .inl sm2)), (hg, .inl (cJ, 16, .inr (.inl g)))]) (w1 := []) hP hD [] [0, 1, 2] rfl rfl (by decide) (by decide) hk9 hFc hP1 hD1
          have hP := hP.sub (ws' := [(hpl, .inr (5, [.ref hs])), (hs, .inl (cI, 256, .inl sm2)), (hg, .inl (cJ, 16, .inr (.inl g)))]) [0, 1, 2] rfl
          have hD := hD.sub (ws' := [(hpl, .inr (5, [.ref hs])), (hs, .inl (cI, 256, .inl sm2)), (hg, .inl (cJ, 16, .inr (.inl g)))]) [0, 1, 2] (by decide) rfl
          generalize H1 = H at hP hS ⊢
          refine va_iast hx hb hK.1 hP hD hS 1 0 rfl rfl (kB_in b124 (by decide)) dX5_rebuild_141 (fun H locs hP hD hS => ?_)
          have hP : va_P D vwCl [(hpl, .inr (5, [.ref hs])), (hs, .inl (cI, 256, .inl (upd sm2 v124.toNatClampNeg r138))), (hg, .inl (cJ, 16, .inr (.inl g)))] H := hP
          have hD : va_D A [(hpl, .inr (5, [.ref hs])), (hs, .inl (cI, 256, .inl (upd sm2 v124.toNatClampNeg r138))), (hg, .inl (cJ, 16, .inr (.inl g)))] := hD
          generalize hf141 : upd sm2 v124.toNatClampNeg r138 = f141 at hP hD
          obtain ⟨v142, e142⟩ : ∃ y : Int32, y = x7 + 1 := ⟨_, rfl⟩
          refine lv_iinc (v := v142) (lv' := [(7, .int v142), (10, .int r72), (9, .int v39), (8, .int v31), (0, .ref hpl), (1, .int x), (2, .int y), (3, .int wy), (4, .ref hg), (5, .int x5), (6, .int x6)]) hx hb dX5_rebuild_142 hl (k := 10) rfl (by rw [e142]; rfl) (by decide) rfl (fun ls hl => ?_)
          have b142 : kB v142 1 16 := kB_eq e142 (kB_add c23nx kc_1 (by decide))
          have t142 : v142.toInt = x7.toInt + 1 := by rw [e142]; exact kinc (kB_w c23nx (by decide) (by decide))
          refine lv_goto (tgt := 19) hx hb dX5_rebuild_145 (by decide) ?_
          exact ih x5 x6 v142 f141 (by have := b142.1; have := b142.2; have := c23nx.1; have := c23nx.2; omega) (kB_w b142 (by decide) (by decide)) _ _ ls hP hD hS (lv_sub hl [4, 5, 6, 7, 8, 9, 10, 0] rfl)
      · have c48x : kB wy 1 1 := kB_eq c48 kc_1
        refine lv_aload_n hx hb dX5_rebuild_51 rfl (lv_at hl 3 rfl) ?_
        refine lv_iload hx hb dX5_rebuild_52 (lv_at hl 2 rfl) ?_
        refine lv_iload_n hx hb dX5_rebuild_54 rfl (lv_at hl 5 rfl) ?_
        have hPc := hP.sub (ws' := [(hpl, .inr (5, [.ref hs])), (hs, .inl (cI, 256, .inl sm2))]) [0, 1] rfl
        have hDc := hD.sub (ws' := [(hpl, .inr (5, [.ref hs])), (hs, .inl (cI, 256, .inl sm2))]) [0, 1] (by decide) rfl
        have hFc := va_free (wc := [(hpl, .inr (5, [.ref hs])), (hs, .inl (cI, 256, .inl sm2))]) hD hS hA [0, 1] rfl
        refine va_calli (va_runV (As := [.int v31, .int y]) (rest := []) ⟨hx, hb, hml, hown, hts⟩ (c_X5_above l D cI cJ cZ hpl hs sm2 v31 y b31 (kB_w byy (by decide) (by decide)) (H).size) (cwV 2 hts (kg_V mk_86 mk_87 mk_88 mk_80 mk_89) rfl rfl rfl (by decide +kernel) ⟨Nat.le_of_ble_eq_true rfl, Nat.le_of_ble_eq_true rfl⟩) ⟨fun a U g mk q => by obtain ⟨q0, q1, qP, qK, qD⟩ := q; exact ⟨q0, q1, qP, kK.call qK, qD⟩, va_recv hK.1 hPc (ci := 5) (q0 := 0) rfl rfl, fun U hU hW => ⟨rfl, by rw [hU], by rw [hU]; exact hPc, kK.warm hW hK, hDc.weaken (fun _ _ _ _ => trivial)⟩⟩ rfl rfl hl.1 rfl (lv_room (Nat.le_of_ble_eq_true rfl)) dX5_rebuild_55 ⟨Nat.zero_le _, Nat.zero_le _⟩) hS (fun q _ h => hFc q h) hFc (fun r55 u t9 H1 locs ht9 hvm9 hw9 hB9 hz9 hk9 hS => ?_)
        obtain ⟨hP1, hD1⟩ := hB9
        rw [ht9] at hP1
        have hP1 : va_P D vwCl [(hpl, .inr (5, [.ref hs])), (hs, .inl (cI, 256, .inl sm2))] H1 := hP1
        obtain ⟨hP, hD⟩ := va_join (wr := [(hg, .inl (cJ, 16, .inr (.inl g)))]) (w1 := [(hpl, .inr (5, [.ref hs])), (hs, .inl (cI, 256, .inl sm2))]) hP hD [0, 1] [2] rfl rfl (by decide) (by decide) hk9 hFc hP1 hD1
        have hP := hP.sub (ws' := [(hpl, .inr (5, [.ref hs])), (hs, .inl (cI, 256, .inl sm2)), (hg, .inl (cJ, 16, .inr (.inl g)))]) [1, 2, 0] rfl
        have hD := hD.sub (ws' := [(hpl, .inr (5, [.ref hs])), (hs, .inl (cI, 256, .inl sm2)), (hg, .inl (cJ, 16, .inr (.inl g)))]) [1, 2, 0] (by decide) rfl
        generalize H1 = H at hP hS ⊢
        refine lv_istore (lv' := [(10, .int r55), (9, .int v39), (8, .int v31), (0, .ref hpl), (1, .int x), (2, .int y), (3, .int wy), (4, .ref hg), (5, .int x5), (6, .int x6), (7, .int x7)]) hx hb dX5_rebuild_58 hl (by decide) rfl (fun ls hl => ?_)
        refine lv_goto (tgt := 113) hx hb dX5_rebuild_60 (by decide) ?_
        refine lv_aload_n hx hb dX5_rebuild_113 rfl (lv_at hl 3 rfl) ?_
        refine va_get (D := D) (ci := 5) (v := .ref hs) (C := RX5) (T := TX5) (N := 1) hx hb hts in_X5 hown hK.1 hP 0 rfl rfl 0 (by decide) (hts _ mk_76) (fun _ h9 => h9) rfl dX5_rebuild_114 ?_
        refine lv_iload hx hb dX5_rebuild_117 (lv_at hl 1 rfl) ?_
        refine lv_bipush (v := 16) hx hb dX5_rebuild_119 (by decide) ?_
        refine lv_imul hx hb dX5_rebuild_121 ?_
        refine lv_topi (fun v121 e121 => ?_)
        have b121 : kB v121 0 240 := kB_eq e121 (kB_mulc b39 kc_16 (by decide))
        refine lv_iload hx hb dX5_rebuild_122 (lv_at hl 2 rfl) ?_
        refine lv_iadd hx hb dX5_rebuild_124 ?_
        refine lv_topi (fun v124 e124 => ?_)
        have b124 : kB v124 0 255 := kB_eq e124 (kB_add b121 b31 (by decide))
        refine lv_iload hx hb dX5_rebuild_125 (lv_at hl 0 rfl) ?_
        refine lv_i2l hx hb dX5_rebuild_127 rfl ?_
        refine lv_topl (fun v127 e127 => ?_)
        refine lv_aload hx hb dX5_rebuild_128 (lv_at hl 7 rfl) ?_
        refine lv_iload hx hb dX5_rebuild_130 (lv_at hl 10 rfl) ?_
        refine va_lald hx hb hK.1 hP 2 1 rfl rfl (kB_in c23nx (by decide)) dX5_rebuild_132 ?_
        refine lv_topl (fun v132 e132 => ?_)
        refine lv_ladd hx hb dX5_rebuild_133 ?_
        refine lv_topl (fun v133 e133 => ?_)
        refine lv_iconst (v := 0) hx hb dX5_rebuild_134 (by decide) ?_
        refine lv_sipush (v := 255) hx hb dX5_rebuild_135 (by decide) ?_
        have hPc := hP.sub (ws' := []) [] rfl
        have hDc := hD.sub (ws' := []) [] (by decide) rfl
        have hFc := va_free (wc := []) hD hS hA [] rfl
        refine va_calli (va_runSN (As := [.long v133, .int 0, .int 255]) (rest := [.int v124, .ref hs]) ⟨hx, hb, hml, hown, hts⟩ (c_X7_within l D cI cJ cZ v133 0 255 (H).size) (⟨va_cnB 3 hts (kg_N mk_98) rfl rfl rfl (hK.2 (.methodLinkNest RX5 31 yX7_within "KeyFrames") (by decide +kernel)) (hts _ mk_13) (by decide +kernel) ⟨Nat.le_of_ble_eq_true rfl, Nat.le_of_ble_eq_true rfl⟩, (hts _ mk_99), trivial⟩) ⟨fun a U g mk q => by obtain ⟨q0, q1, qP, qK, qD⟩ := q; exact ⟨q0, q1, qP, kK.call qK, qD⟩, fun U hU hW => ⟨rfl, by rw [hU], by rw [hU]; exact hPc, kK.warm hW hK, hDc.weaken (fun _ _ _ _ => trivial)⟩⟩ rfl rfl hl.1 rfl (lv_room (Nat.le_of_ble_eq_true rfl)) dX5_rebuild_138 ⟨Nat.zero_le _, Nat.zero_le _⟩) hS (fun q _ h => hFc q h) hFc (fun r138 u t9 H1 locs ht9 hvm9 hw9 hB9 hz9 hk9 hS => ?_)
        obtain ⟨hP1, hD1⟩ := hB9
        rw [ht9] at hP1
        have hP1 : va_P D vwCl [] H1 := hP1
        obtain ⟨hP, hD⟩ := va_join (wr := [(hpl, .inr (5, [.ref hs])), (hs, .inl (cI, 256, .inl sm2)), (hg, .inl (cJ, 16, .inr (.inl g)))]) (w1 := []) hP hD [] [0, 1, 2] rfl rfl (by decide) (by decide) hk9 hFc hP1 hD1
        have hP := hP.sub (ws' := [(hpl, .inr (5, [.ref hs])), (hs, .inl (cI, 256, .inl sm2)), (hg, .inl (cJ, 16, .inr (.inl g)))]) [0, 1, 2] rfl
        have hD := hD.sub (ws' := [(hpl, .inr (5, [.ref hs])), (hs, .inl (cI, 256, .inl sm2)), (hg, .inl (cJ, 16, .inr (.inl g)))]) [0, 1, 2] (by decide) rfl
        generalize H1 = H at hP hS ⊢
        refine va_iast hx hb hK.1 hP hD hS 1 0 rfl rfl (kB_in b124 (by decide)) dX5_rebuild_141 (fun H locs hP hD hS => ?_)
        have hP : va_P D vwCl [(hpl, .inr (5, [.ref hs])), (hs, .inl (cI, 256, .inl (upd sm2 v124.toNatClampNeg r138))), (hg, .inl (cJ, 16, .inr (.inl g)))] H := hP
        have hD : va_D A [(hpl, .inr (5, [.ref hs])), (hs, .inl (cI, 256, .inl (upd sm2 v124.toNatClampNeg r138))), (hg, .inl (cJ, 16, .inr (.inl g)))] := hD
        generalize hf141 : upd sm2 v124.toNatClampNeg r138 = f141 at hP hD
        obtain ⟨v142, e142⟩ : ∃ y : Int32, y = x7 + 1 := ⟨_, rfl⟩
        refine lv_iinc (v := v142) (lv' := [(7, .int v142), (10, .int r55), (9, .int v39), (8, .int v31), (0, .ref hpl), (1, .int x), (2, .int y), (3, .int wy), (4, .ref hg), (5, .int x5), (6, .int x6)]) hx hb dX5_rebuild_142 hl (k := 10) rfl (by rw [e142]; rfl) (by decide) rfl (fun ls hl => ?_)
        have b142 : kB v142 1 16 := kB_eq e142 (kB_add c23nx kc_1 (by decide))
        have t142 : v142.toInt = x7.toInt + 1 := by rw [e142]; exact kinc (kB_w c23nx (by decide) (by decide))
        refine lv_goto (tgt := 19) hx hb dX5_rebuild_145 (by decide) ?_
        exact ih x5 x6 v142 f141 (by have := b142.1; have := b142.2; have := c23nx.1; have := c23nx.2; omega) (kB_w b142 (by decide) (by decide)) _ _ ls hP hD hS (lv_sub hl [4, 5, 6, 7, 8, 9, 10, 0] rfl)
set_option maxHeartbeats 4000000 in
set_option maxRecDepth 100000 in
theorem c_X5_rebuild (l : Launch) (D : va_G) (cI cJ cZ : ClassId) (hpl hs hg : Nat) (sm : Nat → Int32) (x : Int32) (y : Int32) (wy : Int32) (g : Nat → Int64) (bx : kB x 0 12) (byy : kB y 0 12) (hpz : Nat) : Met l yX5_rebuild kw_X5_rebuild ({ frames := 3, cells := 0, slots := 0, locals := 68 }) (va_Pc [.ref hpl, .int x, .int y, .int wy, .ref hg] (fun U => U.heap.size = hpz ∧ va_P D vwCl [(hpl, .inr (5, [.ref hs])), (hs, .inl (cI, 256, .inl sm)), (hg, .inl (cJ, 16, .inr (.inl g)))] U.heap ∧ kK D cI cJ cZ U ∧ va_D (fun _ => True) [(hpl, .inr (5, [.ref hs])), (hs, .inl (cI, 256, .inl sm)), (hg, .inl (cJ, 16, .inr (.inl g)))])) (va_Qv (fun (u : (Nat → Int32)) => True) (fun (u : (Nat → Int32)) (t : State) => va_P D vwCl [(hpl, .inr (5, [.ref hs])), (hs, .inl (cI, 256, .inl u)), (hg, .inl (cJ, 16, .inr (.inl g)))] t.heap ∧ va_D (va_A [(hpl, .inr (5, [.ref hs])), (hs, .inl (cI, 256, .inl sm)), (hg, .inl (cJ, 16, .inr (.inl g)))] hpz) [(hpl, .inr (5, [.ref hs])), (hs, .inl (cI, 256, .inl u)), (hg, .inl (cJ, 16, .inr (.inl g)))]) (va_A [(hpl, .inr (5, [.ref hs])), (hs, .inl (cI, 256, .inl sm)), (hg, .inl (cJ, 16, .inr (.inl g)))] hpz)) 0 0 (va_A [(hpl, .inr (5, [.ref hs])), (hs, .inl (cI, 256, .inl sm)), (hg, .inl (cJ, 16, .inr (.inl g)))] hpz) := by
  refine Met.ofW (cc := cX5_rebuild) (maxL := 11) (ret := none) (by decide) rfl ?_
  intro p e s m args below meth c s₁ B hml hv
  obtain ⟨rfl, hsz, hP, hK, hD0⟩ := hv
  have hx := B.exec
  have hb := B.bytes
  have hr := B.returns
  have hts := fun (w : Cond) (h : w ∈ kW) => atoms_spec (ws := kw_X5_rebuild) B.pre w (List.mem_cons_of_mem _ h)
  have hown : s.vm.findClass RX5 = some m.cls := findClass_of_methodNamed B.named
  have hlocks := B.notSynchronized
  subst hsz
  have hD := hD0.self (sz := s.heap.size)
  generalize hAe : va_A [(hpl, .inr (5, [.ref hs])), (hs, .inl (cI, 256, .inl sm)), (hg, .inl (cJ, 16, .inr (.inl g)))] s.heap.size = A at hD ⊢
  have hA : ∀ q : Nat, s.heap.size ≤ q → A q := fun q h => by rw [← hAe]; exact Or.inr h
  have hS : va_S A s.heap s.heap [] := va_S.rf
  have hP : va_P D vwCl [(hpl, .inr (5, [.ref hs])), (hs, .inl (cI, 256, .inl sm)), (hg, .inl (cJ, 16, .inr (.inl g)))] s.heap := hP
  have hl := lv_entry ([.ref hpl, .int x, .int y, .int wy, .ref hg]) (n := 11) (Nat.le_of_ble_eq_true rfl)
  rw [lg_entry_eq]
  generalize (lg_sl ([.ref hpl, .int x, .int y, .int wy, .ref hg]) ++ List.replicate (11 - (lg_sl ([.ref hpl, .int x, .int y, .int wy, .ref hg])).length) Slot.unset).toArray = ls at hl ⊢
  have hl : lv_has ls 11 [(0, .ref hpl), (1, .int x), (2, .int y), (3, .int wy), (4, .ref hg)] := hl
  refine lv_aload_n hx hb dX5_rebuild_0 rfl (lv_at hl 0 rfl) ?_
  refine lv_iload_n hx hb dX5_rebuild_1 rfl (lv_at hl 1 rfl) ?_
  refine lv_iload_n hx hb dX5_rebuild_2 rfl (lv_at hl 2 rfl) ?_
  have hPc := hP.sub (ws' := [(hpl, .inr (5, [.ref hs])), (hs, .inl (cI, 256, .inl sm))]) [0, 1] rfl
  have hDc := hD.sub (ws' := [(hpl, .inr (5, [.ref hs])), (hs, .inl (cI, 256, .inl sm))]) [0, 1] (by decide) rfl
  have hFc := va_free (wc := [(hpl, .inr (5, [.ref hs])), (hs, .inl (cI, 256, .inl sm))]) hD hS hA [0, 1] rfl
  refine va_calli (va_runV (As := [.int x, .int y]) (rest := []) ⟨hx, hb, hml, hown, hts⟩ (c_X5_evenOf l D cI cJ cZ hpl hs sm x y bx byy (s.heap).size) (cwV 2 hts (kg_V mk_90 mk_91 mk_92 mk_80 mk_93) rfl rfl rfl (by decide +kernel) ⟨Nat.le_of_ble_eq_true rfl, Nat.le_of_ble_eq_true rfl⟩) ⟨fun a U g mk q => by obtain ⟨q0, q1, qP, qK, qD⟩ := q; exact ⟨q0, q1, qP, kK.call qK, qD⟩, va_recv hK.1 hPc (ci := 5) (q0 := 0) rfl rfl, fun U hU hW => ⟨rfl, by rw [hU], by rw [hU]; exact hPc, kK.warm hW hK, hDc.weaken (fun _ _ _ _ => trivial)⟩⟩ rfl rfl hl.1 rfl (lv_room (Nat.le_of_ble_eq_true rfl)) dX5_rebuild_3 ⟨Nat.zero_le _, Nat.zero_le _⟩) hS (fun q _ h => hFc q h) hFc (fun r3 u t9 H1 locs ht9 hvm9 hw9 hB9 hz9 hk9 hS => ?_)
  obtain ⟨hP1, hD1⟩ := hB9
  rw [ht9] at hP1
  have hP1 : va_P D vwCl [(hpl, .inr (5, [.ref hs])), (hs, .inl (cI, 256, .inl sm))] H1 := hP1
  obtain ⟨hP, hD⟩ := va_join (wr := [(hg, .inl (cJ, 16, .inr (.inl g)))]) (w1 := [(hpl, .inr (5, [.ref hs])), (hs, .inl (cI, 256, .inl sm))]) hP hD [0, 1] [2] rfl rfl (by decide) (by decide) hk9 hFc hP1 hD1
  have hP := hP.sub (ws' := [(hpl, .inr (5, [.ref hs])), (hs, .inl (cI, 256, .inl sm)), (hg, .inl (cJ, 16, .inr (.inl g)))]) [1, 2, 0] rfl
  have hD := hD.sub (ws' := [(hpl, .inr (5, [.ref hs])), (hs, .inl (cI, 256, .inl sm)), (hg, .inl (cJ, 16, .inr (.inl g)))]) [1, 2, 0] (by decide) rfl
  generalize H1 = H at hP hS ⊢
  refine lv_istore (lv' := [(5, .int r3), (0, .ref hpl), (1, .int x), (2, .int y), (3, .int wy), (4, .ref hg)]) hx hb dX5_rebuild_6 hl (by decide) rfl (fun ls hl => ?_)
  refine lv_aload_n hx hb dX5_rebuild_8 rfl (lv_at hl 1 rfl) ?_
  refine lv_iload_n hx hb dX5_rebuild_9 rfl (lv_at hl 2 rfl) ?_
  refine lv_iload_n hx hb dX5_rebuild_10 rfl (lv_at hl 3 rfl) ?_
  have hPc := hP.sub (ws' := [(hpl, .inr (5, [.ref hs])), (hs, .inl (cI, 256, .inl sm))]) [0, 1] rfl
  have hDc := hD.sub (ws' := [(hpl, .inr (5, [.ref hs])), (hs, .inl (cI, 256, .inl sm))]) [0, 1] (by decide) rfl
  have hFc := va_free (wc := [(hpl, .inr (5, [.ref hs])), (hs, .inl (cI, 256, .inl sm))]) hD hS hA [0, 1] rfl
  refine va_calli (va_runV (As := [.int x, .int y]) (rest := []) ⟨hx, hb, hml, hown, hts⟩ (c_X5_corner l D cI cJ cZ hpl hs sm x y (kB_w bx (by decide) (by decide)) (kB_w byy (by decide) (by decide)) (H).size) (cwV 2 hts (kg_V mk_94 mk_95 mk_96 mk_80 mk_97) rfl rfl rfl (by decide +kernel) ⟨Nat.le_of_ble_eq_true rfl, Nat.le_of_ble_eq_true rfl⟩) ⟨fun a U g mk q => by obtain ⟨q0, q1, qP, qK, qD⟩ := q; exact ⟨q0, q1, qP, kK.call qK, qD⟩, va_recv hK.1 hPc (ci := 5) (q0 := 0) rfl rfl, fun U hU hW => ⟨rfl, by rw [hU], by rw [hU]; exact hPc, kK.warm hW hK, hDc.weaken (fun _ _ _ _ => trivial)⟩⟩ rfl rfl hl.1 rfl (lv_room (Nat.le_of_ble_eq_true rfl)) dX5_rebuild_11 ⟨Nat.zero_le _, Nat.zero_le _⟩) hS (fun q _ h => hFc q h) hFc (fun r11 u t9 H1 locs ht9 hvm9 hw9 hB9 hz9 hk9 hS => ?_)
  obtain ⟨hP1, hD1⟩ := hB9
  rw [ht9] at hP1
  have hP1 : va_P D vwCl [(hpl, .inr (5, [.ref hs])), (hs, .inl (cI, 256, .inl sm))] H1 := hP1
  obtain ⟨hP, hD⟩ := va_join (wr := [(hg, .inl (cJ, 16, .inr (.inl g)))]) (w1 := [(hpl, .inr (5, [.ref hs])), (hs, .inl (cI, 256, .inl sm))]) hP hD [0, 1] [2] rfl rfl (by decide) (by decide) hk9 hFc hP1 hD1
  have hP := hP.sub (ws' := [(hpl, .inr (5, [.ref hs])), (hs, .inl (cI, 256, .inl sm)), (hg, .inl (cJ, 16, .inr (.inl g)))]) [1, 2, 0] rfl
  have hD := hD.sub (ws' := [(hpl, .inr (5, [.ref hs])), (hs, .inl (cI, 256, .inl sm)), (hg, .inl (cJ, 16, .inr (.inl g)))]) [1, 2, 0] (by decide) rfl
  generalize H1 = H at hP hS ⊢
  refine lv_istore (lv' := [(6, .int r11), (5, .int r3), (0, .ref hpl), (1, .int x), (2, .int y), (3, .int wy), (4, .ref hg)]) hx hb dX5_rebuild_14 hl (by decide) rfl (fun ls hl => ?_)
  refine lv_iconst (v := 0) hx hb dX5_rebuild_16 (by decide) ?_
  refine lv_istore (lv' := [(7, .int 0), (6, .int r11), (5, .int r3), (0, .ref hpl), (1, .int x), (2, .int y), (3, .int wy), (4, .ref hg)]) hx hb dX5_rebuild_17 hl (by decide) rfl (fun ls hl => ?_)
  exact lp_X5_rebuild_19 D cI cJ cZ hpl hs hg sm x y wy g bx byy hx hb hr hml hown hts hlocks hK hA ((16 - (0 : Int32).toInt).toNat + 1) r3 r11 0 sm (Nat.lt_succ_self _) (kB_w kc_0 (by decide) (by decide)) _ _ ls hP hD hS (lv_sub hl [3, 4, 5, 6, 7, 2, 1, 0] rfl)
abbrev kw_X5_small : List Cond := Cond.code yX5_small cX5_small 1 (some .int) :: kW
set_option maxHeartbeats 4000000 in
set_option maxRecDepth 100000 in
theorem c_X5_small (l : Launch) (D : va_G) (cI cJ cZ : ClassId) (n : Int32) (hpz : Nat) : Met l yX5_small kw_X5_small ({ frames := 1, cells := 0, slots := 0, locals := 23 }) (va_Pc [.int n] (fun U => U.heap.size = hpz ∧ va_P D vwCl [] U.heap ∧ kK D cI cJ cZ U ∧ va_D (fun _ => True) [])) (va_Qi (fun (r : Int32) (u : Unit) => True) (fun (u : Unit) (t : State) => va_P D vwCl [] t.heap ∧ va_D (va_A [] hpz) []) (va_A [] hpz)) 0 0 (va_A [] hpz) := by
  refine Met.ofW (cc := cX5_small) (maxL := 1) (ret := (some .int)) (by decide) rfl ?_
  intro p e s m args below meth c s₁ B hml hv
  obtain ⟨rfl, hsz, hP, hK, hD0⟩ := hv
  have hx := B.exec
  have hb := B.bytes
  have hr := B.returns
  have hts := fun (w : Cond) (h : w ∈ kW) => atoms_spec (ws := kw_X5_small) B.pre w (List.mem_cons_of_mem _ h)
  have hown : s.vm.findClass RX5 = some m.cls := findClass_of_methodNamed B.named
  have hlocks := B.notSynchronized
  subst hsz
  have hD := hD0.self (sz := s.heap.size)
  generalize hAe : va_A [] s.heap.size = A at hD ⊢
  have hA : ∀ q : Nat, s.heap.size ≤ q → A q := fun q h => by rw [← hAe]; exact Or.inr h
  have hS : va_S A s.heap s.heap [] := va_S.rf
  have hP : va_P D vwCl [] s.heap := hP
  have hl := lv_entry ([.int n]) (n := 1) (Nat.le_of_ble_eq_true rfl)
  rw [lg_entry_eq]
  generalize (lg_sl ([.int n]) ++ List.replicate (1 - (lg_sl ([.int n])).length) Slot.unset).toArray = ls at hl ⊢
  have hl : lv_has ls 1 [(0, .int n)] := hl
  refine lv_iload_n hx hb dX5_small_0 rfl (lv_at hl 0 rfl) ?_
  refine lv_i2l hx hb dX5_small_1 rfl ?_
  refine lv_topl (fun v1 e1 => ?_)
  refine lv_bipush (v := (-128)) hx hb dX5_small_2 (by decide) ?_
  refine lv_bipush (v := 127) hx hb dX5_small_4 (by decide) ?_
  have hPc := hP.sub (ws' := []) [] rfl
  have hDc := hD.sub (ws' := []) [] (by decide) rfl
  have hFc := va_free (wc := []) hD hS hA [] rfl
  refine va_calli (va_runSN (As := [.long v1, .int (-128), .int 127]) (rest := []) ⟨hx, hb, hml, hown, hts⟩ (c_X7_within l D cI cJ cZ v1 (-128) 127 (s.heap).size) (⟨va_cnB 3 hts (kg_N mk_98) rfl rfl rfl (hK.2 (.methodLinkNest RX5 31 yX7_within "KeyFrames") (by decide +kernel)) (hts _ mk_13) (by decide +kernel) ⟨Nat.le_of_ble_eq_true rfl, Nat.le_of_ble_eq_true rfl⟩, (hts _ mk_99), trivial⟩) ⟨fun a U g mk q => by obtain ⟨q0, q1, qP, qK, qD⟩ := q; exact ⟨q0, q1, qP, kK.call qK, qD⟩, fun U hU hW => ⟨rfl, by rw [hU], by rw [hU]; exact hPc, kK.warm hW hK, hDc.weaken (fun _ _ _ _ => trivial)⟩⟩ rfl rfl hl.1 rfl (lv_room (Nat.le_of_ble_eq_true rfl)) dX5_small_6 ⟨Nat.zero_le _, Nat.zero_le _⟩) hS (fun q _ h => hFc q h) hFc (fun r6 u t9 H1 locs ht9 hvm9 hw9 hB9 hz9 hk9 hS => ?_)
  obtain ⟨hP1, hD1⟩ := hB9
  rw [ht9] at hP1
  have hP1 : va_P D vwCl [] H1 := hP1
  obtain ⟨hP, hD⟩ := va_join (wr := []) (w1 := []) hP hD [] [] rfl rfl (by decide) (by decide) hk9 hFc hP1 hD1
  have hP := hP.sub (ws' := []) [] rfl
  have hD := hD.sub (ws' := []) [] (by decide) rfl
  generalize H1 = H at hP hS ⊢
  exact W.iret (v := r6) hx hb hr (fun t9 ht9 hW9 => ⟨⟨r6, (), rfl, trivial, by rw [ht9]; exact hP, hD⟩, hS.F ht9⟩) hS.2.2 dX5_small_9
abbrev kw_X5_filterFour : List Cond := Cond.code yX5_filterFour cX5_filterFour 11 (some .boolean) :: kW
set_option maxHeartbeats 4000000 in
set_option maxRecDepth 100000 in
theorem c_X5_filterFour_a (l : Launch) (D : va_G) (cI cJ cZ : ClassId) (hpl hs : Nat) (sm : Nat → Int32) (fa : Int32) (lim : Int32) (bfa : kB fa 2 254) (hpz : Nat) : Met l yX5_filterFour kw_X5_filterFour ({ frames := 2, cells := 0, slots := 0, locals := 43 }) (va_Pc [.ref hpl, .int fa, .int 1, .int lim] (fun U => U.heap.size = hpz ∧ va_P D vwCl [(hpl, .inr (5, [.ref hs])), (hs, .inl (cI, 256, .inl sm))] U.heap ∧ kK D cI cJ cZ U ∧ va_D (fun _ => True) [(hpl, .inr (5, [.ref hs])), (hs, .inl (cI, 256, .inl sm))])) (va_Qi (fun (r : Int32) (u : (Nat → Int32)) => (kB r 0 1)) (fun (u : (Nat → Int32)) (t : State) => va_P D vwCl [(hpl, .inr (5, [.ref hs])), (hs, .inl (cI, 256, .inl u))] t.heap ∧ va_D (va_A [(hpl, .inr (5, [.ref hs])), (hs, .inl (cI, 256, .inl sm))] hpz) [(hpl, .inr (5, [.ref hs])), (hs, .inl (cI, 256, .inl u))]) (va_A [(hpl, .inr (5, [.ref hs])), (hs, .inl (cI, 256, .inl sm))] hpz)) 0 0 (va_A [(hpl, .inr (5, [.ref hs])), (hs, .inl (cI, 256, .inl sm))] hpz) := by
  refine Met.ofW (cc := cX5_filterFour) (maxL := 11) (ret := (some .boolean)) (by decide) rfl ?_
  intro p e s m args below meth c s₁ B hml hv
  obtain ⟨rfl, hsz, hP, hK, hD0⟩ := hv
  have hx := B.exec
  have hb := B.bytes
  have hr := B.returns
  have hts := fun (w : Cond) (h : w ∈ kW) => atoms_spec (ws := kw_X5_filterFour) B.pre w (List.mem_cons_of_mem _ h)
  have hown : s.vm.findClass RX5 = some m.cls := findClass_of_methodNamed B.named
  have hlocks := B.notSynchronized
  subst hsz
  have hD := hD0.self (sz := s.heap.size)
  generalize hAe : va_A [(hpl, .inr (5, [.ref hs])), (hs, .inl (cI, 256, .inl sm))] s.heap.size = A at hD ⊢
  have hA : ∀ q : Nat, s.heap.size ≤ q → A q := fun q h => by rw [← hAe]; exact Or.inr h
  have hS : va_S A s.heap s.heap [] := va_S.rf
  have hP : va_P D vwCl [(hpl, .inr (5, [.ref hs])), (hs, .inl (cI, 256, .inl sm))] s.heap := hP
  have hl := lv_entry ([.ref hpl, .int fa, .int 1, .int lim]) (n := 11) (Nat.le_of_ble_eq_true rfl)
  rw [lg_entry_eq]
  generalize (lg_sl ([.ref hpl, .int fa, .int 1, .int lim]) ++ List.replicate (11 - (lg_sl ([.ref hpl, .int fa, .int 1, .int lim])).length) Slot.unset).toArray = ls at hl ⊢
  have hl : lv_has ls 11 [(0, .ref hpl), (1, .int fa), (2, .int 1), (3, .int lim)] := hl
  refine lv_aload_n hx hb dX5_filterFour_0 rfl (lv_at hl 0 rfl) ?_
  refine va_get (D := D) (ci := 5) (v := .ref hs) (C := RX5) (T := TX5) (N := 1) hx hb hts in_X5 hown hK.1 hP 0 rfl rfl 0 (by decide) (hts _ mk_76) (fun _ h9 => h9) rfl dX5_filterFour_1 ?_
  refine lv_iload_n hx hb dX5_filterFour_4 rfl (lv_at hl 1 rfl) ?_
  refine lv_iconst (v := 2) hx hb dX5_filterFour_5 (by decide) ?_
  refine lv_iload_n hx hb dX5_filterFour_6 rfl (lv_at hl 2 rfl) ?_
  refine lv_imul hx hb dX5_filterFour_7 ?_
  refine lv_topi (fun v7 e7 => ?_)
  have b7 : kB v7 2 2 := kB_eq e7 (kB_mulc kc_2 kc_1 (by decide))
  refine lv_isub hx hb dX5_filterFour_8 ?_
  refine lv_topi (fun v8 e8 => ?_)
  have b8 : kB v8 0 252 := kB_eq e8 (kB_sub bfa b7 (by decide))
  refine va_iald hx hb hK.1 hP 1 0 rfl rfl (kB_in b8 (by decide)) dX5_filterFour_9 ?_
  refine lv_topi (fun v9 e9 => ?_)
  refine lv_sipush (v := 128) hx hb dX5_filterFour_10 (by decide) ?_
  refine lv_isub hx hb dX5_filterFour_13 ?_
  refine lv_topi (fun v13 e13 => ?_)
  refine lv_istore (lv' := [(4, .int v13), (0, .ref hpl), (1, .int fa), (2, .int 1), (3, .int lim)]) hx hb dX5_filterFour_14 hl (by decide) rfl (fun ls hl => ?_)
  refine lv_aload_n hx hb dX5_filterFour_16 rfl (lv_at hl 1 rfl) ?_
  refine va_get (D := D) (ci := 5) (v := .ref hs) (C := RX5) (T := TX5) (N := 1) hx hb hts in_X5 hown hK.1 hP 0 rfl rfl 0 (by decide) (hts _ mk_76) (fun _ h9 => h9) rfl dX5_filterFour_17 ?_
  refine lv_iload_n hx hb dX5_filterFour_20 rfl (lv_at hl 2 rfl) ?_
  refine lv_iload_n hx hb dX5_filterFour_21 rfl (lv_at hl 3 rfl) ?_
  refine lv_isub hx hb dX5_filterFour_22 ?_
  refine lv_topi (fun v22 e22 => ?_)
  have b22 : kB v22 1 253 := kB_eq e22 (kB_sub bfa kc_1 (by decide))
  refine va_iald hx hb hK.1 hP 1 0 rfl rfl (kB_in b22 (by decide)) dX5_filterFour_23 ?_
  refine lv_topi (fun v23 e23 => ?_)
  refine lv_sipush (v := 128) hx hb dX5_filterFour_24 (by decide) ?_
  refine lv_isub hx hb dX5_filterFour_27 ?_
  refine lv_topi (fun v27 e27 => ?_)
  refine lv_istore (lv' := [(5, .int v27), (4, .int v13), (0, .ref hpl), (1, .int fa), (2, .int 1), (3, .int lim)]) hx hb dX5_filterFour_28 hl (by decide) rfl (fun ls hl => ?_)
  refine lv_aload_n hx hb dX5_filterFour_30 rfl (lv_at hl 2 rfl) ?_
  refine va_get (D := D) (ci := 5) (v := .ref hs) (C := RX5) (T := TX5) (N := 1) hx hb hts in_X5 hown hK.1 hP 0 rfl rfl 0 (by decide) (hts _ mk_76) (fun _ h9 => h9) rfl dX5_filterFour_31 ?_
  refine lv_iload_n hx hb dX5_filterFour_34 rfl (lv_at hl 3 rfl) ?_
  refine va_iald hx hb hK.1 hP 1 0 rfl rfl (kB_in bfa (by decide)) dX5_filterFour_35 ?_
  refine lv_topi (fun v35 e35 => ?_)
  refine lv_sipush (v := 128) hx hb dX5_filterFour_36 (by decide) ?_
  refine lv_isub hx hb dX5_filterFour_39 ?_
  refine lv_topi (fun v39 e39 => ?_)
  refine lv_istore (lv' := [(6, .int v39), (5, .int v27), (4, .int v13), (0, .ref hpl), (1, .int fa), (2, .int 1), (3, .int lim)]) hx hb dX5_filterFour_40 hl (by decide) rfl (fun ls hl => ?_)
  refine lv_aload_n hx hb dX5_filterFour_42 rfl (lv_at hl 3 rfl) ?_
  refine va_get (D := D) (ci := 5) (v := .ref hs) (C := RX5) (T := TX5) (N := 1) hx hb hts in_X5 hown hK.1 hP 0 rfl rfl 0 (by decide) (hts _ mk_76) (fun _ h9 => h9) rfl dX5_filterFour_43 ?_
  refine lv_iload_n hx hb dX5_filterFour_46 rfl (lv_at hl 4 rfl) ?_
  refine lv_iload_n hx hb dX5_filterFour_47 rfl (lv_at hl 5 rfl) ?_
  refine lv_iadd hx hb dX5_filterFour_48 ?_
  refine lv_topi (fun v48 e48 => ?_)
  have b48 : kB v48 3 255 := kB_eq e48 (kB_add bfa kc_1 (by decide))
  refine va_iald hx hb hK.1 hP 1 0 rfl rfl (kB_in b48 (by decide)) dX5_filterFour_49 ?_
  refine lv_topi (fun v49 e49 => ?_)
  refine lv_sipush (v := 128) hx hb dX5_filterFour_50 (by decide) ?_
  refine lv_isub hx hb dX5_filterFour_53 ?_
  refine lv_topi (fun v53 e53 => ?_)
  refine lv_istore (lv' := [(7, .int v53), (6, .int v39), (5, .int v27), (4, .int v13), (0, .ref hpl), (1, .int fa), (2, .int 1), (3, .int lim)]) hx hb dX5_filterFour_54 hl (by decide) rfl (fun ls hl => ?_)
  refine lv_iconst (v := 2) hx hb dX5_filterFour_56 (by decide) ?_
  refine lv_iload hx hb dX5_filterFour_57 (lv_at hl 2 rfl) ?_
  refine lv_iload hx hb dX5_filterFour_59 (lv_at hl 1 rfl) ?_
  refine lv_isub hx hb dX5_filterFour_61 ?_
  refine lv_topi (fun v61 e61 => ?_)
  refine va_mabs hx hb (by rw [hml]; exact hl.1.symm) hown (hts _ mk_100) (hts _ mk_101) (hts _ mk_18) (hts _ mk_102) (Nat.le_of_ble_eq_true rfl) (Nat.le_of_ble_eq_true rfl) (Nat.zero_le _) (Nat.zero_le _) dX5_filterFour_62 ?_
  refine lv_topi (fun v62 e62 => ?_)
  refine lv_imul hx hb dX5_filterFour_65 ?_
  refine lv_topi (fun v65 e65 => ?_)
  refine lv_iload hx hb dX5_filterFour_66 (lv_at hl 3 rfl) ?_
  refine lv_iload hx hb dX5_filterFour_68 (lv_at hl 0 rfl) ?_
  refine lv_isub hx hb dX5_filterFour_70 ?_
  refine lv_topi (fun v70 e70 => ?_)
  refine va_mabs hx hb (by rw [hml]; exact hl.1.symm) hown (hts _ mk_100) (hts _ mk_101) (hts _ mk_18) (hts _ mk_102) (Nat.le_of_ble_eq_true rfl) (Nat.le_of_ble_eq_true rfl) (Nat.zero_le _) (Nat.zero_le _) dX5_filterFour_71 ?_
  refine lv_topi (fun v71 e71 => ?_)
  refine lv_iconst (v := 2) hx hb dX5_filterFour_74 (by decide) ?_
  refine lv_idiv hx hb dX5_filterFour_75 (kB_ne0 kc_2 (Or.inl (by decide))) ?_
  refine lv_topi (fun v75 e75 => ?_)
  refine lv_iadd hx hb dX5_filterFour_76 ?_
  refine lv_topi (fun v76 e76 => ?_)
  refine lv_iload_n hx hb dX5_filterFour_77 rfl (lv_at hl 7 rfl) ?_
  refine lv_icmp_le (tgt := 83) hx hb dX5_filterFour_78 (by decide) (fun c78 => ?_) (fun c78 => ?_)
  · have c78a := kB_all v76
    have c78b := kB_all lim
    have c78x : kB v76 (-2147483648) 2147483647 := kB_le_l c78a c78b c78 (by decide)
    have c78y : kB lim (-2147483648) 2147483647 := kB_le_r c78a c78b c78 (by decide)
    refine lv_iload hx hb dX5_filterFour_83 (lv_at hl 3 rfl) ?_
    refine lv_iload hx hb dX5_filterFour_85 (lv_at hl 0 rfl) ?_
    refine lv_isub hx hb dX5_filterFour_87 ?_
    refine lv_topi (fun v87 e87 => ?_)
    have hPc := hP.sub (ws' := []) [] rfl
    have hDc := hD.sub (ws' := []) [] (by decide) rfl
    have hFc := va_free (wc := []) hD hS hA [] rfl
    refine va_calli (va_runS (As := [.int v87]) (rest := []) ⟨hx, hb, hml, hown, hts⟩ (c_X5_small l D cI cJ cZ v87 (s.heap).size) (cwS 1 hts (kg_S mk_103 mk_104 mk_80 mk_105) rfl rfl rfl (by decide +kernel) ⟨Nat.le_of_ble_eq_true rfl, Nat.le_of_ble_eq_true rfl⟩) ⟨fun a U g mk q => by obtain ⟨q0, q1, qP, qK, qD⟩ := q; exact ⟨q0, q1, qP, kK.call qK, qD⟩, fun U hU hW => ⟨rfl, by rw [hU], by rw [hU]; exact hPc, kK.warm hW hK, hDc.weaken (fun _ _ _ _ => trivial)⟩⟩ rfl rfl hl.1 rfl (lv_room (Nat.le_of_ble_eq_true rfl)) dX5_filterFour_88 ⟨Nat.zero_le _, Nat.zero_le _⟩) hS (fun q _ h => hFc q h) hFc (fun r88 u t9 H1 locs ht9 hvm9 hw9 hB9 hz9 hk9 hS => ?_)
    obtain ⟨hP1, hD1⟩ := hB9
    rw [ht9] at hP1
    have hP1 : va_P D vwCl [] H1 := hP1
    obtain ⟨hP, hD⟩ := va_join (wr := [(hpl, .inr (5, [.ref hs])), (hs, .inl (cI, 256, .inl sm))]) (w1 := []) hP hD [] [0, 1] rfl rfl (by decide) (by decide) hk9 hFc hP1 hD1
    have hP := hP.sub (ws' := [(hpl, .inr (5, [.ref hs])), (hs, .inl (cI, 256, .inl sm))]) [0, 1] rfl
    have hD := hD.sub (ws' := [(hpl, .inr (5, [.ref hs])), (hs, .inl (cI, 256, .inl sm))]) [0, 1] (by decide) rfl
    generalize H1 = H at hP hS ⊢
    refine lv_iconst (v := 3) hx hb dX5_filterFour_91 (by decide) ?_
    refine lv_iload hx hb dX5_filterFour_92 (lv_at hl 1 rfl) ?_
    refine lv_iload hx hb dX5_filterFour_94 (lv_at hl 2 rfl) ?_
    refine lv_isub hx hb dX5_filterFour_96 ?_
    refine lv_topi (fun v96 e96 => ?_)
    refine lv_imul hx hb dX5_filterFour_97 ?_
    refine lv_topi (fun v97 e97 => ?_)
    refine lv_iadd hx hb dX5_filterFour_98 ?_
    refine lv_topi (fun v98 e98 => ?_)
    have hPc := hP.sub (ws' := []) [] rfl
    have hDc := hD.sub (ws' := []) [] (by decide) rfl
    have hFc := va_free (wc := []) hD hS hA [] rfl
    refine va_calli (va_runS (As := [.int v98]) (rest := []) ⟨hx, hb, hml, hown, hts⟩ (c_X5_small l D cI cJ cZ v98 (H).size) (cwS 1 hts (kg_S mk_103 mk_104 mk_80 mk_105) rfl rfl rfl (by decide +kernel) ⟨Nat.le_of_ble_eq_true rfl, Nat.le_of_ble_eq_true rfl⟩) ⟨fun a U g mk q => by obtain ⟨q0, q1, qP, qK, qD⟩ := q; exact ⟨q0, q1, qP, kK.call qK, qD⟩, fun U hU hW => ⟨rfl, by rw [hU], by rw [hU]; exact hPc, kK.warm hW hK, hDc.weaken (fun _ _ _ _ => trivial)⟩⟩ rfl rfl hl.1 rfl (lv_room (Nat.le_of_ble_eq_true rfl)) dX5_filterFour_99 ⟨Nat.zero_le _, Nat.zero_le _⟩) hS (fun q _ h => hFc q h) hFc (fun r99 u t9 H1 locs ht9 hvm9 hw9 hB9 hz9 hk9 hS => ?_)
    obtain ⟨hP1, hD1⟩ := hB9
    rw [ht9] at hP1
    have hP1 : va_P D vwCl [] H1 := hP1
    obtain ⟨hP, hD⟩ := va_join (wr := [(hpl, .inr (5, [.ref hs])), (hs, .inl (cI, 256, .inl sm))]) (w1 := []) hP hD [] [0, 1] rfl rfl (by decide) (by decide) hk9 hFc hP1 hD1
    have hP := hP.sub (ws' := [(hpl, .inr (5, [.ref hs])), (hs, .inl (cI, 256, .inl sm))]) [0, 1] rfl
    have hD := hD.sub (ws' := [(hpl, .inr (5, [.ref hs])), (hs, .inl (cI, 256, .inl sm))]) [0, 1] (by decide) rfl
    generalize H1 = H at hP hS ⊢
    refine lv_istore (lv' := [(8, .int r99), (7, .int v53), (6, .int v39), (5, .int v27), (4, .int v13), (0, .ref hpl), (1, .int fa), (2, .int 1), (3, .int lim)]) hx hb dX5_filterFour_102 hl (by decide) rfl (fun ls hl => ?_)
    refine lv_iload hx hb dX5_filterFour_104 (lv_at hl 2 rfl) ?_
    refine lv_iload hx hb dX5_filterFour_106 (lv_at hl 0 rfl) ?_
    refine lv_iconst (v := 4) hx hb dX5_filterFour_108 (by decide) ?_
    refine lv_iadd hx hb dX5_filterFour_109 ?_
    refine lv_topi (fun v109 e109 => ?_)
    have hPc := hP.sub (ws' := []) [] rfl
    have hDc := hD.sub (ws' := []) [] (by decide) rfl
    have hFc := va_free (wc := []) hD hS hA [] rfl
    refine va_calli (va_runS (As := [.int v109]) (rest := [.int v39]) ⟨hx, hb, hml, hown, hts⟩ (c_X5_small l D cI cJ cZ v109 (H).size) (cwS 1 hts (kg_S mk_103 mk_104 mk_80 mk_105) rfl rfl rfl (by decide +kernel) ⟨Nat.le_of_ble_eq_true rfl, Nat.le_of_ble_eq_true rfl⟩) ⟨fun a U g mk q => by obtain ⟨q0, q1, qP, qK, qD⟩ := q; exact ⟨q0, q1, qP, kK.call qK, qD⟩, fun U hU hW => ⟨rfl, by rw [hU], by rw [hU]; exact hPc, kK.warm hW hK, hDc.weaken (fun _ _ _ _ => trivial)⟩⟩ rfl rfl hl.1 rfl (lv_room (Nat.le_of_ble_eq_true rfl)) dX5_filterFour_110 ⟨Nat.zero_le _, Nat.zero_le _⟩) hS (fun q _ h => hFc q h) hFc (fun r110 u t9 H1 locs ht9 hvm9 hw9 hB9 hz9 hk9 hS => ?_)
    obtain ⟨hP1, hD1⟩ := hB9
    rw [ht9] at hP1
    have hP1 : va_P D vwCl [] H1 := hP1
    obtain ⟨hP, hD⟩ := va_join (wr := [(hpl, .inr (5, [.ref hs])), (hs, .inl (cI, 256, .inl sm))]) (w1 := []) hP hD [] [0, 1] rfl rfl (by decide) (by decide) hk9 hFc hP1 hD1
    have hP := hP.sub (ws' := [(hpl, .inr (5, [.ref hs])), (hs, .inl (cI, 256, .inl sm))]) [0, 1] rfl
    have hD := hD.sub (ws' := [(hpl, .inr (5, [.ref hs])), (hs, .inl (cI, 256, .inl sm))]) [0, 1] (by decide) rfl
    generalize H1 = H at hP hS ⊢
    refine lv_iconst (v := 3) hx hb dX5_filterFour_113 (by decide) ?_
    refine lv_ishr hx hb dX5_filterFour_114 ?_
    refine lv_topi (fun v114 e114 => ?_)
    refine lv_isub hx hb dX5_filterFour_115 ?_
    refine lv_topi (fun v115 e115 => ?_)
    have hPc := hP.sub (ws' := []) [] rfl
    have hDc := hD.sub (ws' := []) [] (by decide) rfl
    have hFc := va_free (wc := []) hD hS hA [] rfl
    refine va_calli (va_runS (As := [.int v115]) (rest := []) ⟨hx, hb, hml, hown, hts⟩ (c_X5_small l D cI cJ cZ v115 (H).size) (cwS 1 hts (kg_S mk_103 mk_104 mk_80 mk_105) rfl rfl rfl (by decide +kernel) ⟨Nat.le_of_ble_eq_true rfl, Nat.le_of_ble_eq_true rfl⟩) ⟨fun a U g mk q => by obtain ⟨q0, q1, qP, qK, qD⟩ := q; exact ⟨q0, q1, qP, kK.call qK, qD⟩, fun U hU hW => ⟨rfl, by rw [hU], by rw [hU]; exact hPc, kK.warm hW hK, hDc.weaken (fun _ _ _ _ => trivial)⟩⟩ rfl rfl hl.1 rfl (lv_room (Nat.le_of_ble_eq_true rfl)) dX5_filterFour_116 ⟨Nat.zero_le _, Nat.zero_le _⟩) hS (fun q _ h => hFc q h) hFc (fun r116 u t9 H1 locs ht9 hvm9 hw9 hB9 hz9 hk9 hS => ?_)
    obtain ⟨hP1, hD1⟩ := hB9
    rw [ht9] at hP1
    have hP1 : va_P D vwCl [] H1 := hP1
    obtain ⟨hP, hD⟩ := va_join (wr := [(hpl, .inr (5, [.ref hs])), (hs, .inl (cI, 256, .inl sm))]) (w1 := []) hP hD [] [0, 1] rfl rfl (by decide) (by decide) hk9 hFc hP1 hD1
    have hP := hP.sub (ws' := [(hpl, .inr (5, [.ref hs])), (hs, .inl (cI, 256, .inl sm))]) [0, 1] rfl
    have hD := hD.sub (ws' := [(hpl, .inr (5, [.ref hs])), (hs, .inl (cI, 256, .inl sm))]) [0, 1] (by decide) rfl
    generalize H1 = H at hP hS ⊢
    refine lv_istore (lv' := [(9, .int r116), (8, .int r99), (7, .int v53), (6, .int v39), (5, .int v27), (4, .int v13), (0, .ref hpl), (1, .int fa), (2, .int 1), (3, .int lim)]) hx hb dX5_filterFour_119 hl (by decide) rfl (fun ls hl => ?_)
    refine lv_iload hx hb dX5_filterFour_121 (lv_at hl 4 rfl) ?_
    refine lv_iload hx hb dX5_filterFour_123 (lv_at hl 1 rfl) ?_
    refine lv_iconst (v := 3) hx hb dX5_filterFour_125 (by decide) ?_
    refine lv_iadd hx hb dX5_filterFour_126 ?_
    refine lv_topi (fun v126 e126 => ?_)
    have hPc := hP.sub (ws' := []) [] rfl
    have hDc := hD.sub (ws' := []) [] (by decide) rfl
    have hFc := va_free (wc := []) hD hS hA [] rfl
    refine va_calli (va_runS (As := [.int v126]) (rest := [.int v27]) ⟨hx, hb, hml, hown, hts⟩ (c_X5_small l D cI cJ cZ v126 (H).size) (cwS 1 hts (kg_S mk_103 mk_104 mk_80 mk_105) rfl rfl rfl (by decide +kernel) ⟨Nat.le_of_ble_eq_true rfl, Nat.le_of_ble_eq_true rfl⟩) ⟨fun a U g mk q => by obtain ⟨q0, q1, qP, qK, qD⟩ := q; exact ⟨q0, q1, qP, kK.call qK, qD⟩, fun U hU hW => ⟨rfl, by rw [hU], by rw [hU]; exact hPc, kK.warm hW hK, hDc.weaken (fun _ _ _ _ => trivial)⟩⟩ rfl rfl hl.1 rfl (lv_room (Nat.le_of_ble_eq_true rfl)) dX5_filterFour_127 ⟨Nat.zero_le _, Nat.zero_le _⟩) hS (fun q _ h => hFc q h) hFc (fun r127 u t9 H1 locs ht9 hvm9 hw9 hB9 hz9 hk9 hS => ?_)
    obtain ⟨hP1, hD1⟩ := hB9
    rw [ht9] at hP1
    have hP1 : va_P D vwCl [] H1 := hP1
    obtain ⟨hP, hD⟩ := va_join (wr := [(hpl, .inr (5, [.ref hs])), (hs, .inl (cI, 256, .inl sm))]) (w1 := []) hP hD [] [0, 1] rfl rfl (by decide) (by decide) hk9 hFc hP1 hD1
    have hP := hP.sub (ws' := [(hpl, .inr (5, [.ref hs])), (hs, .inl (cI, 256, .inl sm))]) [0, 1] rfl
    have hD := hD.sub (ws' := [(hpl, .inr (5, [.ref hs])), (hs, .inl (cI, 256, .inl sm))]) [0, 1] (by decide) rfl
    generalize H1 = H at hP hS ⊢
    refine lv_iconst (v := 3) hx hb dX5_filterFour_130 (by decide) ?_
    refine lv_ishr hx hb dX5_filterFour_131 ?_
    refine lv_topi (fun v131 e131 => ?_)
    refine lv_iadd hx hb dX5_filterFour_132 ?_
    refine lv_topi (fun v132 e132 => ?_)
    have hPc := hP.sub (ws' := []) [] rfl
    have hDc := hD.sub (ws' := []) [] (by decide) rfl
    have hFc := va_free (wc := []) hD hS hA [] rfl
    refine va_calli (va_runS (As := [.int v132]) (rest := []) ⟨hx, hb, hml, hown, hts⟩ (c_X5_small l D cI cJ cZ v132 (H).size) (cwS 1 hts (kg_S mk_103 mk_104 mk_80 mk_105) rfl rfl rfl (by decide +kernel) ⟨Nat.le_of_ble_eq_true rfl, Nat.le_of_ble_eq_true rfl⟩) ⟨fun a U g mk q => by obtain ⟨q0, q1, qP, qK, qD⟩ := q; exact ⟨q0, q1, qP, kK.call qK, qD⟩, fun U hU hW => ⟨rfl, by rw [hU], by rw [hU]; exact hPc, kK.warm hW hK, hDc.weaken (fun _ _ _ _ => trivial)⟩⟩ rfl rfl hl.1 rfl (lv_room (Nat.le_of_ble_eq_true rfl)) dX5_filterFour_133 ⟨Nat.zero_le _, Nat.zero_le _⟩) hS (fun q _ h => hFc q h) hFc (fun r133 u t9 H1 locs ht9 hvm9 hw9 hB9 hz9 hk9 hS => ?_)
    obtain ⟨hP1, hD1⟩ := hB9
    rw [ht9] at hP1
    have hP1 : va_P D vwCl [] H1 := hP1
    obtain ⟨hP, hD⟩ := va_join (wr := [(hpl, .inr (5, [.ref hs])), (hs, .inl (cI, 256, .inl sm))]) (w1 := []) hP hD [] [0, 1] rfl rfl (by decide) (by decide) hk9 hFc hP1 hD1
    have hP := hP.sub (ws' := [(hpl, .inr (5, [.ref hs])), (hs, .inl (cI, 256, .inl sm))]) [0, 1] rfl
    have hD := hD.sub (ws' := [(hpl, .inr (5, [.ref hs])), (hs, .inl (cI, 256, .inl sm))]) [0, 1] (by decide) rfl
    generalize H1 = H at hP hS ⊢
    refine lv_istore (lv' := [(10, .int r133), (9, .int r116), (8, .int r99), (7, .int v53), (6, .int v39), (5, .int v27), (4, .int v13), (0, .ref hpl), (1, .int fa), (2, .int 1), (3, .int lim)]) hx hb dX5_filterFour_136 hl (by decide) rfl (fun ls hl => ?_)
    refine lv_aload_n hx hb dX5_filterFour_138 rfl (lv_at hl 7 rfl) ?_
    refine va_get (D := D) (ci := 5) (v := .ref hs) (C := RX5) (T := TX5) (N := 1) hx hb hts in_X5 hown hK.1 hP 0 rfl rfl 0 (by decide) (hts _ mk_76) (fun _ h9 => h9) rfl dX5_filterFour_139 ?_
    refine lv_iload_n hx hb dX5_filterFour_142 rfl (lv_at hl 8 rfl) ?_
    refine lv_iload hx hb dX5_filterFour_143 (lv_at hl 1 rfl) ?_
    refine lv_sipush (v := 128) hx hb dX5_filterFour_145 (by decide) ?_
    refine lv_iadd hx hb dX5_filterFour_148 ?_
    refine lv_topi (fun v148 e148 => ?_)
    refine va_iast hx hb hK.1 hP hD hS 1 0 rfl rfl (kB_in bfa (by decide)) dX5_filterFour_149 (fun H locs hP hD hS => ?_)
    have hP : va_P D vwCl [(hpl, .inr (5, [.ref hs])), (hs, .inl (cI, 256, .inl (upd sm fa.toNatClampNeg v148)))] H := hP
    have hD : va_D A [(hpl, .inr (5, [.ref hs])), (hs, .inl (cI, 256, .inl (upd sm fa.toNatClampNeg v148)))] := hD
    generalize hf149 : upd sm fa.toNatClampNeg v148 = f149 at hP hD
    refine lv_aload_n hx hb dX5_filterFour_150 rfl (lv_at hl 7 rfl) ?_
    refine va_get (D := D) (ci := 5) (v := .ref hs) (C := RX5) (T := TX5) (N := 1) hx hb hts in_X5 hown hK.1 hP 0 rfl rfl 0 (by decide) (hts _ mk_76) (fun _ h9 => h9) rfl dX5_filterFour_151 ?_
    refine lv_iload_n hx hb dX5_filterFour_154 rfl (lv_at hl 8 rfl) ?_
    refine lv_iload_n hx hb dX5_filterFour_155 rfl (lv_at hl 9 rfl) ?_
    refine lv_isub hx hb dX5_filterFour_156 ?_
    refine lv_topi (fun v156 e156 => ?_)
    have b156 : kB v156 1 253 := kB_eq e156 (kB_sub bfa kc_1 (by decide))
    refine lv_iload hx hb dX5_filterFour_157 (lv_at hl 0 rfl) ?_
    refine lv_sipush (v := 128) hx hb dX5_filterFour_159 (by decide) ?_
    refine lv_iadd hx hb dX5_filterFour_162 ?_
    refine lv_topi (fun v162 e162 => ?_)
    refine va_iast hx hb hK.1 hP hD hS 1 0 rfl rfl (kB_in b156 (by decide)) dX5_filterFour_163 (fun H locs hP hD hS => ?_)
    have hP : va_P D vwCl [(hpl, .inr (5, [.ref hs])), (hs, .inl (cI, 256, .inl (upd f149 v156.toNatClampNeg v162)))] H := hP
    have hD : va_D A [(hpl, .inr (5, [.ref hs])), (hs, .inl (cI, 256, .inl (upd f149 v156.toNatClampNeg v162)))] := hD
    generalize hf163 : upd f149 v156.toNatClampNeg v162 = f163 at hP hD
    refine lv_iload hx hb dX5_filterFour_164 (lv_at hl 1 rfl) ?_
    refine lv_iload hx hb dX5_filterFour_166 (lv_at hl 4 rfl) ?_
    refine lv_icmp_ne (tgt := 178) hx hb dX5_filterFour_168 (by decide) (fun c168 => ?_) (fun c168 => ?_)
    · refine lv_iconst (v := 1) hx hb dX5_filterFour_178 (by decide) ?_
      refine lv_goto (tgt := 183) hx hb dX5_filterFour_179 (by decide) ?_
      have pf_b : kB (1 : Int32) 0 1 := (kB_w kc_1 (by decide) (by decide))
      exact W.zret (v := 1) hx hb hr (kB_nz (kB_w kc_1 (by decide) (by decide))) (fun t9 ht9 hW9 => ⟨⟨1, f163, rfl, pf_b, by rw [ht9]; exact hP, hD⟩, hS.F ht9⟩) hS.2.2 dX5_filterFour_183
    · refine lv_iload hx hb dX5_filterFour_171 (lv_at hl 0 rfl) ?_
      refine lv_iload hx hb dX5_filterFour_173 (lv_at hl 5 rfl) ?_
      refine lv_icmp_eq (tgt := 182) hx hb dX5_filterFour_175 (by decide) (fun c175 => ?_) (fun c175 => ?_)
      · refine lv_iconst (v := 0) hx hb dX5_filterFour_182 (by decide) ?_
        have pf_b : kB (0 : Int32) 0 1 := (kB_w kc_0 (by decide) (by decide))
        exact W.zret (v := 0) hx hb hr (kB_nz (kB_w kc_0 (by decide) (by decide))) (fun t9 ht9 hW9 => ⟨⟨0, f163, rfl, pf_b, by rw [ht9]; exact hP, hD⟩, hS.F ht9⟩) hS.2.2 dX5_filterFour_183
      · refine lv_iconst (v := 1) hx hb dX5_filterFour_178 (by decide) ?_
        refine lv_goto (tgt := 183) hx hb dX5_filterFour_179 (by decide) ?_
        have pf_b : kB (1 : Int32) 0 1 := (kB_w kc_1 (by decide) (by decide))
        exact W.zret (v := 1) hx hb hr (kB_nz (kB_w kc_1 (by decide) (by decide))) (fun t9 ht9 hW9 => ⟨⟨1, f163, rfl, pf_b, by rw [ht9]; exact hP, hD⟩, hS.F ht9⟩) hS.2.2 dX5_filterFour_183
  · have c78n : lim < v76 := kN_le c78
    have c78na := kB_all lim
    have c78nb := kB_all v76
    have c78nx : kB lim (-2147483648) 2147483646 := kB_lt_l c78na c78nb c78n (by decide)
    have c78ny : kB v76 (-2147483647) 2147483647 := kB_lt_r c78na c78nb c78n (by decide)
    refine lv_iconst (v := 0) hx hb dX5_filterFour_81 (by decide) ?_
    have pf_b : kB (0 : Int32) 0 1 := (kB_w kc_0 (by decide) (by decide))
    exact W.zret (v := 0) hx hb hr (kB_nz (kB_w kc_0 (by decide) (by decide))) (fun t9 ht9 hW9 => ⟨⟨0, sm, rfl, pf_b, by rw [ht9]; exact hP, hD⟩, hS.F ht9⟩) hS.2.2 dX5_filterFour_82
set_option maxHeartbeats 4000000 in
set_option maxRecDepth 100000 in
theorem c_X5_filterFour_b (l : Launch) (D : va_G) (cI cJ cZ : ClassId) (hpl hs : Nat) (sm : Nat → Int32) (fa : Int32) (lim : Int32) (bfa : kB fa 32 239) (hpz : Nat) : Met l yX5_filterFour kw_X5_filterFour ({ frames := 2, cells := 0, slots := 0, locals := 43 }) (va_Pc [.ref hpl, .int fa, .int 16, .int lim] (fun U => U.heap.size = hpz ∧ va_P D vwCl [(hpl, .inr (5, [.ref hs])), (hs, .inl (cI, 256, .inl sm))] U.heap ∧ kK D cI cJ cZ U ∧ va_D (fun _ => True) [(hpl, .inr (5, [.ref hs])), (hs, .inl (cI, 256, .inl sm))])) (va_Qi (fun (r : Int32) (u : (Nat → Int32)) => (kB r 0 1)) (fun (u : (Nat → Int32)) (t : State) => va_P D vwCl [(hpl, .inr (5, [.ref hs])), (hs, .inl (cI, 256, .inl u))] t.heap ∧ va_D (va_A [(hpl, .inr (5, [.ref hs])), (hs, .inl (cI, 256, .inl sm))] hpz) [(hpl, .inr (5, [.ref hs])), (hs, .inl (cI, 256, .inl u))]) (va_A [(hpl, .inr (5, [.ref hs])), (hs, .inl (cI, 256, .inl sm))] hpz)) 0 0 (va_A [(hpl, .inr (5, [.ref hs])), (hs, .inl (cI, 256, .inl sm))] hpz) := by
  refine Met.ofW (cc := cX5_filterFour) (maxL := 11) (ret := (some .boolean)) (by decide) rfl ?_
  intro p e s m args below meth c s₁ B hml hv
  obtain ⟨rfl, hsz, hP, hK, hD0⟩ := hv
  have hx := B.exec
  have hb := B.bytes
  have hr := B.returns
  have hts := fun (w : Cond) (h : w ∈ kW) => atoms_spec (ws := kw_X5_filterFour) B.pre w (List.mem_cons_of_mem _ h)
  have hown : s.vm.findClass RX5 = some m.cls := findClass_of_methodNamed B.named
  have hlocks := B.notSynchronized
  subst hsz
  have hD := hD0.self (sz := s.heap.size)
  generalize hAe : va_A [(hpl, .inr (5, [.ref hs])), (hs, .inl (cI, 256, .inl sm))] s.heap.size = A at hD ⊢
  have hA : ∀ q : Nat, s.heap.size ≤ q → A q := fun q h => by rw [← hAe]; exact Or.inr h
  have hS : va_S A s.heap s.heap [] := va_S.rf
  have hP : va_P D vwCl [(hpl, .inr (5, [.ref hs])), (hs, .inl (cI, 256, .inl sm))] s.heap := hP
  have hl := lv_entry ([.ref hpl, .int fa, .int 16, .int lim]) (n := 11) (Nat.le_of_ble_eq_true rfl)
  rw [lg_entry_eq]
  generalize (lg_sl ([.ref hpl, .int fa, .int 16, .int lim]) ++ List.replicate (11 - (lg_sl ([.ref hpl, .int fa, .int 16, .int lim])).length) Slot.unset).toArray = ls at hl ⊢
  have hl : lv_has ls 11 [(0, .ref hpl), (1, .int fa), (2, .int 16), (3, .int lim)] := hl
  refine lv_aload_n hx hb dX5_filterFour_0 rfl (lv_at hl 0 rfl) ?_
  refine va_get (D := D) (ci := 5) (v := .ref hs) (C := RX5) (T := TX5) (N := 1) hx hb hts in_X5 hown hK.1 hP 0 rfl rfl 0 (by decide) (hts _ mk_76) (fun _ h9 => h9) rfl dX5_filterFour_1 ?_
  refine lv_iload_n hx hb dX5_filterFour_4 rfl (lv_at hl 1 rfl) ?_
  refine lv_iconst (v := 2) hx hb dX5_filterFour_5 (by decide) ?_
  refine lv_iload_n hx hb dX5_filterFour_6 rfl (lv_at hl 2 rfl) ?_
  refine lv_imul hx hb dX5_filterFour_7 ?_
  refine lv_topi (fun v7 e7 => ?_)
  have b7 : kB v7 32 32 := kB_eq e7 (kB_mulc kc_2 kc_16 (by decide))
  refine lv_isub hx hb dX5_filterFour_8 ?_
  refine lv_topi (fun v8 e8 => ?_)
  have b8 : kB v8 0 207 := kB_eq e8 (kB_sub bfa b7 (by decide))
  refine va_iald hx hb hK.1 hP 1 0 rfl rfl (kB_in b8 (by decide)) dX5_filterFour_9 ?_
  refine lv_topi (fun v9 e9 => ?_)
  refine lv_sipush (v := 128) hx hb dX5_filterFour_10 (by decide) ?_
  refine lv_isub hx hb dX5_filterFour_13 ?_
  refine lv_topi (fun v13 e13 => ?_)
  refine lv_istore (lv' := [(4, .int v13), (0, .ref hpl), (1, .int fa), (2, .int 16), (3, .int lim)]) hx hb dX5_filterFour_14 hl (by decide) rfl (fun ls hl => ?_)
  refine lv_aload_n hx hb dX5_filterFour_16 rfl (lv_at hl 1 rfl) ?_
  refine va_get (D := D) (ci := 5) (v := .ref hs) (C := RX5) (T := TX5) (N := 1) hx hb hts in_X5 hown hK.1 hP 0 rfl rfl 0 (by decide) (hts _ mk_76) (fun _ h9 => h9) rfl dX5_filterFour_17 ?_
  refine lv_iload_n hx hb dX5_filterFour_20 rfl (lv_at hl 2 rfl) ?_
  refine lv_iload_n hx hb dX5_filterFour_21 rfl (lv_at hl 3 rfl) ?_
  refine lv_isub hx hb dX5_filterFour_22 ?_
  refine lv_topi (fun v22 e22 => ?_)
  have b22 : kB v22 16 223 := kB_eq e22 (kB_sub bfa kc_16 (by decide))
  refine va_iald hx hb hK.1 hP 1 0 rfl rfl (kB_in b22 (by decide)) dX5_filterFour_23 ?_
  refine lv_topi (fun v23 e23 => ?_)
  refine lv_sipush (v := 128) hx hb dX5_filterFour_24 (by decide) ?_
  refine lv_isub hx hb dX5_filterFour_27 ?_
  refine lv_topi (fun v27 e27 => ?_)
  refine lv_istore (lv' := [(5, .int v27), (4, .int v13), (0, .ref hpl), (1, .int fa), (2, .int 16), (3, .int lim)]) hx hb dX5_filterFour_28 hl (by decide) rfl (fun ls hl => ?_)
  refine lv_aload_n hx hb dX5_filterFour_30 rfl (lv_at hl 2 rfl) ?_
  refine va_get (D := D) (ci := 5) (v := .ref hs) (C := RX5) (T := TX5) (N := 1) hx hb hts in_X5 hown hK.1 hP 0 rfl rfl 0 (by decide) (hts _ mk_76) (fun _ h9 => h9) rfl dX5_filterFour_31 ?_
  refine lv_iload_n hx hb dX5_filterFour_34 rfl (lv_at hl 3 rfl) ?_
  refine va_iald hx hb hK.1 hP 1 0 rfl rfl (kB_in bfa (by decide)) dX5_filterFour_35 ?_
  refine lv_topi (fun v35 e35 => ?_)
  refine lv_sipush (v := 128) hx hb dX5_filterFour_36 (by decide) ?_
  refine lv_isub hx hb dX5_filterFour_39 ?_
  refine lv_topi (fun v39 e39 => ?_)
  refine lv_istore (lv' := [(6, .int v39), (5, .int v27), (4, .int v13), (0, .ref hpl), (1, .int fa), (2, .int 16), (3, .int lim)]) hx hb dX5_filterFour_40 hl (by decide) rfl (fun ls hl => ?_)
  refine lv_aload_n hx hb dX5_filterFour_42 rfl (lv_at hl 3 rfl) ?_
  refine va_get (D := D) (ci := 5) (v := .ref hs) (C := RX5) (T := TX5) (N := 1) hx hb hts in_X5 hown hK.1 hP 0 rfl rfl 0 (by decide) (hts _ mk_76) (fun _ h9 => h9) rfl dX5_filterFour_43 ?_
  refine lv_iload_n hx hb dX5_filterFour_46 rfl (lv_at hl 4 rfl) ?_
  refine lv_iload_n hx hb dX5_filterFour_47 rfl (lv_at hl 5 rfl) ?_
  refine lv_iadd hx hb dX5_filterFour_48 ?_
  refine lv_topi (fun v48 e48 => ?_)
  have b48 : kB v48 48 255 := kB_eq e48 (kB_add bfa kc_16 (by decide))
  refine va_iald hx hb hK.1 hP 1 0 rfl rfl (kB_in b48 (by decide)) dX5_filterFour_49 ?_
  refine lv_topi (fun v49 e49 => ?_)
  refine lv_sipush (v := 128) hx hb dX5_filterFour_50 (by decide) ?_
  refine lv_isub hx hb dX5_filterFour_53 ?_
  refine lv_topi (fun v53 e53 => ?_)
  refine lv_istore (lv' := [(7, .int v53), (6, .int v39), (5, .int v27), (4, .int v13), (0, .ref hpl), (1, .int fa), (2, .int 16), (3, .int lim)]) hx hb dX5_filterFour_54 hl (by decide) rfl (fun ls hl => ?_)
  refine lv_iconst (v := 2) hx hb dX5_filterFour_56 (by decide) ?_
  refine lv_iload hx hb dX5_filterFour_57 (lv_at hl 2 rfl) ?_
  refine lv_iload hx hb dX5_filterFour_59 (lv_at hl 1 rfl) ?_
  refine lv_isub hx hb dX5_filterFour_61 ?_
  refine lv_topi (fun v61 e61 => ?_)
  refine va_mabs hx hb (by rw [hml]; exact hl.1.symm) hown (hts _ mk_100) (hts _ mk_101) (hts _ mk_18) (hts _ mk_102) (Nat.le_of_ble_eq_true rfl) (Nat.le_of_ble_eq_true rfl) (Nat.zero_le _) (Nat.zero_le _) dX5_filterFour_62 ?_
  refine lv_topi (fun v62 e62 => ?_)
  refine lv_imul hx hb dX5_filterFour_65 ?_
  refine lv_topi (fun v65 e65 => ?_)
  refine lv_iload hx hb dX5_filterFour_66 (lv_at hl 3 rfl) ?_
  refine lv_iload hx hb dX5_filterFour_68 (lv_at hl 0 rfl) ?_
  refine lv_isub hx hb dX5_filterFour_70 ?_
  refine lv_topi (fun v70 e70 => ?_)
  refine va_mabs hx hb (by rw [hml]; exact hl.1.symm) hown (hts _ mk_100) (hts _ mk_101) (hts _ mk_18) (hts _ mk_102) (Nat.le_of_ble_eq_true rfl) (Nat.le_of_ble_eq_true rfl) (Nat.zero_le _) (Nat.zero_le _) dX5_filterFour_71 ?_
  refine lv_topi (fun v71 e71 => ?_)
  refine lv_iconst (v := 2) hx hb dX5_filterFour_74 (by decide) ?_
  refine lv_idiv hx hb dX5_filterFour_75 (kB_ne0 kc_2 (Or.inl (by decide))) ?_
  refine lv_topi (fun v75 e75 => ?_)
  refine lv_iadd hx hb dX5_filterFour_76 ?_
  refine lv_topi (fun v76 e76 => ?_)
  refine lv_iload_n hx hb dX5_filterFour_77 rfl (lv_at hl 7 rfl) ?_
  refine lv_icmp_le (tgt := 83) hx hb dX5_filterFour_78 (by decide) (fun c78 => ?_) (fun c78 => ?_)
  · have c78a := kB_all v76
    have c78b := kB_all lim
    have c78x : kB v76 (-2147483648) 2147483647 := kB_le_l c78a c78b c78 (by decide)
    have c78y : kB lim (-2147483648) 2147483647 := kB_le_r c78a c78b c78 (by decide)
    refine lv_iload hx hb dX5_filterFour_83 (lv_at hl 3 rfl) ?_
    refine lv_iload hx hb dX5_filterFour_85 (lv_at hl 0 rfl) ?_
    refine lv_isub hx hb dX5_filterFour_87 ?_
    refine lv_topi (fun v87 e87 => ?_)
    have hPc := hP.sub (ws' := []) [] rfl
    have hDc := hD.sub (ws' := []) [] (by decide) rfl
    have hFc := va_free (wc := []) hD hS hA [] rfl
    refine va_calli (va_runS (As := [.int v87]) (rest := []) ⟨hx, hb, hml, hown, hts⟩ (c_X5_small l D cI cJ cZ v87 (s.heap).size) (cwS 1 hts (kg_S mk_103 mk_104 mk_80 mk_105) rfl rfl rfl (by decide +kernel) ⟨Nat.le_of_ble_eq_true rfl, Nat.le_of_ble_eq_true rfl⟩) ⟨fun a U g mk q => by obtain ⟨q0, q1, qP, qK, qD⟩ := q; exact ⟨q0, q1, qP, kK.call qK, qD⟩, fun U hU hW => ⟨rfl, by rw [hU], by rw [hU]; exact hPc, kK.warm hW hK, hDc.weaken (fun _ _ _ _ => trivial)⟩⟩ rfl rfl hl.1 rfl (lv_room (Nat.le_of_ble_eq_true rfl)) dX5_filterFour_88 ⟨Nat.zero_le _, Nat.zero_le _⟩) hS (fun q _ h => hFc q h) hFc (fun r88 u t9 H1 locs ht9 hvm9 hw9 hB9 hz9 hk9 hS => ?_)
    obtain ⟨hP1, hD1⟩ := hB9
    rw [ht9] at hP1
    have hP1 : va_P D vwCl [] H1 := hP1
    obtain ⟨hP, hD⟩ := va_join (wr := [(hpl, .inr (5, [.ref hs])), (hs, .inl (cI, 256, .inl sm))]) (w1 := []) hP hD [] [0, 1] rfl rfl (by decide) (by decide) hk9 hFc hP1 hD1
    have hP := hP.sub (ws' := [(hpl, .inr (5, [.ref hs])), (hs, .inl (cI, 256, .inl sm))]) [0, 1] rfl
    have hD := hD.sub (ws' := [(hpl, .inr (5, [.ref hs])), (hs, .inl (cI, 256, .inl sm))]) [0, 1] (by decide) rfl
    generalize H1 = H at hP hS ⊢
    refine lv_iconst (v := 3) hx hb dX5_filterFour_91 (by decide) ?_
    refine lv_iload hx hb dX5_filterFour_92 (lv_at hl 1 rfl) ?_
    refine lv_iload hx hb dX5_filterFour_94 (lv_at hl 2 rfl) ?_
    refine lv_isub hx hb dX5_filterFour_96 ?_
    refine lv_topi (fun v96 e96 => ?_)
    refine lv_imul hx hb dX5_filterFour_97 ?_
    refine lv_topi (fun v97 e97 => ?_)
    refine lv_iadd hx hb dX5_filterFour_98 ?_
    refine lv_topi (fun v98 e98 => ?_)
    have hPc := hP.sub (ws' := []) [] rfl
    have hDc := hD.sub (ws' := []) [] (by decide) rfl
    have hFc := va_free (wc := []) hD hS hA [] rfl
    refine va_calli (va_runS (As := [.int v98]) (rest := []) ⟨hx, hb, hml, hown, hts⟩ (c_X5_small l D cI cJ cZ v98 (H).size) (cwS 1 hts (kg_S mk_103 mk_104 mk_80 mk_105) rfl rfl rfl (by decide +kernel) ⟨Nat.le_of_ble_eq_true rfl, Nat.le_of_ble_eq_true rfl⟩) ⟨fun a U g mk q => by obtain ⟨q0, q1, qP, qK, qD⟩ := q; exact ⟨q0, q1, qP, kK.call qK, qD⟩, fun U hU hW => ⟨rfl, by rw [hU], by rw [hU]; exact hPc, kK.warm hW hK, hDc.weaken (fun _ _ _ _ => trivial)⟩⟩ rfl rfl hl.1 rfl (lv_room (Nat.le_of_ble_eq_true rfl)) dX5_filterFour_99 ⟨Nat.zero_le _, Nat.zero_le _⟩) hS (fun q _ h => hFc q h) hFc (fun r99 u t9 H1 locs ht9 hvm9 hw9 hB9 hz9 hk9 hS => ?_)
    obtain ⟨hP1, hD1⟩ := hB9
    rw [ht9] at hP1
    have hP1 : va_P D vwCl [] H1 := hP1
    obtain ⟨hP, hD⟩ := va_join (wr := [(hpl, .inr (5, [.ref hs])), (hs, .inl (cI, 256, .inl sm))]) (w1 := []) hP hD [] [0, 1] rfl rfl (by decide) (by decide) hk9 hFc hP1 hD1
    have hP := hP.sub (ws' := [(hpl, .inr (5, [.ref hs])), (hs, .inl (cI, 256, .inl sm))]) [0, 1] rfl
    have hD := hD.sub (ws' := [(hpl, .inr (5, [.ref hs])), (hs, .inl (cI, 256, .inl sm))]) [0, 1] (by decide) rfl
    generalize H1 = H at hP hS ⊢
    refine lv_istore (lv' := [(8, .int r99), (7, .int v53), (6, .int v39), (5, .int v27), (4, .int v13), (0, .ref hpl), (1, .int fa), (2, .int 16), (3, .int lim)]) hx hb dX5_filterFour_102 hl (by decide) rfl (fun ls hl => ?_)
    refine lv_iload hx hb dX5_filterFour_104 (lv_at hl 2 rfl) ?_
    refine lv_iload hx hb dX5_filterFour_106 (lv_at hl 0 rfl) ?_
    refine lv_iconst (v := 4) hx hb dX5_filterFour_108 (by decide) ?_
    refine lv_iadd hx hb dX5_filterFour_109 ?_
    refine lv_topi (fun v109 e109 => ?_)
    have hPc := hP.sub (ws' := []) [] rfl
    have hDc := hD.sub (ws' := []) [] (by decide) rfl
    have hFc := va_free (wc := []) hD hS hA [] rfl
    refine va_calli (va_runS (As := [.int v109]) (rest := [.int v39]) ⟨hx, hb, hml, hown, hts⟩ (c_X5_small l D cI cJ cZ v109 (H).size) (cwS 1 hts (kg_S mk_103 mk_104 mk_80 mk_105) rfl rfl rfl (by decide +kernel) ⟨Nat.le_of_ble_eq_true rfl, Nat.le_of_ble_eq_true rfl⟩) ⟨fun a U g mk q => by obtain ⟨q0, q1, qP, qK, qD⟩ := q; exact ⟨q0, q1, qP, kK.call qK, qD⟩, fun U hU hW => ⟨rfl, by rw [hU], by rw [hU]; exact hPc, kK.warm hW hK, hDc.weaken (fun _ _ _ _ => trivial)⟩⟩ rfl rfl hl.1 rfl (lv_room (Nat.le_of_ble_eq_true rfl)) dX5_filterFour_110 ⟨Nat.zero_le _, Nat.zero_le _⟩) hS (fun q _ h => hFc q h) hFc (fun r110 u t9 H1 locs ht9 hvm9 hw9 hB9 hz9 hk9 hS => ?_)
    obtain ⟨hP1, hD1⟩ := hB9
    rw [ht9] at hP1
    have hP1 : va_P D vwCl [] H1 := hP1
    obtain ⟨hP, hD⟩ := va_join (wr := [(hpl, .inr (5, [.ref hs])), (hs, .inl (cI, 256, .inl sm))]) (w1 := []) hP hD [] [0, 1] rfl rfl (by decide) (by decide) hk9 hFc hP1 hD1
    have hP := hP.sub (ws' := [(hpl, .inr (5, [.ref hs])), (hs, .inl (cI, 256, .inl sm))]) [0, 1] rfl
    have hD := hD.sub (ws' := [(hpl, .inr (5, [.ref hs])), (hs, .inl (cI, 256, .inl sm))]) [0, 1] (by decide) rfl
    generalize H1 = H at hP hS ⊢
    refine lv_iconst (v := 3) hx hb dX5_filterFour_113 (by decide) ?_
    refine lv_ishr hx hb dX5_filterFour_114 ?_
    refine lv_topi (fun v114 e114 => ?_)
    refine lv_isub hx hb dX5_filterFour_115 ?_
    refine lv_topi (fun v115 e115 => ?_)
    have hPc := hP.sub (ws' := []) [] rfl
    have hDc := hD.sub (ws' := []) [] (by decide) rfl
    have hFc := va_free (wc := []) hD hS hA [] rfl
    refine va_calli (va_runS (As := [.int v115]) (rest := []) ⟨hx, hb, hml, hown, hts⟩ (c_X5_small l D cI cJ cZ v115 (H).size) (cwS 1 hts (kg_S mk_103 mk_104 mk_80 mk_105) rfl rfl rfl (by decide +kernel) ⟨Nat.le_of_ble_eq_true rfl, Nat.le_of_ble_eq_true rfl⟩) ⟨fun a U g mk q => by obtain ⟨q0, q1, qP, qK, qD⟩ := q; exact ⟨q0, q1, qP, kK.call qK, qD⟩, fun U hU hW => ⟨rfl, by rw [hU], by rw [hU]; exact hPc, kK.warm hW hK, hDc.weaken (fun _ _ _ _ => trivial)⟩⟩ rfl rfl hl.1 rfl (lv_room (Nat.le_of_ble_eq_true rfl)) dX5_filterFour_116 ⟨Nat.zero_le _, Nat.zero_le _⟩) hS (fun q _ h => hFc q h) hFc (fun r116 u t9 H1 locs ht9 hvm9 hw9 hB9 hz9 hk9 hS => ?_)
    obtain ⟨hP1, hD1⟩ := hB9
    rw [ht9] at hP1
    have hP1 : va_P D vwCl [] H1 := hP1
    obtain ⟨hP, hD⟩ := va_join (wr := [(hpl, .inr (5, [.ref hs])), (hs, .inl (cI, 256, .inl sm))]) (w1 := []) hP hD [] [0, 1] rfl rfl (by decide) (by decide) hk9 hFc hP1 hD1
    have hP := hP.sub (ws' := [(hpl, .inr (5, [.ref hs])), (hs, .inl (cI, 256, .inl sm))]) [0, 1] rfl
    have hD := hD.sub (ws' := [(hpl, .inr (5, [.ref hs])), (hs, .inl (cI, 256, .inl sm))]) [0, 1] (by decide) rfl
    generalize H1 = H at hP hS ⊢
    refine lv_istore (lv' := [(9, .int r116), (8, .int r99), (7, .int v53), (6, .int v39), (5, .int v27), (4, .int v13), (0, .ref hpl), (1, .int fa), (2, .int 16), (3, .int lim)]) hx hb dX5_filterFour_119 hl (by decide) rfl (fun ls hl => ?_)
    refine lv_iload hx hb dX5_filterFour_121 (lv_at hl 4 rfl) ?_
    refine lv_iload hx hb dX5_filterFour_123 (lv_at hl 1 rfl) ?_
    refine lv_iconst (v := 3) hx hb dX5_filterFour_125 (by decide) ?_
    refine lv_iadd hx hb dX5_filterFour_126 ?_
    refine lv_topi (fun v126 e126 => ?_)
    have hPc := hP.sub (ws' := []) [] rfl
    have hDc := hD.sub (ws' := []) [] (by decide) rfl
    have hFc := va_free (wc := []) hD hS hA [] rfl
    refine va_calli (va_runS (As := [.int v126]) (rest := [.int v27]) ⟨hx, hb, hml, hown, hts⟩ (c_X5_small l D cI cJ cZ v126 (H).size) (cwS 1 hts (kg_S mk_103 mk_104 mk_80 mk_105) rfl rfl rfl (by decide +kernel) ⟨Nat.le_of_ble_eq_true rfl, Nat.le_of_ble_eq_true rfl⟩) ⟨fun a U g mk q => by obtain ⟨q0, q1, qP, qK, qD⟩ := q; exact ⟨q0, q1, qP, kK.call qK, qD⟩, fun U hU hW => ⟨rfl, by rw [hU], by rw [hU]; exact hPc, kK.warm hW hK, hDc.weaken (fun _ _ _ _ => trivial)⟩⟩ rfl rfl hl.1 rfl (lv_room (Nat.le_of_ble_eq_true rfl)) dX5_filterFour_127 ⟨Nat.zero_le _, Nat.zero_le _⟩) hS (fun q _ h => hFc q h) hFc (fun r127 u t9 H1 locs ht9 hvm9 hw9 hB9 hz9 hk9 hS => ?_)
    obtain ⟨hP1, hD1⟩ := hB9
    rw [ht9] at hP1
    have hP1 : va_P D vwCl [] H1 := hP1
    obtain ⟨hP, hD⟩ := va_join (wr := [(hpl, .inr (5, [.ref hs])), (hs, .inl (cI, 256, .inl sm))]) (w1 := []) hP hD [] [0, 1] rfl rfl (by decide) (by decide) hk9 hFc hP1 hD1
    have hP := hP.sub (ws' := [(hpl, .inr (5, [.ref hs])), (hs, .inl (cI, 256, .inl sm))]) [0, 1] rfl
    have hD := hD.sub (ws' := [(hpl, .inr (5, [.ref hs])), (hs, .inl (cI, 256, .inl sm))]) [0, 1] (by decide) rfl
    generalize H1 = H at hP hS ⊢
    refine lv_iconst (v := 3) hx hb dX5_filterFour_130 (by decide) ?_
    refine lv_ishr hx hb dX5_filterFour_131 ?_
    refine lv_topi (fun v131 e131 => ?_)
    refine lv_iadd hx hb dX5_filterFour_132 ?_
    refine lv_topi (fun v132 e132 => ?_)
    have hPc := hP.sub (ws' := []) [] rfl
    have hDc := hD.sub (ws' := []) [] (by decide) rfl
    have hFc := va_free (wc := []) hD hS hA [] rfl
    refine va_calli (va_runS (As := [.int v132]) (rest := []) ⟨hx, hb, hml, hown, hts⟩ (c_X5_small l D cI cJ cZ v132 (H).size) (cwS 1 hts (kg_S mk_103 mk_104 mk_80 mk_105) rfl rfl rfl (by decide +kernel) ⟨Nat.le_of_ble_eq_true rfl, Nat.le_of_ble_eq_true rfl⟩) ⟨fun a U g mk q => by obtain ⟨q0, q1, qP, qK, qD⟩ := q; exact ⟨q0, q1, qP, kK.call qK, qD⟩, fun U hU hW => ⟨rfl, by rw [hU], by rw [hU]; exact hPc, kK.warm hW hK, hDc.weaken (fun _ _ _ _ => trivial)⟩⟩ rfl rfl hl.1 rfl (lv_room (Nat.le_of_ble_eq_true rfl)) dX5_filterFour_133 ⟨Nat.zero_le _, Nat.zero_le _⟩) hS (fun q _ h => hFc q h) hFc (fun r133 u t9 H1 locs ht9 hvm9 hw9 hB9 hz9 hk9 hS => ?_)
    obtain ⟨hP1, hD1⟩ := hB9
    rw [ht9] at hP1
    have hP1 : va_P D vwCl [] H1 := hP1
    obtain ⟨hP, hD⟩ := va_join (wr := [(hpl, .inr (5, [.ref hs])), (hs, .inl (cI, 256, .inl sm))]) (w1 := []) hP hD [] [0, 1] rfl rfl (by decide) (by decide) hk9 hFc hP1 hD1
    have hP := hP.sub (ws' := [(hpl, .inr (5, [.ref hs])), (hs, .inl (cI, 256, .inl sm))]) [0, 1] rfl
    have hD := hD.sub (ws' := [(hpl, .inr (5, [.ref hs])), (hs, .inl (cI, 256, .inl sm))]) [0, 1] (by decide) rfl
    generalize H1 = H at hP hS ⊢
    refine lv_istore (lv' := [(10, .int r133), (9, .int r116), (8, .int r99), (7, .int v53), (6, .int v39), (5, .int v27), (4, .int v13), (0, .ref hpl), (1, .int fa), (2, .int 16), (3, .int lim)]) hx hb dX5_filterFour_136 hl (by decide) rfl (fun ls hl => ?_)
    refine lv_aload_n hx hb dX5_filterFour_138 rfl (lv_at hl 7 rfl) ?_
    refine va_get (D := D) (ci := 5) (v := .ref hs) (C := RX5) (T := TX5) (N := 1) hx hb hts in_X5 hown hK.1 hP 0 rfl rfl 0 (by decide) (hts _ mk_76) (fun _ h9 => h9) rfl dX5_filterFour_139 ?_
    refine lv_iload_n hx hb dX5_filterFour_142 rfl (lv_at hl 8 rfl) ?_
    refine lv_iload hx hb dX5_filterFour_143 (lv_at hl 1 rfl) ?_
    refine lv_sipush (v := 128) hx hb dX5_filterFour_145 (by decide) ?_
    refine lv_iadd hx hb dX5_filterFour_148 ?_
    refine lv_topi (fun v148 e148 => ?_)
    refine va_iast hx hb hK.1 hP hD hS 1 0 rfl rfl (kB_in bfa (by decide)) dX5_filterFour_149 (fun H locs hP hD hS => ?_)
    have hP : va_P D vwCl [(hpl, .inr (5, [.ref hs])), (hs, .inl (cI, 256, .inl (upd sm fa.toNatClampNeg v148)))] H := hP
    have hD : va_D A [(hpl, .inr (5, [.ref hs])), (hs, .inl (cI, 256, .inl (upd sm fa.toNatClampNeg v148)))] := hD
    generalize hf149 : upd sm fa.toNatClampNeg v148 = f149 at hP hD
    refine lv_aload_n hx hb dX5_filterFour_150 rfl (lv_at hl 7 rfl) ?_
    refine va_get (D := D) (ci := 5) (v := .ref hs) (C := RX5) (T := TX5) (N := 1) hx hb hts in_X5 hown hK.1 hP 0 rfl rfl 0 (by decide) (hts _ mk_76) (fun _ h9 => h9) rfl dX5_filterFour_151 ?_
    refine lv_iload_n hx hb dX5_filterFour_154 rfl (lv_at hl 8 rfl) ?_
    refine lv_iload_n hx hb dX5_filterFour_155 rfl (lv_at hl 9 rfl) ?_
    refine lv_isub hx hb dX5_filterFour_156 ?_
    refine lv_topi (fun v156 e156 => ?_)
    have b156 : kB v156 16 223 := kB_eq e156 (kB_sub bfa kc_16 (by decide))
    refine lv_iload hx hb dX5_filterFour_157 (lv_at hl 0 rfl) ?_
    refine lv_sipush (v := 128) hx hb dX5_filterFour_159 (by decide) ?_
    refine lv_iadd hx hb dX5_filterFour_162 ?_
    refine lv_topi (fun v162 e162 => ?_)
    refine va_iast hx hb hK.1 hP hD hS 1 0 rfl rfl (kB_in b156 (by decide)) dX5_filterFour_163 (fun H locs hP hD hS => ?_)
    have hP : va_P D vwCl [(hpl, .inr (5, [.ref hs])), (hs, .inl (cI, 256, .inl (upd f149 v156.toNatClampNeg v162)))] H := hP
    have hD : va_D A [(hpl, .inr (5, [.ref hs])), (hs, .inl (cI, 256, .inl (upd f149 v156.toNatClampNeg v162)))] := hD
    generalize hf163 : upd f149 v156.toNatClampNeg v162 = f163 at hP hD
    refine lv_iload hx hb dX5_filterFour_164 (lv_at hl 1 rfl) ?_
    refine lv_iload hx hb dX5_filterFour_166 (lv_at hl 4 rfl) ?_
    refine lv_icmp_ne (tgt := 178) hx hb dX5_filterFour_168 (by decide) (fun c168 => ?_) (fun c168 => ?_)
    · refine lv_iconst (v := 1) hx hb dX5_filterFour_178 (by decide) ?_
      refine lv_goto (tgt := 183) hx hb dX5_filterFour_179 (by decide) ?_
      have pf_b : kB (1 : Int32) 0 1 := (kB_w kc_1 (by decide) (by decide))
      exact W.zret (v := 1) hx hb hr (kB_nz (kB_w kc_1 (by decide) (by decide))) (fun t9 ht9 hW9 => ⟨⟨1, f163, rfl, pf_b, by rw [ht9]; exact hP, hD⟩, hS.F ht9⟩) hS.2.2 dX5_filterFour_183
    · refine lv_iload hx hb dX5_filterFour_171 (lv_at hl 0 rfl) ?_
      refine lv_iload hx hb dX5_filterFour_173 (lv_at hl 5 rfl) ?_
      refine lv_icmp_eq (tgt := 182) hx hb dX5_filterFour_175 (by decide) (fun c175 => ?_) (fun c175 => ?_)
      · refine lv_iconst (v := 0) hx hb dX5_filterFour_182 (by decide) ?_
        have pf_b : kB (0 : Int32) 0 1 := (kB_w kc_0 (by decide) (by decide))
        exact W.zret (v := 0) hx hb hr (kB_nz (kB_w kc_0 (by decide) (by decide))) (fun t9 ht9 hW9 => ⟨⟨0, f163, rfl, pf_b, by rw [ht9]; exact hP, hD⟩, hS.F ht9⟩) hS.2.2 dX5_filterFour_183
      · refine lv_iconst (v := 1) hx hb dX5_filterFour_178 (by decide) ?_
        refine lv_goto (tgt := 183) hx hb dX5_filterFour_179 (by decide) ?_
        have pf_b : kB (1 : Int32) 0 1 := (kB_w kc_1 (by decide) (by decide))
        exact W.zret (v := 1) hx hb hr (kB_nz (kB_w kc_1 (by decide) (by decide))) (fun t9 ht9 hW9 => ⟨⟨1, f163, rfl, pf_b, by rw [ht9]; exact hP, hD⟩, hS.F ht9⟩) hS.2.2 dX5_filterFour_183
  · have c78n : lim < v76 := kN_le c78
    have c78na := kB_all lim
    have c78nb := kB_all v76
    have c78nx : kB lim (-2147483648) 2147483646 := kB_lt_l c78na c78nb c78n (by decide)
    have c78ny : kB v76 (-2147483647) 2147483647 := kB_lt_r c78na c78nb c78n (by decide)
    refine lv_iconst (v := 0) hx hb dX5_filterFour_81 (by decide) ?_
    have pf_b : kB (0 : Int32) 0 1 := (kB_w kc_0 (by decide) (by decide))
    exact W.zret (v := 0) hx hb hr (kB_nz (kB_w kc_0 (by decide) (by decide))) (fun t9 ht9 hW9 => ⟨⟨0, sm, rfl, pf_b, by rw [ht9]; exact hP, hD⟩, hS.F ht9⟩) hS.2.2 dX5_filterFour_82
abbrev kw_X5_filterEdge : List Cond := Cond.code yX5_filterEdge cX5_filterEdge 7 (some .int) :: kW
set_option maxHeartbeats 4000000 in
set_option maxRecDepth 100000 in
theorem lp_X5_filterEdge_a_6 {p : Program} {l : Launch} {e : Env} {s : State} {m : MethodId} {args : Array Value} {below : List Frame} {meth : Method} {c : Code} {A : Nat → Prop} (D : va_G) (cI cJ cZ : ClassId) (hpl hs : Nat) (sm : Nat → Int32) (fi : Int32) (lim : Int32) (bfi : kB fi 4 204) (hx : p.tables.exec = Jvm.exec) (hb : c.code = cX5_filterEdge) (hr : meth.sig.returnType = (some .int)) (hml : c.maxLocals = 7) (hown : s.vm.findClass RX5 = some m.cls) (hts : ∀ w ∈ kW, w.before args s = true) (hlocks : meth.locks = false) (hK : kK D cI cJ cZ s) (hA : ∀ q : Nat, s.heap.size ≤ q → A q) : ∀ n : Nat, ∀ (x5 : Int32) (x6 : Int32) (sm2 : Nat → Int32), (4 - x6.toInt).toNat < n → (kB x6 0 4) → ∀ (H : Heap) (locs : List Loc) (ls : Array Slot), va_P D vwCl [(hpl, .inr (5, [.ref hs])), (hs, .inl (cI, 256, .inl sm2))] H → va_D A [(hpl, .inr (5, [.ref hs])), (hs, .inl (cI, 256, .inl sm2))] → va_S A s.heap H locs → lv_has ls 7 [(0, .ref hpl), (1, .int fi), (2, .int 16), (3, .int 1), (4, .int lim), (5, .int x5), (6, .int x6)] → W p l e (headSpec kw_X5_filterEdge ({ frames := 3, cells := 0, slots := 0, locals := 73 })).room s m args below meth c H locs 0 0 (MQ below (va_Qi (fun (r : Int32) (u : (Nat → Int32)) => True) (fun (u : (Nat → Int32)) (t : State) => va_P D vwCl [(hpl, .inr (5, [.ref hs])), (hs, .inl (cI, 256, .inl u))] t.heap ∧ va_D A [(hpl, .inr (5, [.ref hs])), (hs, .inl (cI, 256, .inl u))]) A) args s 0 0 A) (F0 m 6 ls []) := by
  intro n
  induction n with
  | zero => intro x5 x6 sm2 hmeas; exact absurd hmeas (Nat.not_lt_zero _)
  | succ n ih =>
    intro x5 x6 sm2 hmeas b6 H locs ls hP hD hS hl
    refine lv_iload hx hb dX5_filterEdge_6 (lv_at hl 6 rfl) ?_
    refine lv_iconst (v := 4) hx hb dX5_filterEdge_8 (by decide) ?_
    refine lv_icmp_ge (tgt := 37) hx hb dX5_filterEdge_9 (by decide) (fun c9 => ?_) (fun c9 => ?_)
    · have c9y : kB x6 4 4 := kB_le_r kc_4 b6 c9 (by decide)
      refine lv_iload hx hb dX5_filterEdge_37 (lv_at hl 5 rfl) ?_
      exact W.iret (v := x5) hx hb hr (fun t9 ht9 hW9 => ⟨⟨x5, sm2, rfl, trivial, by rw [ht9]; exact hP, hD⟩, hS.F ht9⟩) hS.2.2 dX5_filterEdge_39
    · have c9n : x6 < 4 := kN_le c9
      have c9nx : kB x6 0 3 := kB_lt_l b6 kc_4 c9n (by decide)
      refine lv_aload_n hx hb dX5_filterEdge_12 rfl (lv_at hl 0 rfl) ?_
      refine lv_iload_n hx hb dX5_filterEdge_13 rfl (lv_at hl 1 rfl) ?_
      refine lv_iload hx hb dX5_filterEdge_14 (lv_at hl 6 rfl) ?_
      refine lv_iload_n hx hb dX5_filterEdge_16 rfl (lv_at hl 2 rfl) ?_
      refine lv_imul hx hb dX5_filterEdge_17 ?_
      refine lv_topi (fun v17 e17 => ?_)
      have b17 : kB v17 0 48 := kB_eq e17 (kB_mulc c9nx kc_16 (by decide))
      refine lv_iadd hx hb dX5_filterEdge_18 ?_
      refine lv_topi (fun v18 e18 => ?_)
      have b18 : kB v18 4 252 := kB_eq e18 (kB_add bfi b17 (by decide))
      refine lv_iload_n hx hb dX5_filterEdge_19 rfl (lv_at hl 3 rfl) ?_
      refine lv_iload hx hb dX5_filterEdge_20 (lv_at hl 4 rfl) ?_
      have hPc := hP.sub (ws' := [(hpl, .inr (5, [.ref hs])), (hs, .inl (cI, 256, .inl sm2))]) [0, 1] rfl
      have hDc := hD.sub (ws' := [(hpl, .inr (5, [.ref hs])), (hs, .inl (cI, 256, .inl sm2))]) [0, 1] (by decide) rfl
      have hFc := va_free (wc := [(hpl, .inr (5, [.ref hs])), (hs, .inl (cI, 256, .inl sm2))]) hD hS hA [0, 1] rfl
      refine va_calli (va_runV (As := [.int v18, .int 1, .int lim]) (rest := []) ⟨hx, hb, hml, hown, hts⟩ (c_X5_filterFour_a l D cI cJ cZ hpl hs sm2 v18 lim (kB_w b18 (by decide) (by decide)) (H).size) (cwV 3 hts (kg_V mk_106 mk_107 mk_108 mk_80 mk_109) rfl rfl rfl (by decide +kernel) ⟨Nat.le_of_ble_eq_true rfl, Nat.le_of_ble_eq_true rfl⟩) ⟨fun a U g mk q => by obtain ⟨q0, q1, qP, qK, qD⟩ := q; exact ⟨q0, q1, qP, kK.call qK, qD⟩, va_recv hK.1 hPc (ci := 5) (q0 := 0) rfl rfl, fun U hU hW => ⟨rfl, by rw [hU], by rw [hU]; exact hPc, kK.warm hW hK, hDc.weaken (fun _ _ _ _ => trivial)⟩⟩ rfl rfl hl.1 rfl (lv_room (Nat.le_of_ble_eq_true rfl)) dX5_filterEdge_22 ⟨Nat.zero_le _, Nat.zero_le _⟩) hS (fun q _ h => hFc q h) hFc (fun r22 u t9 H1 locs ht9 hvm9 hw9 hB9 hz9 hk9 hS => ?_)
      obtain ⟨sm2_22, rfl⟩ : ∃ z, z = u := ⟨_, rfl⟩
      obtain ⟨hP1, hD1⟩ := hB9
      rw [ht9] at hP1
      have hP1 : va_P D vwCl [(hpl, .inr (5, [.ref hs])), (hs, .inl (cI, 256, .inl sm2_22))] H1 := hP1
      obtain ⟨hP, hD⟩ := va_join (wr := []) (w1 := [(hpl, .inr (5, [.ref hs])), (hs, .inl (cI, 256, .inl sm2_22))]) hP hD [0, 1] [] rfl rfl (by decide) (by decide) hk9 hFc hP1 hD1
      have hP := hP.sub (ws' := [(hpl, .inr (5, [.ref hs])), (hs, .inl (cI, 256, .inl sm2_22))]) [0, 1] rfl
      have hD := hD.sub (ws' := [(hpl, .inr (5, [.ref hs])), (hs, .inl (cI, 256, .inl sm2_22))]) [0, 1] (by decide) rfl
      generalize H1 = H at hP hS ⊢
      have q22_0 : kB r22 0 1 := hw9
      refine lv_if_eq (tgt := 31) hx hb dX5_filterEdge_25 (by decide) (fun c25 => ?_) (fun c25 => ?_)
      · have c25x : kB r22 0 0 := kB_eq c25 kc_0
        obtain ⟨v31, e31⟩ : ∃ y : Int32, y = x6 + 1 := ⟨_, rfl⟩
        refine lv_iinc (v := v31) (lv' := [(6, .int v31), (0, .ref hpl), (1, .int fi), (2, .int 16), (3, .int 1), (4, .int lim), (5, .int x5)]) hx hb dX5_filterEdge_31 hl (k := 6) rfl (by rw [e31]; rfl) (by decide) rfl (fun ls hl => ?_)
        have b31 : kB v31 1 4 := kB_eq e31 (kB_add c9nx kc_1 (by decide))
        have t31 : v31.toInt = x6.toInt + 1 := by rw [e31]; exact kinc (kB_w c9nx (by decide) (by decide))
        refine lv_goto (tgt := 6) hx hb dX5_filterEdge_34 (by decide) ?_
        exact ih x5 v31 sm2_22 (by have := b31.1; have := b31.2; have := c9nx.1; have := c9nx.2; omega) (kB_w b31 (by decide) (by decide)) _ _ ls hP hD hS (lv_sub hl [1, 2, 3, 4, 5, 6, 0] rfl)
      · have c25x : kB r22 1 1 := kB_nlo q22_0 c25 kc_0 (by decide)
        obtain ⟨v28, e28⟩ : ∃ y : Int32, y = x5 + 1 := ⟨_, rfl⟩
        refine lv_iinc (v := v28) (lv' := [(5, .int v28), (0, .ref hpl), (1, .int fi), (2, .int 16), (3, .int 1), (4, .int lim), (6, .int x6)]) hx hb dX5_filterEdge_28 hl (k := 5) rfl (by rw [e28]; rfl) (by decide) rfl (fun ls hl => ?_)
        obtain ⟨v31, e31⟩ : ∃ y : Int32, y = x6 + 1 := ⟨_, rfl⟩
        refine lv_iinc (v := v31) (lv' := [(6, .int v31), (5, .int v28), (0, .ref hpl), (1, .int fi), (2, .int 16), (3, .int 1), (4, .int lim)]) hx hb dX5_filterEdge_31 hl (k := 6) rfl (by rw [e31]; rfl) (by decide) rfl (fun ls hl => ?_)
        have b31 : kB v31 1 4 := kB_eq e31 (kB_add c9nx kc_1 (by decide))
        have t31 : v31.toInt = x6.toInt + 1 := by rw [e31]; exact kinc (kB_w c9nx (by decide) (by decide))
        refine lv_goto (tgt := 6) hx hb dX5_filterEdge_34 (by decide) ?_
        exact ih v28 v31 sm2_22 (by have := b31.1; have := b31.2; have := c9nx.1; have := c9nx.2; omega) (kB_w b31 (by decide) (by decide)) _ _ ls hP hD hS (lv_sub hl [2, 3, 4, 5, 6, 1, 0] rfl)
set_option maxHeartbeats 4000000 in
set_option maxRecDepth 100000 in
theorem c_X5_filterEdge_a (l : Launch) (D : va_G) (cI cJ cZ : ClassId) (hpl hs : Nat) (sm : Nat → Int32) (fi : Int32) (lim : Int32) (bfi : kB fi 4 204) (hpz : Nat) : Met l yX5_filterEdge kw_X5_filterEdge ({ frames := 3, cells := 0, slots := 0, locals := 73 }) (va_Pc [.ref hpl, .int fi, .int 16, .int 1, .int lim] (fun U => U.heap.size = hpz ∧ va_P D vwCl [(hpl, .inr (5, [.ref hs])), (hs, .inl (cI, 256, .inl sm))] U.heap ∧ kK D cI cJ cZ U ∧ va_D (fun _ => True) [(hpl, .inr (5, [.ref hs])), (hs, .inl (cI, 256, .inl sm))])) (va_Qi (fun (r : Int32) (u : (Nat → Int32)) => True) (fun (u : (Nat → Int32)) (t : State) => va_P D vwCl [(hpl, .inr (5, [.ref hs])), (hs, .inl (cI, 256, .inl u))] t.heap ∧ va_D (va_A [(hpl, .inr (5, [.ref hs])), (hs, .inl (cI, 256, .inl sm))] hpz) [(hpl, .inr (5, [.ref hs])), (hs, .inl (cI, 256, .inl u))]) (va_A [(hpl, .inr (5, [.ref hs])), (hs, .inl (cI, 256, .inl sm))] hpz)) 0 0 (va_A [(hpl, .inr (5, [.ref hs])), (hs, .inl (cI, 256, .inl sm))] hpz) := by
  refine Met.ofW (cc := cX5_filterEdge) (maxL := 7) (ret := (some .int)) (by decide) rfl ?_
  intro p e s m args below meth c s₁ B hml hv
  obtain ⟨rfl, hsz, hP, hK, hD0⟩ := hv
  have hx := B.exec
  have hb := B.bytes
  have hr := B.returns
  have hts := fun (w : Cond) (h : w ∈ kW) => atoms_spec (ws := kw_X5_filterEdge) B.pre w (List.mem_cons_of_mem _ h)
  have hown : s.vm.findClass RX5 = some m.cls := findClass_of_methodNamed B.named
  have hlocks := B.notSynchronized
  subst hsz
  have hD := hD0.self (sz := s.heap.size)
  generalize hAe : va_A [(hpl, .inr (5, [.ref hs])), (hs, .inl (cI, 256, .inl sm))] s.heap.size = A at hD ⊢
  have hA : ∀ q : Nat, s.heap.size ≤ q → A q := fun q h => by rw [← hAe]; exact Or.inr h
  have hS : va_S A s.heap s.heap [] := va_S.rf
  have hP : va_P D vwCl [(hpl, .inr (5, [.ref hs])), (hs, .inl (cI, 256, .inl sm))] s.heap := hP
  have hl := lv_entry ([.ref hpl, .int fi, .int 16, .int 1, .int lim]) (n := 7) (Nat.le_of_ble_eq_true rfl)
  rw [lg_entry_eq]
  generalize (lg_sl ([.ref hpl, .int fi, .int 16, .int 1, .int lim]) ++ List.replicate (7 - (lg_sl ([.ref hpl, .int fi, .int 16, .int 1, .int lim])).length) Slot.unset).toArray = ls at hl ⊢
  have hl : lv_has ls 7 [(0, .ref hpl), (1, .int fi), (2, .int 16), (3, .int 1), (4, .int lim)] := hl
  refine lv_iconst (v := 0) hx hb dX5_filterEdge_0 (by decide) ?_
  refine lv_istore (lv' := [(5, .int 0), (0, .ref hpl), (1, .int fi), (2, .int 16), (3, .int 1), (4, .int lim)]) hx hb dX5_filterEdge_1 hl (by decide) rfl (fun ls hl => ?_)
  refine lv_iconst (v := 0) hx hb dX5_filterEdge_3 (by decide) ?_
  refine lv_istore (lv' := [(6, .int 0), (5, .int 0), (0, .ref hpl), (1, .int fi), (2, .int 16), (3, .int 1), (4, .int lim)]) hx hb dX5_filterEdge_4 hl (by decide) rfl (fun ls hl => ?_)
  exact lp_X5_filterEdge_a_6 D cI cJ cZ hpl hs sm fi lim bfi hx hb hr hml hown hts hlocks hK hA ((4 - (0 : Int32).toInt).toNat + 1) 0 0 sm (Nat.lt_succ_self _) (kB_w kc_0 (by decide) (by decide)) _ _ ls hP hD hS (lv_sub hl [2, 3, 4, 5, 6, 1, 0] rfl)
set_option maxHeartbeats 4000000 in
set_option maxRecDepth 100000 in
theorem lp_X5_filterEdge_b_6 {p : Program} {l : Launch} {e : Env} {s : State} {m : MethodId} {args : Array Value} {below : List Frame} {meth : Method} {c : Code} {A : Nat → Prop} (D : va_G) (cI cJ cZ : ClassId) (hpl hs : Nat) (sm : Nat → Int32) (fi : Int32) (lim : Int32) (bfi : kB fi 64 204) (hx : p.tables.exec = Jvm.exec) (hb : c.code = cX5_filterEdge) (hr : meth.sig.returnType = (some .int)) (hml : c.maxLocals = 7) (hown : s.vm.findClass RX5 = some m.cls) (hts : ∀ w ∈ kW, w.before args s = true) (hlocks : meth.locks = false) (hK : kK D cI cJ cZ s) (hA : ∀ q : Nat, s.heap.size ≤ q → A q) : ∀ n : Nat, ∀ (x5 : Int32) (x6 : Int32) (sm2 : Nat → Int32), (4 - x6.toInt).toNat < n → (kB x6 0 4) → ∀ (H : Heap) (locs : List Loc) (ls : Array Slot), va_P D vwCl [(hpl, .inr (5, [.ref hs])), (hs, .inl (cI, 256, .inl sm2))] H → va_D A [(hpl, .inr (5, [.ref hs])), (hs, .inl (cI, 256, .inl sm2))] → va_S A s.heap H locs → lv_has ls 7 [(0, .ref hpl), (1, .int fi), (2, .int 1), (3, .int 16), (4, .int lim), (5, .int x5), (6, .int x6)] → W p l e (headSpec kw_X5_filterEdge ({ frames := 3, cells := 0, slots := 0, locals := 73 })).room s m args below meth c H locs 0 0 (MQ below (va_Qi (fun (r : Int32) (u : (Nat → Int32)) => True) (fun (u : (Nat → Int32)) (t : State) => va_P D vwCl [(hpl, .inr (5, [.ref hs])), (hs, .inl (cI, 256, .inl u))] t.heap ∧ va_D A [(hpl, .inr (5, [.ref hs])), (hs, .inl (cI, 256, .inl u))]) A) args s 0 0 A) (F0 m 6 ls []) := by
  intro n
  induction n with
  | zero => intro x5 x6 sm2 hmeas; exact absurd hmeas (Nat.not_lt_zero _)
  | succ n ih =>
    intro x5 x6 sm2 hmeas b6 H locs ls hP hD hS hl
    refine lv_iload hx hb dX5_filterEdge_6 (lv_at hl 6 rfl) ?_
    refine lv_iconst (v := 4) hx hb dX5_filterEdge_8 (by decide) ?_
    refine lv_icmp_ge (tgt := 37) hx hb dX5_filterEdge_9 (by decide) (fun c9 => ?_) (fun c9 => ?_)
    · have c9y : kB x6 4 4 := kB_le_r kc_4 b6 c9 (by decide)
      refine lv_iload hx hb dX5_filterEdge_37 (lv_at hl 5 rfl) ?_
      exact W.iret (v := x5) hx hb hr (fun t9 ht9 hW9 => ⟨⟨x5, sm2, rfl, trivial, by rw [ht9]; exact hP, hD⟩, hS.F ht9⟩) hS.2.2 dX5_filterEdge_39
    · have c9n : x6 < 4 := kN_le c9
      have c9nx : kB x6 0 3 := kB_lt_l b6 kc_4 c9n (by decide)
      refine lv_aload_n hx hb dX5_filterEdge_12 rfl (lv_at hl 0 rfl) ?_
      refine lv_iload_n hx hb dX5_filterEdge_13 rfl (lv_at hl 1 rfl) ?_
      refine lv_iload hx hb dX5_filterEdge_14 (lv_at hl 6 rfl) ?_
      refine lv_iload_n hx hb dX5_filterEdge_16 rfl (lv_at hl 2 rfl) ?_
      refine lv_imul hx hb dX5_filterEdge_17 ?_
      refine lv_topi (fun v17 e17 => ?_)
      have b17 : kB v17 0 3 := kB_eq e17 (kB_mulc c9nx kc_1 (by decide))
      refine lv_iadd hx hb dX5_filterEdge_18 ?_
      refine lv_topi (fun v18 e18 => ?_)
      have b18 : kB v18 64 207 := kB_eq e18 (kB_add bfi b17 (by decide))
      refine lv_iload_n hx hb dX5_filterEdge_19 rfl (lv_at hl 3 rfl) ?_
      refine lv_iload hx hb dX5_filterEdge_20 (lv_at hl 4 rfl) ?_
      have hPc := hP.sub (ws' := [(hpl, .inr (5, [.ref hs])), (hs, .inl (cI, 256, .inl sm2))]) [0, 1] rfl
      have hDc := hD.sub (ws' := [(hpl, .inr (5, [.ref hs])), (hs, .inl (cI, 256, .inl sm2))]) [0, 1] (by decide) rfl
      have hFc := va_free (wc := [(hpl, .inr (5, [.ref hs])), (hs, .inl (cI, 256, .inl sm2))]) hD hS hA [0, 1] rfl
      refine va_calli (va_runV (As := [.int v18, .int 16, .int lim]) (rest := []) ⟨hx, hb, hml, hown, hts⟩ (c_X5_filterFour_b l D cI cJ cZ hpl hs sm2 v18 lim (kB_w b18 (by decide) (by decide)) (H).size) (cwV 3 hts (kg_V mk_106 mk_107 mk_108 mk_80 mk_109) rfl rfl rfl (by decide +kernel) ⟨Nat.le_of_ble_eq_true rfl, Nat.le_of_ble_eq_true rfl⟩) ⟨fun a U g mk q => by obtain ⟨q0, q1, qP, qK, qD⟩ := q; exact ⟨q0, q1, qP, kK.call qK, qD⟩, va_recv hK.1 hPc (ci := 5) (q0 := 0) rfl rfl, fun U hU hW => ⟨rfl, by rw [hU], by rw [hU]; exact hPc, kK.warm hW hK, hDc.weaken (fun _ _ _ _ => trivial)⟩⟩ rfl rfl hl.1 rfl (lv_room (Nat.le_of_ble_eq_true rfl)) dX5_filterEdge_22 ⟨Nat.zero_le _, Nat.zero_le _⟩) hS (fun q _ h => hFc q h) hFc (fun r22 u t9 H1 locs ht9 hvm9 hw9 hB9 hz9 hk9 hS => ?_)
      obtain ⟨sm2_22, rfl⟩ : ∃ z, z = u := ⟨_, rfl⟩
      obtain ⟨hP1, hD1⟩ := hB9
      rw [ht9] at hP1
      have hP1 : va_P D vwCl [(hpl, .inr (5, [.ref hs])), (hs, .inl (cI, 256, .inl sm2_22))] H1 := hP1
      obtain ⟨hP, hD⟩ := va_join (wr := []) (w1 := [(hpl, .inr (5, [.ref hs])), (hs, .inl (cI, 256, .inl sm2_22))]) hP hD [0, 1] [] rfl rfl (by decide) (by decide) hk9 hFc hP1 hD1
      have hP := hP.sub (ws' := [(hpl, .inr (5, [.ref hs])), (hs, .inl (cI, 256, .inl sm2_22))]) [0, 1] rfl
      have hD := hD.sub (ws' := [(hpl, .inr (5, [.ref hs])), (hs, .inl (cI, 256, .inl sm2_22))]) [0, 1] (by decide) rfl
      generalize H1 = H at hP hS ⊢
      have q22_0 : kB r22 0 1 := hw9
      refine lv_if_eq (tgt := 31) hx hb dX5_filterEdge_25 (by decide) (fun c25 => ?_) (fun c25 => ?_)
      · have c25x : kB r22 0 0 := kB_eq c25 kc_0
        obtain ⟨v31, e31⟩ : ∃ y : Int32, y = x6 + 1 := ⟨_, rfl⟩
        refine lv_iinc (v := v31) (lv' := [(6, .int v31), (0, .ref hpl), (1, .int fi), (2, .int 1), (3, .int 16), (4, .int lim), (5, .int x5)]) hx hb dX5_filterEdge_31 hl (k := 6) rfl (by rw [e31]; rfl) (by decide) rfl (fun ls hl => ?_)
        have b31 : kB v31 1 4 := kB_eq e31 (kB_add c9nx kc_1 (by decide))
        have t31 : v31.toInt = x6.toInt + 1 := by rw [e31]; exact kinc (kB_w c9nx (by decide) (by decide))
        refine lv_goto (tgt := 6) hx hb dX5_filterEdge_34 (by decide) ?_
        exact ih x5 v31 sm2_22 (by have := b31.1; have := b31.2; have := c9nx.1; have := c9nx.2; omega) (kB_w b31 (by decide) (by decide)) _ _ ls hP hD hS (lv_sub hl [1, 2, 3, 4, 5, 6, 0] rfl)
      · have c25x : kB r22 1 1 := kB_nlo q22_0 c25 kc_0 (by decide)
        obtain ⟨v28, e28⟩ : ∃ y : Int32, y = x5 + 1 := ⟨_, rfl⟩
        refine lv_iinc (v := v28) (lv' := [(5, .int v28), (0, .ref hpl), (1, .int fi), (2, .int 1), (3, .int 16), (4, .int lim), (6, .int x6)]) hx hb dX5_filterEdge_28 hl (k := 5) rfl (by rw [e28]; rfl) (by decide) rfl (fun ls hl => ?_)
        obtain ⟨v31, e31⟩ : ∃ y : Int32, y = x6 + 1 := ⟨_, rfl⟩
        refine lv_iinc (v := v31) (lv' := [(6, .int v31), (5, .int v28), (0, .ref hpl), (1, .int fi), (2, .int 1), (3, .int 16), (4, .int lim)]) hx hb dX5_filterEdge_31 hl (k := 6) rfl (by rw [e31]; rfl) (by decide) rfl (fun ls hl => ?_)
        have b31 : kB v31 1 4 := kB_eq e31 (kB_add c9nx kc_1 (by decide))
        have t31 : v31.toInt = x6.toInt + 1 := by rw [e31]; exact kinc (kB_w c9nx (by decide) (by decide))
        refine lv_goto (tgt := 6) hx hb dX5_filterEdge_34 (by decide) ?_
        exact ih v28 v31 sm2_22 (by have := b31.1; have := b31.2; have := c9nx.1; have := c9nx.2; omega) (kB_w b31 (by decide) (by decide)) _ _ ls hP hD hS (lv_sub hl [2, 3, 4, 5, 6, 1, 0] rfl)
set_option maxHeartbeats 4000000 in
set_option maxRecDepth 100000 in
theorem c_X5_filterEdge_b (l : Launch) (D : va_G) (cI cJ cZ : ClassId) (hpl hs : Nat) (sm : Nat → Int32) (fi : Int32) (lim : Int32) (bfi : kB fi 64 204) (hpz : Nat) : Met l yX5_filterEdge kw_X5_filterEdge ({ frames := 3, cells := 0, slots := 0, locals := 73 }) (va_Pc [.ref hpl, .int fi, .int 1, .int 16, .int lim] (fun U => U.heap.size = hpz ∧ va_P D vwCl [(hpl, .inr (5, [.ref hs])), (hs, .inl (cI, 256, .inl sm))] U.heap ∧ kK D cI cJ cZ U ∧ va_D (fun _ => True) [(hpl, .inr (5, [.ref hs])), (hs, .inl (cI, 256, .inl sm))])) (va_Qi (fun (r : Int32) (u : (Nat → Int32)) => True) (fun (u : (Nat → Int32)) (t : State) => va_P D vwCl [(hpl, .inr (5, [.ref hs])), (hs, .inl (cI, 256, .inl u))] t.heap ∧ va_D (va_A [(hpl, .inr (5, [.ref hs])), (hs, .inl (cI, 256, .inl sm))] hpz) [(hpl, .inr (5, [.ref hs])), (hs, .inl (cI, 256, .inl u))]) (va_A [(hpl, .inr (5, [.ref hs])), (hs, .inl (cI, 256, .inl sm))] hpz)) 0 0 (va_A [(hpl, .inr (5, [.ref hs])), (hs, .inl (cI, 256, .inl sm))] hpz) := by
  refine Met.ofW (cc := cX5_filterEdge) (maxL := 7) (ret := (some .int)) (by decide) rfl ?_
  intro p e s m args below meth c s₁ B hml hv
  obtain ⟨rfl, hsz, hP, hK, hD0⟩ := hv
  have hx := B.exec
  have hb := B.bytes
  have hr := B.returns
  have hts := fun (w : Cond) (h : w ∈ kW) => atoms_spec (ws := kw_X5_filterEdge) B.pre w (List.mem_cons_of_mem _ h)
  have hown : s.vm.findClass RX5 = some m.cls := findClass_of_methodNamed B.named
  have hlocks := B.notSynchronized
  subst hsz
  have hD := hD0.self (sz := s.heap.size)
  generalize hAe : va_A [(hpl, .inr (5, [.ref hs])), (hs, .inl (cI, 256, .inl sm))] s.heap.size = A at hD ⊢
  have hA : ∀ q : Nat, s.heap.size ≤ q → A q := fun q h => by rw [← hAe]; exact Or.inr h
  have hS : va_S A s.heap s.heap [] := va_S.rf
  have hP : va_P D vwCl [(hpl, .inr (5, [.ref hs])), (hs, .inl (cI, 256, .inl sm))] s.heap := hP
  have hl := lv_entry ([.ref hpl, .int fi, .int 1, .int 16, .int lim]) (n := 7) (Nat.le_of_ble_eq_true rfl)
  rw [lg_entry_eq]
  generalize (lg_sl ([.ref hpl, .int fi, .int 1, .int 16, .int lim]) ++ List.replicate (7 - (lg_sl ([.ref hpl, .int fi, .int 1, .int 16, .int lim])).length) Slot.unset).toArray = ls at hl ⊢
  have hl : lv_has ls 7 [(0, .ref hpl), (1, .int fi), (2, .int 1), (3, .int 16), (4, .int lim)] := hl
  refine lv_iconst (v := 0) hx hb dX5_filterEdge_0 (by decide) ?_
  refine lv_istore (lv' := [(5, .int 0), (0, .ref hpl), (1, .int fi), (2, .int 1), (3, .int 16), (4, .int lim)]) hx hb dX5_filterEdge_1 hl (by decide) rfl (fun ls hl => ?_)
  refine lv_iconst (v := 0) hx hb dX5_filterEdge_3 (by decide) ?_
  refine lv_istore (lv' := [(6, .int 0), (5, .int 0), (0, .ref hpl), (1, .int fi), (2, .int 1), (3, .int 16), (4, .int lim)]) hx hb dX5_filterEdge_4 hl (by decide) rfl (fun ls hl => ?_)
  exact lp_X5_filterEdge_b_6 D cI cJ cZ hpl hs sm fi lim bfi hx hb hr hml hown hts hlocks hK hA ((4 - (0 : Int32).toInt).toNat + 1) 0 0 sm (Nat.lt_succ_self _) (kB_w kc_0 (by decide) (by decide)) _ _ ls hP hD hS (lv_sub hl [2, 3, 4, 5, 6, 1, 0] rfl)
abbrev kw_X5_filterAll : List Cond := Cond.code yX5_filterAll cX5_filterAll 9 (some .int) :: kW
set_option maxHeartbeats 4000000 in
set_option maxRecDepth 100000 in
theorem lp_X5_filterAll_22 {p : Program} {l : Launch} {e : Env} {s : State} {m : MethodId} {args : Array Value} {below : List Frame} {meth : Method} {c : Code} {A : Nat → Prop} (D : va_G) (cI cJ cZ : ClassId) (hpl hs : Nat) (sm : Nat → Int32) (cols : Int32) (rows : Int32) (lev : Int32) (bcols : kB cols 1 4) (brows : kB rows 1 4) (hx : p.tables.exec = Jvm.exec) (hb : c.code = cX5_filterAll) (hr : meth.sig.returnType = (some .int)) (hml : c.maxLocals = 9) (hown : s.vm.findClass RX5 = some m.cls) (hts : ∀ w ∈ kW, w.before args s = true) (hlocks : meth.locks = false) (hK : kK D cI cJ cZ s) (hA : ∀ q : Nat, s.heap.size ≤ q → A q) (n_13 : Nat) (ih_13 : ∀ (x4 : Int32) (x5 : Int32) (x6 : Int32) (sm2 : Nat → Int32), (4 - x6.toInt).toNat < n_13 → (kB x6 0 4) → ∀ (H : Heap) (locs : List Loc) (ls : Array Slot), va_P D vwCl [(hpl, .inr (5, [.ref hs])), (hs, .inl (cI, 256, .inl sm2))] H → va_D A [(hpl, .inr (5, [.ref hs])), (hs, .inl (cI, 256, .inl sm2))] → va_S A s.heap H locs → lv_has ls 9 [(0, .ref hpl), (1, .int cols), (2, .int rows), (4, .int x4), (5, .int x5), (6, .int x6)] → W p l e (headSpec kw_X5_filterAll ({ frames := 4, cells := 0, slots := 0, locals := 99 })).room s m args below meth c H locs 0 0 (MQ below (va_Qi (fun (r : Int32) (u : (Nat → Int32)) => True) (fun (u : (Nat → Int32)) (t : State) => va_P D vwCl [(hpl, .inr (5, [.ref hs])), (hs, .inl (cI, 256, .inl u))] t.heap ∧ va_D A [(hpl, .inr (5, [.ref hs])), (hs, .inl (cI, 256, .inl u))]) A) args s 0 0 A) (F0 m 13 ls [])) : ∀ n : Nat, ∀ (x4 : Int32) (x5 : Int32) (x6 : Int32) (x7 : Int32) (sm2 : Nat → Int32), (4 - x7.toInt).toNat < n → (kB x6 0 3) → (kB x7 0 4) → ((4 - x6.toInt).toNat < n_13 + 1) → ∀ (H : Heap) (locs : List Loc) (ls : Array Slot), va_P D vwCl [(hpl, .inr (5, [.ref hs])), (hs, .inl (cI, 256, .inl sm2))] H → va_D A [(hpl, .inr (5, [.ref hs])), (hs, .inl (cI, 256, .inl sm2))] → va_S A s.heap H locs → lv_has ls 9 [(0, .ref hpl), (1, .int cols), (2, .int rows), (4, .int x4), (5, .int x5), (6, .int x6), (7, .int x7)] → W p l e (headSpec kw_X5_filterAll ({ frames := 4, cells := 0, slots := 0, locals := 99 })).room s m args below meth c H locs 0 0 (MQ below (va_Qi (fun (r : Int32) (u : (Nat → Int32)) => True) (fun (u : (Nat → Int32)) (t : State) => va_P D vwCl [(hpl, .inr (5, [.ref hs])), (hs, .inl (cI, 256, .inl u))] t.heap ∧ va_D A [(hpl, .inr (5, [.ref hs])), (hs, .inl (cI, 256, .inl u))]) A) args s 0 0 A) (F0 m 22 ls []) := by
  intro n
  induction n with
  | zero => intro x4 x5 x6 x7 sm2 hmeas; exact absurd hmeas (Nat.not_lt_zero _)
  | succ n ih =>
    intro x4 x5 x6 x7 sm2 hmeas b6 b7 hm13 H locs ls hP hD hS hl
    refine lv_iload hx hb dX5_filterAll_22 (lv_at hl 6 rfl) ?_
    refine lv_iload_n hx hb dX5_filterAll_24 rfl (lv_at hl 1 rfl) ?_
    refine lv_icmp_ge (tgt := 88) hx hb dX5_filterAll_25 (by decide) (fun c25 => ?_) (fun c25 => ?_)
    · have c25y : kB x7 1 4 := kB_le_r bcols b7 c25 (by decide)
      obtain ⟨v88, e88⟩ : ∃ y : Int32, y = x6 + 1 := ⟨_, rfl⟩
      refine lv_iinc (v := v88) (lv' := [(6, .int v88), (0, .ref hpl), (1, .int cols), (2, .int rows), (4, .int x4), (5, .int x5), (7, .int x7)]) hx hb dX5_filterAll_88 hl (k := 5) rfl (by rw [e88]; rfl) (by decide) rfl (fun ls hl => ?_)
      have b88 : kB v88 1 4 := kB_eq e88 (kB_add b6 kc_1 (by decide))
      have t88 : v88.toInt = x6.toInt + 1 := by rw [e88]; exact kinc (kB_w b6 (by decide) (by decide))
      refine lv_goto (tgt := 13) hx hb dX5_filterAll_91 (by decide) ?_
      exact ih_13 x4 x5 v88 sm2 (by have := b88.1; have := b88.2; have := b6.1; have := b6.2; omega) (kB_w b88 (by decide) (by decide)) _ _ ls hP hD hS (lv_sub hl [1, 2, 3, 4, 5, 0] rfl)
    · have c25n : x7 < cols := kN_le c25
      have c25nx : kB x7 0 3 := kB_lt_l b7 bcols c25n (by decide)
      refine lv_iconst (v := 4) hx hb dX5_filterAll_28 (by decide) ?_
      refine lv_iload hx hb dX5_filterAll_29 (lv_at hl 5 rfl) ?_
      refine lv_bipush (v := 16) hx hb dX5_filterAll_31 (by decide) ?_
      refine lv_imul hx hb dX5_filterAll_33 ?_
      refine lv_topi (fun v33 e33 => ?_)
      have b33 : kB v33 0 48 := kB_eq e33 (kB_mulc b6 kc_16 (by decide))
      refine lv_iload hx hb dX5_filterAll_34 (lv_at hl 6 rfl) ?_
      refine lv_iadd hx hb dX5_filterAll_36 ?_
      refine lv_topi (fun v36 e36 => ?_)
      have b36 : kB v36 0 51 := kB_eq e36 (kB_add b33 c25nx (by decide))
      refine lv_imul hx hb dX5_filterAll_37 ?_
      refine lv_topi (fun v37 e37 => ?_)
      have b37 : kB v37 0 204 := kB_eq e37 (kB_cmul kc_4 b36 (by decide))
      refine lv_istore (lv' := [(8, .int v37), (0, .ref hpl), (1, .int cols), (2, .int rows), (4, .int x4), (5, .int x5), (6, .int x6), (7, .int x7)]) hx hb dX5_filterAll_38 hl (by decide) rfl (fun ls hl => ?_)
      refine lv_iload hx hb dX5_filterAll_40 (lv_at hl 7 rfl) ?_
      refine lv_if_le (tgt := 61) hx hb dX5_filterAll_42 (by decide) (fun c42 => ?_) (fun c42 => ?_)
      · have c42x : kB x7 0 0 := kB_le_l c25nx kc_0 c42 (by decide)
        refine lv_iload hx hb dX5_filterAll_61 (lv_at hl 6 rfl) ?_
        refine lv_if_le (tgt := 82) hx hb dX5_filterAll_63 (by decide) (fun c63 => ?_) (fun c63 => ?_)
        · have c63x : kB x6 0 0 := kB_le_l b6 kc_0 c63 (by decide)
          obtain ⟨v82, e82⟩ : ∃ y : Int32, y = x7 + 1 := ⟨_, rfl⟩
          refine lv_iinc (v := v82) (lv' := [(7, .int v82), (8, .int v37), (0, .ref hpl), (1, .int cols), (2, .int rows), (4, .int x4), (5, .int x5), (6, .int x6)]) hx hb dX5_filterAll_82 hl (k := 7) rfl (by rw [e82]; rfl) (by decide) rfl (fun ls hl => ?_)
          have b82 : kB v82 1 1 := kB_eq e82 (kB_add c42x kc_1 (by decide))
          have t82 : v82.toInt = x7.toInt + 1 := by rw [e82]; exact kinc (kB_w c42x (by decide) (by decide))
          refine lv_goto (tgt := 22) hx hb dX5_filterAll_85 (by decide) ?_
          exact ih x4 x5 x6 v82 sm2 (by have := c63x.1; have := c63x.2; have := b82.1; have := b82.2; have := c42x.1; have := c42x.2; omega) (kB_w c63x (by decide) (by decide)) (kB_w b82 (by decide) (by decide)) hm13 _ _ ls hP hD hS (lv_sub hl [2, 3, 4, 5, 6, 7, 0] rfl)
        · have c63n : 0 < x6 := kN_le c63
          have c63ny : kB x6 1 3 := kB_lt_r kc_0 b6 c63n (by decide)
          have b33_1 : kB v33 16 48 := kB_eq e33 (kB_mulc c63ny kc_16 (by decide))
          have b36_2 : kB v36 16 48 := kB_eq e36 (kB_add b33_1 c42x (by decide))
          have b37_3 : kB v37 64 192 := kB_eq e37 (kB_cmul kc_4 b36_2 (by decide))
          refine lv_iload hx hb dX5_filterAll_66 (lv_at hl 5 rfl) ?_
          refine lv_aload_n hx hb dX5_filterAll_68 rfl (lv_at hl 1 rfl) ?_
          refine lv_iload hx hb dX5_filterAll_69 (lv_at hl 0 rfl) ?_
          refine lv_iconst (v := 1) hx hb dX5_filterAll_71 (by decide) ?_
          refine lv_bipush (v := 16) hx hb dX5_filterAll_72 (by decide) ?_
          refine lv_iload hx hb dX5_filterAll_74 (lv_at hl 4 rfl) ?_
          have hPc := hP.sub (ws' := [(hpl, .inr (5, [.ref hs])), (hs, .inl (cI, 256, .inl sm2))]) [0, 1] rfl
          have hDc := hD.sub (ws' := [(hpl, .inr (5, [.ref hs])), (hs, .inl (cI, 256, .inl sm2))]) [0, 1] (by decide) rfl
          have hFc := va_free (wc := [(hpl, .inr (5, [.ref hs])), (hs, .inl (cI, 256, .inl sm2))]) hD hS hA [0, 1] rfl
          refine va_calli (va_runV (As := [.int v37, .int 1, .int 16, .int x4]) (rest := [.int x5]) ⟨hx, hb, hml, hown, hts⟩ (c_X5_filterEdge_b l D cI cJ cZ hpl hs sm2 v37 x4 (kB_w b37_3 (by decide) (by decide)) (H).size) (cwV 4 hts (kg_V mk_110 mk_111 mk_112 mk_80 mk_113) rfl rfl rfl (by decide +kernel) ⟨Nat.le_of_ble_eq_true rfl, Nat.le_of_ble_eq_true rfl⟩) ⟨fun a U g mk q => by obtain ⟨q0, q1, qP, qK, qD⟩ := q; exact ⟨q0, q1, qP, kK.call qK, qD⟩, va_recv hK.1 hPc (ci := 5) (q0 := 0) rfl rfl, fun U hU hW => ⟨rfl, by rw [hU], by rw [hU]; exact hPc, kK.warm hW hK, hDc.weaken (fun _ _ _ _ => trivial)⟩⟩ rfl rfl hl.1 rfl (lv_room (Nat.le_of_ble_eq_true rfl)) dX5_filterAll_76 ⟨Nat.zero_le _, Nat.zero_le _⟩) hS (fun q _ h => hFc q h) hFc (fun r76 u t9 H1 locs ht9 hvm9 hw9 hB9 hz9 hk9 hS => ?_)
          obtain ⟨sm2_76, rfl⟩ : ∃ z, z = u := ⟨_, rfl⟩
          obtain ⟨hP1, hD1⟩ := hB9
          rw [ht9] at hP1
          have hP1 : va_P D vwCl [(hpl, .inr (5, [.ref hs])), (hs, .inl (cI, 256, .inl sm2_76))] H1 := hP1
          obtain ⟨hP, hD⟩ := va_join (wr := []) (w1 := [(hpl, .inr (5, [.ref hs])), (hs, .inl (cI, 256, .inl sm2_76))]) hP hD [0, 1] [] rfl rfl (by decide) (by decide) hk9 hFc hP1 hD1
          have hP := hP.sub (ws' := [(hpl, .inr (5, [.ref hs])), (hs, .inl (cI, 256, .inl sm2_76))]) [0, 1] rfl
          have hD := hD.sub (ws' := [(hpl, .inr (5, [.ref hs])), (hs, .inl (cI, 256, .inl sm2_76))]) [0, 1] (by decide) rfl
          generalize H1 = H at hP hS ⊢
          refine lv_iadd hx hb dX5_filterAll_79 ?_
          refine lv_topi (fun v79 e79 => ?_)
          refine lv_istore (lv' := [(5, .int v79), (8, .int v37), (0, .ref hpl), (1, .int cols), (2, .int rows), (4, .int x4), (6, .int x6), (7, .int x7)]) hx hb dX5_filterAll_80 hl (by decide) rfl (fun ls hl => ?_)
          obtain ⟨v82, e82⟩ : ∃ y : Int32, y = x7 + 1 := ⟨_, rfl⟩
          refine lv_iinc (v := v82) (lv' := [(7, .int v82), (5, .int v79), (8, .int v37), (0, .ref hpl), (1, .int cols), (2, .int rows), (4, .int x4), (6, .int x6)]) hx hb dX5_filterAll_82 hl (k := 7) rfl (by rw [e82]; rfl) (by decide) rfl (fun ls hl => ?_)
          have b82 : kB v82 1 1 := kB_eq e82 (kB_add c42x kc_1 (by decide))
          have t82 : v82.toInt = x7.toInt + 1 := by rw [e82]; exact kinc (kB_w c42x (by decide) (by decide))
          refine lv_goto (tgt := 22) hx hb dX5_filterAll_85 (by decide) ?_
          exact ih x4 v79 x6 v82 sm2_76 (by have := c63ny.1; have := c63ny.2; have := b82.1; have := b82.2; have := c42x.1; have := c42x.2; omega) (kB_w c63ny (by decide) (by decide)) (kB_w b82 (by decide) (by decide)) hm13 _ _ ls hP hD hS (lv_sub hl [3, 4, 5, 6, 1, 7, 0] rfl)
      · have c42n : 0 < x7 := kN_le c42
        have c42ny : kB x7 1 3 := kB_lt_r kc_0 c25nx c42n (by decide)
        have b36_5 : kB v36 1 51 := kB_eq e36 (kB_add b33 c42ny (by decide))
        have b37_6 : kB v37 4 204 := kB_eq e37 (kB_cmul kc_4 b36_5 (by decide))
        refine lv_iload hx hb dX5_filterAll_45 (lv_at hl 5 rfl) ?_
        refine lv_aload_n hx hb dX5_filterAll_47 rfl (lv_at hl 1 rfl) ?_
        refine lv_iload hx hb dX5_filterAll_48 (lv_at hl 0 rfl) ?_
        refine lv_bipush (v := 16) hx hb dX5_filterAll_50 (by decide) ?_
        refine lv_iconst (v := 1) hx hb dX5_filterAll_52 (by decide) ?_
        refine lv_iload hx hb dX5_filterAll_53 (lv_at hl 4 rfl) ?_
        have hPc := hP.sub (ws' := [(hpl, .inr (5, [.ref hs])), (hs, .inl (cI, 256, .inl sm2))]) [0, 1] rfl
        have hDc := hD.sub (ws' := [(hpl, .inr (5, [.ref hs])), (hs, .inl (cI, 256, .inl sm2))]) [0, 1] (by decide) rfl
        have hFc := va_free (wc := [(hpl, .inr (5, [.ref hs])), (hs, .inl (cI, 256, .inl sm2))]) hD hS hA [0, 1] rfl
        refine va_calli (va_runV (As := [.int v37, .int 16, .int 1, .int x4]) (rest := [.int x5]) ⟨hx, hb, hml, hown, hts⟩ (c_X5_filterEdge_a l D cI cJ cZ hpl hs sm2 v37 x4 b37_6 (H).size) (cwV 4 hts (kg_V mk_110 mk_111 mk_112 mk_80 mk_113) rfl rfl rfl (by decide +kernel) ⟨Nat.le_of_ble_eq_true rfl, Nat.le_of_ble_eq_true rfl⟩) ⟨fun a U g mk q => by obtain ⟨q0, q1, qP, qK, qD⟩ := q; exact ⟨q0, q1, qP, kK.call qK, qD⟩, va_recv hK.1 hPc (ci := 5) (q0 := 0) rfl rfl, fun U hU hW => ⟨rfl, by rw [hU], by rw [hU]; exact hPc, kK.warm hW hK, hDc.weaken (fun _ _ _ _ => trivial)⟩⟩ rfl rfl hl.1 rfl (lv_room (Nat.le_of_ble_eq_true rfl)) dX5_filterAll_55 ⟨Nat.zero_le _, Nat.zero_le _⟩) hS (fun q _ h => hFc q h) hFc (fun r55 u t9 H1 locs ht9 hvm9 hw9 hB9 hz9 hk9 hS => ?_)
        obtain ⟨sm2_55, rfl⟩ : ∃ z, z = u := ⟨_, rfl⟩
        obtain ⟨hP1, hD1⟩ := hB9
        rw [ht9] at hP1
        have hP1 : va_P D vwCl [(hpl, .inr (5, [.ref hs])), (hs, .inl (cI, 256, .inl sm2_55))] H1 := hP1
        obtain ⟨hP, hD⟩ := va_join (wr := []) (w1 := [(hpl, .inr (5, [.ref hs])), (hs, .inl (cI, 256, .inl sm2_55))]) hP hD [0, 1] [] rfl rfl (by decide) (by decide) hk9 hFc hP1 hD1
        have hP := hP.sub (ws' := [(hpl, .inr (5, [.ref hs])), (hs, .inl (cI, 256, .inl sm2_55))]) [0, 1] rfl
        have hD := hD.sub (ws' := [(hpl, .inr (5, [.ref hs])), (hs, .inl (cI, 256, .inl sm2_55))]) [0, 1] (by decide) rfl
        generalize H1 = H at hP hS ⊢
        refine lv_iadd hx hb dX5_filterAll_58 ?_
        refine lv_topi (fun v58 e58 => ?_)
        refine lv_istore (lv' := [(5, .int v58), (8, .int v37), (0, .ref hpl), (1, .int cols), (2, .int rows), (4, .int x4), (6, .int x6), (7, .int x7)]) hx hb dX5_filterAll_59 hl (by decide) rfl (fun ls hl => ?_)
        refine lv_iload hx hb dX5_filterAll_61 (lv_at hl 6 rfl) ?_
        refine lv_if_le (tgt := 82) hx hb dX5_filterAll_63 (by decide) (fun c63 => ?_) (fun c63 => ?_)
        · have c63x : kB x6 0 0 := kB_le_l b6 kc_0 c63 (by decide)
          obtain ⟨v82, e82⟩ : ∃ y : Int32, y = x7 + 1 := ⟨_, rfl⟩
          refine lv_iinc (v := v82) (lv' := [(7, .int v82), (5, .int v58), (8, .int v37), (0, .ref hpl), (1, .int cols), (2, .int rows), (4, .int x4), (6, .int x6)]) hx hb dX5_filterAll_82 hl (k := 7) rfl (by rw [e82]; rfl) (by decide) rfl (fun ls hl => ?_)
          have b82 : kB v82 2 4 := kB_eq e82 (kB_add c42ny kc_1 (by decide))
          have t82 : v82.toInt = x7.toInt + 1 := by rw [e82]; exact kinc (kB_w c42ny (by decide) (by decide))
          refine lv_goto (tgt := 22) hx hb dX5_filterAll_85 (by decide) ?_
          exact ih x4 v58 x6 v82 sm2_55 (by have := c63x.1; have := c63x.2; have := b82.1; have := b82.2; have := c42ny.1; have := c42ny.2; omega) (kB_w c63x (by decide) (by decide)) (kB_w b82 (by decide) (by decide)) hm13 _ _ ls hP hD hS (lv_sub hl [3, 4, 5, 6, 1, 7, 0] rfl)
        · have c63n : 0 < x6 := kN_le c63
          have c63ny : kB x6 1 3 := kB_lt_r kc_0 b6 c63n (by decide)
          have b33_7 : kB v33 16 48 := kB_eq e33 (kB_mulc c63ny kc_16 (by decide))
          have b36_8 : kB v36 17 51 := kB_eq e36 (kB_add b33_7 c42ny (by decide))
          have b37_9 : kB v37 68 204 := kB_eq e37 (kB_cmul kc_4 b36_8 (by decide))
          refine lv_iload hx hb dX5_filterAll_66 (lv_at hl 0 rfl) ?_
          refine lv_aload_n hx hb dX5_filterAll_68 rfl (lv_at hl 2 rfl) ?_
          refine lv_iload hx hb dX5_filterAll_69 (lv_at hl 1 rfl) ?_
          refine lv_iconst (v := 1) hx hb dX5_filterAll_71 (by decide) ?_
          refine lv_bipush (v := 16) hx hb dX5_filterAll_72 (by decide) ?_
          refine lv_iload hx hb dX5_filterAll_74 (lv_at hl 5 rfl) ?_
          have hPc := hP.sub (ws' := [(hpl, .inr (5, [.ref hs])), (hs, .inl (cI, 256, .inl sm2_55))]) [0, 1] rfl
          have hDc := hD.sub (ws' := [(hpl, .inr (5, [.ref hs])), (hs, .inl (cI, 256, .inl sm2_55))]) [0, 1] (by decide) rfl
          have hFc := va_free (wc := [(hpl, .inr (5, [.ref hs])), (hs, .inl (cI, 256, .inl sm2_55))]) hD hS hA [0, 1] rfl
          refine va_calli (va_runV (As := [.int v37, .int 1, .int 16, .int x4]) (rest := [.int v58]) ⟨hx, hb, hml, hown, hts⟩ (c_X5_filterEdge_b l D cI cJ cZ hpl hs sm2_55 v37 x4 (kB_w b37_9 (by decide) (by decide)) (H).size) (cwV 4 hts (kg_V mk_110 mk_111 mk_112 mk_80 mk_113) rfl rfl rfl (by decide +kernel) ⟨Nat.le_of_ble_eq_true rfl, Nat.le_of_ble_eq_true rfl⟩) ⟨fun a U g mk q => by obtain ⟨q0, q1, qP, qK, qD⟩ := q; exact ⟨q0, q1, qP, kK.call qK, qD⟩, va_recv hK.1 hPc (ci := 5) (q0 := 0) rfl rfl, fun U hU hW => ⟨rfl, by rw [hU], by rw [hU]; exact hPc, kK.warm hW hK, hDc.weaken (fun _ _ _ _ => trivial)⟩⟩ rfl rfl hl.1 rfl (lv_room (Nat.le_of_ble_eq_true rfl)) dX5_filterAll_76 ⟨Nat.zero_le _, Nat.zero_le _⟩) hS (fun q _ h => hFc q h) hFc (fun r76 u t9 H1 locs ht9 hvm9 hw9 hB9 hz9 hk9 hS => ?_)
          obtain ⟨sm2_76, rfl⟩ : ∃ z, z = u := ⟨_, rfl⟩
          obtain ⟨hP1, hD1⟩ := hB9
          rw [ht9] at hP1
          have hP1 : va_P D vwCl [(hpl, .inr (5, [.ref hs])), (hs, .inl (cI, 256, .inl sm2_76))] H1 := hP1
          obtain ⟨hP, hD⟩ := va_join (wr := []) (w1 := [(hpl, .inr (5, [.ref hs])), (hs, .inl (cI, 256, .inl sm2_76))]) hP hD [0, 1] [] rfl rfl (by decide) (by decide) hk9 hFc hP1 hD1
          have hP := hP.sub (ws' := [(hpl, .inr (5, [.ref hs])), (hs, .inl (cI, 256, .inl sm2_76))]) [0, 1] rfl
          have hD := hD.sub (ws' := [(hpl, .inr (5, [.ref hs])), (hs, .inl (cI, 256, .inl sm2_76))]) [0, 1] (by decide) rfl
          generalize H1 = H at hP hS ⊢
          refine lv_iadd hx hb dX5_filterAll_79 ?_
          refine lv_topi (fun v79 e79 => ?_)
          refine lv_istore (lv' := [(5, .int v79), (8, .int v37), (0, .ref hpl), (1, .int cols), (2, .int rows), (4, .int x4), (6, .int x6), (7, .int x7)]) hx hb dX5_filterAll_80 hl (by decide) rfl (fun ls hl => ?_)
          obtain ⟨v82, e82⟩ : ∃ y : Int32, y = x7 + 1 := ⟨_, rfl⟩
          refine lv_iinc (v := v82) (lv' := [(7, .int v82), (5, .int v79), (8, .int v37), (0, .ref hpl), (1, .int cols), (2, .int rows), (4, .int x4), (6, .int x6)]) hx hb dX5_filterAll_82 hl (k := 7) rfl (by rw [e82]; rfl) (by decide) rfl (fun ls hl => ?_)
          have b82 : kB v82 2 4 := kB_eq e82 (kB_add c42ny kc_1 (by decide))
          have t82 : v82.toInt = x7.toInt + 1 := by rw [e82]; exact kinc (kB_w c42ny (by decide) (by decide))
          refine lv_goto (tgt := 22) hx hb dX5_filterAll_85 (by decide) ?_
          exact ih x4 v79 x6 v82 sm2_76 (by have := c63ny.1; have := c63ny.2; have := b82.1; have := b82.2; have := c42ny.1; have := c42ny.2; omega) (kB_w c63ny (by decide) (by decide)) (kB_w b82 (by decide) (by decide)) hm13 _ _ ls hP hD hS (lv_sub hl [3, 4, 5, 6, 1, 7, 0] rfl)
set_option maxHeartbeats 4000000 in
set_option maxRecDepth 100000 in
theorem lp_X5_filterAll_13 {p : Program} {l : Launch} {e : Env} {s : State} {m : MethodId} {args : Array Value} {below : List Frame} {meth : Method} {c : Code} {A : Nat → Prop} (D : va_G) (cI cJ cZ : ClassId) (hpl hs : Nat) (sm : Nat → Int32) (cols : Int32) (rows : Int32) (lev : Int32) (bcols : kB cols 1 4) (brows : kB rows 1 4) (hx : p.tables.exec = Jvm.exec) (hb : c.code = cX5_filterAll) (hr : meth.sig.returnType = (some .int)) (hml : c.maxLocals = 9) (hown : s.vm.findClass RX5 = some m.cls) (hts : ∀ w ∈ kW, w.before args s = true) (hlocks : meth.locks = false) (hK : kK D cI cJ cZ s) (hA : ∀ q : Nat, s.heap.size ≤ q → A q) : ∀ n : Nat, ∀ (x4 : Int32) (x5 : Int32) (x6 : Int32) (sm2 : Nat → Int32), (4 - x6.toInt).toNat < n → (kB x6 0 4) → ∀ (H : Heap) (locs : List Loc) (ls : Array Slot), va_P D vwCl [(hpl, .inr (5, [.ref hs])), (hs, .inl (cI, 256, .inl sm2))] H → va_D A [(hpl, .inr (5, [.ref hs])), (hs, .inl (cI, 256, .inl sm2))] → va_S A s.heap H locs → lv_has ls 9 [(0, .ref hpl), (1, .int cols), (2, .int rows), (4, .int x4), (5, .int x5), (6, .int x6)] → W p l e (headSpec kw_X5_filterAll ({ frames := 4, cells := 0, slots := 0, locals := 99 })).room s m args below meth c H locs 0 0 (MQ below (va_Qi (fun (r : Int32) (u : (Nat → Int32)) => True) (fun (u : (Nat → Int32)) (t : State) => va_P D vwCl [(hpl, .inr (5, [.ref hs])), (hs, .inl (cI, 256, .inl u))] t.heap ∧ va_D A [(hpl, .inr (5, [.ref hs])), (hs, .inl (cI, 256, .inl u))]) A) args s 0 0 A) (F0 m 13 ls []) := by
  intro n
  induction n with
  | zero => intro x4 x5 x6 sm2 hmeas; exact absurd hmeas (Nat.not_lt_zero _)
  | succ n ih =>
    intro x4 x5 x6 sm2 hmeas b6 H locs ls hP hD hS hl
    refine lv_iload hx hb dX5_filterAll_13 (lv_at hl 5 rfl) ?_
    refine lv_iload_n hx hb dX5_filterAll_15 rfl (lv_at hl 2 rfl) ?_
    refine lv_icmp_ge (tgt := 94) hx hb dX5_filterAll_16 (by decide) (fun c16 => ?_) (fun c16 => ?_)
    · have c16y : kB x6 1 4 := kB_le_r brows b6 c16 (by decide)
      refine lv_iload hx hb dX5_filterAll_94 (lv_at hl 4 rfl) ?_
      exact W.iret (v := x5) hx hb hr (fun t9 ht9 hW9 => ⟨⟨x5, sm2, rfl, trivial, by rw [ht9]; exact hP, hD⟩, hS.F ht9⟩) hS.2.2 dX5_filterAll_96
    · have c16n : x6 < rows := kN_le c16
      have c16nx : kB x6 0 3 := kB_lt_l b6 brows c16n (by decide)
      refine lv_iconst (v := 0) hx hb dX5_filterAll_19 (by decide) ?_
      refine lv_istore (lv' := [(7, .int 0), (0, .ref hpl), (1, .int cols), (2, .int rows), (4, .int x4), (5, .int x5), (6, .int x6)]) hx hb dX5_filterAll_20 hl (by decide) rfl (fun ls hl => ?_)
      exact lp_X5_filterAll_22 D cI cJ cZ hpl hs sm cols rows lev bcols brows hx hb hr hml hown hts hlocks hK hA n ih ((4 - (0 : Int32).toInt).toNat + 1) x4 x5 x6 0 sm2 (Nat.lt_succ_self _) c16nx (kB_w kc_0 (by decide) (by decide)) (by first | assumption | omega) _ _ ls hP hD hS (lv_sub hl [1, 2, 3, 4, 5, 6, 0] rfl)
set_option maxHeartbeats 4000000 in
set_option maxRecDepth 100000 in
theorem c_X5_filterAll (l : Launch) (D : va_G) (cI cJ cZ : ClassId) (hpl hs : Nat) (sm : Nat → Int32) (cols : Int32) (rows : Int32) (lev : Int32) (bcols : kB cols 1 4) (brows : kB rows 1 4) (hpz : Nat) : Met l yX5_filterAll kw_X5_filterAll ({ frames := 4, cells := 0, slots := 0, locals := 99 }) (va_Pc [.ref hpl, .int cols, .int rows, .int lev] (fun U => U.heap.size = hpz ∧ va_P D vwCl [(hpl, .inr (5, [.ref hs])), (hs, .inl (cI, 256, .inl sm))] U.heap ∧ kK D cI cJ cZ U ∧ va_D (fun _ => True) [(hpl, .inr (5, [.ref hs])), (hs, .inl (cI, 256, .inl sm))])) (va_Qi (fun (r : Int32) (u : (Nat → Int32)) => True) (fun (u : (Nat → Int32)) (t : State) => va_P D vwCl [(hpl, .inr (5, [.ref hs])), (hs, .inl (cI, 256, .inl u))] t.heap ∧ va_D (va_A [(hpl, .inr (5, [.ref hs])), (hs, .inl (cI, 256, .inl sm))] hpz) [(hpl, .inr (5, [.ref hs])), (hs, .inl (cI, 256, .inl u))]) (va_A [(hpl, .inr (5, [.ref hs])), (hs, .inl (cI, 256, .inl sm))] hpz)) 0 0 (va_A [(hpl, .inr (5, [.ref hs])), (hs, .inl (cI, 256, .inl sm))] hpz) := by
  refine Met.ofW (cc := cX5_filterAll) (maxL := 9) (ret := (some .int)) (by decide) rfl ?_
  intro p e s m args below meth c s₁ B hml hv
  obtain ⟨rfl, hsz, hP, hK, hD0⟩ := hv
  have hx := B.exec
  have hb := B.bytes
  have hr := B.returns
  have hts := fun (w : Cond) (h : w ∈ kW) => atoms_spec (ws := kw_X5_filterAll) B.pre w (List.mem_cons_of_mem _ h)
  have hown : s.vm.findClass RX5 = some m.cls := findClass_of_methodNamed B.named
  have hlocks := B.notSynchronized
  subst hsz
  have hD := hD0.self (sz := s.heap.size)
  generalize hAe : va_A [(hpl, .inr (5, [.ref hs])), (hs, .inl (cI, 256, .inl sm))] s.heap.size = A at hD ⊢
  have hA : ∀ q : Nat, s.heap.size ≤ q → A q := fun q h => by rw [← hAe]; exact Or.inr h
  have hS : va_S A s.heap s.heap [] := va_S.rf
  have hP : va_P D vwCl [(hpl, .inr (5, [.ref hs])), (hs, .inl (cI, 256, .inl sm))] s.heap := hP
  have hl := lv_entry ([.ref hpl, .int cols, .int rows, .int lev]) (n := 9) (Nat.le_of_ble_eq_true rfl)
  rw [lg_entry_eq]
  generalize (lg_sl ([.ref hpl, .int cols, .int rows, .int lev]) ++ List.replicate (9 - (lg_sl ([.ref hpl, .int cols, .int rows, .int lev])).length) Slot.unset).toArray = ls at hl ⊢
  have hl : lv_has ls 9 [(0, .ref hpl), (1, .int cols), (2, .int rows), (3, .int lev)] := hl
  refine lv_iconst (v := 2) hx hb dX5_filterAll_0 (by decide) ?_
  refine lv_iload_n hx hb dX5_filterAll_1 rfl (lv_at hl 3 rfl) ?_
  refine lv_imul hx hb dX5_filterAll_2 ?_
  refine lv_topi (fun v2 e2 => ?_)
  refine lv_iconst (v := 4) hx hb dX5_filterAll_3 (by decide) ?_
  refine lv_iadd hx hb dX5_filterAll_4 ?_
  refine lv_topi (fun v4 e4 => ?_)
  refine lv_istore (lv' := [(4, .int v4), (0, .ref hpl), (1, .int cols), (2, .int rows), (3, .int lev)]) hx hb dX5_filterAll_5 hl (by decide) rfl (fun ls hl => ?_)
  refine lv_iconst (v := 0) hx hb dX5_filterAll_7 (by decide) ?_
  refine lv_istore (lv' := [(5, .int 0), (4, .int v4), (0, .ref hpl), (1, .int cols), (2, .int rows), (3, .int lev)]) hx hb dX5_filterAll_8 hl (by decide) rfl (fun ls hl => ?_)
  refine lv_iconst (v := 0) hx hb dX5_filterAll_10 (by decide) ?_
  refine lv_istore (lv' := [(6, .int 0), (5, .int 0), (4, .int v4), (0, .ref hpl), (1, .int cols), (2, .int rows), (3, .int lev)]) hx hb dX5_filterAll_11 hl (by decide) rfl (fun ls hl => ?_)
  exact lp_X5_filterAll_13 D cI cJ cZ hpl hs sm cols rows lev bcols brows hx hb hr hml hown hts hlocks hK hA ((4 - (0 : Int32).toInt).toNat + 1) v4 0 0 sm (Nat.lt_succ_self _) (kB_w kc_0 (by decide) (by decide)) _ _ ls hP hD hS (lv_sub hl [3, 4, 5, 2, 1, 0] rfl)
