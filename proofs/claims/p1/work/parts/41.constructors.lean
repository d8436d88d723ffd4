abbrev kw_X3_init : List Cond := Cond.code yX3_init cX3_init 1 none :: kW
set_option maxHeartbeats 4000000 in
set_option maxRecDepth 100000 in
theorem c_X3_init (l : Launch) (D : va_G) (cI cJ cZ : ClassId) (ho : Nat) (hpz : Nat) : Met l yX3_init kw_X3_init ({ frames := 1, cells := 1, slots := 600, locals := 20 }) (va_Pc [.ref ho] (fun U => U.heap.size = hpz ∧ va_P D vwCl [(ho, .inr (3, [.null, .int 0]))] U.heap ∧ kK D cI cJ cZ U ∧ va_D (fun _ => True) [(ho, .inr (3, [.null, .int 0]))])) (va_Qv (fun (u : Nat) => True) (fun (u : Nat) (t : State) => va_P D vwCl [(ho, .inr (3, [.ref u, .int 0])), (u, .inl (cI, 600, .inl (fun _ => 0)))] t.heap ∧ va_D (va_A [(ho, .inr (3, [.null, .int 0]))] hpz) [(ho, .inr (3, [.ref u, .int 0])), (u, .inl (cI, 600, .inl (fun _ => 0)))]) (va_A [(ho, .inr (3, [.null, .int 0]))] hpz)) 1 600 (va_A [(ho, .inr (3, [.null, .int 0]))] hpz) := by
  refine Met.ofW (cc := cX3_init) (maxL := 1) (ret := none) (by decide) rfl ?_
  intro p e s m args below meth c s₁ B hml hv
  obtain ⟨rfl, hsz, hP, hK, hD0⟩ := hv
  have hin : meth.name = "<init>" := (name_of_methodNamed B.named B.method).1
  have hx := B.exec
  have hb := B.bytes
  have hr := B.returns
  have hts := fun (w : Cond) (h : w ∈ kW) => atoms_spec (ws := kw_X3_init) B.pre w (List.mem_cons_of_mem _ h)
  have hown : s.vm.findClass RX3 = some m.cls := findClass_of_methodNamed B.named
  have hlocks := B.notSynchronized
  subst hsz
  have hD := hD0.self (sz := s.heap.size)
  generalize hAe : va_A [(ho, .inr (3, [.null, .int 0]))] s.heap.size = A at hD ⊢
  have hA : ∀ q : Nat, s.heap.size ≤ q → A q := fun q h => by rw [← hAe]; exact Or.inr h
  have hS : va_S A s.heap s.heap [] := va_S.rf
  have hP : va_P D vwCl [(ho, .inr (3, [.null, .int 0]))] s.heap := hP
  have hl := lv_entry ([.ref ho]) (n := 1) (Nat.le_of_ble_eq_true rfl)
  rw [lg_entry_eq]
  generalize (lg_sl ([.ref ho]) ++ List.replicate (1 - (lg_sl ([.ref ho])).length) Slot.unset).toArray = ls at hl ⊢
  have hl : lv_has ls 1 [(0, .ref ho)] := hl
  refine lv_aload_n hx hb dX3_init_0 rfl (lv_at hl 0 rfl) ?_
  refine W.objInit hx hb hown (hts _ mk_380) (hts _ mk_381) (hts _ mk_382) rfl (by rw [hml]; exact hl.1) rfl dX3_init_1 (Nat.le_of_ble_eq_true rfl) (Nat.le_of_ble_eq_true rfl) ?_
  refine W.eq (g2 := F0 m 4 ls []) rfl ?_
  refine lv_aload_n hx hb dX3_init_4 rfl (lv_at hl 0 rfl) ?_
  refine lv_sipush (v := 600) hx hb dX3_init_5 (by decide) ?_
  refine va_newa (atype := .int) (ty := .int) (N' := 600) (a0 := (600, .inl (fun _ => 0))) hx hb (hts _ mk_383) rfl hK.1 hP hD hS hA (fun _ => rfl) (by decide) (by decide) (by decide) (Nat.le_of_ble_eq_true rfl) (Nat.le_of_ble_eq_true rfl) dX3_init_8 (fun q8 cA H hKa hP hD hS => ?_)
  have ecA : cA = cI := kCI hKa
  rw [ecA] at hP hD
  have hP : va_P D vwCl [(ho, .inr (3, [.null, .int 0])), (q8, .inl (cI, 600, .inl (fun _ => 0)))] H := hP
  have hD : va_D A [(ho, .inr (3, [.null, .int 0])), (q8, .inl (cI, 600, .inl (fun _ => 0)))] := hD
  refine W.widen (k := 1) (n := 600) (by omega) (by omega) ?_
  refine va_putF (D := D) (ci := 3) (v := .ref q8) (ty := .array .int) (C := RX3) (T := TX3) (N := 2) hx hb hts in_X3 tyX3 tyX3_ok nmX3 hown hK.1 hP hD hS 0 rfl rfl 0 (by decide) (hts _ mk_1) (fun _ h9 => h9) rfl hin rfl (by decide +kernel) rfl rfl (Nat.le_of_ble_eq_true rfl) dX3_init_10 (fun H locs hP hD hS => ?_)
  have hP : va_P D vwCl [(ho, .inr (3, [.ref q8, .int 0])), (q8, .inl (cI, 600, .inl (fun _ => 0)))] H := hP
  have hD : va_D A [(ho, .inr (3, [.ref q8, .int 0])), (q8, .inl (cI, 600, .inl (fun _ => 0)))] := hD
  refine lv_aload_n hx hb dX3_init_13 rfl (lv_at hl 0 rfl) ?_
  refine lv_iconst (v := 0) hx hb dX3_init_14 (by decide) ?_
  refine va_put (D := D) (ci := 3) (v := .int 0) (ty := .int) (C := RX3) (T := TX3) (N := 2) hx hb hts in_X3 tyX3 tyX3_ok nmX3 hown hK.1 hP hD hS 0 rfl rfl 1 (by decide) (hts _ mk_0) (fun _ h9 => h9) rfl (by decide +kernel) rfl rfl (Nat.le_of_ble_eq_true rfl) dX3_init_15 (fun H locs hP hD hS => ?_)
  have hP : va_P D vwCl [(ho, .inr (3, [.ref q8, .int 0])), (q8, .inl (cI, 600, .inl (fun _ => 0)))] H := hP
  have hD : va_D A [(ho, .inr (3, [.ref q8, .int 0])), (q8, .inl (cI, 600, .inl (fun _ => 0)))] := hD
  exact W.vret hx hb hr (fun t9 ht9 hW9 => ⟨⟨q8, rfl, trivial, by rw [ht9]; exact hP, hD⟩, hS.F ht9⟩) hS.2.2 dX3_init_18
abbrev kw_X1_init : List Cond := Cond.code yX1_init cX1_init 2 none :: kW
set_option maxHeartbeats 4000000 in
set_option maxRecDepth 100000 in
theorem c_X1_init (l : Launch) (D : va_G) (cI cJ cZ : ClassId) (hwr ho : Nat) (hpz : Nat) : Met l yX1_init kw_X1_init ({ frames := 1, cells := 0, slots := 0, locals := 20 }) (va_Pc [.ref hwr, .ref ho] (fun U => U.heap.size = hpz ∧ va_P D vwCl [(hwr, .inr (1, [.null, .int 0, .int 0, .int 0]))] U.heap ∧ kK D cI cJ cZ U ∧ va_D (fun _ => True) [(hwr, .inr (1, [.null, .int 0, .int 0, .int 0]))])) (va_Qv (fun (u : Unit) => True) (fun (u : Unit) (t : State) => va_P D vwCl [(hwr, .inr (1, [.ref ho, .int 0, .int 255, .int 24]))] t.heap ∧ va_D (va_A [(hwr, .inr (1, [.null, .int 0, .int 0, .int 0]))] hpz) [(hwr, .inr (1, [.ref ho, .int 0, .int 255, .int 24]))]) (va_A [(hwr, .inr (1, [.null, .int 0, .int 0, .int 0]))] hpz)) 0 0 (va_A [(hwr, .inr (1, [.null, .int 0, .int 0, .int 0]))] hpz) := by
  refine Met.ofW (cc := cX1_init) (maxL := 2) (ret := none) (by decide) rfl ?_
  intro p e s m args below meth c s₁ B hml hv
  obtain ⟨rfl, hsz, hP, hK, hD0⟩ := hv
  have hin : meth.name = "<init>" := (name_of_methodNamed B.named B.method).1
  have hx := B.exec
  have hb := B.bytes
  have hr := B.returns
  have hts := fun (w : Cond) (h : w ∈ kW) => atoms_spec (ws := kw_X1_init) B.pre w (List.mem_cons_of_mem _ h)
  have hown : s.vm.findClass RX1 = some m.cls := findClass_of_methodNamed B.named
  have hlocks := B.notSynchronized
  subst hsz
  have hD := hD0.self (sz := s.heap.size)
  generalize hAe : va_A [(hwr, .inr (1, [.null, .int 0, .int 0, .int 0]))] s.heap.size = A at hD ⊢
  have hA : ∀ q : Nat, s.heap.size ≤ q → A q := fun q h => by rw [← hAe]; exact Or.inr h
  have hS : va_S A s.heap s.heap [] := va_S.rf
  have hP : va_P D vwCl [(hwr, .inr (1, [.null, .int 0, .int 0, .int 0]))] s.heap := hP
  have hl := lv_entry ([.ref hwr, .ref ho]) (n := 2) (Nat.le_of_ble_eq_true rfl)
  rw [lg_entry_eq]
  generalize (lg_sl ([.ref hwr, .ref ho]) ++ List.replicate (2 - (lg_sl ([.ref hwr, .ref ho])).length) Slot.unset).toArray = ls at hl ⊢
  have hl : lv_has ls 2 [(0, .ref hwr), (1, .ref ho)] := hl
  refine lv_aload_n hx hb dX1_init_0 rfl (lv_at hl 0 rfl) ?_
  refine W.objInit hx hb hown (hts _ mk_384) (hts _ mk_381) (hts _ mk_382) rfl (by rw [hml]; exact hl.1) rfl dX1_init_1 (Nat.le_of_ble_eq_true rfl) (Nat.le_of_ble_eq_true rfl) ?_
  refine W.eq (g2 := F0 m 4 ls []) rfl ?_
  refine lv_aload_n hx hb dX1_init_4 rfl (lv_at hl 0 rfl) ?_
  refine lv_aload_n hx hb dX1_init_5 rfl (lv_at hl 1 rfl) ?_
  refine va_putF (D := D) (ci := 1) (v := .ref ho) (ty := .object "KeyFrames$Octets") (C := RX1) (T := TX1) (N := 4) hx hb hts in_X1 tyX1 tyX1_ok nmX1 hown hK.1 hP hD hS 0 rfl rfl 0 (by decide) (hts _ mk_313) (fun _ h9 => h9) rfl hin rfl (by decide +kernel) rfl rfl (Nat.le_of_ble_eq_true rfl) dX1_init_6 (fun H locs hP hD hS => ?_)
  have hP : va_P D vwCl [(hwr, .inr (1, [.ref ho, .int 0, .int 0, .int 0]))] H := hP
  have hD : va_D A [(hwr, .inr (1, [.ref ho, .int 0, .int 0, .int 0]))] := hD
  refine lv_aload_n hx hb dX1_init_9 rfl (lv_at hl 0 rfl) ?_
  refine lv_iconst (v := 0) hx hb dX1_init_10 (by decide) ?_
  refine va_put (D := D) (ci := 1) (v := .int 0) (ty := .int) (C := RX1) (T := TX1) (N := 4) hx hb hts in_X1 tyX1 tyX1_ok nmX1 hown hK.1 hP hD hS 0 rfl rfl 1 (by decide) (hts _ mk_310) (fun _ h9 => h9) rfl (by decide +kernel) rfl rfl (Nat.le_of_ble_eq_true rfl) dX1_init_11 (fun H locs hP hD hS => ?_)
  have hP : va_P D vwCl [(hwr, .inr (1, [.ref ho, .int 0, .int 0, .int 0]))] H := hP
  have hD : va_D A [(hwr, .inr (1, [.ref ho, .int 0, .int 0, .int 0]))] := hD
  refine lv_aload_n hx hb dX1_init_14 rfl (lv_at hl 0 rfl) ?_
  refine lv_sipush (v := 255) hx hb dX1_init_15 (by decide) ?_
  refine va_put (D := D) (ci := 1) (v := .int 255) (ty := .int) (C := RX1) (T := TX1) (N := 4) hx hb hts in_X1 tyX1 tyX1_ok nmX1 hown hK.1 hP hD hS 0 rfl rfl 2 (by decide) (hts _ mk_311) (fun _ h9 => h9) rfl (by decide +kernel) rfl rfl (Nat.le_of_ble_eq_true rfl) dX1_init_18 (fun H locs hP hD hS => ?_)
  have hP : va_P D vwCl [(hwr, .inr (1, [.ref ho, .int 0, .int 255, .int 0]))] H := hP
  have hD : va_D A [(hwr, .inr (1, [.ref ho, .int 0, .int 255, .int 0]))] := hD
  refine lv_aload_n hx hb dX1_init_21 rfl (lv_at hl 0 rfl) ?_
  refine lv_bipush (v := 24) hx hb dX1_init_22 (by decide) ?_
  refine va_put (D := D) (ci := 1) (v := .int 24) (ty := .int) (C := RX1) (T := TX1) (N := 4) hx hb hts in_X1 tyX1 tyX1_ok nmX1 hown hK.1 hP hD hS 0 rfl rfl 3 (by decide) (hts _ mk_312) (fun _ h9 => h9) rfl (by decide +kernel) rfl rfl (Nat.le_of_ble_eq_true rfl) dX1_init_24 (fun H locs hP hD hS => ?_)
  have hP : va_P D vwCl [(hwr, .inr (1, [.ref ho, .int 0, .int 255, .int 24]))] H := hP
  have hD : va_D A [(hwr, .inr (1, [.ref ho, .int 0, .int 255, .int 24]))] := hD
  exact W.vret hx hb hr (fun t9 ht9 hW9 => ⟨⟨(), rfl, trivial, by rw [ht9]; exact hP, hD⟩, hS.F ht9⟩) hS.2.2 dX1_init_27
abbrev kw_X0_init : List Cond := Cond.code yX0_init cX0_init 2 none :: kW
set_option maxHeartbeats 4000000 in
set_option maxRecDepth 100000 in
theorem c_X0_init (l : Launch) (D : va_G) (cI cJ cZ : ClassId) (hrd ho : Nat) (hpz : Nat) : Met l yX0_init kw_X0_init ({ frames := 1, cells := 0, slots := 0, locals := 20 }) (va_Pc [.ref hrd, .ref ho] (fun U => U.heap.size = hpz ∧ va_P D vwCl [(hrd, .inr (0, [.null, .int 0, .int 0, .int 0, .int 0]))] U.heap ∧ kK D cI cJ cZ U ∧ va_D (fun _ => True) [(hrd, .inr (0, [.null, .int 0, .int 0, .int 0, .int 0]))])) (va_Qv (fun (u : Unit) => True) (fun (u : Unit) (t : State) => va_P D vwCl [(hrd, .inr (0, [.ref ho, .int 0, .int 255, .int 0, .int 0]))] t.heap ∧ va_D (va_A [(hrd, .inr (0, [.null, .int 0, .int 0, .int 0, .int 0]))] hpz) [(hrd, .inr (0, [.ref ho, .int 0, .int 255, .int 0, .int 0]))]) (va_A [(hrd, .inr (0, [.null, .int 0, .int 0, .int 0, .int 0]))] hpz)) 0 0 (va_A [(hrd, .inr (0, [.null, .int 0, .int 0, .int 0, .int 0]))] hpz) := by
  refine Met.ofW (cc := cX0_init) (maxL := 2) (ret := none) (by decide) rfl ?_
  intro p e s m args below meth c s₁ B hml hv
  obtain ⟨rfl, hsz, hP, hK, hD0⟩ := hv
  have hin : meth.name = "<init>" := (name_of_methodNamed B.named B.method).1
  have hx := B.exec
  have hb := B.bytes
  have hr := B.returns
  have hts := fun (w : Cond) (h : w ∈ kW) => atoms_spec (ws := kw_X0_init) B.pre w (List.mem_cons_of_mem _ h)
  have hown : s.vm.findClass RX0 = some m.cls := findClass_of_methodNamed B.named
  have hlocks := B.notSynchronized
  subst hsz
  have hD := hD0.self (sz := s.heap.size)
  generalize hAe : va_A [(hrd, .inr (0, [.null, .int 0, .int 0, .int 0, .int 0]))] s.heap.size = A at hD ⊢
  have hA : ∀ q : Nat, s.heap.size ≤ q → A q := fun q h => by rw [← hAe]; exact Or.inr h
  have hS : va_S A s.heap s.heap [] := va_S.rf
  have hP : va_P D vwCl [(hrd, .inr (0, [.null, .int 0, .int 0, .int 0, .int 0]))] s.heap := hP
  have hl := lv_entry ([.ref hrd, .ref ho]) (n := 2) (Nat.le_of_ble_eq_true rfl)
  rw [lg_entry_eq]
  generalize (lg_sl ([.ref hrd, .ref ho]) ++ List.replicate (2 - (lg_sl ([.ref hrd, .ref ho])).length) Slot.unset).toArray = ls at hl ⊢
  have hl : lv_has ls 2 [(0, .ref hrd), (1, .ref ho)] := hl
  refine lv_aload_n hx hb dX0_init_0 rfl (lv_at hl 0 rfl) ?_
  refine W.objInit hx hb hown (hts _ mk_385) (hts _ mk_381) (hts _ mk_382) rfl (by rw [hml]; exact hl.1) rfl dX0_init_1 (Nat.le_of_ble_eq_true rfl) (Nat.le_of_ble_eq_true rfl) ?_
  refine W.eq (g2 := F0 m 4 ls []) rfl ?_
  refine lv_aload_n hx hb dX0_init_4 rfl (lv_at hl 0 rfl) ?_
  refine lv_aload_n hx hb dX0_init_5 rfl (lv_at hl 1 rfl) ?_
  refine va_putF (D := D) (ci := 0) (v := .ref ho) (ty := .object "KeyFrames$Octets") (C := RX0) (T := TX0) (N := 5) hx hb hts in_X0 tyX0 tyX0_ok nmX0 hown hK.1 hP hD hS 0 rfl rfl 0 (by decide) (hts _ mk_2) (fun _ h9 => h9) rfl hin rfl (by decide +kernel) rfl rfl (Nat.le_of_ble_eq_true rfl) dX0_init_6 (fun H locs hP hD hS => ?_)
  have hP : va_P D vwCl [(hrd, .inr (0, [.ref ho, .int 0, .int 0, .int 0, .int 0]))] H := hP
  have hD : va_D A [(hrd, .inr (0, [.ref ho, .int 0, .int 0, .int 0, .int 0]))] := hD
  refine lv_aload_n hx hb dX0_init_9 rfl (lv_at hl 0 rfl) ?_
  refine lv_iconst (v := 0) hx hb dX0_init_10 (by decide) ?_
  refine va_put (D := D) (ci := 0) (v := .int 0) (ty := .int) (C := RX0) (T := TX0) (N := 5) hx hb hts in_X0 tyX0 tyX0_ok nmX0 hown hK.1 hP hD hS 0 rfl rfl 1 (by decide) (hts _ mk_8) (fun _ h9 => h9) rfl (by decide +kernel) rfl rfl (Nat.le_of_ble_eq_true rfl) dX0_init_11 (fun H locs hP hD hS => ?_)
  have hP : va_P D vwCl [(hrd, .inr (0, [.ref ho, .int 0, .int 0, .int 0, .int 0]))] H := hP
  have hD : va_D A [(hrd, .inr (0, [.ref ho, .int 0, .int 0, .int 0, .int 0]))] := hD
  refine lv_aload_n hx hb dX0_init_14 rfl (lv_at hl 0 rfl) ?_
  refine lv_sipush (v := 255) hx hb dX0_init_15 (by decide) ?_
  refine va_put (D := D) (ci := 0) (v := .int 255) (ty := .int) (C := RX0) (T := TX0) (N := 5) hx hb hts in_X0 tyX0 tyX0_ok nmX0 hown hK.1 hP hD hS 0 rfl rfl 2 (by decide) (hts _ mk_9) (fun _ h9 => h9) rfl (by decide +kernel) rfl rfl (Nat.le_of_ble_eq_true rfl) dX0_init_18 (fun H locs hP hD hS => ?_)
  have hP : va_P D vwCl [(hrd, .inr (0, [.ref ho, .int 0, .int 255, .int 0, .int 0]))] H := hP
  have hD : va_D A [(hrd, .inr (0, [.ref ho, .int 0, .int 255, .int 0, .int 0]))] := hD
  refine lv_aload_n hx hb dX0_init_21 rfl (lv_at hl 0 rfl) ?_
  refine lv_iconst (v := 0) hx hb dX0_init_22 (by decide) ?_
  refine va_put (D := D) (ci := 0) (v := .int 0) (ty := .int) (C := RX0) (T := TX0) (N := 5) hx hb hts in_X0 tyX0 tyX0_ok nmX0 hown hK.1 hP hD hS 0 rfl rfl 3 (by decide) (hts _ mk_10) (fun _ h9 => h9) rfl (by decide +kernel) rfl rfl (Nat.le_of_ble_eq_true rfl) dX0_init_23 (fun H locs hP hD hS => ?_)
  have hP : va_P D vwCl [(hrd, .inr (0, [.ref ho, .int 0, .int 255, .int 0, .int 0]))] H := hP
  have hD : va_D A [(hrd, .inr (0, [.ref ho, .int 0, .int 255, .int 0, .int 0]))] := hD
  refine lv_aload_n hx hb dX0_init_26 rfl (lv_at hl 0 rfl) ?_
  refine lv_iconst (v := 0) hx hb dX0_init_27 (by decide) ?_
  refine va_put (D := D) (ci := 0) (v := .int 0) (ty := .int) (C := RX0) (T := TX0) (N := 5) hx hb hts in_X0 tyX0 tyX0_ok nmX0 hown hK.1 hP hD hS 0 rfl rfl 4 (by decide) (hts _ mk_11) (fun _ h9 => h9) rfl (by decide +kernel) rfl rfl (Nat.le_of_ble_eq_true rfl) dX0_init_28 (fun H locs hP hD hS => ?_)
  have hP : va_P D vwCl [(hrd, .inr (0, [.ref ho, .int 0, .int 255, .int 0, .int 0]))] H := hP
  have hD : va_D A [(hrd, .inr (0, [.ref ho, .int 0, .int 255, .int 0, .int 0]))] := hD
  exact W.vret hx hb hr (fun t9 ht9 hW9 => ⟨⟨(), rfl, trivial, by rw [ht9]; exact hP, hD⟩, hS.F ht9⟩) hS.2.2 dX0_init_31
abbrev kw_X2_init : List Cond := Cond.code yX2_init cX2_init 1 none :: kW
set_option maxHeartbeats 4000000 in
set_option maxRecDepth 100000 in
theorem c_X2_init (l : Launch) (D : va_G) (cI cJ cZ : ClassId) (ht : Nat) (hpz : Nat) : Met l yX2_init kw_X2_init ({ frames := 1, cells := 1, slots := 264, locals := 20 }) (va_Pc [.ref ht] (fun U => U.heap.size = hpz ∧ va_P D vwCl [(ht, .inr (2, [.null]))] U.heap ∧ kK D cI cJ cZ U ∧ va_D (fun _ => True) [(ht, .inr (2, [.null]))])) (va_Qv (fun (u : Nat) => True) (fun (u : Nat) (t : State) => va_P D vwCl [(ht, .inr (2, [.ref u])), (u, .inl (cI, 264, .inl (fun _ => 0)))] t.heap ∧ va_D (va_A [(ht, .inr (2, [.null]))] hpz) [(ht, .inr (2, [.ref u])), (u, .inl (cI, 264, .inl (fun _ => 0)))]) (va_A [(ht, .inr (2, [.null]))] hpz)) 1 264 (va_A [(ht, .inr (2, [.null]))] hpz) := by
  refine Met.ofW (cc := cX2_init) (maxL := 1) (ret := none) (by decide) rfl ?_
  intro p e s m args below meth c s₁ B hml hv
  obtain ⟨rfl, hsz, hP, hK, hD0⟩ := hv
  have hin : meth.name = "<init>" := (name_of_methodNamed B.named B.method).1
  have hx := B.exec
  have hb := B.bytes
  have hr := B.returns
  have hts := fun (w : Cond) (h : w ∈ kW) => atoms_spec (ws := kw_X2_init) B.pre w (List.mem_cons_of_mem _ h)
  have hown : s.vm.findClass RX2 = some m.cls := findClass_of_methodNamed B.named
  have hlocks := B.notSynchronized
  subst hsz
  have hD := hD0.self (sz := s.heap.size)
  generalize hAe : va_A [(ht, .inr (2, [.null]))] s.heap.size = A at hD ⊢
  have hA : ∀ q : Nat, s.heap.size ≤ q → A q := fun q h => by rw [← hAe]; exact Or.inr h
  have hS : va_S A s.heap s.heap [] := va_S.rf
  have hP : va_P D vwCl [(ht, .inr (2, [.null]))] s.heap := hP
  have hl := lv_entry ([.ref ht]) (n := 1) (Nat.le_of_ble_eq_true rfl)
  rw [lg_entry_eq]
  generalize (lg_sl ([.ref ht]) ++ List.replicate (1 - (lg_sl ([.ref ht])).length) Slot.unset).toArray = ls at hl ⊢
  have hl : lv_has ls 1 [(0, .ref ht)] := hl
  refine lv_aload_n hx hb dX2_init_0 rfl (lv_at hl 0 rfl) ?_
  refine W.objInit hx hb hown (hts _ mk_386) (hts _ mk_381) (hts _ mk_382) rfl (by rw [hml]; exact hl.1) rfl dX2_init_1 (Nat.le_of_ble_eq_true rfl) (Nat.le_of_ble_eq_true rfl) ?_
  refine W.eq (g2 := F0 m 4 ls []) rfl ?_
  refine lv_aload_n hx hb dX2_init_4 rfl (lv_at hl 0 rfl) ?_
  refine lv_sipush (v := 264) hx hb dX2_init_5 (by decide) ?_
  refine va_newa (atype := .int) (ty := .int) (N' := 264) (a0 := (264, .inl (fun _ => 0))) hx hb (hts _ mk_383) rfl hK.1 hP hD hS hA (fun _ => rfl) (by decide) (by decide) (by decide) (Nat.le_of_ble_eq_true rfl) (Nat.le_of_ble_eq_true rfl) dX2_init_8 (fun q8 cA H hKa hP hD hS => ?_)
  have ecA : cA = cI := kCI hKa
  rw [ecA] at hP hD
  have hP : va_P D vwCl [(ht, .inr (2, [.null])), (q8, .inl (cI, 264, .inl (fun _ => 0)))] H := hP
  have hD : va_D A [(ht, .inr (2, [.null])), (q8, .inl (cI, 264, .inl (fun _ => 0)))] := hD
  refine W.widen (k := 1) (n := 264) (by omega) (by omega) ?_
  refine va_putF (D := D) (ci := 2) (v := .ref q8) (ty := .array .int) (C := RX2) (T := TX2) (N := 1) hx hb hts in_X2 tyX2 tyX2_ok nmX2 hown hK.1 hP hD hS 0 rfl rfl 0 (by decide) (hts _ mk_36) (fun _ h9 => h9) rfl hin rfl (by decide +kernel) rfl rfl (Nat.le_of_ble_eq_true rfl) dX2_init_10 (fun H locs hP hD hS => ?_)
  have hP : va_P D vwCl [(ht, .inr (2, [.ref q8])), (q8, .inl (cI, 264, .inl (fun _ => 0)))] H := hP
  have hD : va_D A [(ht, .inr (2, [.ref q8])), (q8, .inl (cI, 264, .inl (fun _ => 0)))] := hD
  exact W.vret hx hb hr (fun t9 ht9 hW9 => ⟨⟨q8, rfl, trivial, by rw [ht9]; exact hP, hD⟩, hS.F ht9⟩) hS.2.2 dX2_init_13
abbrev kw_X6_init : List Cond := Cond.code yX6_init cX6_init 1 none :: kW
set_option maxHeartbeats 4000000 in
set_option maxRecDepth 100000 in
theorem c_X6_init (l : Launch) (D : va_G) (cI cJ cZ : ClassId) (htr : Nat) (hpz : Nat) : Met l yX6_init kw_X6_init ({ frames := 1, cells := 1, slots := 16, locals := 20 }) (va_Pc [.ref htr] (fun U => U.heap.size = hpz ∧ va_P D vwCl [(htr, .inr (6, [.null]))] U.heap ∧ kK D cI cJ cZ U ∧ va_D (fun _ => True) [(htr, .inr (6, [.null]))])) (va_Qv (fun (u : Nat) => True) (fun (u : Nat) (t : State) => va_P D vwCl [(htr, .inr (6, [.ref u])), (u, .inl (cJ, 16, .inr (.inl (fun _ => 0))))] t.heap ∧ va_D (va_A [(htr, .inr (6, [.null]))] hpz) [(htr, .inr (6, [.ref u])), (u, .inl (cJ, 16, .inr (.inl (fun _ => 0))))]) (va_A [(htr, .inr (6, [.null]))] hpz)) 1 16 (va_A [(htr, .inr (6, [.null]))] hpz) := by
  refine Met.ofW (cc := cX6_init) (maxL := 1) (ret := none) (by decide) rfl ?_
  intro p e s m args below meth c s₁ B hml hv
  obtain ⟨rfl, hsz, hP, hK, hD0⟩ := hv
  have hin : meth.name = "<init>" := (name_of_methodNamed B.named B.method).1
  have hx := B.exec
  have hb := B.bytes
  have hr := B.returns
  have hts := fun (w : Cond) (h : w ∈ kW) => atoms_spec (ws := kw_X6_init) B.pre w (List.mem_cons_of_mem _ h)
  have hown : s.vm.findClass RX6 = some m.cls := findClass_of_methodNamed B.named
  have hlocks := B.notSynchronized
  subst hsz
  have hD := hD0.self (sz := s.heap.size)
  generalize hAe : va_A [(htr, .inr (6, [.null]))] s.heap.size = A at hD ⊢
  have hA : ∀ q : Nat, s.heap.size ≤ q → A q := fun q h => by rw [← hAe]; exact Or.inr h
  have hS : va_S A s.heap s.heap [] := va_S.rf
  have hP : va_P D vwCl [(htr, .inr (6, [.null]))] s.heap := hP
  have hl := lv_entry ([.ref htr]) (n := 1) (Nat.le_of_ble_eq_true rfl)
  rw [lg_entry_eq]
  generalize (lg_sl ([.ref htr]) ++ List.replicate (1 - (lg_sl ([.ref htr])).length) Slot.unset).toArray = ls at hl ⊢
  have hl : lv_has ls 1 [(0, .ref htr)] := hl
  refine lv_aload_n hx hb dX6_init_0 rfl (lv_at hl 0 rfl) ?_
  refine W.objInit hx hb hown (hts _ mk_387) (hts _ mk_381) (hts _ mk_382) rfl (by rw [hml]; exact hl.1) rfl dX6_init_1 (Nat.le_of_ble_eq_true rfl) (Nat.le_of_ble_eq_true rfl) ?_
  refine W.eq (g2 := F0 m 4 ls []) rfl ?_
  refine lv_aload_n hx hb dX6_init_4 rfl (lv_at hl 0 rfl) ?_
  refine lv_bipush (v := 16) hx hb dX6_init_5 (by decide) ?_
  refine va_newa (atype := .long) (ty := .long) (N' := 16) (a0 := (16, .inr (.inl (fun _ => 0)))) hx hb (hts _ mk_388) rfl hK.1 hP hD hS hA (fun _ => rfl) (by decide) (by decide) (by decide) (Nat.le_of_ble_eq_true rfl) (Nat.le_of_ble_eq_true rfl) dX6_init_7 (fun q7 cA H hKa hP hD hS => ?_)
  have ecA : cA = cJ := kCJ hKa
  rw [ecA] at hP hD
  have hP : va_P D vwCl [(htr, .inr (6, [.null])), (q7, .inl (cJ, 16, .inr (.inl (fun _ => 0))))] H := hP
  have hD : va_D A [(htr, .inr (6, [.null])), (q7, .inl (cJ, 16, .inr (.inl (fun _ => 0))))] := hD
  refine W.widen (k := 1) (n := 16) (by omega) (by omega) ?_
  refine va_putF (D := D) (ci := 6) (v := .ref q7) (ty := .array .long) (C := RX6) (T := TX6) (N := 1) hx hb hts in_X6 tyX6 tyX6_ok nmX6 hown hK.1 hP hD hS 0 rfl rfl 0 (by decide) (hts _ mk_62) (fun _ h9 => h9) rfl hin rfl (by decide +kernel) rfl rfl (Nat.le_of_ble_eq_true rfl) dX6_init_9 (fun H locs hP hD hS => ?_)
  have hP : va_P D vwCl [(htr, .inr (6, [.ref q7])), (q7, .inl (cJ, 16, .inr (.inl (fun _ => 0))))] H := hP
  have hD : va_D A [(htr, .inr (6, [.ref q7])), (q7, .inl (cJ, 16, .inr (.inl (fun _ => 0))))] := hD
  exact W.vret hx hb hr (fun t9 ht9 hW9 => ⟨⟨q7, rfl, trivial, by rw [ht9]; exact hP, hD⟩, hS.F ht9⟩) hS.2.2 dX6_init_12
abbrev kw_X5_init : List Cond := Cond.code yX5_init cX5_init 1 none :: kW
set_option maxHeartbeats 4000000 in
set_option maxRecDepth 100000 in
theorem c_X5_init (l : Launch) (D : va_G) (cI cJ cZ : ClassId) (hpl : Nat) (hpz : Nat) : Met l yX5_init kw_X5_init ({ frames := 1, cells := 1, slots := 256, locals := 20 }) (va_Pc [.ref hpl] (fun U => U.heap.size = hpz ∧ va_P D vwCl [(hpl, .inr (5, [.null]))] U.heap ∧ kK D cI cJ cZ U ∧ va_D (fun _ => True) [(hpl, .inr (5, [.null]))])) (va_Qv (fun (u : Nat) => True) (fun (u : Nat) (t : State) => va_P D vwCl [(hpl, .inr (5, [.ref u])), (u, .inl (cI, 256, .inl (fun _ => 0)))] t.heap ∧ va_D (va_A [(hpl, .inr (5, [.null]))] hpz) [(hpl, .inr (5, [.ref u])), (u, .inl (cI, 256, .inl (fun _ => 0)))]) (va_A [(hpl, .inr (5, [.null]))] hpz)) 1 256 (va_A [(hpl, .inr (5, [.null]))] hpz) := by
  refine Met.ofW (cc := cX5_init) (maxL := 1) (ret := none) (by decide) rfl ?_
  intro p e s m args below meth c s₁ B hml hv
  obtain ⟨rfl, hsz, hP, hK, hD0⟩ := hv
  have hin : meth.name = "<init>" := (name_of_methodNamed B.named B.method).1
  have hx := B.exec
  have hb := B.bytes
  have hr := B.returns
  have hts := fun (w : Cond) (h : w ∈ kW) => atoms_spec (ws := kw_X5_init) B.pre w (List.mem_cons_of_mem _ h)
  have hown : s.vm.findClass RX5 = some m.cls := findClass_of_methodNamed B.named
  have hlocks := B.notSynchronized
  subst hsz
  have hD := hD0.self (sz := s.heap.size)
  generalize hAe : va_A [(hpl, .inr (5, [.null]))] s.heap.size = A at hD ⊢
  have hA : ∀ q : Nat, s.heap.size ≤ q → A q := fun q h => by rw [← hAe]; exact Or.inr h
  have hS : va_S A s.heap s.heap [] := va_S.rf
  have hP : va_P D vwCl [(hpl, .inr (5, [.null]))] s.heap := hP
  have hl := lv_entry ([.ref hpl]) (n := 1) (Nat.le_of_ble_eq_true rfl)
  rw [lg_entry_eq]
  generalize (lg_sl ([.ref hpl]) ++ List.replicate (1 - (lg_sl ([.ref hpl])).length) Slot.unset).toArray = ls at hl ⊢
  have hl : lv_has ls 1 [(0, .ref hpl)] := hl
  refine lv_aload_n hx hb dX5_init_0 rfl (lv_at hl 0 rfl) ?_
  refine W.objInit hx hb hown (hts _ mk_389) (hts _ mk_381) (hts _ mk_382) rfl (by rw [hml]; exact hl.1) rfl dX5_init_1 (Nat.le_of_ble_eq_true rfl) (Nat.le_of_ble_eq_true rfl) ?_
  refine W.eq (g2 := F0 m 4 ls []) rfl ?_
  refine lv_aload_n hx hb dX5_init_4 rfl (lv_at hl 0 rfl) ?_
  refine lv_sipush (v := 256) hx hb dX5_init_5 (by decide) ?_
  refine va_newa (atype := .int) (ty := .int) (N' := 256) (a0 := (256, .inl (fun _ => 0))) hx hb (hts _ mk_383) rfl hK.1 hP hD hS hA (fun _ => rfl) (by decide) (by decide) (by decide) (Nat.le_of_ble_eq_true rfl) (Nat.le_of_ble_eq_true rfl) dX5_init_8 (fun q8 cA H hKa hP hD hS => ?_)
  have ecA : cA = cI := kCI hKa
  rw [ecA] at hP hD
  have hP : va_P D vwCl [(hpl, .inr (5, [.null])), (q8, .inl (cI, 256, .inl (fun _ => 0)))] H := hP
  have hD : va_D A [(hpl, .inr (5, [.null])), (q8, .inl (cI, 256, .inl (fun _ => 0)))] := hD
  refine W.widen (k := 1) (n := 256) (by omega) (by omega) ?_
  refine va_putF (D := D) (ci := 5) (v := .ref q8) (ty := .array .int) (C := RX5) (T := TX5) (N := 1) hx hb hts in_X5 tyX5 tyX5_ok nmX5 hown hK.1 hP hD hS 0 rfl rfl 0 (by decide) (hts _ mk_76) (fun _ h9 => h9) rfl hin rfl (by decide +kernel) rfl rfl (Nat.le_of_ble_eq_true rfl) dX5_init_10 (fun H locs hP hD hS => ?_)
  have hP : va_P D vwCl [(hpl, .inr (5, [.ref q8])), (q8, .inl (cI, 256, .inl (fun _ => 0)))] H := hP
  have hD : va_D A [(hpl, .inr (5, [.ref q8])), (q8, .inl (cI, 256, .inl (fun _ => 0)))] := hD
  exact W.vret hx hb hr (fun t9 ht9 hW9 => ⟨⟨q8, rfl, trivial, by rw [ht9]; exact hP, hD⟩, hS.F ht9⟩) hS.2.2 dX5_init_13
abbrev kw_X4_init : List Cond := Cond.code yX4_init cX4_init 1 none :: kW
set_option maxHeartbeats 4000000 in
set_option maxRecDepth 100000 in
theorem c_X4_init (l : Launch) (D : va_G) (cI cJ cZ : ClassId) (hp : Nat) (hpz : Nat) : Met l yX4_init kw_X4_init ({ frames := 2, cells := 10, slots := 843, locals := 40 }) (va_Pc [.ref hp] (fun U => U.heap.size = hpz ∧ va_P D vwCl [(hp, .inr (4, [.null, .null, .null, .null, .null, .null, .null, .int 0, .int 0, .int 0, .int 0, .int 0, .int 0, .int 0]))] U.heap ∧ kK D cI cJ cZ U ∧ va_D (fun _ => True) [(hp, .inr (4, [.null, .null, .null, .null, .null, .null, .null, .int 0, .int 0, .int 0, .int 0, .int 0, .int 0, .int 0]))])) (va_Qv (fun (u : Nat × Nat × Nat × Nat × Nat × Nat × Nat × Nat × Nat × Nat) => True) (fun (u : Nat × Nat × Nat × Nat × Nat × Nat × Nat × Nat × Nat × Nat) (t : State) => va_P D vwCl [(hp, .inr (4, [.ref u.1, .ref u.2.2.1, .ref u.2.2.2.2.1, .ref u.2.2.2.2.2.2.1, .ref u.2.2.2.2.2.2.2.1, .ref u.2.2.2.2.2.2.2.2.1, .ref u.2.2.2.2.2.2.2.2.2, .int 0, .int 0, .int 0, .int 0, .int 0, .int 0, .int 0])), (u.1, .inr (2, [.ref u.2.1])), (u.2.1, .inl (cI, 264, .inl (fun _ => 0))), (u.2.2.1, .inr (6, [.ref u.2.2.2.1])), (u.2.2.2.1, .inl (cJ, 16, .inr (.inl (fun _ => 0)))), (u.2.2.2.2.1, .inr (5, [.ref u.2.2.2.2.2.1])), (u.2.2.2.2.2.1, .inl (cI, 256, .inl (fun _ => 0))), (u.2.2.2.2.2.2.1, .inl (cI, 16, .inl (fun _ => 0))), (u.2.2.2.2.2.2.2.1, .inl (cI, 16, .inl (fun _ => 0))), (u.2.2.2.2.2.2.2.2.1, .inl (cI, 256, .inl (fun _ => 0))), (u.2.2.2.2.2.2.2.2.2, .inl (cZ, 16, .inl (fun _ => 0)))] t.heap ∧ va_D (va_A [(hp, .inr (4, [.null, .null, .null, .null, .null, .null, .null, .int 0, .int 0, .int 0, .int 0, .int 0, .int 0, .int 0]))] hpz) [(hp, .inr (4, [.ref u.1, .ref u.2.2.1, .ref u.2.2.2.2.1, .ref u.2.2.2.2.2.2.1, .ref u.2.2.2.2.2.2.2.1, .ref u.2.2.2.2.2.2.2.2.1, .ref u.2.2.2.2.2.2.2.2.2, .int 0, .int 0, .int 0, .int 0, .int 0, .int 0, .int 0])), (u.1, .inr (2, [.ref u.2.1])), (u.2.1, .inl (cI, 264, .inl (fun _ => 0))), (u.2.2.1, .inr (6, [.ref u.2.2.2.1])), (u.2.2.2.1, .inl (cJ, 16, .inr (.inl (fun _ => 0)))), (u.2.2.2.2.1, .inr (5, [.ref u.2.2.2.2.2.1])), (u.2.2.2.2.2.1, .inl (cI, 256, .inl (fun _ => 0))), (u.2.2.2.2.2.2.1, .inl (cI, 16, .inl (fun _ => 0))), (u.2.2.2.2.2.2.2.1, .inl (cI, 16, .inl (fun _ => 0))), (u.2.2.2.2.2.2.2.2.1, .inl (cI, 256, .inl (fun _ => 0))), (u.2.2.2.2.2.2.2.2.2, .inl (cZ, 16, .inl (fun _ => 0)))]) (va_A [(hp, .inr (4, [.null, .null, .null, .null, .null, .null, .null, .int 0, .int 0, .int 0, .int 0, .int 0, .int 0, .int 0]))] hpz)) 10 843 (va_A [(hp, .inr (4, [.null, .null, .null, .null, .null, .null, .null, .int 0, .int 0, .int 0, .int 0, .int 0, .int 0, .int 0]))] hpz) := by
  refine Met.ofW (cc := cX4_init) (maxL := 1) (ret := none) (by decide) rfl ?_
  intro p e s m args below meth c s₁ B hml hv
  obtain ⟨rfl, hsz, hP, hK, hD0⟩ := hv
  have hin : meth.name = "<init>" := (name_of_methodNamed B.named B.method).1
  have hx := B.exec
  have hb := B.bytes
  have hr := B.returns
  have hts := fun (w : Cond) (h : w ∈ kW) => atoms_spec (ws := kw_X4_init) B.pre w (List.mem_cons_of_mem _ h)
  have hown : s.vm.findClass RX4 = some m.cls := findClass_of_methodNamed B.named
  have hlocks := B.notSynchronized
  subst hsz
  have hD := hD0.self (sz := s.heap.size)
  generalize hAe : va_A [(hp, .inr (4, [.null, .null, .null, .null, .null, .null, .null, .int 0, .int 0, .int 0, .int 0, .int 0, .int 0, .int 0]))] s.heap.size = A at hD ⊢
  have hA : ∀ q : Nat, s.heap.size ≤ q → A q := fun q h => by rw [← hAe]; exact Or.inr h
  have hS : va_S A s.heap s.heap [] := va_S.rf
  have hP : va_P D vwCl [(hp, .inr (4, [.null, .null, .null, .null, .null, .null, .null, .int 0, .int 0, .int 0, .int 0, .int 0, .int 0, .int 0]))] s.heap := hP
  have hl := lv_entry ([.ref hp]) (n := 1) (Nat.le_of_ble_eq_true rfl)
  rw [lg_entry_eq]
  generalize (lg_sl ([.ref hp]) ++ List.replicate (1 - (lg_sl ([.ref hp])).length) Slot.unset).toArray = ls at hl ⊢
  have hl : lv_has ls 1 [(0, .ref hp)] := hl
  refine lv_aload_n hx hb dX4_init_0 rfl (lv_at hl 0 rfl) ?_
  refine W.objInit hx hb hown (hts _ mk_390) (hts _ mk_381) (hts _ mk_382) rfl (by rw [hml]; exact hl.1) rfl dX4_init_1 (Nat.le_of_ble_eq_true rfl) (Nat.le_of_ble_eq_true rfl) ?_
  refine W.eq (g2 := F0 m 4 ls []) rfl ?_
  refine lv_aload_n hx hb dX4_init_4 rfl (lv_at hl 0 rfl) ?_
  refine va_new (ci := 2) (fs := [.null]) (C := RX2) (T := TX2) (N := 1) hx hb hts in_X2 tyX2 tyX2_ok hown (hts _ mk_391) (hts _ mk_392) (hts _ mk_49) hK.1 hP hD hS hA rfl (fun j hj => by rcases (show j = 0 by omega) with rfl <;> rfl) (Nat.le_of_ble_eq_true rfl) (Nat.le_of_ble_eq_true rfl) dX4_init_5 (fun q5 H hP hD hS => ?_)
  have hP : va_P D vwCl [(hp, .inr (4, [.null, .null, .null, .null, .null, .null, .null, .int 0, .int 0, .int 0, .int 0, .int 0, .int 0, .int 0])), (q5, .inr (2, [.null]))] H := hP
  have hD : va_D A [(hp, .inr (4, [.null, .null, .null, .null, .null, .null, .null, .int 0, .int 0, .int 0, .int 0, .int 0, .int 0, .int 0])), (q5, .inr (2, [.null]))] := hD
  refine W.widen (k := 1) (n := 1) (by omega) (by omega) ?_
  refine lv_dup hx hb dX4_init_8 rfl ?_
  have hPc := hP.sub (ws' := [(q5, .inr (2, [.null]))]) [1] rfl
  have hDc := hD.sub (ws' := [(q5, .inr (2, [.null]))]) [1] (by decide) rfl
  have hFc := va_free (wc := [(q5, .inr (2, [.null]))]) hD hS hA [1] rfl
  refine va_callv (va_runIN (As := []) (rest := [.ref q5, .ref hp]) ⟨hx, hb, hml, hown, hts⟩ (c_X2_init l D cI cJ cZ q5 (H).size) (⟨va_cnB 0 hts (kg_N mk_393) rfl rfl rfl (hK.2 (.methodLinkNest RX4 11 yX2_init "KeyFrames") (by decide +kernel)) (hts _ mk_49) (by decide +kernel) ⟨Nat.le_of_ble_eq_true rfl, Nat.le_of_ble_eq_true rfl⟩, rfl, (hts _ mk_394)⟩) ⟨fun a U g mk q => by obtain ⟨q0, q1, qP, qK, qD⟩ := q; exact ⟨q0, q1, qP, kK.call qK, qD⟩, fun U hU hW => ⟨rfl, by rw [hU], by rw [hU]; exact hPc, kK.warm hW hK, hDc.weaken (fun _ _ _ _ => trivial)⟩⟩ rfl rfl hl.1 rfl (lv_room (Nat.le_of_ble_eq_true rfl)) dX4_init_9 ⟨Nat.le_of_ble_eq_true rfl, Nat.le_of_ble_eq_true rfl⟩) hS (fun q _ h => hFc q h) hFc (fun u t9 H1 locs ht9 hvm9 hw9 hB9 hz9 hk9 hS => ?_)
  obtain ⟨hpr_9, rfl⟩ : ∃ z, z = u := ⟨_, rfl⟩
  obtain ⟨hP1, hD1⟩ := hB9
  rw [ht9] at hP1
  have hP1 : va_P D vwCl [(q5, .inr (2, [.ref hpr_9])), (hpr_9, .inl (cI, 264, .inl (fun _ => 0)))] H1 := hP1
  obtain ⟨hP, hD⟩ := va_join (wr := [(hp, .inr (4, [.null, .null, .null, .null, .null, .null, .null, .int 0, .int 0, .int 0, .int 0, .int 0, .int 0, .int 0]))]) (w1 := [(q5, .inr (2, [.ref hpr_9])), (hpr_9, .inl (cI, 264, .inl (fun _ => 0)))]) hP hD [1] [0] rfl rfl (by decide) (by decide) hk9 hFc hP1 hD1
  refine W.widen (k := 2) (n := 265) (by omega) (by omega) ?_
  have hP := hP.sub (ws' := [(hp, .inr (4, [.null, .null, .null, .null, .null, .null, .null, .int 0, .int 0, .int 0, .int 0, .int 0, .int 0, .int 0])), (q5, .inr (2, [.ref hpr_9])), (hpr_9, .inl (cI, 264, .inl (fun _ => 0)))]) [0, 1, 2] rfl
  have hD := hD.sub (ws' := [(hp, .inr (4, [.null, .null, .null, .null, .null, .null, .null, .int 0, .int 0, .int 0, .int 0, .int 0, .int 0, .int 0])), (q5, .inr (2, [.ref hpr_9])), (hpr_9, .inl (cI, 264, .inl (fun _ => 0)))]) [0, 1, 2] (by decide) rfl
  generalize H1 = H at hP hS ⊢
  refine va_putF (D := D) (ci := 4) (v := .ref q5) (ty := .object "KeyFrames$CoefficientTree") (C := RX4) (T := TX4) (N := 14) hx hb hts in_X4 tyX4 tyX4_ok nmX4 hown hK.1 hP hD hS 0 rfl rfl 0 (by decide) (hts _ mk_148) (fun _ h9 => h9) rfl hin rfl (by decide +kernel) rfl rfl (Nat.le_of_ble_eq_true rfl) dX4_init_12 (fun H locs hP hD hS => ?_)
  have hP : va_P D vwCl [(hp, .inr (4, [.ref q5, .null, .null, .null, .null, .null, .null, .int 0, .int 0, .int 0, .int 0, .int 0, .int 0, .int 0])), (q5, .inr (2, [.ref hpr_9])), (hpr_9, .inl (cI, 264, .inl (fun _ => 0)))] H := hP
  have hD : va_D A [(hp, .inr (4, [.ref q5, .null, .null, .null, .null, .null, .null, .int 0, .int 0, .int 0, .int 0, .int 0, .int 0, .int 0])), (q5, .inr (2, [.ref hpr_9])), (hpr_9, .inl (cI, 264, .inl (fun _ => 0)))] := hD
  refine lv_aload_n hx hb dX4_init_15 rfl (lv_at hl 0 rfl) ?_
  refine va_new (ci := 6) (fs := [.null]) (C := RX6) (T := TX6) (N := 1) hx hb hts in_X6 tyX6 tyX6_ok hown (hts _ mk_395) (hts _ mk_396) (hts _ mk_65) hK.1 hP hD hS hA rfl (fun j hj => by rcases (show j = 0 by omega) with rfl <;> rfl) (Nat.le_of_ble_eq_true rfl) (Nat.le_of_ble_eq_true rfl) dX4_init_16 (fun q16 H hP hD hS => ?_)
  have hP : va_P D vwCl [(hp, .inr (4, [.ref q5, .null, .null, .null, .null, .null, .null, .int 0, .int 0, .int 0, .int 0, .int 0, .int 0, .int 0])), (q5, .inr (2, [.ref hpr_9])), (hpr_9, .inl (cI, 264, .inl (fun _ => 0))), (q16, .inr (6, [.null]))] H := hP
  have hD : va_D A [(hp, .inr (4, [.ref q5, .null, .null, .null, .null, .null, .null, .int 0, .int 0, .int 0, .int 0, .int 0, .int 0, .int 0])), (q5, .inr (2, [.ref hpr_9])), (hpr_9, .inl (cI, 264, .inl (fun _ => 0))), (q16, .inr (6, [.null]))] := hD
  refine W.widen (k := 3) (n := 266) (by omega) (by omega) ?_
  refine lv_dup hx hb dX4_init_19 rfl ?_
  have hPc := hP.sub (ws' := [(q16, .inr (6, [.null]))]) [3] rfl
  have hDc := hD.sub (ws' := [(q16, .inr (6, [.null]))]) [3] (by decide) rfl
  have hFc := va_free (wc := [(q16, .inr (6, [.null]))]) hD hS hA [3] rfl
  refine va_callv (va_runIN (As := []) (rest := [.ref q16, .ref hp]) ⟨hx, hb, hml, hown, hts⟩ (c_X6_init l D cI cJ cZ q16 (H).size) (⟨va_cnB 0 hts (kg_N mk_397) rfl rfl rfl (hK.2 (.methodLinkNest RX4 20 yX6_init "KeyFrames") (by decide +kernel)) (hts _ mk_65) (by decide +kernel) ⟨Nat.le_of_ble_eq_true rfl, Nat.le_of_ble_eq_true rfl⟩, rfl, (hts _ mk_398)⟩) ⟨fun a U g mk q => by obtain ⟨q0, q1, qP, qK, qD⟩ := q; exact ⟨q0, q1, qP, kK.call qK, qD⟩, fun U hU hW => ⟨rfl, by rw [hU], by rw [hU]; exact hPc, kK.warm hW hK, hDc.weaken (fun _ _ _ _ => trivial)⟩⟩ rfl rfl hl.1 rfl (lv_room (Nat.le_of_ble_eq_true rfl)) dX4_init_20 ⟨Nat.le_of_ble_eq_true rfl, Nat.le_of_ble_eq_true rfl⟩) hS (fun q _ h => hFc q h) hFc (fun u t9 H1 locs ht9 hvm9 hw9 hB9 hz9 hk9 hS => ?_)
  obtain ⟨hg_20, rfl⟩ : ∃ z, z = u := ⟨_, rfl⟩
  obtain ⟨hP1, hD1⟩ := hB9
  rw [ht9] at hP1
  have hP1 : va_P D vwCl [(q16, .inr (6, [.ref hg_20])), (hg_20, .inl (cJ, 16, .inr (.inl (fun _ => 0))))] H1 := hP1
  obtain ⟨hP, hD⟩ := va_join (wr := [(hp, .inr (4, [.ref q5, .null, .null, .null, .null, .null, .null, .int 0, .int 0, .int 0, .int 0, .int 0, .int 0, .int 0])), (q5, .inr (2, [.ref hpr_9])), (hpr_9, .inl (cI, 264, .inl (fun _ => 0)))]) (w1 := [(q16, .inr (6, [.ref hg_20])), (hg_20, .inl (cJ, 16, .inr (.inl (fun _ => 0))))]) hP hD [3] [0, 1, 2] rfl rfl (by decide) (by decide) hk9 hFc hP1 hD1
  refine W.widen (k := 4) (n := 282) (by omega) (by omega) ?_
  have hP := hP.sub (ws' := [(hp, .inr (4, [.ref q5, .null, .null, .null, .null, .null, .null, .int 0, .int 0, .int 0, .int 0, .int 0, .int 0, .int 0])), (q5, .inr (2, [.ref hpr_9])), (hpr_9, .inl (cI, 264, .inl (fun _ => 0))), (q16, .inr (6, [.ref hg_20])), (hg_20, .inl (cJ, 16, .inr (.inl (fun _ => 0))))]) [0, 1, 2, 3, 4] rfl
  have hD := hD.sub (ws' := [(hp, .inr (4, [.ref q5, .null, .null, .null, .null, .null, .null, .int 0, .int 0, .int 0, .int 0, .int 0, .int 0, .int 0])), (q5, .inr (2, [.ref hpr_9])), (hpr_9, .inl (cI, 264, .inl (fun _ => 0))), (q16, .inr (6, [.ref hg_20])), (hg_20, .inl (cJ, 16, .inr (.inl (fun _ => 0))))]) [0, 1, 2, 3, 4] (by decide) rfl
  generalize H1 = H at hP hS ⊢
  refine va_putF (D := D) (ci := 4) (v := .ref q16) (ty := .object "KeyFrames$Transform") (C := RX4) (T := TX4) (N := 14) hx hb hts in_X4 tyX4 tyX4_ok nmX4 hown hK.1 hP hD hS 0 rfl rfl 1 (by decide) (hts _ mk_132) (fun _ h9 => h9) rfl hin rfl (by decide +kernel) rfl rfl (Nat.le_of_ble_eq_true rfl) dX4_init_23 (fun H locs hP hD hS => ?_)
  have hP : va_P D vwCl [(hp, .inr (4, [.ref q5, .ref q16, .null, .null, .null, .null, .null, .int 0, .int 0, .int 0, .int 0, .int 0, .int 0, .int 0])), (q5, .inr (2, [.ref hpr_9])), (hpr_9, .inl (cI, 264, .inl (fun _ => 0))), (q16, .inr (6, [.ref hg_20])), (hg_20, .inl (cJ, 16, .inr (.inl (fun _ => 0))))] H := hP
  have hD : va_D A [(hp, .inr (4, [.ref q5, .ref q16, .null, .null, .null, .null, .null, .int 0, .int 0, .int 0, .int 0, .int 0, .int 0, .int 0])), (q5, .inr (2, [.ref hpr_9])), (hpr_9, .inl (cI, 264, .inl (fun _ => 0))), (q16, .inr (6, [.ref hg_20])), (hg_20, .inl (cJ, 16, .inr (.inl (fun _ => 0))))] := hD
  refine lv_aload_n hx hb dX4_init_26 rfl (lv_at hl 0 rfl) ?_
  refine va_new (ci := 5) (fs := [.null]) (C := RX5) (T := TX5) (N := 1) hx hb hts in_X5 tyX5 tyX5_ok hown (hts _ mk_399) (hts _ mk_400) (hts _ mk_80) hK.1 hP hD hS hA rfl (fun j hj => by rcases (show j = 0 by omega) with rfl <;> rfl) (Nat.le_of_ble_eq_true rfl) (Nat.le_of_ble_eq_true rfl) dX4_init_27 (fun q27 H hP hD hS => ?_)
  have hP : va_P D vwCl [(hp, .inr (4, [.ref q5, .ref q16, .null, .null, .null, .null, .null, .int 0, .int 0, .int 0, .int 0, .int 0, .int 0, .int 0])), (q5, .inr (2, [.ref hpr_9])), (hpr_9, .inl (cI, 264, .inl (fun _ => 0))), (q16, .inr (6, [.ref hg_20])), (hg_20, .inl (cJ, 16, .inr (.inl (fun _ => 0)))), (q27, .inr (5, [.null]))] H := hP
  have hD : va_D A [(hp, .inr (4, [.ref q5, .ref q16, .null, .null, .null, .null, .null, .int 0, .int 0, .int 0, .int 0, .int 0, .int 0, .int 0])), (q5, .inr (2, [.ref hpr_9])), (hpr_9, .inl (cI, 264, .inl (fun _ => 0))), (q16, .inr (6, [.ref hg_20])), (hg_20, .inl (cJ, 16, .inr (.inl (fun _ => 0)))), (q27, .inr (5, [.null]))] := hD
  refine W.widen (k := 5) (n := 283) (by omega) (by omega) ?_
  refine lv_dup hx hb dX4_init_30 rfl ?_
  have hPc := hP.sub (ws' := [(q27, .inr (5, [.null]))]) [5] rfl
  have hDc := hD.sub (ws' := [(q27, .inr (5, [.null]))]) [5] (by decide) rfl
  have hFc := va_free (wc := [(q27, .inr (5, [.null]))]) hD hS hA [5] rfl
  refine va_callv (va_runIN (As := []) (rest := [.ref q27, .ref hp]) ⟨hx, hb, hml, hown, hts⟩ (c_X5_init l D cI cJ cZ q27 (H).size) (⟨va_cnB 0 hts (kg_N mk_401) rfl rfl rfl (hK.2 (.methodLinkNest RX4 27 yX5_init "KeyFrames") (by decide +kernel)) (hts _ mk_80) (by decide +kernel) ⟨Nat.le_of_ble_eq_true rfl, Nat.le_of_ble_eq_true rfl⟩, rfl, (hts _ mk_402)⟩) ⟨fun a U g mk q => by obtain ⟨q0, q1, qP, qK, qD⟩ := q; exact ⟨q0, q1, qP, kK.call qK, qD⟩, fun U hU hW => ⟨rfl, by rw [hU], by rw [hU]; exact hPc, kK.warm hW hK, hDc.weaken (fun _ _ _ _ => trivial)⟩⟩ rfl rfl hl.1 rfl (lv_room (Nat.le_of_ble_eq_true rfl)) dX4_init_31 ⟨Nat.le_of_ble_eq_true rfl, Nat.le_of_ble_eq_true rfl⟩) hS (fun q _ h => hFc q h) hFc (fun u t9 H1 locs ht9 hvm9 hw9 hB9 hz9 hk9 hS => ?_)
  obtain ⟨hs_31, rfl⟩ : ∃ z, z = u := ⟨_, rfl⟩
  obtain ⟨hP1, hD1⟩ := hB9
  rw [ht9] at hP1
  have hP1 : va_P D vwCl [(q27, .inr (5, [.ref hs_31])), (hs_31, .inl (cI, 256, .inl (fun _ => 0)))] H1 := hP1
  obtain ⟨hP, hD⟩ := va_join (wr := [(hp, .inr (4, [.ref q5, .ref q16, .null, .null, .null, .null, .null, .int 0, .int 0, .int 0, .int 0, .int 0, .int 0, .int 0])), (q5, .inr (2, [.ref hpr_9])), (hpr_9, .inl (cI, 264, .inl (fun _ => 0))), (q16, .inr (6, [.ref hg_20])), (hg_20, .inl (cJ, 16, .inr (.inl (fun _ => 0))))]) (w1 := [(q27, .inr (5, [.ref hs_31])), (hs_31, .inl (cI, 256, .inl (fun _ => 0)))]) hP hD [5] [0, 1, 2, 3, 4] rfl rfl (by decide) (by decide) hk9 hFc hP1 hD1
  refine W.widen (k := 6) (n := 539) (by omega) (by omega) ?_
  have hP := hP.sub (ws' := [(hp, .inr (4, [.ref q5, .ref q16, .null, .null, .null, .null, .null, .int 0, .int 0, .int 0, .int 0, .int 0, .int 0, .int 0])), (q5, .inr (2, [.ref hpr_9])), (hpr_9, .inl (cI, 264, .inl (fun _ => 0))), (q16, .inr (6, [.ref hg_20])), (hg_20, .inl (cJ, 16, .inr (.inl (fun _ => 0)))), (q27, .inr (5, [.ref hs_31])), (hs_31, .inl (cI, 256, .inl (fun _ => 0)))]) [0, 1, 2, 3, 4, 5, 6] rfl
  have hD := hD.sub (ws' := [(hp, .inr (4, [.ref q5, .ref q16, .null, .null, .null, .null, .null, .int 0, .int 0, .int 0, .int 0, .int 0, .int 0, .int 0])), (q5, .inr (2, [.ref hpr_9])), (hpr_9, .inl (cI, 264, .inl (fun _ => 0))), (q16, .inr (6, [.ref hg_20])), (hg_20, .inl (cJ, 16, .inr (.inl (fun _ => 0)))), (q27, .inr (5, [.ref hs_31])), (hs_31, .inl (cI, 256, .inl (fun _ => 0)))]) [0, 1, 2, 3, 4, 5, 6] (by decide) rfl
  generalize H1 = H at hP hS ⊢
  refine va_putF (D := D) (ci := 4) (v := .ref q27) (ty := .object "KeyFrames$Plane") (C := RX4) (T := TX4) (N := 14) hx hb hts in_X4 tyX4 tyX4_ok nmX4 hown hK.1 hP hD hS 0 rfl rfl 2 (by decide) (hts _ mk_128) (fun _ h9 => h9) rfl hin rfl (by decide +kernel) rfl rfl (Nat.le_of_ble_eq_true rfl) dX4_init_34 (fun H locs hP hD hS => ?_)
  have hP : va_P D vwCl [(hp, .inr (4, [.ref q5, .ref q16, .ref q27, .null, .null, .null, .null, .int 0, .int 0, .int 0, .int 0, .int 0, .int 0, .int 0])), (q5, .inr (2, [.ref hpr_9])), (hpr_9, .inl (cI, 264, .inl (fun _ => 0))), (q16, .inr (6, [.ref hg_20])), (hg_20, .inl (cJ, 16, .inr (.inl (fun _ => 0)))), (q27, .inr (5, [.ref hs_31])), (hs_31, .inl (cI, 256, .inl (fun _ => 0)))] H := hP
  have hD : va_D A [(hp, .inr (4, [.ref q5, .ref q16, .ref q27, .null, .null, .null, .null, .int 0, .int 0, .int 0, .int 0, .int 0, .int 0, .int 0])), (q5, .inr (2, [.ref hpr_9])), (hpr_9, .inl (cI, 264, .inl (fun _ => 0))), (q16, .inr (6, [.ref hg_20])), (hg_20, .inl (cJ, 16, .inr (.inl (fun _ => 0)))), (q27, .inr (5, [.ref hs_31])), (hs_31, .inl (cI, 256, .inl (fun _ => 0)))] := hD
  refine lv_aload_n hx hb dX4_init_37 rfl (lv_at hl 0 rfl) ?_
  refine lv_bipush (v := 16) hx hb dX4_init_38 (by decide) ?_
  refine va_newa (atype := .int) (ty := .int) (N' := 16) (a0 := (16, .inl (fun _ => 0))) hx hb (hts _ mk_383) rfl hK.1 hP hD hS hA (fun _ => rfl) (by decide) (by decide) (by decide) (Nat.le_of_ble_eq_true rfl) (Nat.le_of_ble_eq_true rfl) dX4_init_40 (fun q40 cA H hKa hP hD hS => ?_)
  have ecA : cA = cI := kCI hKa
  rw [ecA] at hP hD
  have hP : va_P D vwCl [(hp, .inr (4, [.ref q5, .ref q16, .ref q27, .null, .null, .null, .null, .int 0, .int 0, .int 0, .int 0, .int 0, .int 0, .int 0])), (q5, .inr (2, [.ref hpr_9])), (hpr_9, .inl (cI, 264, .inl (fun _ => 0))), (q16, .inr (6, [.ref hg_20])), (hg_20, .inl (cJ, 16, .inr (.inl (fun _ => 0)))), (q27, .inr (5, [.ref hs_31])), (hs_31, .inl (cI, 256, .inl (fun _ => 0))), (q40, .inl (cI, 16, .inl (fun _ => 0)))] H := hP
  have hD : va_D A [(hp, .inr (4, [.ref q5, .ref q16, .ref q27, .null, .null, .null, .null, .int 0, .int 0, .int 0, .int 0, .int 0, .int 0, .int 0])), (q5, .inr (2, [.ref hpr_9])), (hpr_9, .inl (cI, 264, .inl (fun _ => 0))), (q16, .inr (6, [.ref hg_20])), (hg_20, .inl (cJ, 16, .inr (.inl (fun _ => 0)))), (q27, .inr (5, [.ref hs_31])), (hs_31, .inl (cI, 256, .inl (fun _ => 0))), (q40, .inl (cI, 16, .inl (fun _ => 0)))] := hD
  refine W.widen (k := 7) (n := 555) (by omega) (by omega) ?_
  refine va_putF (D := D) (ci := 4) (v := .ref q40) (ty := .array .int) (C := RX4) (T := TX4) (N := 14) hx hb hts in_X4 tyX4 tyX4_ok nmX4 hown hK.1 hP hD hS 0 rfl rfl 3 (by decide) (hts _ mk_125) (fun _ h9 => h9) rfl hin rfl (by decide +kernel) rfl rfl (Nat.le_of_ble_eq_true rfl) dX4_init_42 (fun H locs hP hD hS => ?_)
  have hP : va_P D vwCl [(hp, .inr (4, [.ref q5, .ref q16, .ref q27, .ref q40, .null, .null, .null, .int 0, .int 0, .int 0, .int 0, .int 0, .int 0, .int 0])), (q5, .inr (2, [.ref hpr_9])), (hpr_9, .inl (cI, 264, .inl (fun _ => 0))), (q16, .inr (6, [.ref hg_20])), (hg_20, .inl (cJ, 16, .inr (.inl (fun _ => 0)))), (q27, .inr (5, [.ref hs_31])), (hs_31, .inl (cI, 256, .inl (fun _ => 0))), (q40, .inl (cI, 16, .inl (fun _ => 0)))] H := hP
  have hD : va_D A [(hp, .inr (4, [.ref q5, .ref q16, .ref q27, .ref q40, .null, .null, .null, .int 0, .int 0, .int 0, .int 0, .int 0, .int 0, .int 0])), (q5, .inr (2, [.ref hpr_9])), (hpr_9, .inl (cI, 264, .inl (fun _ => 0))), (q16, .inr (6, [.ref hg_20])), (hg_20, .inl (cJ, 16, .inr (.inl (fun _ => 0)))), (q27, .inr (5, [.ref hs_31])), (hs_31, .inl (cI, 256, .inl (fun _ => 0))), (q40, .inl (cI, 16, .inl (fun _ => 0)))] := hD
  refine lv_aload_n hx hb dX4_init_45 rfl (lv_at hl 0 rfl) ?_
  refine lv_bipush (v := 16) hx hb dX4_init_46 (by decide) ?_
  refine va_newa (atype := .int) (ty := .int) (N' := 16) (a0 := (16, .inl (fun _ => 0))) hx hb (hts _ mk_383) rfl hK.1 hP hD hS hA (fun _ => rfl) (by decide) (by decide) (by decide) (Nat.le_of_ble_eq_true rfl) (Nat.le_of_ble_eq_true rfl) dX4_init_48 (fun q48 cA H hKa hP hD hS => ?_)
  have ecA : cA = cI := kCI hKa
  rw [ecA] at hP hD
  have hP : va_P D vwCl [(hp, .inr (4, [.ref q5, .ref q16, .ref q27, .ref q40, .null, .null, .null, .int 0, .int 0, .int 0, .int 0, .int 0, .int 0, .int 0])), (q5, .inr (2, [.ref hpr_9])), (hpr_9, .inl (cI, 264, .inl (fun _ => 0))), (q16, .inr (6, [.ref hg_20])), (hg_20, .inl (cJ, 16, .inr (.inl (fun _ => 0)))), (q27, .inr (5, [.ref hs_31])), (hs_31, .inl (cI, 256, .inl (fun _ => 0))), (q40, .inl (cI, 16, .inl (fun _ => 0))), (q48, .inl (cI, 16, .inl (fun _ => 0)))] H := hP
  have hD : va_D A [(hp, .inr (4, [.ref q5, .ref q16, .ref q27, .ref q40, .null, .null, .null, .int 0, .int 0, .int 0, .int 0, .int 0, .int 0, .int 0])), (q5, .inr (2, [.ref hpr_9])), (hpr_9, .inl (cI, 264, .inl (fun _ => 0))), (q16, .inr (6, [.ref hg_20])), (hg_20, .inl (cJ, 16, .inr (.inl (fun _ => 0)))), (q27, .inr (5, [.ref hs_31])), (hs_31, .inl (cI, 256, .inl (fun _ => 0))), (q40, .inl (cI, 16, .inl (fun _ => 0))), (q48, .inl (cI, 16, .inl (fun _ => 0)))] := hD
  refine W.widen (k := 8) (n := 571) (by omega) (by omega) ?_
  refine va_putF (D := D) (ci := 4) (v := .ref q48) (ty := .array .int) (C := RX4) (T := TX4) (N := 14) hx hb hts in_X4 tyX4 tyX4_ok nmX4 hown hK.1 hP hD hS 0 rfl rfl 4 (by decide) (hts _ mk_126) (fun _ h9 => h9) rfl hin rfl (by decide +kernel) rfl rfl (Nat.le_of_ble_eq_true rfl) dX4_init_50 (fun H locs hP hD hS => ?_)
  have hP : va_P D vwCl [(hp, .inr (4, [.ref q5, .ref q16, .ref q27, .ref q40, .ref q48, .null, .null, .int 0, .int 0, .int 0, .int 0, .int 0, .int 0, .int 0])), (q5, .inr (2, [.ref hpr_9])), (hpr_9, .inl (cI, 264, .inl (fun _ => 0))), (q16, .inr (6, [.ref hg_20])), (hg_20, .inl (cJ, 16, .inr (.inl (fun _ => 0)))), (q27, .inr (5, [.ref hs_31])), (hs_31, .inl (cI, 256, .inl (fun _ => 0))), (q40, .inl (cI, 16, .inl (fun _ => 0))), (q48, .inl (cI, 16, .inl (fun _ => 0)))] H := hP
  have hD : va_D A [(hp, .inr (4, [.ref q5, .ref q16, .ref q27, .ref q40, .ref q48, .null, .null, .int 0, .int 0, .int 0, .int 0, .int 0, .int 0, .int 0])), (q5, .inr (2, [.ref hpr_9])), (hpr_9, .inl (cI, 264, .inl (fun _ => 0))), (q16, .inr (6, [.ref hg_20])), (hg_20, .inl (cJ, 16, .inr (.inl (fun _ => 0)))), (q27, .inr (5, [.ref hs_31])), (hs_31, .inl (cI, 256, .inl (fun _ => 0))), (q40, .inl (cI, 16, .inl (fun _ => 0))), (q48, .inl (cI, 16, .inl (fun _ => 0)))] := hD
  refine lv_aload_n hx hb dX4_init_53 rfl (lv_at hl 0 rfl) ?_
  refine lv_sipush (v := 256) hx hb dX4_init_54 (by decide) ?_
  refine va_newa (atype := .int) (ty := .int) (N' := 256) (a0 := (256, .inl (fun _ => 0))) hx hb (hts _ mk_383) rfl hK.1 hP hD hS hA (fun _ => rfl) (by decide) (by decide) (by decide) (Nat.le_of_ble_eq_true rfl) (Nat.le_of_ble_eq_true rfl) dX4_init_57 (fun q57 cA H hKa hP hD hS => ?_)
  have ecA : cA = cI := kCI hKa
  rw [ecA] at hP hD
  have hP : va_P D vwCl [(hp, .inr (4, [.ref q5, .ref q16, .ref q27, .ref q40, .ref q48, .null, .null, .int 0, .int 0, .int 0, .int 0, .int 0, .int 0, .int 0])), (q5, .inr (2, [.ref hpr_9])), (hpr_9, .inl (cI, 264, .inl (fun _ => 0))), (q16, .inr (6, [.ref hg_20])), (hg_20, .inl (cJ, 16, .inr (.inl (fun _ => 0)))), (q27, .inr (5, [.ref hs_31])), (hs_31, .inl (cI, 256, .inl (fun _ => 0))), (q40, .inl (cI, 16, .inl (fun _ => 0))), (q48, .inl (cI, 16, .inl (fun _ => 0))), (q57, .inl (cI, 256, .inl (fun _ => 0)))] H := hP
  have hD : va_D A [(hp, .inr (4, [.ref q5, .ref q16, .ref q27, .ref q40, .ref q48, .null, .null, .int 0, .int 0, .int 0, .int 0, .int 0, .int 0, .int 0])), (q5, .inr (2, [.ref hpr_9])), (hpr_9, .inl (cI, 264, .inl (fun _ => 0))), (q16, .inr (6, [.ref hg_20])), (hg_20, .inl (cJ, 16, .inr (.inl (fun _ => 0)))), (q27, .inr (5, [.ref hs_31])), (hs_31, .inl (cI, 256, .inl (fun _ => 0))), (q40, .inl (cI, 16, .inl (fun _ => 0))), (q48, .inl (cI, 16, .inl (fun _ => 0))), (q57, .inl (cI, 256, .inl (fun _ => 0)))] := hD
  refine W.widen (k := 9) (n := 827) (by omega) (by omega) ?_
  refine va_putF (D := D) (ci := 4) (v := .ref q57) (ty := .array .int) (C := RX4) (T := TX4) (N := 14) hx hb hts in_X4 tyX4 tyX4_ok nmX4 hown hK.1 hP hD hS 0 rfl rfl 5 (by decide) (hts _ mk_127) (fun _ h9 => h9) rfl hin rfl (by decide +kernel) rfl rfl (Nat.le_of_ble_eq_true rfl) dX4_init_59 (fun H locs hP hD hS => ?_)
  have hP : va_P D vwCl [(hp, .inr (4, [.ref q5, .ref q16, .ref q27, .ref q40, .ref q48, .ref q57, .null, .int 0, .int 0, .int 0, .int 0, .int 0, .int 0, .int 0])), (q5, .inr (2, [.ref hpr_9])), (hpr_9, .inl (cI, 264, .inl (fun _ => 0))), (q16, .inr (6, [.ref hg_20])), (hg_20, .inl (cJ, 16, .inr (.inl (fun _ => 0)))), (q27, .inr (5, [.ref hs_31])), (hs_31, .inl (cI, 256, .inl (fun _ => 0))), (q40, .inl (cI, 16, .inl (fun _ => 0))), (q48, .inl (cI, 16, .inl (fun _ => 0))), (q57, .inl (cI, 256, .inl (fun _ => 0)))] H := hP
  have hD : va_D A [(hp, .inr (4, [.ref q5, .ref q16, .ref q27, .ref q40, .ref q48, .ref q57, .null, .int 0, .int 0, .int 0, .int 0, .int 0, .int 0, .int 0])), (q5, .inr (2, [.ref hpr_9])), (hpr_9, .inl (cI, 264, .inl (fun _ => 0))), (q16, .inr (6, [.ref hg_20])), (hg_20, .inl (cJ, 16, .inr (.inl (fun _ => 0)))), (q27, .inr (5, [.ref hs_31])), (hs_31, .inl (cI, 256, .inl (fun _ => 0))), (q40, .inl (cI, 16, .inl (fun _ => 0))), (q48, .inl (cI, 16, .inl (fun _ => 0))), (q57, .inl (cI, 256, .inl (fun _ => 0)))] := hD
  refine lv_aload_n hx hb dX4_init_62 rfl (lv_at hl 0 rfl) ?_
  refine lv_bipush (v := 16) hx hb dX4_init_63 (by decide) ?_
  refine va_newa (atype := .boolean) (ty := .boolean) (N' := 16) (a0 := (16, .inl (fun _ => 0))) hx hb (hts _ mk_403) rfl hK.1 hP hD hS hA (fun _ => rfl) (by decide) (by decide) (by decide) (Nat.le_of_ble_eq_true rfl) (Nat.le_of_ble_eq_true rfl) dX4_init_65 (fun q65 cA H hKa hP hD hS => ?_)
  have ecA : cA = cZ := kCZ hKa
  rw [ecA] at hP hD
  have hP : va_P D vwCl [(hp, .inr (4, [.ref q5, .ref q16, .ref q27, .ref q40, .ref q48, .ref q57, .null, .int 0, .int 0, .int 0, .int 0, .int 0, .int 0, .int 0])), (q5, .inr (2, [.ref hpr_9])), (hpr_9, .inl (cI, 264, .inl (fun _ => 0))), (q16, .inr (6, [.ref hg_20])), (hg_20, .inl (cJ, 16, .inr (.inl (fun _ => 0)))), (q27, .inr (5, [.ref hs_31])), (hs_31, .inl (cI, 256, .inl (fun _ => 0))), (q40, .inl (cI, 16, .inl (fun _ => 0))), (q48, .inl (cI, 16, .inl (fun _ => 0))), (q57, .inl (cI, 256, .inl (fun _ => 0))), (q65, .inl (cZ, 16, .inl (fun _ => 0)))] H := hP
  have hD : va_D A [(hp, .inr (4, [.ref q5, .ref q16, .ref q27, .ref q40, .ref q48, .ref q57, .null, .int 0, .int 0, .int 0, .int 0, .int 0, .int 0, .int 0])), (q5, .inr (2, [.ref hpr_9])), (hpr_9, .inl (cI, 264, .inl (fun _ => 0))), (q16, .inr (6, [.ref hg_20])), (hg_20, .inl (cJ, 16, .inr (.inl (fun _ => 0)))), (q27, .inr (5, [.ref hs_31])), (hs_31, .inl (cI, 256, .inl (fun _ => 0))), (q40, .inl (cI, 16, .inl (fun _ => 0))), (q48, .inl (cI, 16, .inl (fun _ => 0))), (q57, .inl (cI, 256, .inl (fun _ => 0))), (q65, .inl (cZ, 16, .inl (fun _ => 0)))] := hD
  refine W.widen (k := 10) (n := 843) (by omega) (by omega) ?_
  refine va_putF (D := D) (ci := 4) (v := .ref q65) (ty := .array .boolean) (C := RX4) (T := TX4) (N := 14) hx hb hts in_X4 tyX4 tyX4_ok nmX4 hown hK.1 hP hD hS 0 rfl rfl 6 (by decide) (hts _ mk_131) (fun _ h9 => h9) rfl hin rfl (by decide +kernel) rfl rfl (Nat.le_of_ble_eq_true rfl) dX4_init_67 (fun H locs hP hD hS => ?_)
  have hP : va_P D vwCl [(hp, .inr (4, [.ref q5, .ref q16, .ref q27, .ref q40, .ref q48, .ref q57, .ref q65, .int 0, .int 0, .int 0, .int 0, .int 0, .int 0, .int 0])), (q5, .inr (2, [.ref hpr_9])), (hpr_9, .inl (cI, 264, .inl (fun _ => 0))), (q16, .inr (6, [.ref hg_20])), (hg_20, .inl (cJ, 16, .inr (.inl (fun _ => 0)))), (q27, .inr (5, [.ref hs_31])), (hs_31, .inl (cI, 256, .inl (fun _ => 0))), (q40, .inl (cI, 16, .inl (fun _ => 0))), (q48, .inl (cI, 16, .inl (fun _ => 0))), (q57, .inl (cI, 256, .inl (fun _ => 0))), (q65, .inl (cZ, 16, .inl (fun _ => 0)))] H := hP
  have hD : va_D A [(hp, .inr (4, [.ref q5, .ref q16, .ref q27, .ref q40, .ref q48, .ref q57, .ref q65, .int 0, .int 0, .int 0, .int 0, .int 0, .int 0, .int 0])), (q5, .inr (2, [.ref hpr_9])), (hpr_9, .inl (cI, 264, .inl (fun _ => 0))), (q16, .inr (6, [.ref hg_20])), (hg_20, .inl (cJ, 16, .inr (.inl (fun _ => 0)))), (q27, .inr (5, [.ref hs_31])), (hs_31, .inl (cI, 256, .inl (fun _ => 0))), (q40, .inl (cI, 16, .inl (fun _ => 0))), (q48, .inl (cI, 16, .inl (fun _ => 0))), (q57, .inl (cI, 256, .inl (fun _ => 0))), (q65, .inl (cZ, 16, .inl (fun _ => 0)))] := hD
  refine lv_aload_n hx hb dX4_init_70 rfl (lv_at hl 0 rfl) ?_
  refine lv_iconst (v := 0) hx hb dX4_init_71 (by decide) ?_
  refine va_put (D := D) (ci := 4) (v := .int 0) (ty := .int) (C := RX4) (T := TX4) (N := 14) hx hb hts in_X4 tyX4 tyX4_ok nmX4 hown hK.1 hP hD hS 0 rfl rfl 7 (by decide) (hts _ mk_114) (fun _ h9 => h9) rfl (by decide +kernel) rfl rfl (Nat.le_of_ble_eq_true rfl) dX4_init_72 (fun H locs hP hD hS => ?_)
  have hP : va_P D vwCl [(hp, .inr (4, [.ref q5, .ref q16, .ref q27, .ref q40, .ref q48, .ref q57, .ref q65, .int 0, .int 0, .int 0, .int 0, .int 0, .int 0, .int 0])), (q5, .inr (2, [.ref hpr_9])), (hpr_9, .inl (cI, 264, .inl (fun _ => 0))), (q16, .inr (6, [.ref hg_20])), (hg_20, .inl (cJ, 16, .inr (.inl (fun _ => 0)))), (q27, .inr (5, [.ref hs_31])), (hs_31, .inl (cI, 256, .inl (fun _ => 0))), (q40, .inl (cI, 16, .inl (fun _ => 0))), (q48, .inl (cI, 16, .inl (fun _ => 0))), (q57, .inl (cI, 256, .inl (fun _ => 0))), (q65, .inl (cZ, 16, .inl (fun _ => 0)))] H := hP
  have hD : va_D A [(hp, .inr (4, [.ref q5, .ref q16, .ref q27, .ref q40, .ref q48, .ref q57, .ref q65, .int 0, .int 0, .int 0, .int 0, .int 0, .int 0, .int 0])), (q5, .inr (2, [.ref hpr_9])), (hpr_9, .inl (cI, 264, .inl (fun _ => 0))), (q16, .inr (6, [.ref hg_20])), (hg_20, .inl (cJ, 16, .inr (.inl (fun _ => 0)))), (q27, .inr (5, [.ref hs_31])), (hs_31, .inl (cI, 256, .inl (fun _ => 0))), (q40, .inl (cI, 16, .inl (fun _ => 0))), (q48, .inl (cI, 16, .inl (fun _ => 0))), (q57, .inl (cI, 256, .inl (fun _ => 0))), (q65, .inl (cZ, 16, .inl (fun _ => 0)))] := hD
  refine lv_aload_n hx hb dX4_init_75 rfl (lv_at hl 0 rfl) ?_
  refine lv_iconst (v := 0) hx hb dX4_init_76 (by decide) ?_
  refine va_put (D := D) (ci := 4) (v := .int 0) (ty := .int) (C := RX4) (T := TX4) (N := 14) hx hb hts in_X4 tyX4 tyX4_ok nmX4 hown hK.1 hP hD hS 0 rfl rfl 8 (by decide) (hts _ mk_115) (fun _ h9 => h9) rfl (by decide +kernel) rfl rfl (Nat.le_of_ble_eq_true rfl) dX4_init_77 (fun H locs hP hD hS => ?_)
  have hP : va_P D vwCl [(hp, .inr (4, [.ref q5, .ref q16, .ref q27, .ref q40, .ref q48, .ref q57, .ref q65, .int 0, .int 0, .int 0, .int 0, .int 0, .int 0, .int 0])), (q5, .inr (2, [.ref hpr_9])), (hpr_9, .inl (cI, 264, .inl (fun _ => 0))), (q16, .inr (6, [.ref hg_20])), (hg_20, .inl (cJ, 16, .inr (.inl (fun _ => 0)))), (q27, .inr (5, [.ref hs_31])), (hs_31, .inl (cI, 256, .inl (fun _ => 0))), (q40, .inl (cI, 16, .inl (fun _ => 0))), (q48, .inl (cI, 16, .inl (fun _ => 0))), (q57, .inl (cI, 256, .inl (fun _ => 0))), (q65, .inl (cZ, 16, .inl (fun _ => 0)))] H := hP
  have hD : va_D A [(hp, .inr (4, [.ref q5, .ref q16, .ref q27, .ref q40, .ref q48, .ref q57, .ref q65, .int 0, .int 0, .int 0, .int 0, .int 0, .int 0, .int 0])), (q5, .inr (2, [.ref hpr_9])), (hpr_9, .inl (cI, 264, .inl (fun _ => 0))), (q16, .inr (6, [.ref hg_20])), (hg_20, .inl (cJ, 16, .inr (.inl (fun _ => 0)))), (q27, .inr (5, [.ref hs_31])), (hs_31, .inl (cI, 256, .inl (fun _ => 0))), (q40, .inl (cI, 16, .inl (fun _ => 0))), (q48, .inl (cI, 16, .inl (fun _ => 0))), (q57, .inl (cI, 256, .inl (fun _ => 0))), (q65, .inl (cZ, 16, .inl (fun _ => 0)))] := hD
  refine lv_aload_n hx hb dX4_init_80 rfl (lv_at hl 0 rfl) ?_
  refine lv_iconst (v := 0) hx hb dX4_init_81 (by decide) ?_
  refine va_put (D := D) (ci := 4) (v := .int 0) (ty := .int) (C := RX4) (T := TX4) (N := 14) hx hb hts in_X4 tyX4 tyX4_ok nmX4 hown hK.1 hP hD hS 0 rfl rfl 9 (by decide) (hts _ mk_133) (fun _ h9 => h9) rfl (by decide +kernel) rfl rfl (Nat.le_of_ble_eq_true rfl) dX4_init_82 (fun H locs hP hD hS => ?_)
  have hP : va_P D vwCl [(hp, .inr (4, [.ref q5, .ref q16, .ref q27, .ref q40, .ref q48, .ref q57, .ref q65, .int 0, .int 0, .int 0, .int 0, .int 0, .int 0, .int 0])), (q5, .inr (2, [.ref hpr_9])), (hpr_9, .inl (cI, 264, .inl (fun _ => 0))), (q16, .inr (6, [.ref hg_20])), (hg_20, .inl (cJ, 16, .inr (.inl (fun _ => 0)))), (q27, .inr (5, [.ref hs_31])), (hs_31, .inl (cI, 256, .inl (fun _ => 0))), (q40, .inl (cI, 16, .inl (fun _ => 0))), (q48, .inl (cI, 16, .inl (fun _ => 0))), (q57, .inl (cI, 256, .inl (fun _ => 0))), (q65, .inl (cZ, 16, .inl (fun _ => 0)))] H := hP
  have hD : va_D A [(hp, .inr (4, [.ref q5, .ref q16, .ref q27, .ref q40, .ref q48, .ref q57, .ref q65, .int 0, .int 0, .int 0, .int 0, .int 0, .int 0, .int 0])), (q5, .inr (2, [.ref hpr_9])), (hpr_9, .inl (cI, 264, .inl (fun _ => 0))), (q16, .inr (6, [.ref hg_20])), (hg_20, .inl (cJ, 16, .inr (.inl (fun _ => 0)))), (q27, .inr (5, [.ref hs_31])), (hs_31, .inl (cI, 256, .inl (fun _ => 0))), (q40, .inl (cI, 16, .inl (fun _ => 0))), (q48, .inl (cI, 16, .inl (fun _ => 0))), (q57, .inl (cI, 256, .inl (fun _ => 0))), (q65, .inl (cZ, 16, .inl (fun _ => 0)))] := hD
  refine lv_aload_n hx hb dX4_init_85 rfl (lv_at hl 0 rfl) ?_
  refine lv_iconst (v := 0) hx hb dX4_init_86 (by decide) ?_
  refine va_put (D := D) (ci := 4) (v := .int 0) (ty := .int) (C := RX4) (T := TX4) (N := 14) hx hb hts in_X4 tyX4 tyX4_ok nmX4 hown hK.1 hP hD hS 0 rfl rfl 10 (by decide) (hts _ mk_147) (fun _ h9 => h9) rfl (by decide +kernel) rfl rfl (Nat.le_of_ble_eq_true rfl) dX4_init_87 (fun H locs hP hD hS => ?_)
  have hP : va_P D vwCl [(hp, .inr (4, [.ref q5, .ref q16, .ref q27, .ref q40, .ref q48, .ref q57, .ref q65, .int 0, .int 0, .int 0, .int 0, .int 0, .int 0, .int 0])), (q5, .inr (2, [.ref hpr_9])), (hpr_9, .inl (cI, 264, .inl (fun _ => 0))), (q16, .inr (6, [.ref hg_20])), (hg_20, .inl (cJ, 16, .inr (.inl (fun _ => 0)))), (q27, .inr (5, [.ref hs_31])), (hs_31, .inl (cI, 256, .inl (fun _ => 0))), (q40, .inl (cI, 16, .inl (fun _ => 0))), (q48, .inl (cI, 16, .inl (fun _ => 0))), (q57, .inl (cI, 256, .inl (fun _ => 0))), (q65, .inl (cZ, 16, .inl (fun _ => 0)))] H := hP
  have hD : va_D A [(hp, .inr (4, [.ref q5, .ref q16, .ref q27, .ref q40, .ref q48, .ref q57, .ref q65, .int 0, .int 0, .int 0, .int 0, .int 0, .int 0, .int 0])), (q5, .inr (2, [.ref hpr_9])), (hpr_9, .inl (cI, 264, .inl (fun _ => 0))), (q16, .inr (6, [.ref hg_20])), (hg_20, .inl (cJ, 16, .inr (.inl (fun _ => 0)))), (q27, .inr (5, [.ref hs_31])), (hs_31, .inl (cI, 256, .inl (fun _ => 0))), (q40, .inl (cI, 16, .inl (fun _ => 0))), (q48, .inl (cI, 16, .inl (fun _ => 0))), (q57, .inl (cI, 256, .inl (fun _ => 0))), (q65, .inl (cZ, 16, .inl (fun _ => 0)))] := hD
  refine lv_aload_n hx hb dX4_init_90 rfl (lv_at hl 0 rfl) ?_
  refine lv_iconst (v := 0) hx hb dX4_init_91 (by decide) ?_
  refine va_put (D := D) (ci := 4) (v := .int 0) (ty := .int) (C := RX4) (T := TX4) (N := 14) hx hb hts in_X4 tyX4 tyX4_ok nmX4 hown hK.1 hP hD hS 0 rfl rfl 11 (by decide) (hts _ mk_153) (fun _ h9 => h9) rfl (by decide +kernel) rfl rfl (Nat.le_of_ble_eq_true rfl) dX4_init_92 (fun H locs hP hD hS => ?_)
  have hP : va_P D vwCl [(hp, .inr (4, [.ref q5, .ref q16, .ref q27, .ref q40, .ref q48, .ref q57, .ref q65, .int 0, .int 0, .int 0, .int 0, .int 0, .int 0, .int 0])), (q5, .inr (2, [.ref hpr_9])), (hpr_9, .inl (cI, 264, .inl (fun _ => 0))), (q16, .inr (6, [.ref hg_20])), (hg_20, .inl (cJ, 16, .inr (.inl (fun _ => 0)))), (q27, .inr (5, [.ref hs_31])), (hs_31, .inl (cI, 256, .inl (fun _ => 0))), (q40, .inl (cI, 16, .inl (fun _ => 0))), (q48, .inl (cI, 16, .inl (fun _ => 0))), (q57, .inl (cI, 256, .inl (fun _ => 0))), (q65, .inl (cZ, 16, .inl (fun _ => 0)))] H := hP
  have hD : va_D A [(hp, .inr (4, [.ref q5, .ref q16, .ref q27, .ref q40, .ref q48, .ref q57, .ref q65, .int 0, .int 0, .int 0, .int 0, .int 0, .int 0, .int 0])), (q5, .inr (2, [.ref hpr_9])), (hpr_9, .inl (cI, 264, .inl (fun _ => 0))), (q16, .inr (6, [.ref hg_20])), (hg_20, .inl (cJ, 16, .inr (.inl (fun _ => 0)))), (q27, .inr (5, [.ref hs_31])), (hs_31, .inl (cI, 256, .inl (fun _ => 0))), (q40, .inl (cI, 16, .inl (fun _ => 0))), (q48, .inl (cI, 16, .inl (fun _ => 0))), (q57, .inl (cI, 256, .inl (fun _ => 0))), (q65, .inl (cZ, 16, .inl (fun _ => 0)))] := hD
  refine lv_aload_n hx hb dX4_init_95 rfl (lv_at hl 0 rfl) ?_
  refine lv_iconst (v := 0) hx hb dX4_init_96 (by decide) ?_
  refine va_put (D := D) (ci := 4) (v := .int 0) (ty := .int) (C := RX4) (T := TX4) (N := 14) hx hb hts in_X4 tyX4 tyX4_ok nmX4 hown hK.1 hP hD hS 0 rfl rfl 12 (by decide) (hts _ mk_177) (fun _ h9 => h9) rfl (by decide +kernel) rfl rfl (Nat.le_of_ble_eq_true rfl) dX4_init_97 (fun H locs hP hD hS => ?_)
  have hP : va_P D vwCl [(hp, .inr (4, [.ref q5, .ref q16, .ref q27, .ref q40, .ref q48, .ref q57, .ref q65, .int 0, .int 0, .int 0, .int 0, .int 0, .int 0, .int 0])), (q5, .inr (2, [.ref hpr_9])), (hpr_9, .inl (cI, 264, .inl (fun _ => 0))), (q16, .inr (6, [.ref hg_20])), (hg_20, .inl (cJ, 16, .inr (.inl (fun _ => 0)))), (q27, .inr (5, [.ref hs_31])), (hs_31, .inl (cI, 256, .inl (fun _ => 0))), (q40, .inl (cI, 16, .inl (fun _ => 0))), (q48, .inl (cI, 16, .inl (fun _ => 0))), (q57, .inl (cI, 256, .inl (fun _ => 0))), (q65, .inl (cZ, 16, .inl (fun _ => 0)))] H := hP
  have hD : va_D A [(hp, .inr (4, [.ref q5, .ref q16, .ref q27, .ref q40, .ref q48, .ref q57, .ref q65, .int 0, .int 0, .int 0, .int 0, .int 0, .int 0, .int 0])), (q5, .inr (2, [.ref hpr_9])), (hpr_9, .inl (cI, 264, .inl (fun _ => 0))), (q16, .inr (6, [.ref hg_20])), (hg_20, .inl (cJ, 16, .inr (.inl (fun _ => 0)))), (q27, .inr (5, [.ref hs_31])), (hs_31, .inl (cI, 256, .inl (fun _ => 0))), (q40, .inl (cI, 16, .inl (fun _ => 0))), (q48, .inl (cI, 16, .inl (fun _ => 0))), (q57, .inl (cI, 256, .inl (fun _ => 0))), (q65, .inl (cZ, 16, .inl (fun _ => 0)))] := hD
  refine lv_aload_n hx hb dX4_init_100 rfl (lv_at hl 0 rfl) ?_
  refine lv_iconst (v := 0) hx hb dX4_init_101 (by decide) ?_
  refine va_put (D := D) (ci := 4) (v := .int 0) (ty := .int) (C := RX4) (T := TX4) (N := 14) hx hb hts in_X4 tyX4 tyX4_ok nmX4 hown hK.1 hP hD hS 0 rfl rfl 13 (by decide) (hts _ mk_178) (fun _ h9 => h9) rfl (by decide +kernel) rfl rfl (Nat.le_of_ble_eq_true rfl) dX4_init_102 (fun H locs hP hD hS => ?_)
  have hP : va_P D vwCl [(hp, .inr (4, [.ref q5, .ref q16, .ref q27, .ref q40, .ref q48, .ref q57, .ref q65, .int 0, .int 0, .int 0, .int 0, .int 0, .int 0, .int 0])), (q5, .inr (2, [.ref hpr_9])), (hpr_9, .inl (cI, 264, .inl (fun _ => 0))), (q16, .inr (6, [.ref hg_20])), (hg_20, .inl (cJ, 16, .inr (.inl (fun _ => 0)))), (q27, .inr (5, [.ref hs_31])), (hs_31, .inl (cI, 256, .inl (fun _ => 0))), (q40, .inl (cI, 16, .inl (fun _ => 0))), (q48, .inl (cI, 16, .inl (fun _ => 0))), (q57, .inl (cI, 256, .inl (fun _ => 0))), (q65, .inl (cZ, 16, .inl (fun _ => 0)))] H := hP
  have hD : va_D A [(hp, .inr (4, [.ref q5, .ref q16, .ref q27, .ref q40, .ref q48, .ref q57, .ref q65, .int 0, .int 0, .int 0, .int 0, .int 0, .int 0, .int 0])), (q5, .inr (2, [.ref hpr_9])), (hpr_9, .inl (cI, 264, .inl (fun _ => 0))), (q16, .inr (6, [.ref hg_20])), (hg_20, .inl (cJ, 16, .inr (.inl (fun _ => 0)))), (q27, .inr (5, [.ref hs_31])), (hs_31, .inl (cI, 256, .inl (fun _ => 0))), (q40, .inl (cI, 16, .inl (fun _ => 0))), (q48, .inl (cI, 16, .inl (fun _ => 0))), (q57, .inl (cI, 256, .inl (fun _ => 0))), (q65, .inl (cZ, 16, .inl (fun _ => 0)))] := hD
  exact W.vret hx hb hr (fun t9 ht9 hW9 => ⟨⟨(q5, hpr_9, q16, hg_20, q27, hs_31, q40, q48, q57, q65), rfl, trivial, by rw [ht9]; exact hP, hD⟩, hS.F ht9⟩) hS.2.2 dX4_init_105
abbrev kw_X7_init : List Cond := Cond.code yX7_init cX7_init 1 none :: kW
set_option maxHeartbeats 4000000 in
set_option maxRecDepth 100000 in
theorem c_X7_init (l : Launch) (D : va_G) (cI cJ cZ : ClassId) (hk : Nat) (hpz : Nat) : Met l yX7_init kw_X7_init ({ frames := 3, cells := 15, slots := 1468, locals := 60 }) (va_Pc [.ref hk] (fun U => U.heap.size = hpz ∧ va_P D vwCl [(hk, .inr (7, [.null, .null, .null, .null, .int 0]))] U.heap ∧ kK D cI cJ cZ U ∧ va_D (fun _ => True) [(hk, .inr (7, [.null, .null, .null, .null, .int 0]))])) (va_Qv (fun (u : Nat × Nat × Nat × Nat × Nat × Nat × Nat × Nat × Nat × Nat × Nat × Nat × Nat × Nat × Nat) => True) (fun (u : Nat × Nat × Nat × Nat × Nat × Nat × Nat × Nat × Nat × Nat × Nat × Nat × Nat × Nat × Nat) (t : State) => va_P D vwCl [(hk, .inr (7, [.ref u.1, .ref u.2.2.1, .ref u.2.2.2.1, .ref u.2.2.2.2.1, .int 0])), (u.1, .inr (3, [.ref u.2.1, .int 0])), (u.2.1, .inl (cI, 600, .inl (fun _ => 0))), (u.2.2.1, .inr (1, [.ref u.1, .int 0, .int 255, .int 24])), (u.2.2.2.1, .inr (0, [.ref u.1, .int 0, .int 255, .int 0, .int 0])), (u.2.2.2.2.1, .inr (4, [.ref u.2.2.2.2.2.1, .ref u.2.2.2.2.2.2.2.1, .ref u.2.2.2.2.2.2.2.2.2.1, .ref u.2.2.2.2.2.2.2.2.2.2.2.1, .ref u.2.2.2.2.2.2.2.2.2.2.2.2.1, .ref u.2.2.2.2.2.2.2.2.2.2.2.2.2.1, .ref u.2.2.2.2.2.2.2.2.2.2.2.2.2.2, .int 0, .int 0, .int 0, .int 0, .int 0, .int 0, .int 0])), (u.2.2.2.2.2.1, .inr (2, [.ref u.2.2.2.2.2.2.1])), (u.2.2.2.2.2.2.1, .inl (cI, 264, .inl (fun _ => 0))), (u.2.2.2.2.2.2.2.1, .inr (6, [.ref u.2.2.2.2.2.2.2.2.1])), (u.2.2.2.2.2.2.2.2.1, .inl (cJ, 16, .inr (.inl (fun _ => 0)))), (u.2.2.2.2.2.2.2.2.2.1, .inr (5, [.ref u.2.2.2.2.2.2.2.2.2.2.1])), (u.2.2.2.2.2.2.2.2.2.2.1, .inl (cI, 256, .inl (fun _ => 0))), (u.2.2.2.2.2.2.2.2.2.2.2.1, .inl (cI, 16, .inl (fun _ => 0))), (u.2.2.2.2.2.2.2.2.2.2.2.2.1, .inl (cI, 16, .inl (fun _ => 0))), (u.2.2.2.2.2.2.2.2.2.2.2.2.2.1, .inl (cI, 256, .inl (fun _ => 0))), (u.2.2.2.2.2.2.2.2.2.2.2.2.2.2, .inl (cZ, 16, .inl (fun _ => 0)))] t.heap ∧ va_D (va_A [(hk, .inr (7, [.null, .null, .null, .null, .int 0]))] hpz) [(hk, .inr (7, [.ref u.1, .ref u.2.2.1, .ref u.2.2.2.1, .ref u.2.2.2.2.1, .int 0])), (u.1, .inr (3, [.ref u.2.1, .int 0])), (u.2.1, .inl (cI, 600, .inl (fun _ => 0))), (u.2.2.1, .inr (1, [.ref u.1, .int 0, .int 255, .int 24])), (u.2.2.2.1, .inr (0, [.ref u.1, .int 0, .int 255, .int 0, .int 0])), (u.2.2.2.2.1, .inr (4, [.ref u.2.2.2.2.2.1, .ref u.2.2.2.2.2.2.2.1, .ref u.2.2.2.2.2.2.2.2.2.1, .ref u.2.2.2.2.2.2.2.2.2.2.2.1, .ref u.2.2.2.2.2.2.2.2.2.2.2.2.1, .ref u.2.2.2.2.2.2.2.2.2.2.2.2.2.1, .ref u.2.2.2.2.2.2.2.2.2.2.2.2.2.2, .int 0, .int 0, .int 0, .int 0, .int 0, .int 0, .int 0])), (u.2.2.2.2.2.1, .inr (2, [.ref u.2.2.2.2.2.2.1])), (u.2.2.2.2.2.2.1, .inl (cI, 264, .inl (fun _ => 0))), (u.2.2.2.2.2.2.2.1, .inr (6, [.ref u.2.2.2.2.2.2.2.2.1])), (u.2.2.2.2.2.2.2.2.1, .inl (cJ, 16, .inr (.inl (fun _ => 0)))), (u.2.2.2.2.2.2.2.2.2.1, .inr (5, [.ref u.2.2.2.2.2.2.2.2.2.2.1])), (u.2.2.2.2.2.2.2.2.2.2.1, .inl (cI, 256, .inl (fun _ => 0))), (u.2.2.2.2.2.2.2.2.2.2.2.1, .inl (cI, 16, .inl (fun _ => 0))), (u.2.2.2.2.2.2.2.2.2.2.2.2.1, .inl (cI, 16, .inl (fun _ => 0))), (u.2.2.2.2.2.2.2.2.2.2.2.2.2.1, .inl (cI, 256, .inl (fun _ => 0))), (u.2.2.2.2.2.2.2.2.2.2.2.2.2.2, .inl (cZ, 16, .inl (fun _ => 0)))]) (va_A [(hk, .inr (7, [.null, .null, .null, .null, .int 0]))] hpz)) 15 1468 (va_A [(hk, .inr (7, [.null, .null, .null, .null, .int 0]))] hpz) := by
  refine Met.ofW (cc := cX7_init) (maxL := 1) (ret := none) (by decide) rfl ?_
  intro p e s m args below meth c s₁ B hml hv
  obtain ⟨rfl, hsz, hP, hK, hD0⟩ := hv
  have hin : meth.name = "<init>" := (name_of_methodNamed B.named B.method).1
  have hx := B.exec
  have hb := B.bytes
  have hr := B.returns
  have hts := fun (w : Cond) (h : w ∈ kW) => atoms_spec (ws := kw_X7_init) B.pre w (List.mem_cons_of_mem _ h)
  have hown : s.vm.findClass RX7 = some m.cls := findClass_of_methodNamed B.named
  have hlocks := B.notSynchronized
  subst hsz
  have hD := hD0.self (sz := s.heap.size)
  generalize hAe : va_A [(hk, .inr (7, [.null, .null, .null, .null, .int 0]))] s.heap.size = A at hD ⊢
  have hA : ∀ q : Nat, s.heap.size ≤ q → A q := fun q h => by rw [← hAe]; exact Or.inr h
  have hS : va_S A s.heap s.heap [] := va_S.rf
  have hP : va_P D vwCl [(hk, .inr (7, [.null, .null, .null, .null, .int 0]))] s.heap := hP
  have hl := lv_entry ([.ref hk]) (n := 1) (Nat.le_of_ble_eq_true rfl)
  rw [lg_entry_eq]
  generalize (lg_sl ([.ref hk]) ++ List.replicate (1 - (lg_sl ([.ref hk])).length) Slot.unset).toArray = ls at hl ⊢
  have hl : lv_has ls 1 [(0, .ref hk)] := hl
  refine lv_aload_n hx hb dX7_init_0 rfl (lv_at hl 0 rfl) ?_
  refine W.objInit hx hb hown (hts _ mk_404) (hts _ mk_381) (hts _ mk_382) rfl (by rw [hml]; exact hl.1) rfl dX7_init_1 (Nat.le_of_ble_eq_true rfl) (Nat.le_of_ble_eq_true rfl) ?_
  refine W.eq (g2 := F0 m 4 ls []) rfl ?_
  refine lv_aload_n hx hb dX7_init_4 rfl (lv_at hl 0 rfl) ?_
  refine va_new (ci := 3) (fs := [.null, .int 0]) (C := RX3) (T := TX3) (N := 2) hx hb hts in_X3 tyX3 tyX3_ok hown (hts _ mk_405) (hts _ mk_406) (hts _ mk_6) hK.1 hP hD hS hA rfl (fun j hj => by rcases (show j = 0 ∨ j = 1 by omega) with rfl | rfl <;> rfl) (Nat.le_of_ble_eq_true rfl) (Nat.le_of_ble_eq_true rfl) dX7_init_5 (fun q5 H hP hD hS => ?_)
  have hP : va_P D vwCl [(hk, .inr (7, [.null, .null, .null, .null, .int 0])), (q5, .inr (3, [.null, .int 0]))] H := hP
  have hD : va_D A [(hk, .inr (7, [.null, .null, .null, .null, .int 0])), (q5, .inr (3, [.null, .int 0]))] := hD
  refine W.widen (k := 1) (n := 2) (by omega) (by omega) ?_
  refine lv_dup hx hb dX7_init_8 rfl ?_
  have hPc := hP.sub (ws' := [(q5, .inr (3, [.null, .int 0]))]) [1] rfl
  have hDc := hD.sub (ws' := [(q5, .inr (3, [.null, .int 0]))]) [1] (by decide) rfl
  have hFc := va_free (wc := [(q5, .inr (3, [.null, .int 0]))]) hD hS hA [1] rfl
  refine va_callv (va_runIN (As := []) (rest := [.ref q5, .ref hk]) ⟨hx, hb, hml, hown, hts⟩ (c_X3_init l D cI cJ cZ q5 (H).size) (⟨va_cnB 0 hts (kg_N mk_407) rfl rfl rfl (hK.2 (.methodLinkNest RX7 9 yX3_init "KeyFrames") (by decide +kernel)) (hts _ mk_6) (by decide +kernel) ⟨Nat.le_of_ble_eq_true rfl, Nat.le_of_ble_eq_true rfl⟩, rfl, (hts _ mk_408)⟩) ⟨fun a U g mk q => by obtain ⟨q0, q1, qP, qK, qD⟩ := q; exact ⟨q0, q1, qP, kK.call qK, qD⟩, fun U hU hW => ⟨rfl, by rw [hU], by rw [hU]; exact hPc, kK.warm hW hK, hDc.weaken (fun _ _ _ _ => trivial)⟩⟩ rfl rfl hl.1 rfl (lv_room (Nat.le_of_ble_eq_true rfl)) dX7_init_9 ⟨Nat.le_of_ble_eq_true rfl, Nat.le_of_ble_eq_true rfl⟩) hS (fun q _ h => hFc q h) hFc (fun u t9 H1 locs ht9 hvm9 hw9 hB9 hz9 hk9 hS => ?_)
  obtain ⟨hh_9, rfl⟩ : ∃ z, z = u := ⟨_, rfl⟩
  obtain ⟨hP1, hD1⟩ := hB9
  rw [ht9] at hP1
  have hP1 : va_P D vwCl [(q5, .inr (3, [.ref hh_9, .int 0])), (hh_9, .inl (cI, 600, .inl (fun _ => 0)))] H1 := hP1
  obtain ⟨hP, hD⟩ := va_join (wr := [(hk, .inr (7, [.null, .null, .null, .null, .int 0]))]) (w1 := [(q5, .inr (3, [.ref hh_9, .int 0])), (hh_9, .inl (cI, 600, .inl (fun _ => 0)))]) hP hD [1] [0] rfl rfl (by decide) (by decide) hk9 hFc hP1 hD1
  refine W.widen (k := 2) (n := 602) (by omega) (by omega) ?_
  have hP := hP.sub (ws' := [(hk, .inr (7, [.null, .null, .null, .null, .int 0])), (q5, .inr (3, [.ref hh_9, .int 0])), (hh_9, .inl (cI, 600, .inl (fun _ => 0)))]) [0, 1, 2] rfl
  have hD := hD.sub (ws' := [(hk, .inr (7, [.null, .null, .null, .null, .int 0])), (q5, .inr (3, [.ref hh_9, .int 0])), (hh_9, .inl (cI, 600, .inl (fun _ => 0)))]) [0, 1, 2] (by decide) rfl
  generalize H1 = H at hP hS ⊢
  refine va_putF (D := D) (ci := 7) (v := .ref q5) (ty := .object "KeyFrames$Octets") (C := RX7) (T := TX7) (N := 5) hx hb hts in_X7 tyX7 tyX7_ok nmX7 hown hK.1 hP hD hS 0 rfl rfl 0 (by decide) (hts _ mk_328) (fun _ h9 => h9) rfl hin rfl (by decide +kernel) rfl rfl (Nat.le_of_ble_eq_true rfl) dX7_init_12 (fun H locs hP hD hS => ?_)
  have hP : va_P D vwCl [(hk, .inr (7, [.ref q5, .null, .null, .null, .int 0])), (q5, .inr (3, [.ref hh_9, .int 0])), (hh_9, .inl (cI, 600, .inl (fun _ => 0)))] H := hP
  have hD : va_D A [(hk, .inr (7, [.ref q5, .null, .null, .null, .int 0])), (q5, .inr (3, [.ref hh_9, .int 0])), (hh_9, .inl (cI, 600, .inl (fun _ => 0)))] := hD
  refine lv_aload_n hx hb dX7_init_15 rfl (lv_at hl 0 rfl) ?_
  refine va_new (ci := 1) (fs := [.null, .int 0, .int 0, .int 0]) (C := RX1) (T := TX1) (N := 4) hx hb hts in_X1 tyX1 tyX1_ok hown (hts _ mk_409) (hts _ mk_410) (hts _ mk_326) hK.1 hP hD hS hA rfl (fun j hj => by rcases (show j = 0 ∨ j = 1 ∨ j = 2 ∨ j = 3 by omega) with rfl | rfl | rfl | rfl <;> rfl) (Nat.le_of_ble_eq_true rfl) (Nat.le_of_ble_eq_true rfl) dX7_init_16 (fun q16 H hP hD hS => ?_)
  have hP : va_P D vwCl [(hk, .inr (7, [.ref q5, .null, .null, .null, .int 0])), (q5, .inr (3, [.ref hh_9, .int 0])), (hh_9, .inl (cI, 600, .inl (fun _ => 0))), (q16, .inr (1, [.null, .int 0, .int 0, .int 0]))] H := hP
  have hD : va_D A [(hk, .inr (7, [.ref q5, .null, .null, .null, .int 0])), (q5, .inr (3, [.ref hh_9, .int 0])), (hh_9, .inl (cI, 600, .inl (fun _ => 0))), (q16, .inr (1, [.null, .int 0, .int 0, .int 0]))] := hD
  refine W.widen (k := 3) (n := 606) (by omega) (by omega) ?_
  refine lv_dup hx hb dX7_init_19 rfl ?_
  refine lv_aload_n hx hb dX7_init_20 rfl (lv_at hl 0 rfl) ?_
  refine va_get (D := D) (ci := 7) (v := .ref q5) (C := RX7) (T := TX7) (N := 5) hx hb hts in_X7 hown hK.1 hP 0 rfl rfl 0 (by decide) (hts _ mk_328) (fun _ h9 => h9) rfl dX7_init_21 ?_
  have hPc := hP.sub (ws' := [(q16, .inr (1, [.null, .int 0, .int 0, .int 0]))]) [3] rfl
  have hDc := hD.sub (ws' := [(q16, .inr (1, [.null, .int 0, .int 0, .int 0]))]) [3] (by decide) rfl
  have hFc := va_free (wc := [(q16, .inr (1, [.null, .int 0, .int 0, .int 0]))]) hD hS hA [3] rfl
  refine va_callv (va_runI (As := [.ref q5]) (rest := [.ref q16, .ref hk]) ⟨hx, hb, hml, hown, hts⟩ (c_X1_init l D cI cJ cZ q16 q5 (H).size) (cwI 1 hts (kg_N mk_411) rfl rfl rfl (hts _ mk_326) (hts _ mk_412) (hts _ mk_413) rfl (by decide +kernel) ⟨Nat.le_of_ble_eq_true rfl, Nat.le_of_ble_eq_true rfl⟩) ⟨fun a U g mk q => by obtain ⟨q0, q1, qP, qK, qD⟩ := q; exact ⟨q0, q1, qP, kK.call qK, qD⟩, fun U hU hW => ⟨rfl, by rw [hU], by rw [hU]; exact hPc, kK.warm hW hK, hDc.weaken (fun _ _ _ _ => trivial)⟩⟩ rfl rfl hl.1 rfl (lv_room (Nat.le_of_ble_eq_true rfl)) dX7_init_24 ⟨Nat.le_of_ble_eq_true rfl, Nat.le_of_ble_eq_true rfl⟩) hS (fun q _ h => hFc q h) hFc (fun u t9 H1 locs ht9 hvm9 hw9 hB9 hz9 hk9 hS => ?_)
  obtain ⟨hP1, hD1⟩ := hB9
  rw [ht9] at hP1
  have hP1 : va_P D vwCl [(q16, .inr (1, [.ref q5, .int 0, .int 255, .int 24]))] H1 := hP1
  obtain ⟨hP, hD⟩ := va_join (wr := [(hk, .inr (7, [.ref q5, .null, .null, .null, .int 0])), (q5, .inr (3, [.ref hh_9, .int 0])), (hh_9, .inl (cI, 600, .inl (fun _ => 0)))]) (w1 := [(q16, .inr (1, [.ref q5, .int 0, .int 255, .int 24]))]) hP hD [3] [0, 1, 2] rfl rfl (by decide) (by decide) hk9 hFc hP1 hD1
  refine W.widen (k := 3) (n := 606) (by omega) (by omega) ?_
  have hP := hP.sub (ws' := [(hk, .inr (7, [.ref q5, .null, .null, .null, .int 0])), (q5, .inr (3, [.ref hh_9, .int 0])), (hh_9, .inl (cI, 600, .inl (fun _ => 0))), (q16, .inr (1, [.ref q5, .int 0, .int 255, .int 24]))]) [0, 1, 2, 3] rfl
  have hD := hD.sub (ws' := [(hk, .inr (7, [.ref q5, .null, .null, .null, .int 0])), (q5, .inr (3, [.ref hh_9, .int 0])), (hh_9, .inl (cI, 600, .inl (fun _ => 0))), (q16, .inr (1, [.ref q5, .int 0, .int 255, .int 24]))]) [0, 1, 2, 3] (by decide) rfl
  generalize H1 = H at hP hS ⊢
  refine va_putF (D := D) (ci := 7) (v := .ref q16) (ty := .object "KeyFrames$BitWriter") (C := RX7) (T := TX7) (N := 5) hx hb hts in_X7 tyX7 tyX7_ok nmX7 hown hK.1 hP hD hS 0 rfl rfl 1 (by decide) (hts _ mk_335) (fun _ h9 => h9) rfl hin rfl (by decide +kernel) rfl rfl (Nat.le_of_ble_eq_true rfl) dX7_init_27 (fun H locs hP hD hS => ?_)
  have hP : va_P D vwCl [(hk, .inr (7, [.ref q5, .ref q16, .null, .null, .int 0])), (q5, .inr (3, [.ref hh_9, .int 0])), (hh_9, .inl (cI, 600, .inl (fun _ => 0))), (q16, .inr (1, [.ref q5, .int 0, .int 255, .int 24]))] H := hP
  have hD : va_D A [(hk, .inr (7, [.ref q5, .ref q16, .null, .null, .int 0])), (q5, .inr (3, [.ref hh_9, .int 0])), (hh_9, .inl (cI, 600, .inl (fun _ => 0))), (q16, .inr (1, [.ref q5, .int 0, .int 255, .int 24]))] := hD
  refine lv_aload_n hx hb dX7_init_30 rfl (lv_at hl 0 rfl) ?_
  refine va_new (ci := 0) (fs := [.null, .int 0, .int 0, .int 0, .int 0]) (C := RX0) (T := TX0) (N := 5) hx hb hts in_X0 tyX0 tyX0_ok hown (hts _ mk_414) (hts _ mk_415) (hts _ mk_23) hK.1 hP hD hS hA rfl (fun j hj => by rcases (show j = 0 ∨ j = 1 ∨ j = 2 ∨ j = 3 ∨ j = 4 by omega) with rfl | rfl | rfl | rfl | rfl <;> rfl) (Nat.le_of_ble_eq_true rfl) (Nat.le_of_ble_eq_true rfl) dX7_init_31 (fun q31 H hP hD hS => ?_)
  have hP : va_P D vwCl [(hk, .inr (7, [.ref q5, .ref q16, .null, .null, .int 0])), (q5, .inr (3, [.ref hh_9, .int 0])), (hh_9, .inl (cI, 600, .inl (fun _ => 0))), (q16, .inr (1, [.ref q5, .int 0, .int 255, .int 24])), (q31, .inr (0, [.null, .int 0, .int 0, .int 0, .int 0]))] H := hP
  have hD : va_D A [(hk, .inr (7, [.ref q5, .ref q16, .null, .null, .int 0])), (q5, .inr (3, [.ref hh_9, .int 0])), (hh_9, .inl (cI, 600, .inl (fun _ => 0))), (q16, .inr (1, [.ref q5, .int 0, .int 255, .int 24])), (q31, .inr (0, [.null, .int 0, .int 0, .int 0, .int 0]))] := hD
  refine W.widen (k := 4) (n := 611) (by omega) (by omega) ?_
  refine lv_dup hx hb dX7_init_34 rfl ?_
  refine lv_aload_n hx hb dX7_init_35 rfl (lv_at hl 0 rfl) ?_
  refine va_get (D := D) (ci := 7) (v := .ref q5) (C := RX7) (T := TX7) (N := 5) hx hb hts in_X7 hown hK.1 hP 0 rfl rfl 0 (by decide) (hts _ mk_328) (fun _ h9 => h9) rfl dX7_init_36 ?_
  have hPc := hP.sub (ws' := [(q31, .inr (0, [.null, .int 0, .int 0, .int 0, .int 0]))]) [4] rfl
  have hDc := hD.sub (ws' := [(q31, .inr (0, [.null, .int 0, .int 0, .int 0, .int 0]))]) [4] (by decide) rfl
  have hFc := va_free (wc := [(q31, .inr (0, [.null, .int 0, .int 0, .int 0, .int 0]))]) hD hS hA [4] rfl
  refine va_callv (va_runI (As := [.ref q5]) (rest := [.ref q31, .ref hk]) ⟨hx, hb, hml, hown, hts⟩ (c_X0_init l D cI cJ cZ q31 q5 (H).size) (cwI 1 hts (kg_N mk_416) rfl rfl rfl (hts _ mk_23) (hts _ mk_417) (hts _ mk_418) rfl (by decide +kernel) ⟨Nat.le_of_ble_eq_true rfl, Nat.le_of_ble_eq_true rfl⟩) ⟨fun a U g mk q => by obtain ⟨q0, q1, qP, qK, qD⟩ := q; exact ⟨q0, q1, qP, kK.call qK, qD⟩, fun U hU hW => ⟨rfl, by rw [hU], by rw [hU]; exact hPc, kK.warm hW hK, hDc.weaken (fun _ _ _ _ => trivial)⟩⟩ rfl rfl hl.1 rfl (lv_room (Nat.le_of_ble_eq_true rfl)) dX7_init_39 ⟨Nat.le_of_ble_eq_true rfl, Nat.le_of_ble_eq_true rfl⟩) hS (fun q _ h => hFc q h) hFc (fun u t9 H1 locs ht9 hvm9 hw9 hB9 hz9 hk9 hS => ?_)
  obtain ⟨hP1, hD1⟩ := hB9
  rw [ht9] at hP1
  have hP1 : va_P D vwCl [(q31, .inr (0, [.ref q5, .int 0, .int 255, .int 0, .int 0]))] H1 := hP1
  obtain ⟨hP, hD⟩ := va_join (wr := [(hk, .inr (7, [.ref q5, .ref q16, .null, .null, .int 0])), (q5, .inr (3, [.ref hh_9, .int 0])), (hh_9, .inl (cI, 600, .inl (fun _ => 0))), (q16, .inr (1, [.ref q5, .int 0, .int 255, .int 24]))]) (w1 := [(q31, .inr (0, [.ref q5, .int 0, .int 255, .int 0, .int 0]))]) hP hD [4] [0, 1, 2, 3] rfl rfl (by decide) (by decide) hk9 hFc hP1 hD1
  refine W.widen (k := 4) (n := 611) (by omega) (by omega) ?_
  have hP := hP.sub (ws' := [(hk, .inr (7, [.ref q5, .ref q16, .null, .null, .int 0])), (q5, .inr (3, [.ref hh_9, .int 0])), (hh_9, .inl (cI, 600, .inl (fun _ => 0))), (q16, .inr (1, [.ref q5, .int 0, .int 255, .int 24])), (q31, .inr (0, [.ref q5, .int 0, .int 255, .int 0, .int 0]))]) [0, 1, 2, 3, 4] rfl
  have hD := hD.sub (ws' := [(hk, .inr (7, [.ref q5, .ref q16, .null, .null, .int 0])), (q5, .inr (3, [.ref hh_9, .int 0])), (hh_9, .inl (cI, 600, .inl (fun _ => 0))), (q16, .inr (1, [.ref q5, .int 0, .int 255, .int 24])), (q31, .inr (0, [.ref q5, .int 0, .int 255, .int 0, .int 0]))]) [0, 1, 2, 3, 4] (by decide) rfl
  generalize H1 = H at hP hS ⊢
  refine va_putF (D := D) (ci := 7) (v := .ref q31) (ty := .object "KeyFrames$BitReader") (C := RX7) (T := TX7) (N := 5) hx hb hts in_X7 tyX7 tyX7_ok nmX7 hown hK.1 hP hD hS 0 rfl rfl 2 (by decide) (hts _ mk_340) (fun _ h9 => h9) rfl hin rfl (by decide +kernel) rfl rfl (Nat.le_of_ble_eq_true rfl) dX7_init_42 (fun H locs hP hD hS => ?_)
  have hP : va_P D vwCl [(hk, .inr (7, [.ref q5, .ref q16, .ref q31, .null, .int 0])), (q5, .inr (3, [.ref hh_9, .int 0])), (hh_9, .inl (cI, 600, .inl (fun _ => 0))), (q16, .inr (1, [.ref q5, .int 0, .int 255, .int 24])), (q31, .inr (0, [.ref q5, .int 0, .int 255, .int 0, .int 0]))] H := hP
  have hD : va_D A [(hk, .inr (7, [.ref q5, .ref q16, .ref q31, .null, .int 0])), (q5, .inr (3, [.ref hh_9, .int 0])), (hh_9, .inl (cI, 600, .inl (fun _ => 0))), (q16, .inr (1, [.ref q5, .int 0, .int 255, .int 24])), (q31, .inr (0, [.ref q5, .int 0, .int 255, .int 0, .int 0]))] := hD
  refine lv_aload_n hx hb dX7_init_45 rfl (lv_at hl 0 rfl) ?_
  refine va_new (ci := 4) (fs := [.null, .null, .null, .null, .null, .null, .null, .int 0, .int 0, .int 0, .int 0, .int 0, .int 0, .int 0]) (C := RX4) (T := TX4) (N := 14) hx hb hts in_X4 tyX4 tyX4_ok hown (hts _ mk_419) (hts _ mk_420) (hts _ mk_119) hK.1 hP hD hS hA rfl (fun j hj => by rcases (show j = 0 ∨ j = 1 ∨ j = 2 ∨ j = 3 ∨ j = 4 ∨ j = 5 ∨ j = 6 ∨ j = 7 ∨ j = 8 ∨ j = 9 ∨ j = 10 ∨ j = 11 ∨ j = 12 ∨ j = 13 by omega) with rfl | rfl | rfl | rfl | rfl | rfl | rfl | rfl | rfl | rfl | rfl | rfl | rfl | rfl <;> rfl) (Nat.le_of_ble_eq_true rfl) (Nat.le_of_ble_eq_true rfl) dX7_init_46 (fun q46 H hP hD hS => ?_)
  have hP : va_P D vwCl [(hk, .inr (7, [.ref q5, .ref q16, .ref q31, .null, .int 0])), (q5, .inr (3, [.ref hh_9, .int 0])), (hh_9, .inl (cI, 600, .inl (fun _ => 0))), (q16, .inr (1, [.ref q5, .int 0, .int 255, .int 24])), (q31, .inr (0, [.ref q5, .int 0, .int 255, .int 0, .int 0])), (q46, .inr (4, [.null, .null, .null, .null, .null, .null, .null, .int 0, .int 0, .int 0, .int 0, .int 0, .int 0, .int 0]))] H := hP
  have hD : va_D A [(hk, .inr (7, [.ref q5, .ref q16, .ref q31, .null, .int 0])), (q5, .inr (3, [.ref hh_9, .int 0])), (hh_9, .inl (cI, 600, .inl (fun _ => 0))), (q16, .inr (1, [.ref q5, .int 0, .int 255, .int 24])), (q31, .inr (0, [.ref q5, .int 0, .int 255, .int 0, .int 0])), (q46, .inr (4, [.null, .null, .null, .null, .null, .null, .null, .int 0, .int 0, .int 0, .int 0, .int 0, .int 0, .int 0]))] := hD
  refine W.widen (k := 5) (n := 625) (by omega) (by omega) ?_
  refine lv_dup hx hb dX7_init_49 rfl ?_
  have hPc := hP.sub (ws' := [(q46, .inr (4, [.null, .null, .null, .null, .null, .null, .null, .int 0, .int 0, .int 0, .int 0, .int 0, .int 0, .int 0]))]) [5] rfl
  have hDc := hD.sub (ws' := [(q46, .inr (4, [.null, .null, .null, .null, .null, .null, .null, .int 0, .int 0, .int 0, .int 0, .int 0, .int 0, .int 0]))]) [5] (by decide) rfl
  have hFc := va_free (wc := [(q46, .inr (4, [.null, .null, .null, .null, .null, .null, .null, .int 0, .int 0, .int 0, .int 0, .int 0, .int 0, .int 0]))]) hD hS hA [5] rfl
  refine va_callv (va_runIN (As := []) (rest := [.ref q46, .ref hk]) ⟨hx, hb, hml, hown, hts⟩ (c_X4_init l D cI cJ cZ q46 (H).size) (⟨va_cnB 0 hts (kg_N mk_421) rfl rfl rfl (hK.2 (.methodLinkNest RX7 34 yX4_init "KeyFrames") (by decide +kernel)) (hts _ mk_119) (by decide +kernel) ⟨Nat.le_of_ble_eq_true rfl, Nat.le_of_ble_eq_true rfl⟩, rfl, (hts _ mk_422)⟩) ⟨fun a U g mk q => by obtain ⟨q0, q1, qP, qK, qD⟩ := q; exact ⟨q0, q1, qP, kK.call qK, qD⟩, fun U hU hW => ⟨rfl, by rw [hU], by rw [hU]; exact hPc, kK.warm hW hK, hDc.weaken (fun _ _ _ _ => trivial)⟩⟩ rfl rfl hl.1 rfl (lv_room (Nat.le_of_ble_eq_true rfl)) dX7_init_50 ⟨Nat.le_of_ble_eq_true rfl, Nat.le_of_ble_eq_true rfl⟩) hS (fun q _ h => hFc q h) hFc (fun u t9 H1 locs ht9 hvm9 hw9 hB9 hz9 hk9 hS => ?_)
  obtain ⟨ht_50, hpr_50, htr_50, hg_50, hpl_50, hs_50, hw_50, hcr_50, hco_50, hhs_50⟩ := u
  obtain ⟨hP1, hD1⟩ := hB9
  rw [ht9] at hP1
  have hP1 : va_P D vwCl [(q46, .inr (4, [.ref ht_50, .ref htr_50, .ref hpl_50, .ref hw_50, .ref hcr_50, .ref hco_50, .ref hhs_50, .int 0, .int 0, .int 0, .int 0, .int 0, .int 0, .int 0])), (ht_50, .inr (2, [.ref hpr_50])), (hpr_50, .inl (cI, 264, .inl (fun _ => 0))), (htr_50, .inr (6, [.ref hg_50])), (hg_50, .inl (cJ, 16, .inr (.inl (fun _ => 0)))), (hpl_50, .inr (5, [.ref hs_50])), (hs_50, .inl (cI, 256, .inl (fun _ => 0))), (hw_50, .inl (cI, 16, .inl (fun _ => 0))), (hcr_50, .inl (cI, 16, .inl (fun _ => 0))), (hco_50, .inl (cI, 256, .inl (fun _ => 0))), (hhs_50, .inl (cZ, 16, .inl (fun _ => 0)))] H1 := hP1
  obtain ⟨hP, hD⟩ := va_join (wr := [(hk, .inr (7, [.ref q5, .ref q16, .ref q31, .null, .int 0])), (q5, .inr (3, [.ref hh_9, .int 0])), (hh_9, .inl (cI, 600, .inl (fun _ => 0))), (q16, .inr (1, [.ref q5, .int 0, .int 255, .int 24])), (q31, .inr (0, [.ref q5, .int 0, .int 255, .int 0, .int 0]))]) (w1 := [(q46, .inr (4, [.ref ht_50, .ref htr_50, .ref hpl_50, .ref hw_50, .ref hcr_50, .ref hco_50, .ref hhs_50, .int 0, .int 0, .int 0, .int 0, .int 0, .int 0, .int 0])), (ht_50, .inr (2, [.ref hpr_50])), (hpr_50, .inl (cI, 264, .inl (fun _ => 0))), (htr_50, .inr (6, [.ref hg_50])), (hg_50, .inl (cJ, 16, .inr (.inl (fun _ => 0)))), (hpl_50, .inr (5, [.ref hs_50])), (hs_50, .inl (cI, 256, .inl (fun _ => 0))), (hw_50, .inl (cI, 16, .inl (fun _ => 0))), (hcr_50, .inl (cI, 16, .inl (fun _ => 0))), (hco_50, .inl (cI, 256, .inl (fun _ => 0))), (hhs_50, .inl (cZ, 16, .inl (fun _ => 0)))]) hP hD [5] [0, 1, 2, 3, 4] rfl rfl (by decide) (by decide) hk9 hFc hP1 hD1
  refine W.widen (k := 15) (n := 1468) (by omega) (by omega) ?_
  have hP := hP.sub (ws' := [(hk, .inr (7, [.ref q5, .ref q16, .ref q31, .null, .int 0])), (q5, .inr (3, [.ref hh_9, .int 0])), (hh_9, .inl (cI, 600, .inl (fun _ => 0))), (q16, .inr (1, [.ref q5, .int 0, .int 255, .int 24])), (q31, .inr (0, [.ref q5, .int 0, .int 255, .int 0, .int 0])), (q46, .inr (4, [.ref ht_50, .ref htr_50, .ref hpl_50, .ref hw_50, .ref hcr_50, .ref hco_50, .ref hhs_50, .int 0, .int 0, .int 0, .int 0, .int 0, .int 0, .int 0])), (ht_50, .inr (2, [.ref hpr_50])), (hpr_50, .inl (cI, 264, .inl (fun _ => 0))), (htr_50, .inr (6, [.ref hg_50])), (hg_50, .inl (cJ, 16, .inr (.inl (fun _ => 0)))), (hpl_50, .inr (5, [.ref hs_50])), (hs_50, .inl (cI, 256, .inl (fun _ => 0))), (hw_50, .inl (cI, 16, .inl (fun _ => 0))), (hcr_50, .inl (cI, 16, .inl (fun _ => 0))), (hco_50, .inl (cI, 256, .inl (fun _ => 0))), (hhs_50, .inl (cZ, 16, .inl (fun _ => 0)))]) [0, 1, 2, 3, 4, 5, 6, 7, 8, 9, 10, 11, 12, 13, 14, 15] rfl
  have hD := hD.sub (ws' := [(hk, .inr (7, [.ref q5, .ref q16, .ref q31, .null, .int 0])), (q5, .inr (3, [.ref hh_9, .int 0])), (hh_9, .inl (cI, 600, .inl (fun _ => 0))), (q16, .inr (1, [.ref q5, .int 0, .int 255, .int 24])), (q31, .inr (0, [.ref q5, .int 0, .int 255, .int 0, .int 0])), (q46, .inr (4, [.ref ht_50, .ref htr_50, .ref hpl_50, .ref hw_50, .ref hcr_50, .ref hco_50, .ref hhs_50, .int 0, .int 0, .int 0, .int 0, .int 0, .int 0, .int 0])), (ht_50, .inr (2, [.ref hpr_50])), (hpr_50, .inl (cI, 264, .inl (fun _ => 0))), (htr_50, .inr (6, [.ref hg_50])), (hg_50, .inl (cJ, 16, .inr (.inl (fun _ => 0)))), (hpl_50, .inr (5, [.ref hs_50])), (hs_50, .inl (cI, 256, .inl (fun _ => 0))), (hw_50, .inl (cI, 16, .inl (fun _ => 0))), (hcr_50, .inl (cI, 16, .inl (fun _ => 0))), (hco_50, .inl (cI, 256, .inl (fun _ => 0))), (hhs_50, .inl (cZ, 16, .inl (fun _ => 0)))]) [0, 1, 2, 3, 4, 5, 6, 7, 8, 9, 10, 11, 12, 13, 14, 15] (by decide) rfl
  generalize H1 = H at hP hS ⊢
  refine va_putF (D := D) (ci := 7) (v := .ref q46) (ty := .object "KeyFrames$Picture") (C := RX7) (T := TX7) (N := 5) hx hb hts in_X7 tyX7 tyX7_ok nmX7 hown hK.1 hP hD hS 0 rfl rfl 3 (by decide) (hts _ mk_346) (fun _ h9 => h9) rfl hin rfl (by decide +kernel) rfl rfl (Nat.le_of_ble_eq_true rfl) dX7_init_53 (fun H locs hP hD hS => ?_)
  have hP : va_P D vwCl [(hk, .inr (7, [.ref q5, .ref q16, .ref q31, .ref q46, .int 0])), (q5, .inr (3, [.ref hh_9, .int 0])), (hh_9, .inl (cI, 600, .inl (fun _ => 0))), (q16, .inr (1, [.ref q5, .int 0, .int 255, .int 24])), (q31, .inr (0, [.ref q5, .int 0, .int 255, .int 0, .int 0])), (q46, .inr (4, [.ref ht_50, .ref htr_50, .ref hpl_50, .ref hw_50, .ref hcr_50, .ref hco_50, .ref hhs_50, .int 0, .int 0, .int 0, .int 0, .int 0, .int 0, .int 0])), (ht_50, .inr (2, [.ref hpr_50])), (hpr_50, .inl (cI, 264, .inl (fun _ => 0))), (htr_50, .inr (6, [.ref hg_50])), (hg_50, .inl (cJ, 16, .inr (.inl (fun _ => 0)))), (hpl_50, .inr (5, [.ref hs_50])), (hs_50, .inl (cI, 256, .inl (fun _ => 0))), (hw_50, .inl (cI, 16, .inl (fun _ => 0))), (hcr_50, .inl (cI, 16, .inl (fun _ => 0))), (hco_50, .inl (cI, 256, .inl (fun _ => 0))), (hhs_50, .inl (cZ, 16, .inl (fun _ => 0)))] H := hP
  have hD : va_D A [(hk, .inr (7, [.ref q5, .ref q16, .ref q31, .ref q46, .int 0])), (q5, .inr (3, [.ref hh_9, .int 0])), (hh_9, .inl (cI, 600, .inl (fun _ => 0))), (q16, .inr (1, [.ref q5, .int 0, .int 255, .int 24])), (q31, .inr (0, [.ref q5, .int 0, .int 255, .int 0, .int 0])), (q46, .inr (4, [.ref ht_50, .ref htr_50, .ref hpl_50, .ref hw_50, .ref hcr_50, .ref hco_50, .ref hhs_50, .int 0, .int 0, .int 0, .int 0, .int 0, .int 0, .int 0])), (ht_50, .inr (2, [.ref hpr_50])), (hpr_50, .inl (cI, 264, .inl (fun _ => 0))), (htr_50, .inr (6, [.ref hg_50])), (hg_50, .inl (cJ, 16, .inr (.inl (fun _ => 0)))), (hpl_50, .inr (5, [.ref hs_50])), (hs_50, .inl (cI, 256, .inl (fun _ => 0))), (hw_50, .inl (cI, 16, .inl (fun _ => 0))), (hcr_50, .inl (cI, 16, .inl (fun _ => 0))), (hco_50, .inl (cI, 256, .inl (fun _ => 0))), (hhs_50, .inl (cZ, 16, .inl (fun _ => 0)))] := hD
  refine lv_aload_n hx hb dX7_init_56 rfl (lv_at hl 0 rfl) ?_
  refine lv_iconst (v := 0) hx hb dX7_init_57 (by decide) ?_
  refine va_put (D := D) (ci := 7) (v := .int 0) (ty := .int) (C := RX7) (T := TX7) (N := 5) hx hb hts in_X7 tyX7 tyX7_ok nmX7 hown hK.1 hP hD hS 0 rfl rfl 4 (by decide) (hts _ mk_334) (fun _ h9 => h9) rfl (by decide +kernel) rfl rfl (Nat.le_of_ble_eq_true rfl) dX7_init_58 (fun H locs hP hD hS => ?_)
  have hP : va_P D vwCl [(hk, .inr (7, [.ref q5, .ref q16, .ref q31, .ref q46, .int 0])), (q5, .inr (3, [.ref hh_9, .int 0])), (hh_9, .inl (cI, 600, .inl (fun _ => 0))), (q16, .inr (1, [.ref q5, .int 0, .int 255, .int 24])), (q31, .inr (0, [.ref q5, .int 0, .int 255, .int 0, .int 0])), (q46, .inr (4, [.ref ht_50, .ref htr_50, .ref hpl_50, .ref hw_50, .ref hcr_50, .ref hco_50, .ref hhs_50, .int 0, .int 0, .int 0, .int 0, .int 0, .int 0, .int 0])), (ht_50, .inr (2, [.ref hpr_50])), (hpr_50, .inl (cI, 264, .inl (fun _ => 0))), (htr_50, .inr (6, [.ref hg_50])), (hg_50, .inl (cJ, 16, .inr (.inl (fun _ => 0)))), (hpl_50, .inr (5, [.ref hs_50])), (hs_50, .inl (cI, 256, .inl (fun _ => 0))), (hw_50, .inl (cI, 16, .inl (fun _ => 0))), (hcr_50, .inl (cI, 16, .inl (fun _ => 0))), (hco_50, .inl (cI, 256, .inl (fun _ => 0))), (hhs_50, .inl (cZ, 16, .inl (fun _ => 0)))] H := hP
  have hD : va_D A [(hk, .inr (7, [.ref q5, .ref q16, .ref q31, .ref q46, .int 0])), (q5, .inr (3, [.ref hh_9, .int 0])), (hh_9, .inl (cI, 600, .inl (fun _ => 0))), (q16, .inr (1, [.ref q5, .int 0, .int 255, .int 24])), (q31, .inr (0, [.ref q5, .int 0, .int 255, .int 0, .int 0])), (q46, .inr (4, [.ref ht_50, .ref htr_50, .ref hpl_50, .ref hw_50, .ref hcr_50, .ref hco_50, .ref hhs_50, .int 0, .int 0, .int 0, .int 0, .int 0, .int 0, .int 0])), (ht_50, .inr (2, [.ref hpr_50])), (hpr_50, .inl (cI, 264, .inl (fun _ => 0))), (htr_50, .inr (6, [.ref hg_50])), (hg_50, .inl (cJ, 16, .inr (.inl (fun _ => 0)))), (hpl_50, .inr (5, [.ref hs_50])), (hs_50, .inl (cI, 256, .inl (fun _ => 0))), (hw_50, .inl (cI, 16, .inl (fun _ => 0))), (hcr_50, .inl (cI, 16, .inl (fun _ => 0))), (hco_50, .inl (cI, 256, .inl (fun _ => 0))), (hhs_50, .inl (cZ, 16, .inl (fun _ => 0)))] := hD
  exact W.vret hx hb hr (fun t9 ht9 hW9 => ⟨⟨(q5, hh_9, q16, q31, q46, ht_50, hpr_50, htr_50, hg_50, hpl_50, hs_50, hw_50, hcr_50, hco_50, hhs_50), rfl, trivial, by rw [ht9]; exact hP, hD⟩, hS.F ht9⟩) hS.2.2 dX7_init_61
abbrev kw_X8_init : List Cond := Cond.code yX8_init cX8_init 1 none :: kW
set_option maxHeartbeats 4000000 in
set_option maxRecDepth 100000 in
theorem c_X8_init (l : Launch) (D : va_G) (cI cJ cZ : ClassId) (hm : Nat) (hpz : Nat) : Met l yX8_init kw_X8_init ({ frames := 1, cells := 7, slots := 1424, locals := 20 }) (va_Pc [.ref hm] (fun U => U.heap.size = hpz ∧ va_P D vwCl [(hm, .inr (8, [.int 0, .null, .int 0, .int 0, .long 0, .int 0, .int 0, .int 0, .int 0, .int 0, .int 0, .int 0, .int 0, .int 0, .int 0, .int 0, .null, .null, .null, .null, .null, .null]))] U.heap ∧ kK D cI cJ cZ U ∧ va_D (fun _ => True) [(hm, .inr (8, [.int 0, .null, .int 0, .int 0, .long 0, .int 0, .int 0, .int 0, .int 0, .int 0, .int 0, .int 0, .int 0, .int 0, .int 0, .int 0, .null, .null, .null, .null, .null, .null]))])) (va_Qv (fun (u : Nat × Nat × Nat × Nat × Nat × Nat × Nat) => True) (fun (u : Nat × Nat × Nat × Nat × Nat × Nat × Nat) (t : State) => va_P D vwCl [(hm, .inr (8, [.int 0, .ref u.1, .int 0, .int 0, .long 0, .int 0, .int 0, .int 0, .int 0, .int 0, .int 0, .int 0, .int 0, .int 0, .int 0, .int 0, .ref u.2.1, .ref u.2.2.1, .ref u.2.2.2.1, .ref u.2.2.2.2.1, .ref u.2.2.2.2.2.1, .ref u.2.2.2.2.2.2])), (u.1, .inl (cI, 600, .inl (fun _ => 0))), (u.2.1, .inl (cI, 264, .inl (fun _ => 0))), (u.2.2.1, .inl (cI, 16, .inl (fun _ => 0))), (u.2.2.2.1, .inl (cI, 16, .inl (fun _ => 0))), (u.2.2.2.2.1, .inl (cI, 256, .inl (fun _ => 0))), (u.2.2.2.2.2.1, .inl (cI, 256, .inl (fun _ => 0))), (u.2.2.2.2.2.2, .inl (cJ, 16, .inr (.inl (fun _ => 0))))] t.heap ∧ va_D (va_A [(hm, .inr (8, [.int 0, .null, .int 0, .int 0, .long 0, .int 0, .int 0, .int 0, .int 0, .int 0, .int 0, .int 0, .int 0, .int 0, .int 0, .int 0, .null, .null, .null, .null, .null, .null]))] hpz) [(hm, .inr (8, [.int 0, .ref u.1, .int 0, .int 0, .long 0, .int 0, .int 0, .int 0, .int 0, .int 0, .int 0, .int 0, .int 0, .int 0, .int 0, .int 0, .ref u.2.1, .ref u.2.2.1, .ref u.2.2.2.1, .ref u.2.2.2.2.1, .ref u.2.2.2.2.2.1, .ref u.2.2.2.2.2.2])), (u.1, .inl (cI, 600, .inl (fun _ => 0))), (u.2.1, .inl (cI, 264, .inl (fun _ => 0))), (u.2.2.1, .inl (cI, 16, .inl (fun _ => 0))), (u.2.2.2.1, .inl (cI, 16, .inl (fun _ => 0))), (u.2.2.2.2.1, .inl (cI, 256, .inl (fun _ => 0))), (u.2.2.2.2.2.1, .inl (cI, 256, .inl (fun _ => 0))), (u.2.2.2.2.2.2, .inl (cJ, 16, .inr (.inl (fun _ => 0))))]) (va_A [(hm, .inr (8, [.int 0, .null, .int 0, .int 0, .long 0, .int 0, .int 0, .int 0, .int 0, .int 0, .int 0, .int 0, .int 0, .int 0, .int 0, .int 0, .null, .null, .null, .null, .null, .null]))] hpz)) 7 1424 (va_A [(hm, .inr (8, [.int 0, .null, .int 0, .int 0, .long 0, .int 0, .int 0, .int 0, .int 0, .int 0, .int 0, .int 0, .int 0, .int 0, .int 0, .int 0, .null, .null, .null, .null, .null, .null]))] hpz) := by
  refine Met.ofW (cc := cX8_init) (maxL := 1) (ret := none) (by decide) rfl ?_
  intro p e s m args below meth c s₁ B hml hv
  obtain ⟨rfl, hsz, hP, hK, hD0⟩ := hv
  have hin : meth.name = "<init>" := (name_of_methodNamed B.named B.method).1
  have hx := B.exec
  have hb := B.bytes
  have hr := B.returns
  have hts := fun (w : Cond) (h : w ∈ kW) => atoms_spec (ws := kw_X8_init) B.pre w (List.mem_cons_of_mem _ h)
  have hown : s.vm.findClass RX8 = some m.cls := findClass_of_methodNamed B.named
  have hlocks := B.notSynchronized
  subst hsz
  have hD := hD0.self (sz := s.heap.size)
  generalize hAe : va_A [(hm, .inr (8, [.int 0, .null, .int 0, .int 0, .long 0, .int 0, .int 0, .int 0, .int 0, .int 0, .int 0, .int 0, .int 0, .int 0, .int 0, .int 0, .null, .null, .null, .null, .null, .null]))] s.heap.size = A at hD ⊢
  have hA : ∀ q : Nat, s.heap.size ≤ q → A q := fun q h => by rw [← hAe]; exact Or.inr h
  have hS : va_S A s.heap s.heap [] := va_S.rf
  have hP : va_P D vwCl [(hm, .inr (8, [.int 0, .null, .int 0, .int 0, .long 0, .int 0, .int 0, .int 0, .int 0, .int 0, .int 0, .int 0, .int 0, .int 0, .int 0, .int 0, .null, .null, .null, .null, .null, .null]))] s.heap := hP
  have hl := lv_entry ([.ref hm]) (n := 1) (Nat.le_of_ble_eq_true rfl)
  rw [lg_entry_eq]
  generalize (lg_sl ([.ref hm]) ++ List.replicate (1 - (lg_sl ([.ref hm])).length) Slot.unset).toArray = ls at hl ⊢
  have hl : lv_has ls 1 [(0, .ref hm)] := hl
  refine lv_aload_n hx hb dX8_init_0 rfl (lv_at hl 0 rfl) ?_
  refine W.objInit hx hb hown (hts _ mk_423) (hts _ mk_381) (hts _ mk_382) rfl (by rw [hml]; exact hl.1) rfl dX8_init_1 (Nat.le_of_ble_eq_true rfl) (Nat.le_of_ble_eq_true rfl) ?_
  refine W.eq (g2 := F0 m 4 ls []) rfl ?_
  refine lv_aload_n hx hb dX8_init_4 rfl (lv_at hl 0 rfl) ?_
  refine lv_sipush (v := 600) hx hb dX8_init_5 (by decide) ?_
  refine va_newa (atype := .int) (ty := .int) (N' := 600) (a0 := (600, .inl (fun _ => 0))) hx hb (hts _ mk_383) rfl hK.1 hP hD hS hA (fun _ => rfl) (by decide) (by decide) (by decide) (Nat.le_of_ble_eq_true rfl) (Nat.le_of_ble_eq_true rfl) dX8_init_8 (fun q8 cA H hKa hP hD hS => ?_)
  have ecA : cA = cI := kCI hKa
  rw [ecA] at hP hD
  have hP : va_P D vwCl [(hm, .inr (8, [.int 0, .null, .int 0, .int 0, .long 0, .int 0, .int 0, .int 0, .int 0, .int 0, .int 0, .int 0, .int 0, .int 0, .int 0, .int 0, .null, .null, .null, .null, .null, .null])), (q8, .inl (cI, 600, .inl (fun _ => 0)))] H := hP
  have hD : va_D A [(hm, .inr (8, [.int 0, .null, .int 0, .int 0, .long 0, .int 0, .int 0, .int 0, .int 0, .int 0, .int 0, .int 0, .int 0, .int 0, .int 0, .int 0, .null, .null, .null, .null, .null, .null])), (q8, .inl (cI, 600, .inl (fun _ => 0)))] := hD
  refine W.widen (k := 1) (n := 600) (by omega) (by omega) ?_
  refine va_putF (D := D) (ci := 8) (v := .ref q8) (ty := .array .int) (C := RX8) (T := TX8) (N := 22) hx hb hts in_X8 tyX8 tyX8_ok nmX8 hown hK.1 hP hD hS 0 rfl rfl 1 (by decide) (hts _ mk_185) (fun _ h9 => h9) rfl hin rfl (by decide +kernel) rfl rfl (Nat.le_of_ble_eq_true rfl) dX8_init_10 (fun H locs hP hD hS => ?_)
  have hP : va_P D vwCl [(hm, .inr (8, [.int 0, .ref q8, .int 0, .int 0, .long 0, .int 0, .int 0, .int 0, .int 0, .int 0, .int 0, .int 0, .int 0, .int 0, .int 0, .int 0, .null, .null, .null, .null, .null, .null])), (q8, .inl (cI, 600, .inl (fun _ => 0)))] H := hP
  have hD : va_D A [(hm, .inr (8, [.int 0, .ref q8, .int 0, .int 0, .long 0, .int 0, .int 0, .int 0, .int 0, .int 0, .int 0, .int 0, .int 0, .int 0, .int 0, .int 0, .null, .null, .null, .null, .null, .null])), (q8, .inl (cI, 600, .inl (fun _ => 0)))] := hD
  refine lv_aload_n hx hb dX8_init_13 rfl (lv_at hl 0 rfl) ?_
  refine lv_sipush (v := 264) hx hb dX8_init_14 (by decide) ?_
  refine va_newa (atype := .int) (ty := .int) (N' := 264) (a0 := (264, .inl (fun _ => 0))) hx hb (hts _ mk_383) rfl hK.1 hP hD hS hA (fun _ => rfl) (by decide) (by decide) (by decide) (Nat.le_of_ble_eq_true rfl) (Nat.le_of_ble_eq_true rfl) dX8_init_17 (fun q17 cA H hKa hP hD hS => ?_)
  have ecA : cA = cI := kCI hKa
  rw [ecA] at hP hD
  have hP : va_P D vwCl [(hm, .inr (8, [.int 0, .ref q8, .int 0, .int 0, .long 0, .int 0, .int 0, .int 0, .int 0, .int 0, .int 0, .int 0, .int 0, .int 0, .int 0, .int 0, .null, .null, .null, .null, .null, .null])), (q8, .inl (cI, 600, .inl (fun _ => 0))), (q17, .inl (cI, 264, .inl (fun _ => 0)))] H := hP
  have hD : va_D A [(hm, .inr (8, [.int 0, .ref q8, .int 0, .int 0, .long 0, .int 0, .int 0, .int 0, .int 0, .int 0, .int 0, .int 0, .int 0, .int 0, .int 0, .int 0, .null, .null, .null, .null, .null, .null])), (q8, .inl (cI, 600, .inl (fun _ => 0))), (q17, .inl (cI, 264, .inl (fun _ => 0)))] := hD
  refine W.widen (k := 2) (n := 864) (by omega) (by omega) ?_
  refine va_putF (D := D) (ci := 8) (v := .ref q17) (ty := .array .int) (C := RX8) (T := TX8) (N := 22) hx hb hts in_X8 tyX8 tyX8_ok nmX8 hown hK.1 hP hD hS 0 rfl rfl 16 (by decide) (hts _ mk_204) (fun _ h9 => h9) rfl hin rfl (by decide +kernel) rfl rfl (Nat.le_of_ble_eq_true rfl) dX8_init_19 (fun H locs hP hD hS => ?_)
  have hP : va_P D vwCl [(hm, .inr (8, [.int 0, .ref q8, .int 0, .int 0, .long 0, .int 0, .int 0, .int 0, .int 0, .int 0, .int 0, .int 0, .int 0, .int 0, .int 0, .int 0, .ref q17, .null, .null, .null, .null, .null])), (q8, .inl (cI, 600, .inl (fun _ => 0))), (q17, .inl (cI, 264, .inl (fun _ => 0)))] H := hP
  have hD : va_D A [(hm, .inr (8, [.int 0, .ref q8, .int 0, .int 0, .long 0, .int 0, .int 0, .int 0, .int 0, .int 0, .int 0, .int 0, .int 0, .int 0, .int 0, .int 0, .ref q17, .null, .null, .null, .null, .null])), (q8, .inl (cI, 600, .inl (fun _ => 0))), (q17, .inl (cI, 264, .inl (fun _ => 0)))] := hD
  refine lv_aload_n hx hb dX8_init_22 rfl (lv_at hl 0 rfl) ?_
  refine lv_bipush (v := 16) hx hb dX8_init_23 (by decide) ?_
  refine va_newa (atype := .int) (ty := .int) (N' := 16) (a0 := (16, .inl (fun _ => 0))) hx hb (hts _ mk_383) rfl hK.1 hP hD hS hA (fun _ => rfl) (by decide) (by decide) (by decide) (Nat.le_of_ble_eq_true rfl) (Nat.le_of_ble_eq_true rfl) dX8_init_25 (fun q25 cA H hKa hP hD hS => ?_)
  have ecA : cA = cI := kCI hKa
  rw [ecA] at hP hD
  have hP : va_P D vwCl [(hm, .inr (8, [.int 0, .ref q8, .int 0, .int 0, .long 0, .int 0, .int 0, .int 0, .int 0, .int 0, .int 0, .int 0, .int 0, .int 0, .int 0, .int 0, .ref q17, .null, .null, .null, .null, .null])), (q8, .inl (cI, 600, .inl (fun _ => 0))), (q17, .inl (cI, 264, .inl (fun _ => 0))), (q25, .inl (cI, 16, .inl (fun _ => 0)))] H := hP
  have hD : va_D A [(hm, .inr (8, [.int 0, .ref q8, .int 0, .int 0, .long 0, .int 0, .int 0, .int 0, .int 0, .int 0, .int 0, .int 0, .int 0, .int 0, .int 0, .int 0, .ref q17, .null, .null, .null, .null, .null])), (q8, .inl (cI, 600, .inl (fun _ => 0))), (q17, .inl (cI, 264, .inl (fun _ => 0))), (q25, .inl (cI, 16, .inl (fun _ => 0)))] := hD
  refine W.widen (k := 3) (n := 880) (by omega) (by omega) ?_
  refine va_putF (D := D) (ci := 8) (v := .ref q25) (ty := .array .int) (C := RX8) (T := TX8) (N := 22) hx hb hts in_X8 tyX8 tyX8_ok nmX8 hown hK.1 hP hD hS 0 rfl rfl 17 (by decide) (hts _ mk_270) (fun _ h9 => h9) rfl hin rfl (by decide +kernel) rfl rfl (Nat.le_of_ble_eq_true rfl) dX8_init_27 (fun H locs hP hD hS => ?_)
  have hP : va_P D vwCl [(hm, .inr (8, [.int 0, .ref q8, .int 0, .int 0, .long 0, .int 0, .int 0, .int 0, .int 0, .int 0, .int 0, .int 0, .int 0, .int 0, .int 0, .int 0, .ref q17, .ref q25, .null, .null, .null, .null])), (q8, .inl (cI, 600, .inl (fun _ => 0))), (q17, .inl (cI, 264, .inl (fun _ => 0))), (q25, .inl (cI, 16, .inl (fun _ => 0)))] H := hP
  have hD : va_D A [(hm, .inr (8, [.int 0, .ref q8, .int 0, .int 0, .long 0, .int 0, .int 0, .int 0, .int 0, .int 0, .int 0, .int 0, .int 0, .int 0, .int 0, .int 0, .ref q17, .ref q25, .null, .null, .null, .null])), (q8, .inl (cI, 600, .inl (fun _ => 0))), (q17, .inl (cI, 264, .inl (fun _ => 0))), (q25, .inl (cI, 16, .inl (fun _ => 0)))] := hD
  refine lv_aload_n hx hb dX8_init_30 rfl (lv_at hl 0 rfl) ?_
  refine lv_bipush (v := 16) hx hb dX8_init_31 (by decide) ?_
  refine va_newa (atype := .int) (ty := .int) (N' := 16) (a0 := (16, .inl (fun _ => 0))) hx hb (hts _ mk_383) rfl hK.1 hP hD hS hA (fun _ => rfl) (by decide) (by decide) (by decide) (Nat.le_of_ble_eq_true rfl) (Nat.le_of_ble_eq_true rfl) dX8_init_33 (fun q33 cA H hKa hP hD hS => ?_)
  have ecA : cA = cI := kCI hKa
  rw [ecA] at hP hD
  have hP : va_P D vwCl [(hm, .inr (8, [.int 0, .ref q8, .int 0, .int 0, .long 0, .int 0, .int 0, .int 0, .int 0, .int 0, .int 0, .int 0, .int 0, .int 0, .int 0, .int 0, .ref q17, .ref q25, .null, .null, .null, .null])), (q8, .inl (cI, 600, .inl (fun _ => 0))), (q17, .inl (cI, 264, .inl (fun _ => 0))), (q25, .inl (cI, 16, .inl (fun _ => 0))), (q33, .inl (cI, 16, .inl (fun _ => 0)))] H := hP
  have hD : va_D A [(hm, .inr (8, [.int 0, .ref q8, .int 0, .int 0, .long 0, .int 0, .int 0, .int 0, .int 0, .int 0, .int 0, .int 0, .int 0, .int 0, .int 0, .int 0, .ref q17, .ref q25, .null, .null, .null, .null])), (q8, .inl (cI, 600, .inl (fun _ => 0))), (q17, .inl (cI, 264, .inl (fun _ => 0))), (q25, .inl (cI, 16, .inl (fun _ => 0))), (q33, .inl (cI, 16, .inl (fun _ => 0)))] := hD
  refine W.widen (k := 4) (n := 896) (by omega) (by omega) ?_
  refine va_putF (D := D) (ci := 8) (v := .ref q33) (ty := .array .int) (C := RX8) (T := TX8) (N := 22) hx hb hts in_X8 tyX8 tyX8_ok nmX8 hown hK.1 hP hD hS 0 rfl rfl 18 (by decide) (hts _ mk_232) (fun _ h9 => h9) rfl hin rfl (by decide +kernel) rfl rfl (Nat.le_of_ble_eq_true rfl) dX8_init_35 (fun H locs hP hD hS => ?_)
  have hP : va_P D vwCl [(hm, .inr (8, [.int 0, .ref q8, .int 0, .int 0, .long 0, .int 0, .int 0, .int 0, .int 0, .int 0, .int 0, .int 0, .int 0, .int 0, .int 0, .int 0, .ref q17, .ref q25, .ref q33, .null, .null, .null])), (q8, .inl (cI, 600, .inl (fun _ => 0))), (q17, .inl (cI, 264, .inl (fun _ => 0))), (q25, .inl (cI, 16, .inl (fun _ => 0))), (q33, .inl (cI, 16, .inl (fun _ => 0)))] H := hP
  have hD : va_D A [(hm, .inr (8, [.int 0, .ref q8, .int 0, .int 0, .long 0, .int 0, .int 0, .int 0, .int 0, .int 0, .int 0, .int 0, .int 0, .int 0, .int 0, .int 0, .ref q17, .ref q25, .ref q33, .null, .null, .null])), (q8, .inl (cI, 600, .inl (fun _ => 0))), (q17, .inl (cI, 264, .inl (fun _ => 0))), (q25, .inl (cI, 16, .inl (fun _ => 0))), (q33, .inl (cI, 16, .inl (fun _ => 0)))] := hD
  refine lv_aload_n hx hb dX8_init_38 rfl (lv_at hl 0 rfl) ?_
  refine lv_sipush (v := 256) hx hb dX8_init_39 (by decide) ?_
  refine va_newa (atype := .int) (ty := .int) (N' := 256) (a0 := (256, .inl (fun _ => 0))) hx hb (hts _ mk_383) rfl hK.1 hP hD hS hA (fun _ => rfl) (by decide) (by decide) (by decide) (Nat.le_of_ble_eq_true rfl) (Nat.le_of_ble_eq_true rfl) dX8_init_42 (fun q42 cA H hKa hP hD hS => ?_)
  have ecA : cA = cI := kCI hKa
  rw [ecA] at hP hD
  have hP : va_P D vwCl [(hm, .inr (8, [.int 0, .ref q8, .int 0, .int 0, .long 0, .int 0, .int 0, .int 0, .int 0, .int 0, .int 0, .int 0, .int 0, .int 0, .int 0, .int 0, .ref q17, .ref q25, .ref q33, .null, .null, .null])), (q8, .inl (cI, 600, .inl (fun _ => 0))), (q17, .inl (cI, 264, .inl (fun _ => 0))), (q25, .inl (cI, 16, .inl (fun _ => 0))), (q33, .inl (cI, 16, .inl (fun _ => 0))), (q42, .inl (cI, 256, .inl (fun _ => 0)))] H := hP
  have hD : va_D A [(hm, .inr (8, [.int 0, .ref q8, .int 0, .int 0, .long 0, .int 0, .int 0, .int 0, .int 0, .int 0, .int 0, .int 0, .int 0, .int 0, .int 0, .int 0, .ref q17, .ref q25, .ref q33, .null, .null, .null])), (q8, .inl (cI, 600, .inl (fun _ => 0))), (q17, .inl (cI, 264, .inl (fun _ => 0))), (q25, .inl (cI, 16, .inl (fun _ => 0))), (q33, .inl (cI, 16, .inl (fun _ => 0))), (q42, .inl (cI, 256, .inl (fun _ => 0)))] := hD
  refine W.widen (k := 5) (n := 1152) (by omega) (by omega) ?_
  refine va_putF (D := D) (ci := 8) (v := .ref q42) (ty := .array .int) (C := RX8) (T := TX8) (N := 22) hx hb hts in_X8 tyX8 tyX8_ok nmX8 hown hK.1 hP hD hS 0 rfl rfl 19 (by decide) (hts _ mk_226) (fun _ h9 => h9) rfl hin rfl (by decide +kernel) rfl rfl (Nat.le_of_ble_eq_true rfl) dX8_init_44 (fun H locs hP hD hS => ?_)
  have hP : va_P D vwCl [(hm, .inr (8, [.int 0, .ref q8, .int 0, .int 0, .long 0, .int 0, .int 0, .int 0, .int 0, .int 0, .int 0, .int 0, .int 0, .int 0, .int 0, .int 0, .ref q17, .ref q25, .ref q33, .ref q42, .null, .null])), (q8, .inl (cI, 600, .inl (fun _ => 0))), (q17, .inl (cI, 264, .inl (fun _ => 0))), (q25, .inl (cI, 16, .inl (fun _ => 0))), (q33, .inl (cI, 16, .inl (fun _ => 0))), (q42, .inl (cI, 256, .inl (fun _ => 0)))] H := hP
  have hD : va_D A [(hm, .inr (8, [.int 0, .ref q8, .int 0, .int 0, .long 0, .int 0, .int 0, .int 0, .int 0, .int 0, .int 0, .int 0, .int 0, .int 0, .int 0, .int 0, .ref q17, .ref q25, .ref q33, .ref q42, .null, .null])), (q8, .inl (cI, 600, .inl (fun _ => 0))), (q17, .inl (cI, 264, .inl (fun _ => 0))), (q25, .inl (cI, 16, .inl (fun _ => 0))), (q33, .inl (cI, 16, .inl (fun _ => 0))), (q42, .inl (cI, 256, .inl (fun _ => 0)))] := hD
  refine lv_aload_n hx hb dX8_init_47 rfl (lv_at hl 0 rfl) ?_
  refine lv_sipush (v := 256) hx hb dX8_init_48 (by decide) ?_
  refine va_newa (atype := .int) (ty := .int) (N' := 256) (a0 := (256, .inl (fun _ => 0))) hx hb (hts _ mk_383) rfl hK.1 hP hD hS hA (fun _ => rfl) (by decide) (by decide) (by decide) (Nat.le_of_ble_eq_true rfl) (Nat.le_of_ble_eq_true rfl) dX8_init_51 (fun q51 cA H hKa hP hD hS => ?_)
  have ecA : cA = cI := kCI hKa
  rw [ecA] at hP hD
  have hP : va_P D vwCl [(hm, .inr (8, [.int 0, .ref q8, .int 0, .int 0, .long 0, .int 0, .int 0, .int 0, .int 0, .int 0, .int 0, .int 0, .int 0, .int 0, .int 0, .int 0, .ref q17, .ref q25, .ref q33, .ref q42, .null, .null])), (q8, .inl (cI, 600, .inl (fun _ => 0))), (q17, .inl (cI, 264, .inl (fun _ => 0))), (q25, .inl (cI, 16, .inl (fun _ => 0))), (q33, .inl (cI, 16, .inl (fun _ => 0))), (q42, .inl (cI, 256, .inl (fun _ => 0))), (q51, .inl (cI, 256, .inl (fun _ => 0)))] H := hP
  have hD : va_D A [(hm, .inr (8, [.int 0, .ref q8, .int 0, .int 0, .long 0, .int 0, .int 0, .int 0, .int 0, .int 0, .int 0, .int 0, .int 0, .int 0, .int 0, .int 0, .ref q17, .ref q25, .ref q33, .ref q42, .null, .null])), (q8, .inl (cI, 600, .inl (fun _ => 0))), (q17, .inl (cI, 264, .inl (fun _ => 0))), (q25, .inl (cI, 16, .inl (fun _ => 0))), (q33, .inl (cI, 16, .inl (fun _ => 0))), (q42, .inl (cI, 256, .inl (fun _ => 0))), (q51, .inl (cI, 256, .inl (fun _ => 0)))] := hD
  refine W.widen (k := 6) (n := 1408) (by omega) (by omega) ?_
  refine va_putF (D := D) (ci := 8) (v := .ref q51) (ty := .array .int) (C := RX8) (T := TX8) (N := 22) hx hb hts in_X8 tyX8 tyX8_ok nmX8 hown hK.1 hP hD hS 0 rfl rfl 20 (by decide) (hts _ mk_258) (fun _ h9 => h9) rfl hin rfl (by decide +kernel) rfl rfl (Nat.le_of_ble_eq_true rfl) dX8_init_53 (fun H locs hP hD hS => ?_)
  have hP : va_P D vwCl [(hm, .inr (8, [.int 0, .ref q8, .int 0, .int 0, .long 0, .int 0, .int 0, .int 0, .int 0, .int 0, .int 0, .int 0, .int 0, .int 0, .int 0, .int 0, .ref q17, .ref q25, .ref q33, .ref q42, .ref q51, .null])), (q8, .inl (cI, 600, .inl (fun _ => 0))), (q17, .inl (cI, 264, .inl (fun _ => 0))), (q25, .inl (cI, 16, .inl (fun _ => 0))), (q33, .inl (cI, 16, .inl (fun _ => 0))), (q42, .inl (cI, 256, .inl (fun _ => 0))), (q51, .inl (cI, 256, .inl (fun _ => 0)))] H := hP
  have hD : va_D A [(hm, .inr (8, [.int 0, .ref q8, .int 0, .int 0, .long 0, .int 0, .int 0, .int 0, .int 0, .int 0, .int 0, .int 0, .int 0, .int 0, .int 0, .int 0, .ref q17, .ref q25, .ref q33, .ref q42, .ref q51, .null])), (q8, .inl (cI, 600, .inl (fun _ => 0))), (q17, .inl (cI, 264, .inl (fun _ => 0))), (q25, .inl (cI, 16, .inl (fun _ => 0))), (q33, .inl (cI, 16, .inl (fun _ => 0))), (q42, .inl (cI, 256, .inl (fun _ => 0))), (q51, .inl (cI, 256, .inl (fun _ => 0)))] := hD
  refine lv_aload_n hx hb dX8_init_56 rfl (lv_at hl 0 rfl) ?_
  refine lv_bipush (v := 16) hx hb dX8_init_57 (by decide) ?_
  refine va_newa (atype := .long) (ty := .long) (N' := 16) (a0 := (16, .inr (.inl (fun _ => 0)))) hx hb (hts _ mk_388) rfl hK.1 hP hD hS hA (fun _ => rfl) (by decide) (by decide) (by decide) (Nat.le_of_ble_eq_true rfl) (Nat.le_of_ble_eq_true rfl) dX8_init_59 (fun q59 cA H hKa hP hD hS => ?_)
  have ecA : cA = cJ := kCJ hKa
  rw [ecA] at hP hD
  have hP : va_P D vwCl [(hm, .inr (8, [.int 0, .ref q8, .int 0, .int 0, .long 0, .int 0, .int 0, .int 0, .int 0, .int 0, .int 0, .int 0, .int 0, .int 0, .int 0, .int 0, .ref q17, .ref q25, .ref q33, .ref q42, .ref q51, .null])), (q8, .inl (cI, 600, .inl (fun _ => 0))), (q17, .inl (cI, 264, .inl (fun _ => 0))), (q25, .inl (cI, 16, .inl (fun _ => 0))), (q33, .inl (cI, 16, .inl (fun _ => 0))), (q42, .inl (cI, 256, .inl (fun _ => 0))), (q51, .inl (cI, 256, .inl (fun _ => 0))), (q59, .inl (cJ, 16, .inr (.inl (fun _ => 0))))] H := hP
  have hD : va_D A [(hm, .inr (8, [.int 0, .ref q8, .int 0, .int 0, .long 0, .int 0, .int 0, .int 0, .int 0, .int 0, .int 0, .int 0, .int 0, .int 0, .int 0, .int 0, .ref q17, .ref q25, .ref q33, .ref q42, .ref q51, .null])), (q8, .inl (cI, 600, .inl (fun _ => 0))), (q17, .inl (cI, 264, .inl (fun _ => 0))), (q25, .inl (cI, 16, .inl (fun _ => 0))), (q33, .inl (cI, 16, .inl (fun _ => 0))), (q42, .inl (cI, 256, .inl (fun _ => 0))), (q51, .inl (cI, 256, .inl (fun _ => 0))), (q59, .inl (cJ, 16, .inr (.inl (fun _ => 0))))] := hD
  refine W.widen (k := 7) (n := 1424) (by omega) (by omega) ?_
  refine va_putF (D := D) (ci := 8) (v := .ref q59) (ty := .array .long) (C := RX8) (T := TX8) (N := 22) hx hb hts in_X8 tyX8 tyX8_ok nmX8 hown hK.1 hP hD hS 0 rfl rfl 21 (by decide) (hts _ mk_242) (fun _ h9 => h9) rfl hin rfl (by decide +kernel) rfl rfl (Nat.le_of_ble_eq_true rfl) dX8_init_61 (fun H locs hP hD hS => ?_)
  have hP : va_P D vwCl [(hm, .inr (8, [.int 0, .ref q8, .int 0, .int 0, .long 0, .int 0, .int 0, .int 0, .int 0, .int 0, .int 0, .int 0, .int 0, .int 0, .int 0, .int 0, .ref q17, .ref q25, .ref q33, .ref q42, .ref q51, .ref q59])), (q8, .inl (cI, 600, .inl (fun _ => 0))), (q17, .inl (cI, 264, .inl (fun _ => 0))), (q25, .inl (cI, 16, .inl (fun _ => 0))), (q33, .inl (cI, 16, .inl (fun _ => 0))), (q42, .inl (cI, 256, .inl (fun _ => 0))), (q51, .inl (cI, 256, .inl (fun _ => 0))), (q59, .inl (cJ, 16, .inr (.inl (fun _ => 0))))] H := hP
  have hD : va_D A [(hm, .inr (8, [.int 0, .ref q8, .int 0, .int 0, .long 0, .int 0, .int 0, .int 0, .int 0, .int 0, .int 0, .int 0, .int 0, .int 0, .int 0, .int 0, .ref q17, .ref q25, .ref q33, .ref q42, .ref q51, .ref q59])), (q8, .inl (cI, 600, .inl (fun _ => 0))), (q17, .inl (cI, 264, .inl (fun _ => 0))), (q25, .inl (cI, 16, .inl (fun _ => 0))), (q33, .inl (cI, 16, .inl (fun _ => 0))), (q42, .inl (cI, 256, .inl (fun _ => 0))), (q51, .inl (cI, 256, .inl (fun _ => 0))), (q59, .inl (cJ, 16, .inr (.inl (fun _ => 0))))] := hD
  exact W.vret hx hb hr (fun t9 ht9 hW9 => ⟨⟨(q8, q17, q25, q33, q42, q51, q59), rfl, trivial, by rw [ht9]; exact hP, hD⟩, hS.F ht9⟩) hS.2.2 dX8_init_64
