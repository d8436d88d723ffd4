abbrev kw_X7_splitOf : List Cond := Cond.code yX7_splitOf cX7_splitOf 2 (some .int) :: kW
set_option maxHeartbeats 4000000 in
set_option maxRecDepth 100000 in
theorem c_X7_splitOf (l : Launch) (D : va_G) (cI cJ cZ : ClassId) (rg : Int32) (pp : Int32) (brg : kB rg 128 255) (bp : kB pp 0 255) (hpz : Nat) : Met l yX7_splitOf kw_X7_splitOf ({ frames := 0, cells := 0, slots := 0, locals := 0 }) (va_Pc [.int rg, .int pp] (fun U => U.heap.size = hpz ∧ va_P D vwCl [] U.heap ∧ kK D cI cJ cZ U ∧ va_D (fun _ => True) [])) (va_Qi (fun (r : Int32) (u : Unit) => (r.toInt = 1 + (rg.toInt - 1) * pp.toInt / 256) ∧ (r.toInt < rg.toInt) ∧ (kB r 1 254)) (fun (u : Unit) (t : State) => va_P D vwCl [] t.heap ∧ va_D (va_A [] hpz) []) (va_A [] hpz)) 0 0 (va_A [] hpz) := by
  refine Met.ofW (cc := cX7_splitOf) (maxL := 2) (ret := (some .int)) (by decide) rfl ?_
  intro p e s m args below meth c s₁ B hml hv
  obtain ⟨rfl, hsz, hP, hK, hD0⟩ := hv
  have hx := B.exec
  have hb := B.bytes
  have hr := B.returns
  have hts := fun (w : Cond) (h : w ∈ kW) => atoms_spec (ws := kw_X7_splitOf) B.pre w (List.mem_cons_of_mem _ h)
  have hown : s.vm.findClass RX7 = some m.cls := findClass_of_methodNamed B.named
  have hlocks := B.notSynchronized
  subst hsz
  have hD := hD0.self (sz := s.heap.size)
  generalize hAe : va_A [] s.heap.size = A at hD ⊢
  have hA : ∀ q : Nat, s.heap.size ≤ q → A q := fun q h => by rw [← hAe]; exact Or.inr h
  have hS : va_S A s.heap s.heap [] := va_S.rf
  have hP : va_P D vwCl [] s.heap := hP
  have hl := lv_entry ([.int rg, .int pp]) (n := 2) (Nat.le_of_ble_eq_true rfl)
  rw [lg_entry_eq]
  generalize (lg_sl ([.int rg, .int pp]) ++ List.replicate (2 - (lg_sl ([.int rg, .int pp])).length) Slot.unset).toArray = ls at hl ⊢
  have hl : lv_has ls 2 [(0, .int rg), (1, .int pp)] := hl
  refine lv_iconst (v := 1) hx hb dX7_splitOf_0 (by decide) ?_
  refine lv_iload_n hx hb dX7_splitOf_1 rfl (lv_at hl 0 rfl) ?_
  refine lv_iconst (v := 1) hx hb dX7_splitOf_2 (by decide) ?_
  refine lv_isub hx hb dX7_splitOf_3 ?_
  refine lv_topi (fun v3 e3 => ?_)
  have b3 : kB v3 127 254 := kB_eq e3 (kB_sub brg kc_1 (by decide))
  refine lv_iload_n hx hb dX7_splitOf_4 rfl (lv_at hl 1 rfl) ?_
  refine lv_imul hx hb dX7_splitOf_5 ?_
  refine lv_topi (fun v5 e5 => ?_)
  have b5 : kB v5 0 64770 := kB_eq e5 (kB_mul b3 bp (by decide))
  refine lv_bipush (v := 8) hx hb dX7_splitOf_6 (by decide) ?_
  refine lv_ishr hx hb dX7_splitOf_8 ?_
  refine lv_topi (fun v8 e8 => ?_)
  have b8 : kB v8 0 253 := kB_eq e8 (kB_shr 8 (by decide) b5 (by decide))
  refine lv_iadd hx hb dX7_splitOf_9 ?_
  refine lv_topi (fun v9 e9 => ?_)
  have b9 : kB v9 1 254 := kB_eq e9 (kB_add kc_1 b8 (by decide))
  have X10 : v9.toInt = 1 + (rg.toInt - 1) * pp.toInt / 256 := by rw [e9, e8, e5, e3]; exact ksp_toInt brg bp
  have pf_l : v9.toInt < rg.toInt := (by rw [X10]; exact (ksp_lt brg.1 brg.2 bp.1 bp.2).2)
  have pf_b : kB v9 1 254 := ⟨by rw [X10]; exact (ksp_lt brg.1 brg.2 bp.1 bp.2).1, by rw [X10]; have := (ksp_lt brg.1 brg.2 bp.1 bp.2).2; have := brg.2; omega⟩
  exact W.iret (v := v9) hx hb hr (fun t9 ht9 hW9 => ⟨⟨v9, (), rfl, ⟨X10, pf_l, pf_b⟩, by rw [ht9]; exact hP, hD⟩, hS.F ht9⟩) hS.2.2 dX7_splitOf_10
abbrev kw_X3_size : List Cond := Cond.code yX3_size cX3_size 1 (some .int) :: kW
set_option maxHeartbeats 4000000 in
set_option maxRecDepth 100000 in
theorem c_X3_size (l : Launch) (D : va_G) (cI cJ cZ : ClassId) (ho hh : Nat) (sz : Int32) (f : Nat → Int32) (hpz : Nat) : Met l yX3_size kw_X3_size ({ frames := 0, cells := 0, slots := 0, locals := 0 }) (va_Pc [.ref ho] (fun U => U.heap.size = hpz ∧ va_P D vwCl [(ho, .inr (3, [.ref hh, .int sz])), (hh, .inl (cI, 600, .inl f))] U.heap ∧ kK D cI cJ cZ U ∧ va_D (fun _ => True) [(ho, .inr (3, [.ref hh, .int sz])), (hh, .inl (cI, 600, .inl f))])) (va_Qi (fun (r : Int32) (u : Unit) => (r = sz)) (fun (u : Unit) (t : State) => va_P D vwCl [(ho, .inr (3, [.ref hh, .int sz])), (hh, .inl (cI, 600, .inl f))] t.heap ∧ va_D (va_A [(ho, .inr (3, [.ref hh, .int sz])), (hh, .inl (cI, 600, .inl f))] hpz) [(ho, .inr (3, [.ref hh, .int sz])), (hh, .inl (cI, 600, .inl f))]) (va_A [(ho, .inr (3, [.ref hh, .int sz])), (hh, .inl (cI, 600, .inl f))] hpz)) 0 0 (va_A [(ho, .inr (3, [.ref hh, .int sz])), (hh, .inl (cI, 600, .inl f))] hpz) := by
  refine Met.ofW (cc := cX3_size) (maxL := 1) (ret := (some .int)) (by decide) rfl ?_
  intro p e s m args below meth c s₁ B hml hv
  obtain ⟨rfl, hsz, hP, hK, hD0⟩ := hv
  have hx := B.exec
  have hb := B.bytes
  have hr := B.returns
  have hts := fun (w : Cond) (h : w ∈ kW) => atoms_spec (ws := kw_X3_size) B.pre w (List.mem_cons_of_mem _ h)
  have hown : s.vm.findClass RX3 = some m.cls := findClass_of_methodNamed B.named
  have hlocks := B.notSynchronized
  subst hsz
  have hD := hD0.self (sz := s.heap.size)
  generalize hAe : va_A [(ho, .inr (3, [.ref hh, .int sz])), (hh, .inl (cI, 600, .inl f))] s.heap.size = A at hD ⊢
  have hA : ∀ q : Nat, s.heap.size ≤ q → A q := fun q h => by rw [← hAe]; exact Or.inr h
  have hS : va_S A s.heap s.heap [] := va_S.rf
  have hP : va_P D vwCl [(ho, .inr (3, [.ref hh, .int sz])), (hh, .inl (cI, 600, .inl f))] s.heap := hP
  have hl := lv_entry ([.ref ho]) (n := 1) (Nat.le_of_ble_eq_true rfl)
  rw [lg_entry_eq]
  generalize (lg_sl ([.ref ho]) ++ List.replicate (1 - (lg_sl ([.ref ho])).length) Slot.unset).toArray = ls at hl ⊢
  have hl : lv_has ls 1 [(0, .ref ho)] := hl
  refine lv_aload_n hx hb dX3_size_0 rfl (lv_at hl 0 rfl) ?_
  refine va_get (D := D) (ci := 3) (v := .int sz) (C := RX3) (T := TX3) (N := 2) hx hb hts in_X3 hown hK.1 hP 0 rfl rfl 1 (by decide) (hts _ mk_0) (fun _ h9 => h9) rfl dX3_size_1 ?_
  exact W.iret (v := sz) hx hb hr (fun t9 ht9 hW9 => ⟨⟨sz, (), rfl, rfl, by rw [ht9]; exact hP, hD⟩, hS.F ht9⟩) hS.2.2 dX3_size_4
abbrev kw_X3_clear : List Cond := Cond.code yX3_clear cX3_clear 1 none :: kW
set_option maxHeartbeats 4000000 in
set_option maxRecDepth 100000 in
theorem c_X3_clear (l : Launch) (D : va_G) (cI cJ cZ : ClassId) (ho hh : Nat) (sz : Int32) (f : Nat → Int32) (hpz : Nat) : Met l yX3_clear kw_X3_clear ({ frames := 0, cells := 0, slots := 0, locals := 0 }) (va_Pc [.ref ho] (fun U => U.heap.size = hpz ∧ va_P D vwCl [(ho, .inr (3, [.ref hh, .int sz])), (hh, .inl (cI, 600, .inl f))] U.heap ∧ kK D cI cJ cZ U ∧ va_D (fun _ => True) [(ho, .inr (3, [.ref hh, .int sz])), (hh, .inl (cI, 600, .inl f))])) (va_Qv (fun (u : Unit) => True) (fun (u : Unit) (t : State) => va_P D vwCl [(ho, .inr (3, [.ref hh, .int 0])), (hh, .inl (cI, 600, .inl f))] t.heap ∧ va_D (va_A [(ho, .inr (3, [.ref hh, .int sz])), (hh, .inl (cI, 600, .inl f))] hpz) [(ho, .inr (3, [.ref hh, .int 0])), (hh, .inl (cI, 600, .inl f))]) (va_A [(ho, .inr (3, [.ref hh, .int sz])), (hh, .inl (cI, 600, .inl f))] hpz)) 0 0 (va_A [(ho, .inr (3, [.ref hh, .int sz])), (hh, .inl (cI, 600, .inl f))] hpz) := by
  refine Met.ofW (cc := cX3_clear) (maxL := 1) (ret := none) (by decide) rfl ?_
  intro p e s m args below meth c s₁ B hml hv
  obtain ⟨rfl, hsz, hP, hK, hD0⟩ := hv
  have hx := B.exec
  have hb := B.bytes
  have hr := B.returns
  have hts := fun (w : Cond) (h : w ∈ kW) => atoms_spec (ws := kw_X3_clear) B.pre w (List.mem_cons_of_mem _ h)
  have hown : s.vm.findClass RX3 = some m.cls := findClass_of_methodNamed B.named
  have hlocks := B.notSynchronized
  subst hsz
  have hD := hD0.self (sz := s.heap.size)
  generalize hAe : va_A [(ho, .inr (3, [.ref hh, .int sz])), (hh, .inl (cI, 600, .inl f))] s.heap.size = A at hD ⊢
  have hA : ∀ q : Nat, s.heap.size ≤ q → A q := fun q h => by rw [← hAe]; exact Or.inr h
  have hS : va_S A s.heap s.heap [] := va_S.rf
  have hP : va_P D vwCl [(ho, .inr (3, [.ref hh, .int sz])), (hh, .inl (cI, 600, .inl f))] s.heap := hP
  have hl := lv_entry ([.ref ho]) (n := 1) (Nat.le_of_ble_eq_true rfl)
  rw [lg_entry_eq]
  generalize (lg_sl ([.ref ho]) ++ List.replicate (1 - (lg_sl ([.ref ho])).length) Slot.unset).toArray = ls at hl ⊢
  have hl : lv_has ls 1 [(0, .ref ho)] := hl
  refine lv_aload_n hx hb dX3_clear_0 rfl (lv_at hl 0 rfl) ?_
  refine lv_iconst (v := 0) hx hb dX3_clear_1 (by decide) ?_
  refine va_put (D := D) (ci := 3) (v := .int 0) (ty := .int) (C := RX3) (T := TX3) (N := 2) hx hb hts in_X3 tyX3 tyX3_ok nmX3 hown hK.1 hP hD hS 0 rfl rfl 1 (by decide) (hts _ mk_0) (fun _ h9 => h9) rfl (by decide +kernel) rfl rfl (Nat.le_of_ble_eq_true rfl) dX3_clear_2 (fun H locs hP hD hS => ?_)
  have hP : va_P D vwCl [(ho, .inr (3, [.ref hh, .int 0])), (hh, .inl (cI, 600, .inl f))] H := hP
  have hD : va_D A [(ho, .inr (3, [.ref hh, .int 0])), (hh, .inl (cI, 600, .inl f))] := hD
  exact W.vret hx hb hr (fun t9 ht9 hW9 => ⟨⟨(), rfl, trivial, by rw [ht9]; exact hP, hD⟩, hS.F ht9⟩) hS.2.2 dX3_clear_5
abbrev kw_X3_append : List Cond := Cond.code yX3_append cX3_append 2 none :: kW
set_option maxHeartbeats 4000000 in
set_option maxRecDepth 100000 in
theorem c_X3_append (l : Launch) (D : va_G) (cI cJ cZ : ClassId) (ho hh : Nat) (sz : Int32) (f : Nat → Int32) (k : Int32) (bsz : kB sz 0 600) (hpz : Nat) : Met l yX3_append kw_X3_append ({ frames := 0, cells := 0, slots := 0, locals := 0 }) (va_Pc [.ref ho, .int k] (fun U => U.heap.size = hpz ∧ va_P D vwCl [(ho, .inr (3, [.ref hh, .int sz])), (hh, .inl (cI, 600, .inl f))] U.heap ∧ kK D cI cJ cZ U ∧ va_D (fun _ => True) [(ho, .inr (3, [.ref hh, .int sz])), (hh, .inl (cI, 600, .inl f))])) (va_Qv (fun (u : Int32 × (Nat → Int32)) => (kB u.1 0 600) ∧ (u.1.toInt = if sz.toInt < 600 then sz.toInt + 1 else sz.toInt) ∧ (sz.toInt < 600 → u.2 = upd f sz.toNatClampNeg (k &&& 255))) (fun (u : Int32 × (Nat → Int32)) (t : State) => va_P D vwCl [(ho, .inr (3, [.ref hh, .int u.1])), (hh, .inl (cI, 600, .inl u.2))] t.heap ∧ va_D (va_A [(ho, .inr (3, [.ref hh, .int sz])), (hh, .inl (cI, 600, .inl f))] hpz) [(ho, .inr (3, [.ref hh, .int u.1])), (hh, .inl (cI, 600, .inl u.2))]) (va_A [(ho, .inr (3, [.ref hh, .int sz])), (hh, .inl (cI, 600, .inl f))] hpz)) 0 0 (va_A [(ho, .inr (3, [.ref hh, .int sz])), (hh, .inl (cI, 600, .inl f))] hpz) := by
  refine Met.ofW (cc := cX3_append) (maxL := 2) (ret := none) (by decide) rfl ?_
  intro p e s m args below meth c s₁ B hml hv
  obtain ⟨rfl, hsz, hP, hK, hD0⟩ := hv
  have hx := B.exec
  have hb := B.bytes
  have hr := B.returns
  have hts := fun (w : Cond) (h : w ∈ kW) => atoms_spec (ws := kw_X3_append) B.pre w (List.mem_cons_of_mem _ h)
  have hown : s.vm.findClass RX3 = some m.cls := findClass_of_methodNamed B.named
  have hlocks := B.notSynchronized
  subst hsz
  have hD := hD0.self (sz := s.heap.size)
  generalize hAe : va_A [(ho, .inr (3, [.ref hh, .int sz])), (hh, .inl (cI, 600, .inl f))] s.heap.size = A at hD ⊢
  have hA : ∀ q : Nat, s.heap.size ≤ q → A q := fun q h => by rw [← hAe]; exact Or.inr h
  have hS : va_S A s.heap s.heap [] := va_S.rf
  have hP : va_P D vwCl [(ho, .inr (3, [.ref hh, .int sz])), (hh, .inl (cI, 600, .inl f))] s.heap := hP
  have hl := lv_entry ([.ref ho, .int k]) (n := 2) (Nat.le_of_ble_eq_true rfl)
  rw [lg_entry_eq]
  generalize (lg_sl ([.ref ho, .int k]) ++ List.replicate (2 - (lg_sl ([.ref ho, .int k])).length) Slot.unset).toArray = ls at hl ⊢
  have hl : lv_has ls 2 [(0, .ref ho), (1, .int k)] := hl
  refine lv_aload_n hx hb dX3_append_0 rfl (lv_at hl 0 rfl) ?_
  refine va_get (D := D) (ci := 3) (v := .int sz) (C := RX3) (T := TX3) (N := 2) hx hb hts in_X3 hown hK.1 hP 0 rfl rfl 1 (by decide) (hts _ mk_0) (fun _ h9 => h9) rfl dX3_append_1 ?_
  refine lv_sipush (v := 600) hx hb dX3_append_4 (by decide) ?_
  refine lv_icmp_ge (tgt := 34) hx hb dX3_append_7 (by decide) (fun c7 => ?_) (fun c7 => ?_)
  · have c7y : kB sz 600 600 := kB_le_r kc_600 bsz c7 (by decide)
    have K7 : ¬ sz.toInt < 600 := by have := c7y.1; omega
    have pf_b : kB sz 0 600 := (kB_w c7y (by decide) (by decide))
    have pf_x : sz.toInt = if sz.toInt < 600 then sz.toInt + 1 else sz.toInt := (by rw [if_neg K7])
    have pf_y : sz.toInt < 600 → f = upd f sz.toNatClampNeg (k &&& 255) := (fun h => absurd h K7)
    exact W.vret hx hb hr (fun t9 ht9 hW9 => ⟨⟨(sz, f), rfl, ⟨pf_b, pf_x, pf_y⟩, by rw [ht9]; exact hP, hD⟩, hS.F ht9⟩) hS.2.2 dX3_append_34
  · have c7n : sz < 600 := kN_le c7
    have c7nx : kB sz 0 599 := kB_lt_l bsz kc_600 c7n (by decide)
    have K7 : sz.toInt < 600 := by have := c7nx.2; omega
    refine lv_aload_n hx hb dX3_append_10 rfl (lv_at hl 0 rfl) ?_
    refine va_get (D := D) (ci := 3) (v := .ref hh) (C := RX3) (T := TX3) (N := 2) hx hb hts in_X3 hown hK.1 hP 0 rfl rfl 0 (by decide) (hts _ mk_1) (fun _ h9 => h9) rfl dX3_append_11 ?_
    refine lv_aload_n hx hb dX3_append_14 rfl (lv_at hl 0 rfl) ?_
    refine va_get (D := D) (ci := 3) (v := .int sz) (C := RX3) (T := TX3) (N := 2) hx hb hts in_X3 hown hK.1 hP 0 rfl rfl 1 (by decide) (hts _ mk_0) (fun _ h9 => h9) rfl dX3_append_15 ?_
    refine lv_iload_n hx hb dX3_append_18 rfl (lv_at hl 1 rfl) ?_
    refine lv_sipush (v := 255) hx hb dX3_append_19 (by decide) ?_
    refine lv_iand hx hb dX3_append_22 ?_
    refine lv_topi (fun v22 e22 => ?_)
    have b22 : kB v22 0 255 := kB_eq e22 (kB_and 8 (by decide) (by decide))
    refine va_iast hx hb hK.1 hP hD hS 1 0 rfl rfl (kB_in c7nx (by decide)) dX3_append_23 (fun H locs hP hD hS => ?_)
    have hP : va_P D vwCl [(ho, .inr (3, [.ref hh, .int sz])), (hh, .inl (cI, 600, .inl (upd f sz.toNatClampNeg v22)))] H := hP
    have hD : va_D A [(ho, .inr (3, [.ref hh, .int sz])), (hh, .inl (cI, 600, .inl (upd f sz.toNatClampNeg v22)))] := hD
    generalize hf23 : upd f sz.toNatClampNeg v22 = f23 at hP hD
    refine lv_aload_n hx hb dX3_append_24 rfl (lv_at hl 0 rfl) ?_
    refine lv_dup hx hb dX3_append_25 rfl ?_
    refine va_get (D := D) (ci := 3) (v := .int sz) (C := RX3) (T := TX3) (N := 2) hx hb hts in_X3 hown hK.1 hP 0 rfl rfl 1 (by decide) (hts _ mk_0) (fun _ h9 => h9) rfl dX3_append_26 ?_
    refine lv_iconst (v := 1) hx hb dX3_append_29 (by decide) ?_
    refine lv_iadd hx hb dX3_append_30 ?_
    refine lv_topi (fun v30 e30 => ?_)
    have b30 : kB v30 1 600 := kB_eq e30 (kB_add c7nx kc_1 (by decide))
    have K30 : v30.toInt = sz.toInt + 1 := by rw [e30, kI_add (by rw [show (1 : Int32).toInt = 1 from by decide]; have := bsz.1; omega) (by rw [show (1 : Int32).toInt = 1 from by decide]; omega), show (1 : Int32).toInt = 1 from by decide]
    refine va_put (D := D) (ci := 3) (v := .int v30) (ty := .int) (C := RX3) (T := TX3) (N := 2) hx hb hts in_X3 tyX3 tyX3_ok nmX3 hown hK.1 hP hD hS 0 rfl rfl 1 (by decide) (hts _ mk_0) (fun _ h9 => h9) rfl (by decide +kernel) rfl rfl (Nat.le_of_ble_eq_true rfl) dX3_append_31 (fun H locs hP hD hS => ?_)
    have hP : va_P D vwCl [(ho, .inr (3, [.ref hh, .int v30])), (hh, .inl (cI, 600, .inl f23))] H := hP
    have hD : va_D A [(ho, .inr (3, [.ref hh, .int v30])), (hh, .inl (cI, 600, .inl f23))] := hD
    have pf_b : kB v30 0 600 := (kB_w b30 (by decide) (by decide))
    have pf_x : v30.toInt = if sz.toInt < 600 then sz.toInt + 1 else sz.toInt := (by rw [if_pos K7]; exact K30)
    have pf_y : sz.toInt < 600 → f23 = upd f sz.toNatClampNeg (k &&& 255) := (fun _ => by rw [← hf23, e22])
    exact W.vret hx hb hr (fun t9 ht9 hW9 => ⟨⟨(v30, f23), rfl, ⟨pf_b, pf_x, pf_y⟩, by rw [ht9]; exact hP, hD⟩, hS.F ht9⟩) hS.2.2 dX3_append_34
abbrev kw_X3_at : List Cond := Cond.code yX3_at cX3_at 2 (some .int) :: kW
set_option maxHeartbeats 4000000 in
set_option maxRecDepth 100000 in
theorem c_X3_at (l : Launch) (D : va_G) (cI cJ cZ : ClassId) (ho hh : Nat) (sz : Int32) (f : Nat → Int32) (k : Int32) (bsz : kB sz 0 600) (hpz : Nat) : Met l yX3_at kw_X3_at ({ frames := 0, cells := 0, slots := 0, locals := 0 }) (va_Pc [.ref ho, .int k] (fun U => U.heap.size = hpz ∧ va_P D vwCl [(ho, .inr (3, [.ref hh, .int sz])), (hh, .inl (cI, 600, .inl f))] U.heap ∧ kK D cI cJ cZ U ∧ va_D (fun _ => True) [(ho, .inr (3, [.ref hh, .int sz])), (hh, .inl (cI, 600, .inl f))])) (va_Qi (fun (r : Int32) (u : Unit) => (r = if 0 ≤ k.toInt ∧ k.toInt < sz.toInt then f k.toNatClampNeg else 0)) (fun (u : Unit) (t : State) => va_P D vwCl [(ho, .inr (3, [.ref hh, .int sz])), (hh, .inl (cI, 600, .inl f))] t.heap ∧ va_D (va_A [(ho, .inr (3, [.ref hh, .int sz])), (hh, .inl (cI, 600, .inl f))] hpz) [(ho, .inr (3, [.ref hh, .int sz])), (hh, .inl (cI, 600, .inl f))]) (va_A [(ho, .inr (3, [.ref hh, .int sz])), (hh, .inl (cI, 600, .inl f))] hpz)) 0 0 (va_A [(ho, .inr (3, [.ref hh, .int sz])), (hh, .inl (cI, 600, .inl f))] hpz) := by
  refine Met.ofW (cc := cX3_at) (maxL := 2) (ret := (some .int)) (by decide) rfl ?_
  intro p e s m args below meth c s₁ B hml hv
  obtain ⟨rfl, hsz, hP, hK, hD0⟩ := hv
  have hx := B.exec
  have hb := B.bytes
  have hr := B.returns
  have hts := fun (w : Cond) (h : w ∈ kW) => atoms_spec (ws := kw_X3_at) B.pre w (List.mem_cons_of_mem _ h)
  have hown : s.vm.findClass RX3 = some m.cls := findClass_of_methodNamed B.named
  have hlocks := B.notSynchronized
  subst hsz
  have hD := hD0.self (sz := s.heap.size)
  generalize hAe : va_A [(ho, .inr (3, [.ref hh, .int sz])), (hh, .inl (cI, 600, .inl f))] s.heap.size = A at hD ⊢
  have hA : ∀ q : Nat, s.heap.size ≤ q → A q := fun q h => by rw [← hAe]; exact Or.inr h
  have hS : va_S A s.heap s.heap [] := va_S.rf
  have hP : va_P D vwCl [(ho, .inr (3, [.ref hh, .int sz])), (hh, .inl (cI, 600, .inl f))] s.heap := hP
  have hl := lv_entry ([.ref ho, .int k]) (n := 2) (Nat.le_of_ble_eq_true rfl)
  rw [lg_entry_eq]
  generalize (lg_sl ([.ref ho, .int k]) ++ List.replicate (2 - (lg_sl ([.ref ho, .int k])).length) Slot.unset).toArray = ls at hl ⊢
  have hl : lv_has ls 2 [(0, .ref ho), (1, .int k)] := hl
  refine lv_iload_n hx hb dX3_at_0 rfl (lv_at hl 1 rfl) ?_
  refine lv_if_lt (tgt := 21) hx hb dX3_at_1 (by decide) (fun c1 => ?_) (fun c1 => ?_)
  · have c1a := kB_all k
    have c1x : kB k (-2147483648) (-1) := kB_lt_l c1a kc_0 c1 (by decide)
    have K1 : ¬ (0 ≤ k.toInt ∧ k.toInt < sz.toInt) := fun h => by have := Int32.lt_iff_toInt_lt.mp c1; rw [show (0 : Int32).toInt = 0 from by decide] at this; omega
    refine lv_iconst (v := 0) hx hb dX3_at_21 (by decide) ?_
    have pf_x : (0 : Int32) = if 0 ≤ k.toInt ∧ k.toInt < sz.toInt then f k.toNatClampNeg else 0 := (by rw [if_neg K1])
    exact W.iret (v := 0) hx hb hr (fun t9 ht9 hW9 => ⟨⟨0, (), rfl, pf_x, by rw [ht9]; exact hP, hD⟩, hS.F ht9⟩) hS.2.2 dX3_at_22
  · have c1n : 0 ≤ k := kN_lt c1
    have c1nb := kB_all k
    have c1ny : kB k 0 2147483647 := kB_le_r kc_0 c1nb c1n (by decide)
    refine lv_iload_n hx hb dX3_at_4 rfl (lv_at hl 1 rfl) ?_
    refine lv_aload_n hx hb dX3_at_5 rfl (lv_at hl 0 rfl) ?_
    refine va_get (D := D) (ci := 3) (v := .int sz) (C := RX3) (T := TX3) (N := 2) hx hb hts in_X3 hown hK.1 hP 0 rfl rfl 1 (by decide) (hts _ mk_0) (fun _ h9 => h9) rfl dX3_at_6 ?_
    refine lv_icmp_ge (tgt := 21) hx hb dX3_at_9 (by decide) (fun c9 => ?_) (fun c9 => ?_)
    · have K1 : ¬ (0 ≤ k.toInt ∧ k.toInt < sz.toInt) := fun h => by have := Int32.le_iff_toInt_le.mp c9; omega
      refine lv_iconst (v := 0) hx hb dX3_at_21 (by decide) ?_
      have pf_x : (0 : Int32) = if 0 ≤ k.toInt ∧ k.toInt < sz.toInt then f k.toNatClampNeg else 0 := (by rw [if_neg K1])
      exact W.iret (v := 0) hx hb hr (fun t9 ht9 hW9 => ⟨⟨0, (), rfl, pf_x, by rw [ht9]; exact hP, hD⟩, hS.F ht9⟩) hS.2.2 dX3_at_22
    · have c9n : k < sz := kN_le c9
      have c9nx : kB k 0 599 := kB_lt_l c1ny bsz c9n (by decide)
      have c9ny : kB sz 1 600 := kB_lt_r c1ny bsz c9n (by decide)
      have K1 : (0 ≤ k.toInt ∧ k.toInt < sz.toInt) := ⟨c1ny.1, Int32.lt_iff_toInt_lt.mp c9n⟩
      refine lv_aload_n hx hb dX3_at_12 rfl (lv_at hl 0 rfl) ?_
      refine va_get (D := D) (ci := 3) (v := .ref hh) (C := RX3) (T := TX3) (N := 2) hx hb hts in_X3 hown hK.1 hP 0 rfl rfl 0 (by decide) (hts _ mk_1) (fun _ h9 => h9) rfl dX3_at_13 ?_
      refine lv_iload_n hx hb dX3_at_16 rfl (lv_at hl 1 rfl) ?_
      refine va_iald hx hb hK.1 hP 1 0 rfl rfl (kB_in c9nx (by decide)) dX3_at_17 ?_
      refine lv_topi (fun v17 e17 => ?_)
      refine lv_goto (tgt := 22) hx hb dX3_at_18 (by decide) ?_
      have pf_x : v17 = if 0 ≤ k.toInt ∧ k.toInt < sz.toInt then f k.toNatClampNeg else 0 := (by rw [if_pos K1, e17])
      exact W.iret (v := v17) hx hb hr (fun t9 ht9 hW9 => ⟨⟨v17, (), rfl, pf_x, by rw [ht9]; exact hP, hD⟩, hS.F ht9⟩) hS.2.2 dX3_at_22
abbrev kw_X3_addOneToLast : List Cond := Cond.code yX3_addOneToLast cX3_addOneToLast 2 none :: kW
set_option maxHeartbeats 4000000 in
set_option maxRecDepth 100000 in
theorem lp_X3_addOneToLast_7 {p : Program} {l : Launch} {e : Env} {s : State} {m : MethodId} {args : Array Value} {below : List Frame} {meth : Method} {c : Code} {A : Nat → Prop} (D : va_G) (cI cJ cZ : ClassId) (ho hh : Nat) (sz : Int32) (f : Nat → Int32) (bsz : kB sz 0 600) (hx : p.tables.exec = Jvm.exec) (hb : c.code = cX3_addOneToLast) (hr : meth.sig.returnType = none) (hml : c.maxLocals = 2) (hown : s.vm.findClass RX3 = some m.cls) (hts : ∀ w ∈ kW, w.before args s = true) (hlocks : meth.locks = false) (hK : kK D cI cJ cZ s) (hA : ∀ q : Nat, s.heap.size ≤ q → A q) : ∀ n : Nat, ∀ (x1 : Int32) (f2 : Nat → Int32), (x1.toInt + 1).toNat < n → (kB x1 (-1) 599) → (wCar (x1.toInt + 1).toNat f2 = wCar sz.toInt.toNat f) → ∀ (H : Heap) (locs : List Loc) (ls : Array Slot), va_P D vwCl [(ho, .inr (3, [.ref hh, .int sz])), (hh, .inl (cI, 600, .inl f2))] H → va_D A [(ho, .inr (3, [.ref hh, .int sz])), (hh, .inl (cI, 600, .inl f2))] → va_S A s.heap H locs → lv_has ls 2 [(0, .ref ho), (1, .int x1)] → W p l e (headSpec kw_X3_addOneToLast ({ frames := 0, cells := 0, slots := 0, locals := 0 })).room s m args below meth c H locs 0 0 (MQ below (va_Qv (fun (u : (Nat → Int32)) => (u = wCar sz.toInt.toNat f)) (fun (u : (Nat → Int32)) (t : State) => va_P D vwCl [(ho, .inr (3, [.ref hh, .int sz])), (hh, .inl (cI, 600, .inl u))] t.heap ∧ va_D A [(ho, .inr (3, [.ref hh, .int sz])), (hh, .inl (cI, 600, .inl u))]) A) args s 0 0 A) (F0 m 7 ls []) := by
  intro n
  induction n with
  | zero => intro x1 f2 hmeas; exact absurd hmeas (Nat.not_lt_zero _)
  | succ n ih =>
    intro x1 f2 hmeas b1 hc H locs ls hP hD hS hl
    refine lv_iload_n hx hb dX3_addOneToLast_7 rfl (lv_at hl 1 rfl) ?_
    refine lv_if_lt (tgt := 36) hx hb dX3_addOneToLast_8 (by decide) (fun c8 => ?_) (fun c8 => ?_)
    · have c8x : kB x1 (-1) (-1) := kB_lt_l b1 kc_0 c8 (by decide)
      refine lv_iload_n hx hb dX3_addOneToLast_36 rfl (lv_at hl 1 rfl) ?_
      refine lv_if_lt (tgt := 50) hx hb dX3_addOneToLast_37 (by decide) (fun c37 => ?_) (fun c37 => ?_)
      · have pf_c : f2 = wCar sz.toInt.toNat f := (by rw [← hc, wCar_0 (by have := c8x.2; omega)])
        exact W.vret hx hb hr (fun t9 ht9 hW9 => ⟨⟨f2, rfl, pf_c, by rw [ht9]; exact hP, hD⟩, hS.F ht9⟩) hS.2.2 dX3_addOneToLast_50
      · have c37n : 0 ≤ x1 := kN_lt c37
        have c37ny : kB x1 0 (-1) := kB_le_r kc_0 c8x c37n (by decide)
        exact absurd (Int.le_trans c37ny.1 c37ny.2) (by decide)
    · have c8n : 0 ≤ x1 := kN_lt c8
      have c8ny : kB x1 0 599 := kB_le_r kc_0 b1 c8n (by decide)
      refine lv_aload_n hx hb dX3_addOneToLast_11 rfl (lv_at hl 0 rfl) ?_
      refine va_get (D := D) (ci := 3) (v := .ref hh) (C := RX3) (T := TX3) (N := 2) hx hb hts in_X3 hown hK.1 hP 0 rfl rfl 0 (by decide) (hts _ mk_1) (fun _ h9 => h9) rfl dX3_addOneToLast_12 ?_
      refine lv_iload_n hx hb dX3_addOneToLast_15 rfl (lv_at hl 1 rfl) ?_
      refine va_iald hx hb hK.1 hP 1 0 rfl rfl (kB_in c8ny (by decide)) dX3_addOneToLast_16 ?_
      refine lv_topi (fun v16 e16 => ?_)
      refine lv_sipush (v := 255) hx hb dX3_addOneToLast_17 (by decide) ?_
      refine lv_icmp_ne (tgt := 36) hx hb dX3_addOneToLast_20 (by decide) (fun c20 => ?_) (fun c20 => ?_)
      · refine lv_iload_n hx hb dX3_addOneToLast_36 rfl (lv_at hl 1 rfl) ?_
        refine lv_if_lt (tgt := 50) hx hb dX3_addOneToLast_37 (by decide) (fun c37 => ?_) (fun c37 => ?_)
        · have c37x : kB x1 0 (-1) := kB_lt_l c8ny kc_0 c37 (by decide)
          exact absurd (Int.le_trans c37x.1 c37x.2) (by decide)
        · have c37n : 0 ≤ x1 := kN_lt c37
          refine lv_aload_n hx hb dX3_addOneToLast_40 rfl (lv_at hl 0 rfl) ?_
          refine va_get (D := D) (ci := 3) (v := .ref hh) (C := RX3) (T := TX3) (N := 2) hx hb hts in_X3 hown hK.1 hP 0 rfl rfl 0 (by decide) (hts _ mk_1) (fun _ h9 => h9) rfl dX3_addOneToLast_41 ?_
          refine lv_iload_n hx hb dX3_addOneToLast_44 rfl (lv_at hl 1 rfl) ?_
          refine lv_dup2_11 hx hb dX3_addOneToLast_45 rfl rfl ?_
          refine va_iald hx hb hK.1 hP 1 0 rfl rfl (kB_in c8ny (by decide)) dX3_addOneToLast_46 ?_
          refine lv_topi (fun v46 e46 => ?_)
          refine lv_iconst (v := 1) hx hb dX3_addOneToLast_47 (by decide) ?_
          refine lv_iadd hx hb dX3_addOneToLast_48 ?_
          refine lv_topi (fun v48 e48 => ?_)
          refine va_iast hx hb hK.1 hP hD hS 1 0 rfl rfl (kB_in c8ny (by decide)) dX3_addOneToLast_49 (fun H locs hP hD hS => ?_)
          have hP : va_P D vwCl [(ho, .inr (3, [.ref hh, .int sz])), (hh, .inl (cI, 600, .inl (upd f2 x1.toNatClampNeg v48)))] H := hP
          have hD : va_D A [(ho, .inr (3, [.ref hh, .int sz])), (hh, .inl (cI, 600, .inl (upd f2 x1.toNatClampNeg v48)))] := hD
          generalize hf49 : upd f2 x1.toNatClampNeg v48 = f49 at hP hD
          have pf_c : f49 = wCar sz.toInt.toNat f := (by rw [← hc, wCar_n c8ny.1 (by rw [← e16]; exact c20), ← hf49, e48, e46])
          exact W.vret hx hb hr (fun t9 ht9 hW9 => ⟨⟨f49, rfl, pf_c, by rw [ht9]; exact hP, hD⟩, hS.F ht9⟩) hS.2.2 dX3_addOneToLast_50
      · have c20x : kB v16 255 255 := kB_eq c20 kc_255
        refine lv_aload_n hx hb dX3_addOneToLast_23 rfl (lv_at hl 0 rfl) ?_
        refine va_get (D := D) (ci := 3) (v := .ref hh) (C := RX3) (T := TX3) (N := 2) hx hb hts in_X3 hown hK.1 hP 0 rfl rfl 0 (by decide) (hts _ mk_1) (fun _ h9 => h9) rfl dX3_addOneToLast_24 ?_
        refine lv_iload_n hx hb dX3_addOneToLast_27 rfl (lv_at hl 1 rfl) ?_
        refine lv_iconst (v := 0) hx hb dX3_addOneToLast_28 (by decide) ?_
        refine va_iast hx hb hK.1 hP hD hS 1 0 rfl rfl (kB_in c8ny (by decide)) dX3_addOneToLast_29 (fun H locs hP hD hS => ?_)
        have hP : va_P D vwCl [(ho, .inr (3, [.ref hh, .int sz])), (hh, .inl (cI, 600, .inl (upd f2 x1.toNatClampNeg 0)))] H := hP
        have hD : va_D A [(ho, .inr (3, [.ref hh, .int sz])), (hh, .inl (cI, 600, .inl (upd f2 x1.toNatClampNeg 0)))] := hD
        generalize hf29 : upd f2 x1.toNatClampNeg 0 = f29 at hP hD
        obtain ⟨v30, e30⟩ : ∃ y : Int32, y = x1 + (-1) := ⟨_, rfl⟩
        refine lv_iinc (v := v30) (lv' := [(1, .int v30), (0, .ref ho)]) hx hb dX3_addOneToLast_30 hl (k := 1) rfl (by rw [e30]; rfl) (by decide) rfl (fun ls hl => ?_)
        have b30 : kB v30 (-1) 598 := kB_eq e30 (kB_add c8ny kc_m1 (by decide))
        have t30 : v30.toInt = x1.toInt + (-1) := by rw [e30]; exact kdec (kB_w c8ny (by decide) (by decide))
        refine lv_goto (tgt := 7) hx hb dX3_addOneToLast_33 (by decide) ?_
        exact ih v30 f29 (by have := b30.1; have := b30.2; have := c8ny.1; have := c8ny.2; omega) (kB_w b30 (by decide) (by decide)) (by rw [t30, show (x1.toInt + -1 + 1).toNat = x1.toInt.toNat by omega, ← hf29, ← wCar_255 c8ny.1 (by rw [← e16]; exact c20)]; exact hc) _ _ ls hP hD hS (lv_sub hl [1, 0] rfl)
set_option maxHeartbeats 4000000 in
set_option maxRecDepth 100000 in
theorem c_X3_addOneToLast (l : Launch) (D : va_G) (cI cJ cZ : ClassId) (ho hh : Nat) (sz : Int32) (f : Nat → Int32) (bsz : kB sz 0 600) (hpz : Nat) : Met l yX3_addOneToLast kw_X3_addOneToLast ({ frames := 0, cells := 0, slots := 0, locals := 0 }) (va_Pc [.ref ho] (fun U => U.heap.size = hpz ∧ va_P D vwCl [(ho, .inr (3, [.ref hh, .int sz])), (hh, .inl (cI, 600, .inl f))] U.heap ∧ kK D cI cJ cZ U ∧ va_D (fun _ => True) [(ho, .inr (3, [.ref hh, .int sz])), (hh, .inl (cI, 600, .inl f))])) (va_Qv (fun (u : (Nat → Int32)) => (u = wCar sz.toInt.toNat f)) (fun (u : (Nat → Int32)) (t : State) => va_P D vwCl [(ho, .inr (3, [.ref hh, .int sz])), (hh, .inl (cI, 600, .inl u))] t.heap ∧ va_D (va_A [(ho, .inr (3, [.ref hh, .int sz])), (hh, .inl (cI, 600, .inl f))] hpz) [(ho, .inr (3, [.ref hh, .int sz])), (hh, .inl (cI, 600, .inl u))]) (va_A [(ho, .inr (3, [.ref hh, .int sz])), (hh, .inl (cI, 600, .inl f))] hpz)) 0 0 (va_A [(ho, .inr (3, [.ref hh, .int sz])), (hh, .inl (cI, 600, .inl f))] hpz) := by
  refine Met.ofW (cc := cX3_addOneToLast) (maxL := 2) (ret := none) (by decide) rfl ?_
  intro p e s m args below meth c s₁ B hml hv
  obtain ⟨rfl, hsz, hP, hK, hD0⟩ := hv
  have hx := B.exec
  have hb := B.bytes
  have hr := B.returns
  have hts := fun (w : Cond) (h : w ∈ kW) => atoms_spec (ws := kw_X3_addOneToLast) B.pre w (List.mem_cons_of_mem _ h)
  have hown : s.vm.findClass RX3 = some m.cls := findClass_of_methodNamed B.named
  have hlocks := B.notSynchronized
  subst hsz
  have hD := hD0.self (sz := s.heap.size)
  generalize hAe : va_A [(ho, .inr (3, [.ref hh, .int sz])), (hh, .inl (cI, 600, .inl f))] s.heap.size = A at hD ⊢
  have hA : ∀ q : Nat, s.heap.size ≤ q → A q := fun q h => by rw [← hAe]; exact Or.inr h
  have hS : va_S A s.heap s.heap [] := va_S.rf
  have hP : va_P D vwCl [(ho, .inr (3, [.ref hh, .int sz])), (hh, .inl (cI, 600, .inl f))] s.heap := hP
  have hl := lv_entry ([.ref ho]) (n := 2) (Nat.le_of_ble_eq_true rfl)
  rw [lg_entry_eq]
  generalize (lg_sl ([.ref ho]) ++ List.replicate (2 - (lg_sl ([.ref ho])).length) Slot.unset).toArray = ls at hl ⊢
  have hl : lv_has ls 2 [(0, .ref ho)] := hl
  refine lv_aload_n hx hb dX3_addOneToLast_0 rfl (lv_at hl 0 rfl) ?_
  refine va_get (D := D) (ci := 3) (v := .int sz) (C := RX3) (T := TX3) (N := 2) hx hb hts in_X3 hown hK.1 hP 0 rfl rfl 1 (by decide) (hts _ mk_0) (fun _ h9 => h9) rfl dX3_addOneToLast_1 ?_
  refine lv_iconst (v := 1) hx hb dX3_addOneToLast_4 (by decide) ?_
  refine lv_isub hx hb dX3_addOneToLast_5 ?_
  refine lv_topi (fun v5 e5 => ?_)
  have b5 : kB v5 (-1) 599 := kB_eq e5 (kB_sub bsz kc_1 (by decide))
  have X5 : v5.toInt = sz.toInt - 1 := by rw [e5]; exact kdec1 (kB_w bsz (by decide) (by decide))
  refine lv_istore_n (lv' := [(1, .int v5), (0, .ref ho)]) hx hb dX3_addOneToLast_6 rfl hl (by decide) rfl (fun ls hl => ?_)
  exact lp_X3_addOneToLast_7 D cI cJ cZ ho hh sz f bsz hx hb hr hml hown hts hlocks hK hA ((v5.toInt + 1).toNat + 1) v5 f (Nat.lt_succ_self _) b5 (by rw [X5, show sz.toInt - 1 + 1 = sz.toInt by omega]) _ _ ls hP hD hS (lv_sub hl [1, 0] rfl)
