abbrev kw_X1_start : List Cond := Cond.code yX1_start cX1_start 1 none :: kW
set_option maxHeartbeats 4000000 in
set_option maxRecDepth 100000 in
theorem c_X1_start (l : Launch) (D : va_G) (cI cJ cZ : ClassId) (hwr ho : Nat) (bo : Int32) (wg : Int32) (sl : Int32) (hpz : Nat) : Met l yX1_start kw_X1_start ({ frames := 0, cells := 0, slots := 0, locals := 0 }) (va_Pc [.ref hwr] (fun U => U.heap.size = hpz ∧ va_P D vwCl [(hwr, .inr (1, [.ref ho, .int bo, .int wg, .int sl]))] U.heap ∧ kK D cI cJ cZ U ∧ va_D (fun _ => True) [(hwr, .inr (1, [.ref ho, .int bo, .int wg, .int sl]))])) (va_Qv (fun (u : Unit) => True) (fun (u : Unit) (t : State) => va_P D vwCl [(hwr, .inr (1, [.ref ho, .int 0, .int 255, .int 24]))] t.heap ∧ va_D (va_A [(hwr, .inr (1, [.ref ho, .int bo, .int wg, .int sl]))] hpz) [(hwr, .inr (1, [.ref ho, .int 0, .int 255, .int 24]))]) (va_A [(hwr, .inr (1, [.ref ho, .int bo, .int wg, .int sl]))] hpz)) 0 0 (va_A [(hwr, .inr (1, [.ref ho, .int bo, .int wg, .int sl]))] hpz) := by
  refine Met.ofW (cc := cX1_start) (maxL := 1) (ret := none) (by decide) rfl ?_
  intro p e s m args below meth c s₁ B hml hv
  obtain ⟨rfl, hsz, hP, hK, hD0⟩ := hv
  have hx := B.exec
  have hb := B.bytes
  have hr := B.returns
  have hts := fun (w : Cond) (h : w ∈ kW) => atoms_spec (ws := kw_X1_start) B.pre w (List.mem_cons_of_mem _ h)
  have hown : s.vm.findClass RX1 = some m.cls := findClass_of_methodNamed B.named
  have hlocks := B.notSynchronized
  subst hsz
  have hD := hD0.self (sz := s.heap.size)
  generalize hAe : va_A [(hwr, .inr (1, [.ref ho, .int bo, .int wg, .int sl]))] s.heap.size = A at hD ⊢
  have hA : ∀ q : Nat, s.heap.size ≤ q → A q := fun q h => by rw [← hAe]; exact Or.inr h
  have hS : va_S A s.heap s.heap [] := va_S.rf
  have hP : va_P D vwCl [(hwr, .inr (1, [.ref ho, .int bo, .int wg, .int sl]))] s.heap := hP
  have hl := lv_entry ([.ref hwr]) (n := 1) (Nat.le_of_ble_eq_true rfl)
  rw [lg_entry_eq]
  generalize (lg_sl ([.ref hwr]) ++ List.replicate (1 - (lg_sl ([.ref hwr])).length) Slot.unset).toArray = ls at hl ⊢
  have hl : lv_has ls 1 [(0, .ref hwr)] := hl
  refine lv_aload_n hx hb dX1_start_0 rfl (lv_at hl 0 rfl) ?_
  refine lv_iconst (v := 0) hx hb dX1_start_1 (by decide) ?_
  refine va_put (D := D) (ci := 1) (v := .int 0) (ty := .int) (C := RX1) (T := TX1) (N := 4) hx hb hts in_X1 tyX1 tyX1_ok nmX1 hown hK.1 hP hD hS 0 rfl rfl 1 (by decide) (hts _ mk_310) (fun _ h9 => h9) rfl (by decide +kernel) rfl rfl (Nat.le_of_ble_eq_true rfl) dX1_start_2 (fun H locs hP hD hS => ?_)
  have hP : va_P D vwCl [(hwr, .inr (1, [.ref ho, .int 0, .int wg, .int sl]))] H := hP
  have hD : va_D A [(hwr, .inr (1, [.ref ho, .int 0, .int wg, .int sl]))] := hD
  refine lv_aload_n hx hb dX1_start_5 rfl (lv_at hl 0 rfl) ?_
  refine lv_sipush (v := 255) hx hb dX1_start_6 (by decide) ?_
  refine va_put (D := D) (ci := 1) (v := .int 255) (ty := .int) (C := RX1) (T := TX1) (N := 4) hx hb hts in_X1 tyX1 tyX1_ok nmX1 hown hK.1 hP hD hS 0 rfl rfl 2 (by decide) (hts _ mk_311) (fun _ h9 => h9) rfl (by decide +kernel) rfl rfl (Nat.le_of_ble_eq_true rfl) dX1_start_9 (fun H locs hP hD hS => ?_)
  have hP : va_P D vwCl [(hwr, .inr (1, [.ref ho, .int 0, .int 255, .int sl]))] H := hP
  have hD : va_D A [(hwr, .inr (1, [.ref ho, .int 0, .int 255, .int sl]))] := hD
  refine lv_aload_n hx hb dX1_start_12 rfl (lv_at hl 0 rfl) ?_
  refine lv_bipush (v := 24) hx hb dX1_start_13 (by decide) ?_
  refine va_put (D := D) (ci := 1) (v := .int 24) (ty := .int) (C := RX1) (T := TX1) (N := 4) hx hb hts in_X1 tyX1 tyX1_ok nmX1 hown hK.1 hP hD hS 0 rfl rfl 3 (by decide) (hts _ mk_312) (fun _ h9 => h9) rfl (by decide +kernel) rfl rfl (Nat.le_of_ble_eq_true rfl) dX1_start_15 (fun H locs hP hD hS => ?_)
  have hP : va_P D vwCl [(hwr, .inr (1, [.ref ho, .int 0, .int 255, .int 24]))] H := hP
  have hD : va_D A [(hwr, .inr (1, [.ref ho, .int 0, .int 255, .int 24]))] := hD
  exact W.vret hx hb hr (fun t9 ht9 hW9 => ⟨⟨(), rfl, trivial, by rw [ht9]; exact hP, hD⟩, hS.F ht9⟩) hS.2.2 dX1_start_18
abbrev kw_X1_shiftBottom : List Cond := Cond.code yX1_shiftBottom cX1_shiftBottom 1 none :: kW
set_option maxHeartbeats 4000000 in
set_option maxRecDepth 100000 in
theorem c_X1_shiftBottom (l : Launch) (D : va_G) (cI cJ cZ : ClassId) (hwr ho hh : Nat) (bo : Int32) (wg : Int32) (sl : Int32) (sz : Int32) (f : Nat → Int32) (Bz : Nat) (bsz : kB sz 0 599) (bsl : kB sl 1 24) (nf : kNF sl.toInt sz.toInt) (hB : bo = nI Bz) (hB2 : Bz < 4294967296) (hpz : Nat) : Met l yX1_shiftBottom kw_X1_shiftBottom ({ frames := 1, cells := 0, slots := 0, locals := 21 }) (va_Pc [.ref hwr] (fun U => U.heap.size = hpz ∧ va_P D vwCl [(hwr, .inr (1, [.ref ho, .int bo, .int wg, .int sl])), (ho, .inr (3, [.ref hh, .int sz])), (hh, .inl (cI, 600, .inl f))] U.heap ∧ kK D cI cJ cZ U ∧ va_D (fun _ => True) [(hwr, .inr (1, [.ref ho, .int bo, .int wg, .int sl])), (ho, .inr (3, [.ref hh, .int sz])), (hh, .inl (cI, 600, .inl f))])) (va_Qv (fun (u : Int32 × Int32 × Int32 × (Nat → Int32)) => (kB u.2.2.1 0 600) ∧ (kB u.2.1 1 24) ∧ (kNF u.2.1.toInt u.2.2.1.toInt) ∧ (8 * u.2.2.1.toInt - u.2.1.toInt = 8 * sz.toInt - sl.toInt + 1) ∧ (u.1 = nI (wSh (sl.toInt, sz.toInt, Bz, f)).2.2.1) ∧ (u.2.1.toInt = (wSh (sl.toInt, sz.toInt, Bz, f)).1) ∧ (u.2.2.1.toInt = (wSh (sl.toInt, sz.toInt, Bz, f)).2.1) ∧ (u.2.2.2 = (wSh (sl.toInt, sz.toInt, Bz, f)).2.2.2)) (fun (u : Int32 × Int32 × Int32 × (Nat → Int32)) (t : State) => va_P D vwCl [(hwr, .inr (1, [.ref ho, .int u.1, .int wg, .int u.2.1])), (ho, .inr (3, [.ref hh, .int u.2.2.1])), (hh, .inl (cI, 600, .inl u.2.2.2))] t.heap ∧ va_D (va_A [(hwr, .inr (1, [.ref ho, .int bo, .int wg, .int sl])), (ho, .inr (3, [.ref hh, .int sz])), (hh, .inl (cI, 600, .inl f))] hpz) [(hwr, .inr (1, [.ref ho, .int u.1, .int wg, .int u.2.1])), (ho, .inr (3, [.ref hh, .int u.2.2.1])), (hh, .inl (cI, 600, .inl u.2.2.2))]) (va_A [(hwr, .inr (1, [.ref ho, .int bo, .int wg, .int sl])), (ho, .inr (3, [.ref hh, .int sz])), (hh, .inl (cI, 600, .inl f))] hpz)) 0 0 (va_A [(hwr, .inr (1, [.ref ho, .int bo, .int wg, .int sl])), (ho, .inr (3, [.ref hh, .int sz])), (hh, .inl (cI, 600, .inl f))] hpz) := by
  refine Met.ofW (cc := cX1_shiftBottom) (maxL := 1) (ret := none) (by decide) rfl ?_
  intro p e s m args below meth c s₁ B hml hv
  obtain ⟨rfl, hsz, hP, hK, hD0⟩ := hv
  have hx := B.exec
  have hb := B.bytes
  have hr := B.returns
  have hts := fun (w : Cond) (h : w ∈ kW) => atoms_spec (ws := kw_X1_shiftBottom) B.pre w (List.mem_cons_of_mem _ h)
  have hown : s.vm.findClass RX1 = some m.cls := findClass_of_methodNamed B.named
  have hlocks := B.notSynchronized
  subst hsz
  have hD := hD0.self (sz := s.heap.size)
  generalize hAe : va_A [(hwr, .inr (1, [.ref ho, .int bo, .int wg, .int sl])), (ho, .inr (3, [.ref hh, .int sz])), (hh, .inl (cI, 600, .inl f))] s.heap.size = A at hD ⊢
  have hA : ∀ q : Nat, s.heap.size ≤ q → A q := fun q h => by rw [← hAe]; exact Or.inr h
  have hS : va_S A s.heap s.heap [] := va_S.rf
  have hP : va_P D vwCl [(hwr, .inr (1, [.ref ho, .int bo, .int wg, .int sl])), (ho, .inr (3, [.ref hh, .int sz])), (hh, .inl (cI, 600, .inl f))] s.heap := hP
  have hl := lv_entry ([.ref hwr]) (n := 1) (Nat.le_of_ble_eq_true rfl)
  rw [lg_entry_eq]
  generalize (lg_sl ([.ref hwr]) ++ List.replicate (1 - (lg_sl ([.ref hwr])).length) Slot.unset).toArray = ls at hl ⊢
  have hl : lv_has ls 1 [(0, .ref hwr)] := hl
  refine lv_aload_n hx hb dX1_shiftBottom_0 rfl (lv_at hl 0 rfl) ?_
  refine va_get (D := D) (ci := 1) (v := .int bo) (C := RX1) (T := TX1) (N := 4) hx hb hts in_X1 hown hK.1 hP 0 rfl rfl 1 (by decide) (hts _ mk_310) (fun _ h9 => h9) rfl dX1_shiftBottom_1 ?_
  refine lv_if_ge (tgt := 14) hx hb dX1_shiftBottom_4 (by decide) (fun c4 => ?_) (fun c4 => ?_)
  · have c4b := kB_all bo
    have c4y : kB bo 0 2147483647 := kB_le_r kc_0 c4b c4 (by decide)
    have CF : f = wF sz.toInt.toNat Bz f := wF_n (fun h9 => by have := (nI_neg hB2).mpr h9; rw [← hB] at this; have h8 := Int32.le_iff_toInt_le.mp c4; rw [show (0 : Int32).toInt = 0 from by decide] at h8; omega)
    refine lv_aload_n hx hb dX1_shiftBottom_14 rfl (lv_at hl 0 rfl) ?_
    refine lv_dup hx hb dX1_shiftBottom_15 rfl ?_
    refine va_get (D := D) (ci := 1) (v := .int bo) (C := RX1) (T := TX1) (N := 4) hx hb hts in_X1 hown hK.1 hP 0 rfl rfl 1 (by decide) (hts _ mk_310) (fun _ h9 => h9) rfl dX1_shiftBottom_16 ?_
    refine lv_iconst (v := 1) hx hb dX1_shiftBottom_19 (by decide) ?_
    refine lv_ishl hx hb dX1_shiftBottom_20 ?_
    refine lv_topi (fun v20 e20 => ?_)
    have V20 : v20 = nI (2 * Bz % 4294967296) := by rw [e20, hB, nI_shlm hB2 (k := 1) (by decide)]; exact congrArg nI (by omega)
    refine va_put (D := D) (ci := 1) (v := .int v20) (ty := .int) (C := RX1) (T := TX1) (N := 4) hx hb hts in_X1 tyX1 tyX1_ok nmX1 hown hK.1 hP hD hS 0 rfl rfl 1 (by decide) (hts _ mk_310) (fun _ h9 => h9) rfl (by decide +kernel) rfl rfl (Nat.le_of_ble_eq_true rfl) dX1_shiftBottom_21 (fun H locs hP hD hS => ?_)
    have hP : va_P D vwCl [(hwr, .inr (1, [.ref ho, .int v20, .int wg, .int sl])), (ho, .inr (3, [.ref hh, .int sz])), (hh, .inl (cI, 600, .inl f))] H := hP
    have hD : va_D A [(hwr, .inr (1, [.ref ho, .int v20, .int wg, .int sl])), (ho, .inr (3, [.ref hh, .int sz])), (hh, .inl (cI, 600, .inl f))] := hD
    refine lv_aload_n hx hb dX1_shiftBottom_24 rfl (lv_at hl 0 rfl) ?_
    refine lv_dup hx hb dX1_shiftBottom_25 rfl ?_
    refine va_get (D := D) (ci := 1) (v := .int sl) (C := RX1) (T := TX1) (N := 4) hx hb hts in_X1 hown hK.1 hP 0 rfl rfl 3 (by decide) (hts _ mk_312) (fun _ h9 => h9) rfl dX1_shiftBottom_26 ?_
    refine lv_iconst (v := 1) hx hb dX1_shiftBottom_29 (by decide) ?_
    refine lv_isub hx hb dX1_shiftBottom_30 ?_
    refine lv_topi (fun v30 e30 => ?_)
    have b30 : kB v30 0 23 := kB_eq e30 (kB_sub bsl kc_1 (by decide))
    have K30 : v30.toInt = sl.toInt - 1 := by rw [e30]; exact kdec1 (kB_w bsl (by decide) (by decide))
    refine va_put (D := D) (ci := 1) (v := .int v30) (ty := .int) (C := RX1) (T := TX1) (N := 4) hx hb hts in_X1 tyX1 tyX1_ok nmX1 hown hK.1 hP hD hS 0 rfl rfl 3 (by decide) (hts _ mk_312) (fun _ h9 => h9) rfl (by decide +kernel) rfl rfl (Nat.le_of_ble_eq_true rfl) dX1_shiftBottom_31 (fun H locs hP hD hS => ?_)
    have hP : va_P D vwCl [(hwr, .inr (1, [.ref ho, .int v20, .int wg, .int v30])), (ho, .inr (3, [.ref hh, .int sz])), (hh, .inl (cI, 600, .inl f))] H := hP
    have hD : va_D A [(hwr, .inr (1, [.ref ho, .int v20, .int wg, .int v30])), (ho, .inr (3, [.ref hh, .int sz])), (hh, .inl (cI, 600, .inl f))] := hD
    refine lv_aload_n hx hb dX1_shiftBottom_34 rfl (lv_at hl 0 rfl) ?_
    refine va_get (D := D) (ci := 1) (v := .int v30) (C := RX1) (T := TX1) (N := 4) hx hb hts in_X1 hown hK.1 hP 0 rfl rfl 3 (by decide) (hts _ mk_312) (fun _ h9 => h9) rfl dX1_shiftBottom_35 ?_
    refine lv_if_ne (tgt := 72) hx hb dX1_shiftBottom_38 (by decide) (fun c38 => ?_) (fun c38 => ?_)
    · have c38x : kB v30 1 23 := kB_nlo b30 c38 kc_0 (by decide)
      have Z38 := kn0 c38
      have HSn : ¬ sl.toInt = 1 := by have := kn0 c38; omega
      have pf_b : kB sz 0 600 := (kB_w bsz (by decide) (by decide))
      have pf_c : kB v30 1 24 := (kB_w c38x (by decide) (by decide))
      have pf_n : kNF v30.toInt sz.toInt := (by omega)
      have pf_p : 8 * sz.toInt - v30.toInt = 8 * sz.toInt - sl.toInt + 1 := (by omega)
      have pf_e1 : v20 = nI (wSh (sl.toInt, sz.toInt, Bz, f)).2.2.1 := (by rw [wSh_n HSn]; exact V20)
      have pf_e2 : v30.toInt = (wSh (sl.toInt, sz.toInt, Bz, f)).1 := (by rw [wSh_n HSn]; exact K30)
      have pf_e3 : sz.toInt = (wSh (sl.toInt, sz.toInt, Bz, f)).2.1 := (by rw [wSh_n HSn])
      have pf_e4 : f = (wSh (sl.toInt, sz.toInt, Bz, f)).2.2.2 := (by rw [wSh_n HSn]; exact CF)
      exact W.vret hx hb hr (fun t9 ht9 hW9 => ⟨⟨(v20, v30, sz, f), rfl, ⟨pf_b, pf_c, pf_n, pf_p, pf_e1, pf_e2, pf_e3, pf_e4⟩, by rw [ht9]; exact hP, hD⟩, hS.F ht9⟩) hS.2.2 dX1_shiftBottom_72
    · have c38x : kB v30 0 0 := kB_eq c38 kc_0
      refine lv_aload_n hx hb dX1_shiftBottom_41 rfl (lv_at hl 0 rfl) ?_
      refine va_get (D := D) (ci := 1) (v := .ref ho) (C := RX1) (T := TX1) (N := 4) hx hb hts in_X1 hown hK.1 hP 0 rfl rfl 0 (by decide) (hts _ mk_313) (fun _ h9 => h9) rfl dX1_shiftBottom_42 ?_
      refine lv_aload_n hx hb dX1_shiftBottom_45 rfl (lv_at hl 0 rfl) ?_
      refine va_get (D := D) (ci := 1) (v := .int v20) (C := RX1) (T := TX1) (N := 4) hx hb hts in_X1 hown hK.1 hP 0 rfl rfl 1 (by decide) (hts _ mk_310) (fun _ h9 => h9) rfl dX1_shiftBottom_46 ?_
      refine lv_bipush (v := 24) hx hb dX1_shiftBottom_49 (by decide) ?_
      refine lv_iushr hx hb dX1_shiftBottom_51 rfl ?_
      refine lv_topi (fun v51 e51 => ?_)
      have V51 : v51 = nI (2 * Bz % 4294967296 / 16777216) := by rw [e51, V20, nI_ush (by omega) (k := 24) (by decide)]
      have HS1 : sl.toInt = 1 := by have := k0 c38; omega
      have hPc := hP.sub (ws' := [(ho, .inr (3, [.ref hh, .int sz])), (hh, .inl (cI, 600, .inl f))]) [1, 2] rfl
      have hDc := hD.sub (ws' := [(ho, .inr (3, [.ref hh, .int sz])), (hh, .inl (cI, 600, .inl f))]) [1, 2] (by decide) rfl
      have hFc := va_free (wc := [(ho, .inr (3, [.ref hh, .int sz])), (hh, .inl (cI, 600, .inl f))]) hD hS hA [1, 2] rfl
      refine va_callv (va_runV (As := [.int v51]) (rest := []) ⟨hx, hb, hml, hown, hts⟩ (c_X3_append l D cI cJ cZ ho hh sz f v51 (kB_w bsz (by decide) (by decide)) (H).size) (cwV 1 hts (kg_V mk_314 mk_315 mk_316 mk_6 mk_317) rfl rfl rfl (by decide +kernel) ⟨Nat.le_of_ble_eq_true rfl, Nat.le_of_ble_eq_true rfl⟩) ⟨fun a U g mk q => by obtain ⟨q0, q1, qP, qK, qD⟩ := q; exact ⟨q0, q1, qP, kK.call qK, qD⟩, va_recv hK.1 hPc (ci := 3) (q0 := 0) rfl rfl, fun U hU hW => ⟨rfl, by rw [hU], by rw [hU]; exact hPc, kK.warm hW hK, hDc.weaken (fun _ _ _ _ => trivial)⟩⟩ rfl rfl hl.1 rfl (lv_room (Nat.le_of_ble_eq_true rfl)) dX1_shiftBottom_52 ⟨Nat.zero_le _, Nat.zero_le _⟩) hS (fun q _ h => hFc q h) hFc (fun u t9 H1 locs ht9 hvm9 hw9 hB9 hz9 hk9 hS => ?_)
      obtain ⟨sz2_52, f2_52⟩ := u
      obtain ⟨hP1, hD1⟩ := hB9
      rw [ht9] at hP1
      have hP1 : va_P D vwCl [(ho, .inr (3, [.ref hh, .int sz2_52])), (hh, .inl (cI, 600, .inl f2_52))] H1 := hP1
      obtain ⟨hP, hD⟩ := va_join (wr := [(hwr, .inr (1, [.ref ho, .int v20, .int wg, .int v30]))]) (w1 := [(ho, .inr (3, [.ref hh, .int sz2_52])), (hh, .inl (cI, 600, .inl f2_52))]) hP hD [1, 2] [0] rfl rfl (by decide) (by decide) hk9 hFc hP1 hD1
      have hP := hP.sub (ws' := [(hwr, .inr (1, [.ref ho, .int v20, .int wg, .int v30])), (ho, .inr (3, [.ref hh, .int sz2_52])), (hh, .inl (cI, 600, .inl f2_52))]) [0, 1, 2] rfl
      have hD := hD.sub (ws' := [(hwr, .inr (1, [.ref ho, .int v20, .int wg, .int v30])), (ho, .inr (3, [.ref hh, .int sz2_52])), (hh, .inl (cI, 600, .inl f2_52))]) [0, 1, 2] (by decide) rfl
      generalize H1 = H at hP hS ⊢
      obtain ⟨q52_0, q52_1, q52_2⟩ := hw9
      have q52_0 : kB sz2_52 0 600 := q52_0
      have q52_1 : sz2_52.toInt = if sz.toInt < 600 then sz.toInt + 1 else sz.toInt := q52_1
      have q52_2 : sz.toInt < 600 → f2_52 = upd f sz.toNatClampNeg (v51 &&& 255) := q52_2
      rw [if_pos (show sz.toInt < 600 by omega)] at q52_1
      have Z38 := k0 c38
      have Z8 : (8 : Int32).toInt = 8 := by decide
      have F52 := q52_2 (by omega)
      rw [V51, nI_msk (by omega) (k := 8) (by decide), Nat.mod_eq_of_lt (by omega), CF] at F52
      refine lv_aload_n hx hb dX1_shiftBottom_55 rfl (lv_at hl 0 rfl) ?_
      refine lv_dup hx hb dX1_shiftBottom_56 rfl ?_
      refine va_get (D := D) (ci := 1) (v := .int v20) (C := RX1) (T := TX1) (N := 4) hx hb hts in_X1 hown hK.1 hP 0 rfl rfl 1 (by decide) (hts _ mk_310) (fun _ h9 => h9) rfl dX1_shiftBottom_57 ?_
      refine lv_ldc (v := 16777215) hx hb hown (hts _ mk_318) dX1_shiftBottom_60 ?_
      refine lv_iand hx hb dX1_shiftBottom_62 ?_
      refine lv_topi (fun v62 e62 => ?_)
      have b62 : kB v62 0 16777215 := kB_eq e62 (kB_and 24 (by decide) (by decide))
      have V62 : v62 = nI (2 * Bz % 4294967296 % 16777216) := by rw [e62, V20, nI_msk (by omega) (k := 24) (by decide)]
      refine va_put (D := D) (ci := 1) (v := .int v62) (ty := .int) (C := RX1) (T := TX1) (N := 4) hx hb hts in_X1 tyX1 tyX1_ok nmX1 hown hK.1 hP hD hS 0 rfl rfl 1 (by decide) (hts _ mk_310) (fun _ h9 => h9) rfl (by decide +kernel) rfl rfl (Nat.le_of_ble_eq_true rfl) dX1_shiftBottom_63 (fun H locs hP hD hS => ?_)
      have hP : va_P D vwCl [(hwr, .inr (1, [.ref ho, .int v62, .int wg, .int v30])), (ho, .inr (3, [.ref hh, .int sz2_52])), (hh, .inl (cI, 600, .inl f2_52))] H := hP
      have hD : va_D A [(hwr, .inr (1, [.ref ho, .int v62, .int wg, .int v30])), (ho, .inr (3, [.ref hh, .int sz2_52])), (hh, .inl (cI, 600, .inl f2_52))] := hD
      refine lv_aload_n hx hb dX1_shiftBottom_66 rfl (lv_at hl 0 rfl) ?_
      refine lv_bipush (v := 8) hx hb dX1_shiftBottom_67 (by decide) ?_
      refine va_put (D := D) (ci := 1) (v := .int 8) (ty := .int) (C := RX1) (T := TX1) (N := 4) hx hb hts in_X1 tyX1 tyX1_ok nmX1 hown hK.1 hP hD hS 0 rfl rfl 3 (by decide) (hts _ mk_312) (fun _ h9 => h9) rfl (by decide +kernel) rfl rfl (Nat.le_of_ble_eq_true rfl) dX1_shiftBottom_69 (fun H locs hP hD hS => ?_)
      have hP : va_P D vwCl [(hwr, .inr (1, [.ref ho, .int v62, .int wg, .int 8])), (ho, .inr (3, [.ref hh, .int sz2_52])), (hh, .inl (cI, 600, .inl f2_52))] H := hP
      have hD : va_D A [(hwr, .inr (1, [.ref ho, .int v62, .int wg, .int 8])), (ho, .inr (3, [.ref hh, .int sz2_52])), (hh, .inl (cI, 600, .inl f2_52))] := hD
      have pf_c : kB (8 : Int32) 1 24 := (kB_w kc_8 (by decide) (by decide))
      have pf_n : kNF (8 : Int32).toInt sz2_52.toInt := (by omega)
      have pf_p : 8 * sz2_52.toInt - (8 : Int32).toInt = 8 * sz.toInt - sl.toInt + 1 := (by omega)
      have pf_e1 : v62 = nI (wSh (sl.toInt, sz.toInt, Bz, f)).2.2.1 := (by rw [wSh_1 HS1]; exact V62)
      have pf_e2 : (8 : Int32).toInt = (wSh (sl.toInt, sz.toInt, Bz, f)).1 := (by rw [wSh_1 HS1]; exact Z8)
      have pf_e3 : sz2_52.toInt = (wSh (sl.toInt, sz.toInt, Bz, f)).2.1 := (by rw [wSh_1 HS1]; exact q52_1)
      have pf_e4 : f2_52 = (wSh (sl.toInt, sz.toInt, Bz, f)).2.2.2 := (by rw [wSh_1 HS1]; exact F52)
      exact W.vret hx hb hr (fun t9 ht9 hW9 => ⟨⟨(v62, 8, sz2_52, f2_52), rfl, ⟨q52_0, pf_c, pf_n, pf_p, pf_e1, pf_e2, pf_e3, pf_e4⟩, by rw [ht9]; exact hP, hD⟩, hS.F ht9⟩) hS.2.2 dX1_shiftBottom_72
  · have c4n : bo < 0 := kN_le c4
    have c4na := kB_all bo
    have c4nx : kB bo (-2147483648) (-1) := kB_lt_l c4na kc_0 c4n (by decide)
    refine lv_aload_n hx hb dX1_shiftBottom_7 rfl (lv_at hl 0 rfl) ?_
    refine va_get (D := D) (ci := 1) (v := .ref ho) (C := RX1) (T := TX1) (N := 4) hx hb hts in_X1 hown hK.1 hP 0 rfl rfl 0 (by decide) (hts _ mk_313) (fun _ h9 => h9) rfl dX1_shiftBottom_8 ?_
    have hPc := hP.sub (ws' := [(ho, .inr (3, [.ref hh, .int sz])), (hh, .inl (cI, 600, .inl f))]) [1, 2] rfl
    have hDc := hD.sub (ws' := [(ho, .inr (3, [.ref hh, .int sz])), (hh, .inl (cI, 600, .inl f))]) [1, 2] (by decide) rfl
    have hFc := va_free (wc := [(ho, .inr (3, [.ref hh, .int sz])), (hh, .inl (cI, 600, .inl f))]) hD hS hA [1, 2] rfl
    refine va_callv (va_runV (As := []) (rest := []) ⟨hx, hb, hml, hown, hts⟩ (c_X3_addOneToLast l D cI cJ cZ ho hh sz f (kB_w bsz (by decide) (by decide)) (s.heap).size) (cwV 0 hts (kg_V mk_319 mk_320 mk_321 mk_6 mk_322) rfl rfl rfl (by decide +kernel) ⟨Nat.le_of_ble_eq_true rfl, Nat.le_of_ble_eq_true rfl⟩) ⟨fun a U g mk q => by obtain ⟨q0, q1, qP, qK, qD⟩ := q; exact ⟨q0, q1, qP, kK.call qK, qD⟩, va_recv hK.1 hPc (ci := 3) (q0 := 0) rfl rfl, fun U hU hW => ⟨rfl, by rw [hU], by rw [hU]; exact hPc, kK.warm hW hK, hDc.weaken (fun _ _ _ _ => trivial)⟩⟩ rfl rfl hl.1 rfl (lv_room (Nat.le_of_ble_eq_true rfl)) dX1_shiftBottom_11 ⟨Nat.zero_le _, Nat.zero_le _⟩) hS (fun q _ h => hFc q h) hFc (fun u t9 H1 locs ht9 hvm9 hw9 hB9 hz9 hk9 hS => ?_)
    obtain ⟨f2_11, rfl⟩ : ∃ z, z = u := ⟨_, rfl⟩
    obtain ⟨hP1, hD1⟩ := hB9
    rw [ht9] at hP1
    have hP1 : va_P D vwCl [(ho, .inr (3, [.ref hh, .int sz])), (hh, .inl (cI, 600, .inl f2_11))] H1 := hP1
    obtain ⟨hP, hD⟩ := va_join (wr := [(hwr, .inr (1, [.ref ho, .int bo, .int wg, .int sl]))]) (w1 := [(ho, .inr (3, [.ref hh, .int sz])), (hh, .inl (cI, 600, .inl f2_11))]) hP hD [1, 2] [0] rfl rfl (by decide) (by decide) hk9 hFc hP1 hD1
    have hP := hP.sub (ws' := [(hwr, .inr (1, [.ref ho, .int bo, .int wg, .int sl])), (ho, .inr (3, [.ref hh, .int sz])), (hh, .inl (cI, 600, .inl f2_11))]) [0, 1, 2] rfl
    have hD := hD.sub (ws' := [(hwr, .inr (1, [.ref ho, .int bo, .int wg, .int sl])), (ho, .inr (3, [.ref hh, .int sz])), (hh, .inl (cI, 600, .inl f2_11))]) [0, 1, 2] (by decide) rfl
    generalize H1 = H at hP hS ⊢
    have q11_0 : f2_11 = wCar sz.toInt.toNat f := hw9
    have CF : f2_11 = wF sz.toInt.toNat Bz f := by rw [q11_0]; exact wF_y ((nI_neg hB2).mp (by rw [← hB]; have := Int32.lt_iff_toInt_lt.mp c4n; rw [show (0 : Int32).toInt = 0 from by decide] at this; exact this))
    refine lv_aload_n hx hb dX1_shiftBottom_14 rfl (lv_at hl 0 rfl) ?_
    refine lv_dup hx hb dX1_shiftBottom_15 rfl ?_
    refine va_get (D := D) (ci := 1) (v := .int bo) (C := RX1) (T := TX1) (N := 4) hx hb hts in_X1 hown hK.1 hP 0 rfl rfl 1 (by decide) (hts _ mk_310) (fun _ h9 => h9) rfl dX1_shiftBottom_16 ?_
    refine lv_iconst (v := 1) hx hb dX1_shiftBottom_19 (by decide) ?_
    refine lv_ishl hx hb dX1_shiftBottom_20 ?_
    refine lv_topi (fun v20 e20 => ?_)
    have V20 : v20 = nI (2 * Bz % 4294967296) := by rw [e20, hB, nI_shlm hB2 (k := 1) (by decide)]; exact congrArg nI (by omega)
    refine va_put (D := D) (ci := 1) (v := .int v20) (ty := .int) (C := RX1) (T := TX1) (N := 4) hx hb hts in_X1 tyX1 tyX1_ok nmX1 hown hK.1 hP hD hS 0 rfl rfl 1 (by decide) (hts _ mk_310) (fun _ h9 => h9) rfl (by decide +kernel) rfl rfl (Nat.le_of_ble_eq_true rfl) dX1_shiftBottom_21 (fun H locs hP hD hS => ?_)
    have hP : va_P D vwCl [(hwr, .inr (1, [.ref ho, .int v20, .int wg, .int sl])), (ho, .inr (3, [.ref hh, .int sz])), (hh, .inl (cI, 600, .inl f2_11))] H := hP
    have hD : va_D A [(hwr, .inr (1, [.ref ho, .int v20, .int wg, .int sl])), (ho, .inr (3, [.ref hh, .int sz])), (hh, .inl (cI, 600, .inl f2_11))] := hD
    refine lv_aload_n hx hb dX1_shiftBottom_24 rfl (lv_at hl 0 rfl) ?_
    refine lv_dup hx hb dX1_shiftBottom_25 rfl ?_
    refine va_get (D := D) (ci := 1) (v := .int sl) (C := RX1) (T := TX1) (N := 4) hx hb hts in_X1 hown hK.1 hP 0 rfl rfl 3 (by decide) (hts _ mk_312) (fun _ h9 => h9) rfl dX1_shiftBottom_26 ?_
    refine lv_iconst (v := 1) hx hb dX1_shiftBottom_29 (by decide) ?_
    refine lv_isub hx hb dX1_shiftBottom_30 ?_
    refine lv_topi (fun v30 e30 => ?_)
    have b30 : kB v30 0 23 := kB_eq e30 (kB_sub bsl kc_1 (by decide))
    have K30 : v30.toInt = sl.toInt - 1 := by rw [e30]; exact kdec1 (kB_w bsl (by decide) (by decide))
    refine va_put (D := D) (ci := 1) (v := .int v30) (ty := .int) (C := RX1) (T := TX1) (N := 4) hx hb hts in_X1 tyX1 tyX1_ok nmX1 hown hK.1 hP hD hS 0 rfl rfl 3 (by decide) (hts _ mk_312) (fun _ h9 => h9) rfl (by decide +kernel) rfl rfl (Nat.le_of_ble_eq_true rfl) dX1_shiftBottom_31 (fun H locs hP hD hS => ?_)
    have hP : va_P D vwCl [(hwr, .inr (1, [.ref ho, .int v20, .int wg, .int v30])), (ho, .inr (3, [.ref hh, .int sz])), (hh, .inl (cI, 600, .inl f2_11))] H := hP
    have hD : va_D A [(hwr, .inr (1, [.ref ho, .int v20, .int wg, .int v30])), (ho, .inr (3, [.ref hh, .int sz])), (hh, .inl (cI, 600, .inl f2_11))] := hD
    refine lv_aload_n hx hb dX1_shiftBottom_34 rfl (lv_at hl 0 rfl) ?_
    refine va_get (D := D) (ci := 1) (v := .int v30) (C := RX1) (T := TX1) (N := 4) hx hb hts in_X1 hown hK.1 hP 0 rfl rfl 3 (by decide) (hts _ mk_312) (fun _ h9 => h9) rfl dX1_shiftBottom_35 ?_
    refine lv_if_ne (tgt := 72) hx hb dX1_shiftBottom_38 (by decide) (fun c38 => ?_) (fun c38 => ?_)
    · have c38x : kB v30 1 23 := kB_nlo b30 c38 kc_0 (by decide)
      have Z38 := kn0 c38
      have HSn : ¬ sl.toInt = 1 := by have := kn0 c38; omega
      have pf_b : kB sz 0 600 := (kB_w bsz (by decide) (by decide))
      have pf_c : kB v30 1 24 := (kB_w c38x (by decide) (by decide))
      have pf_n : kNF v30.toInt sz.toInt := (by omega)
      have pf_p : 8 * sz.toInt - v30.toInt = 8 * sz.toInt - sl.toInt + 1 := (by omega)
      have pf_e1 : v20 = nI (wSh (sl.toInt, sz.toInt, Bz, f)).2.2.1 := (by rw [wSh_n HSn]; exact V20)
      have pf_e2 : v30.toInt = (wSh (sl.toInt, sz.toInt, Bz, f)).1 := (by rw [wSh_n HSn]; exact K30)
      have pf_e3 : sz.toInt = (wSh (sl.toInt, sz.toInt, Bz, f)).2.1 := (by rw [wSh_n HSn])
      have pf_e4 : f2_11 = (wSh (sl.toInt, sz.toInt, Bz, f)).2.2.2 := (by rw [wSh_n HSn]; exact CF)
      exact W.vret hx hb hr (fun t9 ht9 hW9 => ⟨⟨(v20, v30, sz, f2_11), rfl, ⟨pf_b, pf_c, pf_n, pf_p, pf_e1, pf_e2, pf_e3, pf_e4⟩, by rw [ht9]; exact hP, hD⟩, hS.F ht9⟩) hS.2.2 dX1_shiftBottom_72
    · have c38x : kB v30 0 0 := kB_eq c38 kc_0
      refine lv_aload_n hx hb dX1_shiftBottom_41 rfl (lv_at hl 0 rfl) ?_
      refine va_get (D := D) (ci := 1) (v := .ref ho) (C := RX1) (T := TX1) (N := 4) hx hb hts in_X1 hown hK.1 hP 0 rfl rfl 0 (by decide) (hts _ mk_313) (fun _ h9 => h9) rfl dX1_shiftBottom_42 ?_
      refine lv_aload_n hx hb dX1_shiftBottom_45 rfl (lv_at hl 0 rfl) ?_
      refine va_get (D := D) (ci := 1) (v := .int v20) (C := RX1) (T := TX1) (N := 4) hx hb hts in_X1 hown hK.1 hP 0 rfl rfl 1 (by decide) (hts _ mk_310) (fun _ h9 => h9) rfl dX1_shiftBottom_46 ?_
      refine lv_bipush (v := 24) hx hb dX1_shiftBottom_49 (by decide) ?_
      refine lv_iushr hx hb dX1_shiftBottom_51 rfl ?_
      refine lv_topi (fun v51 e51 => ?_)
      have V51 : v51 = nI (2 * Bz % 4294967296 / 16777216) := by rw [e51, V20, nI_ush (by omega) (k := 24) (by decide)]
      have HS1 : sl.toInt = 1 := by have := k0 c38; omega
      have hPc := hP.sub (ws' := [(ho, .inr (3, [.ref hh, .int sz])), (hh, .inl (cI, 600, .inl f2_11))]) [1, 2] rfl
      have hDc := hD.sub (ws' := [(ho, .inr (3, [.ref hh, .int sz])), (hh, .inl (cI, 600, .inl f2_11))]) [1, 2] (by decide) rfl
      have hFc := va_free (wc := [(ho, .inr (3, [.ref hh, .int sz])), (hh, .inl (cI, 600, .inl f2_11))]) hD hS hA [1, 2] rfl
      refine va_callv (va_runV (As := [.int v51]) (rest := []) ⟨hx, hb, hml, hown, hts⟩ (c_X3_append l D cI cJ cZ ho hh sz f2_11 v51 (kB_w bsz (by decide) (by decide)) (H).size) (cwV 1 hts (kg_V mk_314 mk_315 mk_316 mk_6 mk_317) rfl rfl rfl (by decide +kernel) ⟨Nat.le_of_ble_eq_true rfl, Nat.le_of_ble_eq_true rfl⟩) ⟨fun a U g mk q => by obtain ⟨q0, q1, qP, qK, qD⟩ := q; exact ⟨q0, q1, qP, kK.call qK, qD⟩, va_recv hK.1 hPc (ci := 3) (q0 := 0) rfl rfl, fun U hU hW => ⟨rfl, by rw [hU], by rw [hU]; exact hPc, kK.warm hW hK, hDc.weaken (fun _ _ _ _ => trivial)⟩⟩ rfl rfl hl.1 rfl (lv_room (Nat.le_of_ble_eq_true rfl)) dX1_shiftBottom_52 ⟨Nat.zero_le _, Nat.zero_le _⟩) hS (fun q _ h => hFc q h) hFc (fun u t9 H1 locs ht9 hvm9 hw9 hB9 hz9 hk9 hS => ?_)
      obtain ⟨sz2_52, f2_52⟩ := u
      obtain ⟨hP1, hD1⟩ := hB9
      rw [ht9] at hP1
      have hP1 : va_P D vwCl [(ho, .inr (3, [.ref hh, .int sz2_52])), (hh, .inl (cI, 600, .inl f2_52))] H1 := hP1
      obtain ⟨hP, hD⟩ := va_join (wr := [(hwr, .inr (1, [.ref ho, .int v20, .int wg, .int v30]))]) (w1 := [(ho, .inr (3, [.ref hh, .int sz2_52])), (hh, .inl (cI, 600, .inl f2_52))]) hP hD [1, 2] [0] rfl rfl (by decide) (by decide) hk9 hFc hP1 hD1
      have hP := hP.sub (ws' := [(hwr, .inr (1, [.ref ho, .int v20, .int wg, .int v30])), (ho, .inr (3, [.ref hh, .int sz2_52])), (hh, .inl (cI, 600, .inl f2_52))]) [0, 1, 2] rfl
      have hD := hD.sub (ws' := [(hwr, .inr (1, [.ref ho, .int v20, .int wg, .int v30])), (ho, .inr (3, [.ref hh, .int sz2_52])), (hh, .inl (cI, 600, .inl f2_52))]) [0, 1, 2] (by decide) rfl
      generalize H1 = H at hP hS ⊢
      obtain ⟨q52_0, q52_1, q52_2⟩ := hw9
      have q52_0 : kB sz2_52 0 600 := q52_0
      have q52_1 : sz2_52.toInt = if sz.toInt < 600 then sz.toInt + 1 else sz.toInt := q52_1
      have q52_2 : sz.toInt < 600 → f2_52 = upd f2_11 sz.toNatClampNeg (v51 &&& 255) := q52_2
      rw [if_pos (show sz.toInt < 600 by omega)] at q52_1
      have Z38 := k0 c38
      have Z8 : (8 : Int32).toInt = 8 := by decide
      have F52 := q52_2 (by omega)
      rw [V51, nI_msk (by omega) (k := 8) (by decide), Nat.mod_eq_of_lt (by omega), CF] at F52
      refine lv_aload_n hx hb dX1_shiftBottom_55 rfl (lv_at hl 0 rfl) ?_
      refine lv_dup hx hb dX1_shiftBottom_56 rfl ?_
      refine va_get (D := D) (ci := 1) (v := .int v20) (C := RX1) (T := TX1) (N := 4) hx hb hts in_X1 hown hK.1 hP 0 rfl rfl 1 (by decide) (hts _ mk_310) (fun _ h9 => h9) rfl dX1_shiftBottom_57 ?_
      refine lv_ldc (v := 16777215) hx hb hown (hts _ mk_318) dX1_shiftBottom_60 ?_
      refine lv_iand hx hb dX1_shiftBottom_62 ?_
      refine lv_topi (fun v62 e62 => ?_)
      have b62 : kB v62 0 16777215 := kB_eq e62 (kB_and 24 (by decide) (by decide))
      have V62 : v62 = nI (2 * Bz % 4294967296 % 16777216) := by rw [e62, V20, nI_msk (by omega) (k := 24) (by decide)]
      refine va_put (D := D) (ci := 1) (v := .int v62) (ty := .int) (C := RX1) (T := TX1) (N := 4) hx hb hts in_X1 tyX1 tyX1_ok nmX1 hown hK.1 hP hD hS 0 rfl rfl 1 (by decide) (hts _ mk_310) (fun _ h9 => h9) rfl (by decide +kernel) rfl rfl (Nat.le_of_ble_eq_true rfl) dX1_shiftBottom_63 (fun H locs hP hD hS => ?_)
      have hP : va_P D vwCl [(hwr, .inr (1, [.ref ho, .int v62, .int wg, .int v30])), (ho, .inr (3, [.ref hh, .int sz2_52])), (hh, .inl (cI, 600, .inl f2_52))] H := hP
      have hD : va_D A [(hwr, .inr (1, [.ref ho, .int v62, .int wg, .int v30])), (ho, .inr (3, [.ref hh, .int sz2_52])), (hh, .inl (cI, 600, .inl f2_52))] := hD
      refine lv_aload_n hx hb dX1_shiftBottom_66 rfl (lv_at hl 0 rfl) ?_
      refine lv_bipush (v := 8) hx hb dX1_shiftBottom_67 (by decide) ?_
      refine va_put (D := D) (ci := 1) (v := .int 8) (ty := .int) (C := RX1) (T := TX1) (N := 4) hx hb hts in_X1 tyX1 tyX1_ok nmX1 hown hK.1 hP hD hS 0 rfl rfl 3 (by decide) (hts _ mk_312) (fun _ h9 => h9) rfl (by decide +kernel) rfl rfl (Nat.le_of_ble_eq_true rfl) dX1_shiftBottom_69 (fun H locs hP hD hS => ?_)
      have hP : va_P D vwCl [(hwr, .inr (1, [.ref ho, .int v62, .int wg, .int 8])), (ho, .inr (3, [.ref hh, .int sz2_52])), (hh, .inl (cI, 600, .inl f2_52))] H := hP
      have hD : va_D A [(hwr, .inr (1, [.ref ho, .int v62, .int wg, .int 8])), (ho, .inr (3, [.ref hh, .int sz2_52])), (hh, .inl (cI, 600, .inl f2_52))] := hD
      have pf_c : kB (8 : Int32) 1 24 := (kB_w kc_8 (by decide) (by decide))
      have pf_n : kNF (8 : Int32).toInt sz2_52.toInt := (by omega)
      have pf_p : 8 * sz2_52.toInt - (8 : Int32).toInt = 8 * sz.toInt - sl.toInt + 1 := (by omega)
      have pf_e1 : v62 = nI (wSh (sl.toInt, sz.toInt, Bz, f)).2.2.1 := (by rw [wSh_1 HS1]; exact V62)
      have pf_e2 : (8 : Int32).toInt = (wSh (sl.toInt, sz.toInt, Bz, f)).1 := (by rw [wSh_1 HS1]; exact Z8)
      have pf_e3 : sz2_52.toInt = (wSh (sl.toInt, sz.toInt, Bz, f)).2.1 := (by rw [wSh_1 HS1]; exact q52_1)
      have pf_e4 : f2_52 = (wSh (sl.toInt, sz.toInt, Bz, f)).2.2.2 := (by rw [wSh_1 HS1]; exact F52)
      exact W.vret hx hb hr (fun t9 ht9 hW9 => ⟨⟨(v62, 8, sz2_52, f2_52), rfl, ⟨q52_0, pf_c, pf_n, pf_p, pf_e1, pf_e2, pf_e3, pf_e4⟩, by rw [ht9]; exact hP, hD⟩, hS.F ht9⟩) hS.2.2 dX1_shiftBottom_72
abbrev kw_X1_writeBit : List Cond := Cond.code yX1_writeBit cX1_writeBit 5 none :: kW
set_option maxHeartbeats 4000000 in
set_option maxRecDepth 100000 in
theorem lp_X1_writeBit_44 {p : Program} {l : Launch} {e : Env} {s : State} {m : MethodId} {args : Array Value} {below : List Frame} {meth : Method} {c : Code} {A : Nat → Prop} (D : va_G) (cI cJ cZ : ClassId) (hwr ho hh : Nat) (bo : Int32) (wg : Int32) (sl : Int32) (sz : Int32) (f : Nat → Int32) (pp : Int32) (bt : Int32) (Bz : Nat) (bwg : kB wg 128 255) (bp : kB pp 0 255) (bsz : kB sz 0 592) (bsl : kB sl 1 24) (nf : kNF sl.toInt sz.toInt) (hB : bo = nI Bz) (hB2 : Bz < 4294967296) (hx : p.tables.exec = Jvm.exec) (hb : c.code = cX1_writeBit) (hr : meth.sig.returnType = none) (hml : c.maxLocals = 5) (hown : s.vm.findClass RX1 = some m.cls) (hts : ∀ w ∈ kW, w.before args s = true) (hlocks : meth.locks = false) (hK : kK D cI cJ cZ s) (hA : ∀ q : Nat, s.heap.size ≤ q → A q) : ∀ n : Nat, ∀ (x4 : Int32) (bo2 : Int32) (wg2 : Int32) (sl2 : Int32) (sz2 : Int32) (f2 : Nat → Int32) (B2 : Nat), (7 - x4.toInt).toNat < n → (kB x4 0 7) → (kB wg2 1 255) → (kB sz2 0 600) → (kB sl2 1 24) → (kNF sl2.toInt sz2.toInt) → (krn wg2.toInt = krn (kr1 pp.toInt bt.toInt wg.toInt)) → (kdl wg2.toInt + x4.toInt = kdl (kr1 pp.toInt bt.toInt wg.toInt)) → (8 * sz2.toInt - sl2.toInt = 8 * sz.toInt - sl.toInt + x4.toInt) → (bo2 = nI B2) → (B2 < 4294967296) → (wIt (kdl wg2.toInt).toNat (sl2.toInt, sz2.toInt, B2, f2) = wIt (kdl (kr1 pp.toInt bt.toInt wg.toInt)).toNat (sl.toInt, sz.toInt, wB1 pp.toInt bt.toInt wg.toInt Bz, f)) → ∀ (H : Heap) (locs : List Loc) (ls : Array Slot), va_P D vwCl [(hwr, .inr (1, [.ref ho, .int bo2, .int wg2, .int sl2])), (ho, .inr (3, [.ref hh, .int sz2])), (hh, .inl (cI, 600, .inl f2))] H → va_D A [(hwr, .inr (1, [.ref ho, .int bo2, .int wg2, .int sl2])), (ho, .inr (3, [.ref hh, .int sz2])), (hh, .inl (cI, 600, .inl f2))] → va_S A s.heap H locs → lv_has ls 5 [(0, .ref hwr), (4, .int x4)] → W p l e (headSpec kw_X1_writeBit ({ frames := 2, cells := 0, slots := 0, locals := 41 })).room s m args below meth c H locs 0 0 (MQ below (va_Qv (fun (u : Int32 × Int32 × Int32 × Int32 × (Nat → Int32)) => (kB u.2.1 128 255) ∧ (kB u.2.2.2.1 0 600) ∧ (kB u.2.2.1 1 24) ∧ (kNF u.2.2.1.toInt u.2.2.2.1.toInt) ∧ (u.2.1.toInt = krn (kr1 pp.toInt bt.toInt wg.toInt)) ∧ (8 * u.2.2.2.1.toInt - u.2.2.1.toInt = 8 * sz.toInt - sl.toInt + kdl (kr1 pp.toInt bt.toInt wg.toInt)) ∧ (u.1 = nI (wIt (kdl (kr1 pp.toInt bt.toInt wg.toInt)).toNat (sl.toInt, sz.toInt, wB1 pp.toInt bt.toInt wg.toInt Bz, f)).2.2.1) ∧ (u.2.2.1.toInt = (wIt (kdl (kr1 pp.toInt bt.toInt wg.toInt)).toNat (sl.toInt, sz.toInt, wB1 pp.toInt bt.toInt wg.toInt Bz, f)).1) ∧ (u.2.2.2.1.toInt = (wIt (kdl (kr1 pp.toInt bt.toInt wg.toInt)).toNat (sl.toInt, sz.toInt, wB1 pp.toInt bt.toInt wg.toInt Bz, f)).2.1) ∧ (u.2.2.2.2 = (wIt (kdl (kr1 pp.toInt bt.toInt wg.toInt)).toNat (sl.toInt, sz.toInt, wB1 pp.toInt bt.toInt wg.toInt Bz, f)).2.2.2)) (fun (u : Int32 × Int32 × Int32 × Int32 × (Nat → Int32)) (t : State) => va_P D vwCl [(hwr, .inr (1, [.ref ho, .int u.1, .int u.2.1, .int u.2.2.1])), (ho, .inr (3, [.ref hh, .int u.2.2.2.1])), (hh, .inl (cI, 600, .inl u.2.2.2.2))] t.heap ∧ va_D A [(hwr, .inr (1, [.ref ho, .int u.1, .int u.2.1, .int u.2.2.1])), (ho, .inr (3, [.ref hh, .int u.2.2.2.1])), (hh, .inl (cI, 600, .inl u.2.2.2.2))]) A) args s 0 0 A) (F0 m 44 ls []) := by
  intro n
  induction n with
  | zero => intro x4 bo2 wg2 sl2 sz2 f2 B2 hmeas; exact absurd hmeas (Nat.not_lt_zero _)
  | succ n ih =>
    intro x4 bo2 wg2 sl2 sz2 f2 B2 hmeas b4 bwg2 bsz2 bsl2 nf2 kr kd ph hb2 hb3 hit H locs ls hP hD hS hl
    refine lv_iload hx hb dX1_writeBit_44 (lv_at hl 1 rfl) ?_
    refine lv_bipush (v := 7) hx hb dX1_writeBit_46 (by decide) ?_
    refine lv_icmp_ge (tgt := 81) hx hb dX1_writeBit_48 (by decide) (fun c48 => ?_) (fun c48 => ?_)
    · have c48y : kB x4 7 7 := kB_le_r kc_7 b4 c48 (by decide)
      have G48 : 128 ≤ wg2.toInt := kdl_z (by have := (kdl_le wg2.toInt).1; have := (kdl_le (kr1 pp.toInt bt.toInt wg.toInt)).2; have := c48y.1; omega)
      have B48 : kB wg2 128 255 := ⟨G48, bwg2.2⟩
      have E1 := krn_0 G48
      have E2 := kdl_0 G48
      rw [wIt_0 G48] at hit
      have pf_r_ : wg2.toInt = krn (kr1 pp.toInt bt.toInt wg.toInt) := (by omega)
      have pf_p : 8 * sz2.toInt - sl2.toInt = 8 * sz.toInt - sl.toInt + kdl (kr1 pp.toInt bt.toInt wg.toInt) := (by omega)
      have pf_e1 : bo2 = nI (wIt (kdl (kr1 pp.toInt bt.toInt wg.toInt)).toNat (sl.toInt, sz.toInt, wB1 pp.toInt bt.toInt wg.toInt Bz, f)).2.2.1 := (by rw [← hit]; exact hb2)
      have pf_e2 : sl2.toInt = (wIt (kdl (kr1 pp.toInt bt.toInt wg.toInt)).toNat (sl.toInt, sz.toInt, wB1 pp.toInt bt.toInt wg.toInt Bz, f)).1 := (by rw [← hit])
      have pf_e3 : sz2.toInt = (wIt (kdl (kr1 pp.toInt bt.toInt wg.toInt)).toNat (sl.toInt, sz.toInt, wB1 pp.toInt bt.toInt wg.toInt Bz, f)).2.1 := (by rw [← hit])
      have pf_e4 : f2 = (wIt (kdl (kr1 pp.toInt bt.toInt wg.toInt)).toNat (sl.toInt, sz.toInt, wB1 pp.toInt bt.toInt wg.toInt Bz, f)).2.2.2 := (by rw [← hit])
      exact W.vret hx hb hr (fun t9 ht9 hW9 => ⟨⟨(bo2, wg2, sl2, sz2, f2), rfl, ⟨B48, bsz2, bsl2, nf2, pf_r_, pf_p, pf_e1, pf_e2, pf_e3, pf_e4⟩, by rw [ht9]; exact hP, hD⟩, hS.F ht9⟩) hS.2.2 dX1_writeBit_81
    · have c48n : x4 < 7 := kN_le c48
      have c48nx : kB x4 0 6 := kB_lt_l b4 kc_7 c48n (by decide)
      refine lv_aload_n hx hb dX1_writeBit_51 rfl (lv_at hl 0 rfl) ?_
      refine va_get (D := D) (ci := 1) (v := .int wg2) (C := RX1) (T := TX1) (N := 4) hx hb hts in_X1 hown hK.1 hP 0 rfl rfl 2 (by decide) (hts _ mk_311) (fun _ h9 => h9) rfl dX1_writeBit_52 ?_
      refine lv_sipush (v := 128) hx hb dX1_writeBit_55 (by decide) ?_
      refine lv_icmp_ge (tgt := 81) hx hb dX1_writeBit_58 (by decide) (fun c58 => ?_) (fun c58 => ?_)
      · have c58y : kB wg2 128 255 := kB_le_r kc_128 bwg2 c58 (by decide)
        have G48 : 128 ≤ wg2.toInt := c58y.1
        have E1 := krn_0 G48
        have E2 := kdl_0 G48
        rw [wIt_0 G48] at hit
        have pf_r_ : wg2.toInt = krn (kr1 pp.toInt bt.toInt wg.toInt) := (by omega)
        have pf_p : 8 * sz2.toInt - sl2.toInt = 8 * sz.toInt - sl.toInt + kdl (kr1 pp.toInt bt.toInt wg.toInt) := (by omega)
        have pf_e1 : bo2 = nI (wIt (kdl (kr1 pp.toInt bt.toInt wg.toInt)).toNat (sl.toInt, sz.toInt, wB1 pp.toInt bt.toInt wg.toInt Bz, f)).2.2.1 := (by rw [← hit]; exact hb2)
        have pf_e2 : sl2.toInt = (wIt (kdl (kr1 pp.toInt bt.toInt wg.toInt)).toNat (sl.toInt, sz.toInt, wB1 pp.toInt bt.toInt wg.toInt Bz, f)).1 := (by rw [← hit])
        have pf_e3 : sz2.toInt = (wIt (kdl (kr1 pp.toInt bt.toInt wg.toInt)).toNat (sl.toInt, sz.toInt, wB1 pp.toInt bt.toInt wg.toInt Bz, f)).2.1 := (by rw [← hit])
        have pf_e4 : f2 = (wIt (kdl (kr1 pp.toInt bt.toInt wg.toInt)).toNat (sl.toInt, sz.toInt, wB1 pp.toInt bt.toInt wg.toInt Bz, f)).2.2.2 := (by rw [← hit])
        exact W.vret hx hb hr (fun t9 ht9 hW9 => ⟨⟨(bo2, wg2, sl2, sz2, f2), rfl, ⟨c58y, bsz2, bsl2, nf2, pf_r_, pf_p, pf_e1, pf_e2, pf_e3, pf_e4⟩, by rw [ht9]; exact hP, hD⟩, hS.F ht9⟩) hS.2.2 dX1_writeBit_81
      · have c58n : wg2 < 128 := kN_le c58
        have c58nx : kB wg2 1 127 := kB_lt_l bwg2 kc_128 c58n (by decide)
        refine lv_aload_n hx hb dX1_writeBit_61 rfl (lv_at hl 0 rfl) ?_
        refine lv_dup hx hb dX1_writeBit_62 rfl ?_
        refine va_get (D := D) (ci := 1) (v := .int wg2) (C := RX1) (T := TX1) (N := 4) hx hb hts in_X1 hown hK.1 hP 0 rfl rfl 2 (by decide) (hts _ mk_311) (fun _ h9 => h9) rfl dX1_writeBit_63 ?_
        refine lv_iconst (v := 1) hx hb dX1_writeBit_66 (by decide) ?_
        refine lv_ishl hx hb dX1_writeBit_67 ?_
        refine lv_topi (fun v67 e67 => ?_)
        have b67 : kB v67 2 254 := kB_eq e67 (kB_shl 1 (by decide) c58nx (by decide))
        have K67 : v67.toInt = 2 * wg2.toInt := by rw [e67]; exact kdbl (kB_w bwg2 (by decide) (by decide))
        have D67 := kdl_dbl (r := wg2.toInt) bwg2.1 (by have := c58nx.2; omega)
        have N67 := krn_dbl (r := wg2.toInt) bwg2.1 (by have := c58nx.2; omega)
        refine va_put (D := D) (ci := 1) (v := .int v67) (ty := .int) (C := RX1) (T := TX1) (N := 4) hx hb hts in_X1 tyX1 tyX1_ok nmX1 hown hK.1 hP hD hS 0 rfl rfl 2 (by decide) (hts _ mk_311) (fun _ h9 => h9) rfl (by decide +kernel) rfl rfl (Nat.le_of_ble_eq_true rfl) dX1_writeBit_68 (fun H locs hP hD hS => ?_)
        have hP : va_P D vwCl [(hwr, .inr (1, [.ref ho, .int bo2, .int v67, .int sl2])), (ho, .inr (3, [.ref hh, .int sz2])), (hh, .inl (cI, 600, .inl f2))] H := hP
        have hD : va_D A [(hwr, .inr (1, [.ref ho, .int bo2, .int v67, .int sl2])), (ho, .inr (3, [.ref hh, .int sz2])), (hh, .inl (cI, 600, .inl f2))] := hD
        refine lv_aload_n hx hb dX1_writeBit_71 rfl (lv_at hl 0 rfl) ?_
        have B72 : kB sz2 0 599 := ⟨by omega, by omega⟩
        have hPc := hP.sub (ws' := [(hwr, .inr (1, [.ref ho, .int bo2, .int v67, .int sl2])), (ho, .inr (3, [.ref hh, .int sz2])), (hh, .inl (cI, 600, .inl f2))]) [0, 1, 2] rfl
        have hDc := hD.sub (ws' := [(hwr, .inr (1, [.ref ho, .int bo2, .int v67, .int sl2])), (ho, .inr (3, [.ref hh, .int sz2])), (hh, .inl (cI, 600, .inl f2))]) [0, 1, 2] (by decide) rfl
        have hFc := va_free (wc := [(hwr, .inr (1, [.ref ho, .int bo2, .int v67, .int sl2])), (ho, .inr (3, [.ref hh, .int sz2])), (hh, .inl (cI, 600, .inl f2))]) hD hS hA [0, 1, 2] rfl
        refine va_callv (va_runV (As := []) (rest := []) ⟨hx, hb, hml, hown, hts⟩ (c_X1_shiftBottom l D cI cJ cZ hwr ho hh bo2 v67 sl2 sz2 f2 B2 B72 bsl2 nf2 hb2 hb3 (H).size) (cwV 0 hts (kg_V mk_323 mk_324 mk_325 mk_326 mk_327) rfl rfl rfl (by decide +kernel) ⟨Nat.le_of_ble_eq_true rfl, Nat.le_of_ble_eq_true rfl⟩) ⟨fun a U g mk q => by obtain ⟨q0, q1, qP, qK, qD⟩ := q; exact ⟨q0, q1, qP, kK.call qK, qD⟩, va_recv hK.1 hPc (ci := 1) (q0 := 0) rfl rfl, fun U hU hW => ⟨rfl, by rw [hU], by rw [hU]; exact hPc, kK.warm hW hK, hDc.weaken (fun _ _ _ _ => trivial)⟩⟩ rfl rfl hl.1 rfl (lv_room (Nat.le_of_ble_eq_true rfl)) dX1_writeBit_72 ⟨Nat.zero_le _, Nat.zero_le _⟩) hS (fun q _ h => hFc q h) hFc (fun u t9 H1 locs ht9 hvm9 hw9 hB9 hz9 hk9 hS => ?_)
        obtain ⟨bo2_72, sl2_72, sz2_72, f2_72⟩ := u
        obtain ⟨hP1, hD1⟩ := hB9
        rw [ht9] at hP1
        have hP1 : va_P D vwCl [(hwr, .inr (1, [.ref ho, .int bo2_72, .int v67, .int sl2_72])), (ho, .inr (3, [.ref hh, .int sz2_72])), (hh, .inl (cI, 600, .inl f2_72))] H1 := hP1
        obtain ⟨hP, hD⟩ := va_join (wr := []) (w1 := [(hwr, .inr (1, [.ref ho, .int bo2_72, .int v67, .int sl2_72])), (ho, .inr (3, [.ref hh, .int sz2_72])), (hh, .inl (cI, 600, .inl f2_72))]) hP hD [0, 1, 2] [] rfl rfl (by decide) (by decide) hk9 hFc hP1 hD1
        have hP := hP.sub (ws' := [(hwr, .inr (1, [.ref ho, .int bo2_72, .int v67, .int sl2_72])), (ho, .inr (3, [.ref hh, .int sz2_72])), (hh, .inl (cI, 600, .inl f2_72))]) [0, 1, 2] rfl
        have hD := hD.sub (ws' := [(hwr, .inr (1, [.ref ho, .int bo2_72, .int v67, .int sl2_72])), (ho, .inr (3, [.ref hh, .int sz2_72])), (hh, .inl (cI, 600, .inl f2_72))]) [0, 1, 2] (by decide) rfl
        generalize H1 = H at hP hS ⊢
        obtain ⟨q72_0, q72_1, q72_2, q72_3, q72_4, q72_5, q72_6, q72_7⟩ := hw9
        have q72_0 : kB sz2_72 0 600 := q72_0
        have q72_1 : kB sl2_72 1 24 := q72_1
        have q72_2 : kNF sl2_72.toInt sz2_72.toInt := q72_2
        have q72_3 : 8 * sz2_72.toInt - sl2_72.toInt = 8 * sz2.toInt - sl2.toInt + 1 := q72_3
        have q72_4 : bo2_72 = nI (wSh (sl2.toInt, sz2.toInt, B2, f2)).2.2.1 := q72_4
        have q72_5 : sl2_72.toInt = (wSh (sl2.toInt, sz2.toInt, B2, f2)).1 := q72_5
        have q72_6 : sz2_72.toInt = (wSh (sl2.toInt, sz2.toInt, B2, f2)).2.1 := q72_6
        have q72_7 : f2_72 = (wSh (sl2.toInt, sz2.toInt, B2, f2)).2.2.2 := q72_7
        obtain ⟨v75, e75⟩ : ∃ y : Int32, y = x4 + 1 := ⟨_, rfl⟩
        refine lv_iinc (v := v75) (lv' := [(4, .int v75), (0, .ref hwr)]) hx hb dX1_writeBit_75 hl (k := 1) rfl (by rw [e75]; rfl) (by decide) rfl (fun ls hl => ?_)
        have b75 : kB v75 1 7 := kB_eq e75 (kB_add c48nx kc_1 (by decide))
        have t75 : v75.toInt = x4.toInt + 1 := by rw [e75]; exact kinc (kB_w c48nx (by decide) (by decide))
        refine lv_goto (tgt := 44) hx hb dX1_writeBit_78 (by decide) ?_
        exact ih v75 bo2_72 v67 sl2_72 sz2_72 f2_72 ((wSh (sl2.toInt, sz2.toInt, B2, f2)).2.2.1) (by have := b75.1; have := b75.2; have := b67.1; have := b67.2; have := q72_1.1; have := q72_1.2; have := q72_0.1; have := q72_0.2; have := c48nx.1; have := c48nx.2; have := c58nx.1; have := c58nx.2; have := bsl2.1; have := bsl2.2; have := B72.1; have := B72.2; omega) (kB_w b75 (by decide) (by decide)) (kB_w b67 (by decide) (by decide)) q72_0 q72_1 q72_2 (by rw [K67, N67]; exact kr) (by rw [K67, t75]; omega) (by rw [t75]; omega) q72_4 (wSh_lt hb3) (by rw [K67, q72_5, q72_6, q72_7]; rw [wIt_dbl bwg2.1 (by have := c58nx.2; omega)] at hit; exact hit) _ _ ls hP hD hS (lv_sub hl [1, 0] rfl)
set_option maxHeartbeats 4000000 in
set_option maxRecDepth 100000 in
theorem c_X1_writeBit (l : Launch) (D : va_G) (cI cJ cZ : ClassId) (hwr ho hh : Nat) (bo : Int32) (wg : Int32) (sl : Int32) (sz : Int32) (f : Nat → Int32) (pp : Int32) (bt : Int32) (Bz : Nat) (bwg : kB wg 128 255) (bp : kB pp 0 255) (bsz : kB sz 0 592) (bsl : kB sl 1 24) (nf : kNF sl.toInt sz.toInt) (hB : bo = nI Bz) (hB2 : Bz < 4294967296) (hpz : Nat) : Met l yX1_writeBit kw_X1_writeBit ({ frames := 2, cells := 0, slots := 0, locals := 41 }) (va_Pc [.ref hwr, .int pp, .int bt] (fun U => U.heap.size = hpz ∧ va_P D vwCl [(hwr, .inr (1, [.ref ho, .int bo, .int wg, .int sl])), (ho, .inr (3, [.ref hh, .int sz])), (hh, .inl (cI, 600, .inl f))] U.heap ∧ kK D cI cJ cZ U ∧ va_D (fun _ => True) [(hwr, .inr (1, [.ref ho, .int bo, .int wg, .int sl])), (ho, .inr (3, [.ref hh, .int sz])), (hh, .inl (cI, 600, .inl f))])) (va_Qv (fun (u : Int32 × Int32 × Int32 × Int32 × (Nat → Int32)) => (kB u.2.1 128 255) ∧ (kB u.2.2.2.1 0 600) ∧ (kB u.2.2.1 1 24) ∧ (kNF u.2.2.1.toInt u.2.2.2.1.toInt) ∧ (u.2.1.toInt = krn (kr1 pp.toInt bt.toInt wg.toInt)) ∧ (8 * u.2.2.2.1.toInt - u.2.2.1.toInt = 8 * sz.toInt - sl.toInt + kdl (kr1 pp.toInt bt.toInt wg.toInt)) ∧ (u.1 = nI (wIt (kdl (kr1 pp.toInt bt.toInt wg.toInt)).toNat (sl.toInt, sz.toInt, wB1 pp.toInt bt.toInt wg.toInt Bz, f)).2.2.1) ∧ (u.2.2.1.toInt = (wIt (kdl (kr1 pp.toInt bt.toInt wg.toInt)).toNat (sl.toInt, sz.toInt, wB1 pp.toInt bt.toInt wg.toInt Bz, f)).1) ∧ (u.2.2.2.1.toInt = (wIt (kdl (kr1 pp.toInt bt.toInt wg.toInt)).toNat (sl.toInt, sz.toInt, wB1 pp.toInt bt.toInt wg.toInt Bz, f)).2.1) ∧ (u.2.2.2.2 = (wIt (kdl (kr1 pp.toInt bt.toInt wg.toInt)).toNat (sl.toInt, sz.toInt, wB1 pp.toInt bt.toInt wg.toInt Bz, f)).2.2.2)) (fun (u : Int32 × Int32 × Int32 × Int32 × (Nat → Int32)) (t : State) => va_P D vwCl [(hwr, .inr (1, [.ref ho, .int u.1, .int u.2.1, .int u.2.2.1])), (ho, .inr (3, [.ref hh, .int u.2.2.2.1])), (hh, .inl (cI, 600, .inl u.2.2.2.2))] t.heap ∧ va_D (va_A [(hwr, .inr (1, [.ref ho, .int bo, .int wg, .int sl])), (ho, .inr (3, [.ref hh, .int sz])), (hh, .inl (cI, 600, .inl f))] hpz) [(hwr, .inr (1, [.ref ho, .int u.1, .int u.2.1, .int u.2.2.1])), (ho, .inr (3, [.ref hh, .int u.2.2.2.1])), (hh, .inl (cI, 600, .inl u.2.2.2.2))]) (va_A [(hwr, .inr (1, [.ref ho, .int bo, .int wg, .int sl])), (ho, .inr (3, [.ref hh, .int sz])), (hh, .inl (cI, 600, .inl f))] hpz)) 0 0 (va_A [(hwr, .inr (1, [.ref ho, .int bo, .int wg, .int sl])), (ho, .inr (3, [.ref hh, .int sz])), (hh, .inl (cI, 600, .inl f))] hpz) := by
  refine Met.ofW (cc := cX1_writeBit) (maxL := 5) (ret := none) (by decide) rfl ?_
  intro p e s m args below meth c s₁ B hml hv
  obtain ⟨rfl, hsz, hP, hK, hD0⟩ := hv
  have hx := B.exec
  have hb := B.bytes
  have hr := B.returns
  have hts := fun (w : Cond) (h : w ∈ kW) => atoms_spec (ws := kw_X1_writeBit) B.pre w (List.mem_cons_of_mem _ h)
  have hown : s.vm.findClass RX1 = some m.cls := findClass_of_methodNamed B.named
  have hlocks := B.notSynchronized
  subst hsz
  have hD := hD0.self (sz := s.heap.size)
  generalize hAe : va_A [(hwr, .inr (1, [.ref ho, .int bo, .int wg, .int sl])), (ho, .inr (3, [.ref hh, .int sz])), (hh, .inl (cI, 600, .inl f))] s.heap.size = A at hD ⊢
  have hA : ∀ q : Nat, s.heap.size ≤ q → A q := fun q h => by rw [← hAe]; exact Or.inr h
  have hS : va_S A s.heap s.heap [] := va_S.rf
  have hP : va_P D vwCl [(hwr, .inr (1, [.ref ho, .int bo, .int wg, .int sl])), (ho, .inr (3, [.ref hh, .int sz])), (hh, .inl (cI, 600, .inl f))] s.heap := hP
  have hl := lv_entry ([.ref hwr, .int pp, .int bt]) (n := 5) (Nat.le_of_ble_eq_true rfl)
  rw [lg_entry_eq]
  generalize (lg_sl ([.ref hwr, .int pp, .int bt]) ++ List.replicate (5 - (lg_sl ([.ref hwr, .int pp, .int bt])).length) Slot.unset).toArray = ls at hl ⊢
  have hl : lv_has ls 5 [(0, .ref hwr), (1, .int pp), (2, .int bt)] := hl
  refine lv_aload_n hx hb dX1_writeBit_0 rfl (lv_at hl 0 rfl) ?_
  refine va_get (D := D) (ci := 1) (v := .int wg) (C := RX1) (T := TX1) (N := 4) hx hb hts in_X1 hown hK.1 hP 0 rfl rfl 2 (by decide) (hts _ mk_311) (fun _ h9 => h9) rfl dX1_writeBit_1 ?_
  refine lv_iload_n hx hb dX1_writeBit_4 rfl (lv_at hl 1 rfl) ?_
  have hPc := hP.sub (ws' := []) [] rfl
  have hDc := hD.sub (ws' := []) [] (by decide) rfl
  have hFc := va_free (wc := []) hD hS hA [] rfl
  refine va_calli (va_runSN (As := [.int wg, .int pp]) (rest := []) ⟨hx, hb, hml, hown, hts⟩ (c_X7_splitOf l D cI cJ cZ wg pp bwg bp (s.heap).size) (⟨va_cnB 2 hts (kg_N mk_12) rfl rfl rfl (hK.2 (.methodLinkNest RX1 23 yX7_splitOf "KeyFrames") (by decide +kernel)) (hts _ mk_13) (by decide +kernel) ⟨Nat.le_of_ble_eq_true rfl, Nat.le_of_ble_eq_true rfl⟩, (hts _ mk_14), trivial⟩) ⟨fun a U g mk q => by obtain ⟨q0, q1, qP, qK, qD⟩ := q; exact ⟨q0, q1, qP, kK.call qK, qD⟩, fun U hU hW => ⟨rfl, by rw [hU], by rw [hU]; exact hPc, kK.warm hW hK, hDc.weaken (fun _ _ _ _ => trivial)⟩⟩ rfl rfl hl.1 rfl (lv_room (Nat.le_of_ble_eq_true rfl)) dX1_writeBit_5 ⟨Nat.zero_le _, Nat.zero_le _⟩) hS (fun q _ h => hFc q h) hFc (fun r5 u t9 H1 locs ht9 hvm9 hw9 hB9 hz9 hk9 hS => ?_)
  obtain ⟨hP1, hD1⟩ := hB9
  rw [ht9] at hP1
  have hP1 : va_P D vwCl [] H1 := hP1
  obtain ⟨hP, hD⟩ := va_join (wr := [(hwr, .inr (1, [.ref ho, .int bo, .int wg, .int sl])), (ho, .inr (3, [.ref hh, .int sz])), (hh, .inl (cI, 600, .inl f))]) (w1 := []) hP hD [] [0, 1, 2] rfl rfl (by decide) (by decide) hk9 hFc hP1 hD1
  have hP := hP.sub (ws' := [(hwr, .inr (1, [.ref ho, .int bo, .int wg, .int sl])), (ho, .inr (3, [.ref hh, .int sz])), (hh, .inl (cI, 600, .inl f))]) [0, 1, 2] rfl
  have hD := hD.sub (ws' := [(hwr, .inr (1, [.ref ho, .int bo, .int wg, .int sl])), (ho, .inr (3, [.ref hh, .int sz])), (hh, .inl (cI, 600, .inl f))]) [0, 1, 2] (by decide) rfl
  generalize H1 = H at hP hS ⊢
  obtain ⟨q5_0, q5_1, q5_2⟩ := hw9
  have q5_0 : r5.toInt = 1 + (wg.toInt - 1) * pp.toInt / 256 := q5_0
  have q5_1 : r5.toInt < wg.toInt := q5_1
  have q5_2 : kB r5 1 254 := q5_2
  refine lv_istore_n (lv' := [(3, .int r5), (0, .ref hwr), (1, .int pp), (2, .int bt)]) hx hb dX1_writeBit_8 rfl hl (by decide) rfl (fun ls hl => ?_)
  refine lv_iload_n hx hb dX1_writeBit_9 rfl (lv_at hl 3 rfl) ?_
  refine lv_if_ne (tgt := 21) hx hb dX1_writeBit_10 (by decide) (fun c10 => ?_) (fun c10 => ?_)
  · refine lv_aload_n hx hb dX1_writeBit_21 rfl (lv_at hl 1 rfl) ?_
    refine lv_dup hx hb dX1_writeBit_22 rfl ?_
    refine va_get (D := D) (ci := 1) (v := .int bo) (C := RX1) (T := TX1) (N := 4) hx hb hts in_X1 hown hK.1 hP 0 rfl rfl 1 (by decide) (hts _ mk_310) (fun _ h9 => h9) rfl dX1_writeBit_23 ?_
    refine lv_iload_n hx hb dX1_writeBit_26 rfl (lv_at hl 0 rfl) ?_
    refine lv_iadd hx hb dX1_writeBit_27 ?_
    refine lv_topi (fun v27 e27 => ?_)
    refine va_put (D := D) (ci := 1) (v := .int v27) (ty := .int) (C := RX1) (T := TX1) (N := 4) hx hb hts in_X1 tyX1 tyX1_ok nmX1 hown hK.1 hP hD hS 0 rfl rfl 1 (by decide) (hts _ mk_310) (fun _ h9 => h9) rfl (by decide +kernel) rfl rfl (Nat.le_of_ble_eq_true rfl) dX1_writeBit_28 (fun H locs hP hD hS => ?_)
    have hP : va_P D vwCl [(hwr, .inr (1, [.ref ho, .int v27, .int wg, .int sl])), (ho, .inr (3, [.ref hh, .int sz])), (hh, .inl (cI, 600, .inl f))] H := hP
    have hD : va_D A [(hwr, .inr (1, [.ref ho, .int v27, .int wg, .int sl])), (ho, .inr (3, [.ref hh, .int sz])), (hh, .inl (cI, 600, .inl f))] := hD
    refine lv_aload_n hx hb dX1_writeBit_31 rfl (lv_at hl 1 rfl) ?_
    refine lv_dup hx hb dX1_writeBit_32 rfl ?_
    refine va_get (D := D) (ci := 1) (v := .int wg) (C := RX1) (T := TX1) (N := 4) hx hb hts in_X1 hown hK.1 hP 0 rfl rfl 2 (by decide) (hts _ mk_311) (fun _ h9 => h9) rfl dX1_writeBit_33 ?_
    refine lv_iload_n hx hb dX1_writeBit_36 rfl (lv_at hl 0 rfl) ?_
    refine lv_isub hx hb dX1_writeBit_37 ?_
    refine lv_topi (fun v37 e37 => ?_)
    have b37 : kB v37 (-126) 254 := kB_eq e37 (kB_sub bwg q5_2 (by decide))
    have X37 : v37.toInt = wg.toInt - r5.toInt := by rw [e37, kI_sub (by have := q5_2.2; have := bwg.1; omega) (by have := q5_2.1; have := bwg.2; omega)]
    have B37 : kB v37 1 254 := ⟨by rw [X37]; have := q5_1; omega, by rw [X37]; have := q5_2.1; have := bwg.2; omega⟩
    have R1 : v37.toInt = (kr1 pp.toInt bt.toInt wg.toInt) := by rw [X37, q5_0]; unfold kr1; rw [if_neg (kn0 c10)]
    have WB : wB1 pp.toInt bt.toInt wg.toInt Bz = (Bz + (1 + (wg.toInt - 1) * pp.toInt / 256).toNat) % 4294967296 := by unfold wB1; rw [if_neg (kn0 c10)]
    have HB : v27 = nI ((Bz + (1 + (wg.toInt - 1) * pp.toInt / 256).toNat) % 4294967296) := by rw [e27, hB, nI_of_toInt (x := r5) (by have := q5_2.1; omega), nI_add, q5_0, ← nI_mod]
    have HB3 : (Bz + (1 + (wg.toInt - 1) * pp.toInt / 256).toNat) % 4294967296 < 4294967296 := Nat.mod_lt _ (by decide)
    refine va_put (D := D) (ci := 1) (v := .int v37) (ty := .int) (C := RX1) (T := TX1) (N := 4) hx hb hts in_X1 tyX1 tyX1_ok nmX1 hown hK.1 hP hD hS 0 rfl rfl 2 (by decide) (hts _ mk_311) (fun _ h9 => h9) rfl (by decide +kernel) rfl rfl (Nat.le_of_ble_eq_true rfl) dX1_writeBit_38 (fun H locs hP hD hS => ?_)
    have hP : va_P D vwCl [(hwr, .inr (1, [.ref ho, .int v27, .int v37, .int sl])), (ho, .inr (3, [.ref hh, .int sz])), (hh, .inl (cI, 600, .inl f))] H := hP
    have hD : va_D A [(hwr, .inr (1, [.ref ho, .int v27, .int v37, .int sl])), (ho, .inr (3, [.ref hh, .int sz])), (hh, .inl (cI, 600, .inl f))] := hD
    refine lv_iconst (v := 0) hx hb dX1_writeBit_41 (by decide) ?_
    refine lv_istore (lv' := [(4, .int 0), (3, .int r5), (0, .ref hwr), (1, .int pp), (2, .int bt)]) hx hb dX1_writeBit_42 hl (by decide) rfl (fun ls hl => ?_)
    exact lp_X1_writeBit_44 D cI cJ cZ hwr ho hh bo wg sl sz f pp bt Bz bwg bp bsz bsl nf hB hB2 hx hb hr hml hown hts hlocks hK hA ((7 - (0 : Int32).toInt).toNat + 1) 0 v27 v37 sl sz f ((Bz + (1 + (wg.toInt - 1) * pp.toInt / 256).toNat) % 4294967296) (Nat.lt_succ_self _) (kB_w kc_0 (by decide) (by decide)) (kB_w B37 (by decide) (by decide)) (kB_w bsz (by decide) (by decide)) bsl nf (by rw [R1]) (by rw [R1, show (0 : Int32).toInt = 0 from by decide]; omega) (by rw [show (0 : Int32).toInt = 0 from by decide]; omega) HB HB3 (by rw [R1, WB]) _ _ ls hP hD hS (lv_sub hl [2, 0] rfl)
  · have c10x : kB bt 0 0 := kB_eq c10 kc_0
    refine lv_aload_n hx hb dX1_writeBit_13 rfl (lv_at hl 1 rfl) ?_
    refine lv_iload_n hx hb dX1_writeBit_14 rfl (lv_at hl 0 rfl) ?_
    have R1 : r5.toInt = (kr1 pp.toInt bt.toInt wg.toInt) := by rw [q5_0]; unfold kr1; rw [if_pos (k0 c10)]
    have WB : wB1 pp.toInt bt.toInt wg.toInt Bz = Bz := by unfold wB1; rw [if_pos (k0 c10)]
    have HB : bo = nI Bz := hB
    have HB3 : Bz < 4294967296 := hB2
    refine va_put (D := D) (ci := 1) (v := .int r5) (ty := .int) (C := RX1) (T := TX1) (N := 4) hx hb hts in_X1 tyX1 tyX1_ok nmX1 hown hK.1 hP hD hS 0 rfl rfl 2 (by decide) (hts _ mk_311) (fun _ h9 => h9) rfl (by decide +kernel) rfl rfl (Nat.le_of_ble_eq_true rfl) dX1_writeBit_15 (fun H locs hP hD hS => ?_)
    have hP : va_P D vwCl [(hwr, .inr (1, [.ref ho, .int bo, .int r5, .int sl])), (ho, .inr (3, [.ref hh, .int sz])), (hh, .inl (cI, 600, .inl f))] H := hP
    have hD : va_D A [(hwr, .inr (1, [.ref ho, .int bo, .int r5, .int sl])), (ho, .inr (3, [.ref hh, .int sz])), (hh, .inl (cI, 600, .inl f))] := hD
    refine lv_goto (tgt := 41) hx hb dX1_writeBit_18 (by decide) ?_
    refine lv_iconst (v := 0) hx hb dX1_writeBit_41 (by decide) ?_
    refine lv_istore (lv' := [(4, .int 0), (3, .int r5), (0, .ref hwr), (1, .int pp), (2, .int bt)]) hx hb dX1_writeBit_42 hl (by decide) rfl (fun ls hl => ?_)
    exact lp_X1_writeBit_44 D cI cJ cZ hwr ho hh bo wg sl sz f pp bt Bz bwg bp bsz bsl nf hB hB2 hx hb hr hml hown hts hlocks hK hA ((7 - (0 : Int32).toInt).toNat + 1) 0 bo r5 sl sz f Bz (Nat.lt_succ_self _) (kB_w kc_0 (by decide) (by decide)) (kB_w q5_2 (by decide) (by decide)) (kB_w bsz (by decide) (by decide)) bsl nf (by rw [R1]) (by rw [R1, show (0 : Int32).toInt = 0 from by decide]; omega) (by rw [show (0 : Int32).toInt = 0 from by decide]; omega) HB HB3 (by rw [R1, WB]) _ _ ls hP hD hS (lv_sub hl [2, 0] rfl)
abbrev kw_X1_finish : List Cond := Cond.code yX1_finish cX1_finish 2 none :: kW
set_option maxHeartbeats 4000000 in
set_option maxRecDepth 100000 in
theorem lp_X1_finish_39 {p : Program} {l : Launch} {e : Env} {s : State} {m : MethodId} {args : Array Value} {below : List Frame} {meth : Method} {c : Code} {A : Nat → Prop} (D : va_G) (cI cJ cZ : ClassId) (hwr ho hh : Nat) (bo : Int32) (wg : Int32) (sl : Int32) (sz : Int32) (f : Nat → Int32) (Bz : Nat) (bsz : kB sz 0 596) (bsl : kB sl 1 24) (hB : bo = nI Bz) (hB2 : Bz < 4294967296) (hx : p.tables.exec = Jvm.exec) (hb : c.code = cX1_finish) (hr : meth.sig.returnType = none) (hml : c.maxLocals = 2) (hown : s.vm.findClass RX1 = some m.cls) (hts : ∀ w ∈ kW, w.before args s = true) (hlocks : meth.locks = false) (hK : kK D cI cJ cZ s) (hA : ∀ q : Nat, s.heap.size ≤ q → A q) : ∀ n : Nat, ∀ (x1 : Int32) (bo2 : Int32) (sz2 : Int32) (f2 : Nat → Int32) (V : Nat), (4 - x1.toInt).toNat < n → (kB x1 0 4) → (kB sz2 0 600) → (sz2.toInt = sz.toInt + x1.toInt) → (bo2 = nI V) → (V < 4294967296) → (wAp (4 - x1.toInt).toNat (sz2.toInt, V, f2) = (wAp 4 (sz.toInt, wEb sl.toInt Bz, wEf sl.toInt sz.toInt.toNat Bz f))) → ∀ (H : Heap) (locs : List Loc) (ls : Array Slot), va_P D vwCl [(hwr, .inr (1, [.ref ho, .int bo2, .int wg, .int sl])), (ho, .inr (3, [.ref hh, .int sz2])), (hh, .inl (cI, 600, .inl f2))] H → va_D A [(hwr, .inr (1, [.ref ho, .int bo2, .int wg, .int sl])), (ho, .inr (3, [.ref hh, .int sz2])), (hh, .inl (cI, 600, .inl f2))] → va_S A s.heap H locs → lv_has ls 2 [(0, .ref hwr), (1, .int x1)] → W p l e (headSpec kw_X1_finish ({ frames := 1, cells := 0, slots := 0, locals := 21 })).room s m args below meth c H locs 0 0 (MQ below (va_Qv (fun (u : Int32 × Int32 × (Nat → Int32)) => (kB u.2.1 0 600) ∧ (u.2.1.toInt = sz.toInt + 4) ∧ (u.2.2 = (wAp 4 (sz.toInt, wEb sl.toInt Bz, wEf sl.toInt sz.toInt.toNat Bz f)).2.2)) (fun (u : Int32 × Int32 × (Nat → Int32)) (t : State) => va_P D vwCl [(hwr, .inr (1, [.ref ho, .int u.1, .int wg, .int sl])), (ho, .inr (3, [.ref hh, .int u.2.1])), (hh, .inl (cI, 600, .inl u.2.2))] t.heap ∧ va_D A [(hwr, .inr (1, [.ref ho, .int u.1, .int wg, .int sl])), (ho, .inr (3, [.ref hh, .int u.2.1])), (hh, .inl (cI, 600, .inl u.2.2))]) A) args s 0 0 A) (F0 m 39 ls []) := by
  intro n
  induction n with
  | zero => intro x1 bo2 sz2 f2 V hmeas; exact absurd hmeas (Nat.not_lt_zero _)
  | succ n ih =>
    intro x1 bo2 sz2 f2 V hmeas b1 bsz2 hz hv hv2 hap H locs ls hP hD hS hl
    refine lv_iload_n hx hb dX1_finish_39 rfl (lv_at hl 1 rfl) ?_
    refine lv_iconst (v := 4) hx hb dX1_finish_40 (by decide) ?_
    refine lv_icmp_ge (tgt := 75) hx hb dX1_finish_41 (by decide) (fun c41 => ?_) (fun c41 => ?_)
    · have c41y : kB x1 4 4 := kB_le_r kc_4 b1 c41 (by decide)
      have E41 : (sz2.toInt, V, f2) = (wAp 4 (sz.toInt, wEb sl.toInt Bz, wEf sl.toInt sz.toInt.toNat Bz f)) := by rw [← hap, show (4 - x1.toInt).toNat = 0 by have := c41y.1; omega]; rfl
      have pf_x : sz2.toInt = sz.toInt + 4 := (by have := c41y.1; omega)
      have pf_w : f2 = (wAp 4 (sz.toInt, wEb sl.toInt Bz, wEf sl.toInt sz.toInt.toNat Bz f)).2.2 := (by rw [← E41])
      exact W.vret hx hb hr (fun t9 ht9 hW9 => ⟨⟨(bo2, sz2, f2), rfl, ⟨bsz2, pf_x, pf_w⟩, by rw [ht9]; exact hP, hD⟩, hS.F ht9⟩) hS.2.2 dX1_finish_75
    · have c41n : x1 < 4 := kN_le c41
      have c41nx : kB x1 0 3 := kB_lt_l b1 kc_4 c41n (by decide)
      refine lv_aload_n hx hb dX1_finish_44 rfl (lv_at hl 0 rfl) ?_
      refine va_get (D := D) (ci := 1) (v := .ref ho) (C := RX1) (T := TX1) (N := 4) hx hb hts in_X1 hown hK.1 hP 0 rfl rfl 0 (by decide) (hts _ mk_313) (fun _ h9 => h9) rfl dX1_finish_45 ?_
      refine lv_aload_n hx hb dX1_finish_48 rfl (lv_at hl 0 rfl) ?_
      refine va_get (D := D) (ci := 1) (v := .int bo2) (C := RX1) (T := TX1) (N := 4) hx hb hts in_X1 hown hK.1 hP 0 rfl rfl 1 (by decide) (hts _ mk_310) (fun _ h9 => h9) rfl dX1_finish_49 ?_
      refine lv_bipush (v := 24) hx hb dX1_finish_52 (by decide) ?_
      refine lv_iushr hx hb dX1_finish_54 rfl ?_
      refine lv_topi (fun v54 e54 => ?_)
      have V54 : v54 = nI (V / 16777216) := by rw [e54, hv, nI_ush hv2 (k := 24) (by decide)]
      have hPc := hP.sub (ws' := [(ho, .inr (3, [.ref hh, .int sz2])), (hh, .inl (cI, 600, .inl f2))]) [1, 2] rfl
      have hDc := hD.sub (ws' := [(ho, .inr (3, [.ref hh, .int sz2])), (hh, .inl (cI, 600, .inl f2))]) [1, 2] (by decide) rfl
      have hFc := va_free (wc := [(ho, .inr (3, [.ref hh, .int sz2])), (hh, .inl (cI, 600, .inl f2))]) hD hS hA [1, 2] rfl
      refine va_callv (va_runV (As := [.int v54]) (rest := []) ⟨hx, hb, hml, hown, hts⟩ (c_X3_append l D cI cJ cZ ho hh sz2 f2 v54 bsz2 (H).size) (cwV 1 hts (kg_V mk_314 mk_315 mk_316 mk_6 mk_317) rfl rfl rfl (by decide +kernel) ⟨Nat.le_of_ble_eq_true rfl, Nat.le_of_ble_eq_true rfl⟩) ⟨fun a U g mk q => by obtain ⟨q0, q1, qP, qK, qD⟩ := q; exact ⟨q0, q1, qP, kK.call qK, qD⟩, va_recv hK.1 hPc (ci := 3) (q0 := 0) rfl rfl, fun U hU hW => ⟨rfl, by rw [hU], by rw [hU]; exact hPc, kK.warm hW hK, hDc.weaken (fun _ _ _ _ => trivial)⟩⟩ rfl rfl hl.1 rfl (lv_room (Nat.le_of_ble_eq_true rfl)) dX1_finish_55 ⟨Nat.zero_le _, Nat.zero_le _⟩) hS (fun q _ h => hFc q h) hFc (fun u t9 H1 locs ht9 hvm9 hw9 hB9 hz9 hk9 hS => ?_)
      obtain ⟨sz2_55, f2_55⟩ := u
      obtain ⟨hP1, hD1⟩ := hB9
      rw [ht9] at hP1
      have hP1 : va_P D vwCl [(ho, .inr (3, [.ref hh, .int sz2_55])), (hh, .inl (cI, 600, .inl f2_55))] H1 := hP1
      obtain ⟨hP, hD⟩ := va_join (wr := [(hwr, .inr (1, [.ref ho, .int bo2, .int wg, .int sl]))]) (w1 := [(ho, .inr (3, [.ref hh, .int sz2_55])), (hh, .inl (cI, 600, .inl f2_55))]) hP hD [1, 2] [0] rfl rfl (by decide) (by decide) hk9 hFc hP1 hD1
      have hP := hP.sub (ws' := [(hwr, .inr (1, [.ref ho, .int bo2, .int wg, .int sl])), (ho, .inr (3, [.ref hh, .int sz2_55])), (hh, .inl (cI, 600, .inl f2_55))]) [0, 1, 2] rfl
      have hD := hD.sub (ws' := [(hwr, .inr (1, [.ref ho, .int bo2, .int wg, .int sl])), (ho, .inr (3, [.ref hh, .int sz2_55])), (hh, .inl (cI, 600, .inl f2_55))]) [0, 1, 2] (by decide) rfl
      generalize H1 = H at hP hS ⊢
      obtain ⟨q55_0, q55_1, q55_2⟩ := hw9
      have q55_0 : kB sz2_55 0 600 := q55_0
      have q55_1 : sz2_55.toInt = if sz2.toInt < 600 then sz2.toInt + 1 else sz2.toInt := q55_1
      have q55_2 : sz2.toInt < 600 → f2_55 = upd f2 sz2.toNatClampNeg (v54 &&& 255) := q55_2
      rw [if_pos (show sz2.toInt < 600 by omega)] at q55_1
      have F55 := q55_2 (by omega)
      rw [V54, nI_msk (by omega) (k := 8) (by decide), Nat.mod_eq_of_lt (by omega)] at F55
      refine lv_aload_n hx hb dX1_finish_58 rfl (lv_at hl 0 rfl) ?_
      refine lv_dup hx hb dX1_finish_59 rfl ?_
      refine va_get (D := D) (ci := 1) (v := .int bo2) (C := RX1) (T := TX1) (N := 4) hx hb hts in_X1 hown hK.1 hP 0 rfl rfl 1 (by decide) (hts _ mk_310) (fun _ h9 => h9) rfl dX1_finish_60 ?_
      refine lv_bipush (v := 8) hx hb dX1_finish_63 (by decide) ?_
      refine lv_ishl hx hb dX1_finish_65 ?_
      refine lv_topi (fun v65 e65 => ?_)
      have V65 : v65 = nI (256 * V % 4294967296) := by rw [e65, hv, nI_shlm hv2 (k := 8) (by decide)]; exact congrArg nI (by omega)
      refine va_put (D := D) (ci := 1) (v := .int v65) (ty := .int) (C := RX1) (T := TX1) (N := 4) hx hb hts in_X1 tyX1 tyX1_ok nmX1 hown hK.1 hP hD hS 0 rfl rfl 1 (by decide) (hts _ mk_310) (fun _ h9 => h9) rfl (by decide +kernel) rfl rfl (Nat.le_of_ble_eq_true rfl) dX1_finish_66 (fun H locs hP hD hS => ?_)
      have hP : va_P D vwCl [(hwr, .inr (1, [.ref ho, .int v65, .int wg, .int sl])), (ho, .inr (3, [.ref hh, .int sz2_55])), (hh, .inl (cI, 600, .inl f2_55))] H := hP
      have hD : va_D A [(hwr, .inr (1, [.ref ho, .int v65, .int wg, .int sl])), (ho, .inr (3, [.ref hh, .int sz2_55])), (hh, .inl (cI, 600, .inl f2_55))] := hD
      obtain ⟨v69, e69⟩ : ∃ y : Int32, y = x1 + 1 := ⟨_, rfl⟩
      refine lv_iinc (v := v69) (lv' := [(1, .int v69), (0, .ref hwr)]) hx hb dX1_finish_69 hl (k := 1) rfl (by rw [e69]; rfl) (by decide) rfl (fun ls hl => ?_)
      have b69 : kB v69 1 4 := kB_eq e69 (kB_add c41nx kc_1 (by decide))
      have t69 : v69.toInt = x1.toInt + 1 := by rw [e69]; exact kinc (kB_w c41nx (by decide) (by decide))
      refine lv_goto (tgt := 39) hx hb dX1_finish_72 (by decide) ?_
      exact ih v69 v65 sz2_55 f2_55 (256 * V % 4294967296) (by have := b69.1; have := b69.2; have := q55_0.1; have := q55_0.2; have := c41nx.1; have := c41nx.2; have := bsz2.1; have := bsz2.2; omega) (kB_w b69 (by decide) (by decide)) q55_0 (by rw [t69]; omega) V65 (Nat.mod_lt _ (by decide)) (by rw [t69, q55_1, F55]; rw [show (4 - x1.toInt).toNat = (4 - (x1.toInt + 1)).toNat + 1 by omega, wAp_s] at hap; exact hap) _ _ ls hP hD hS (lv_sub hl [1, 0] rfl)
set_option maxHeartbeats 4000000 in
set_option maxRecDepth 100000 in
theorem c_X1_finish (l : Launch) (D : va_G) (cI cJ cZ : ClassId) (hwr ho hh : Nat) (bo : Int32) (wg : Int32) (sl : Int32) (sz : Int32) (f : Nat → Int32) (Bz : Nat) (bsz : kB sz 0 596) (bsl : kB sl 1 24) (hB : bo = nI Bz) (hB2 : Bz < 4294967296) (hpz : Nat) : Met l yX1_finish kw_X1_finish ({ frames := 1, cells := 0, slots := 0, locals := 21 }) (va_Pc [.ref hwr] (fun U => U.heap.size = hpz ∧ va_P D vwCl [(hwr, .inr (1, [.ref ho, .int bo, .int wg, .int sl])), (ho, .inr (3, [.ref hh, .int sz])), (hh, .inl (cI, 600, .inl f))] U.heap ∧ kK D cI cJ cZ U ∧ va_D (fun _ => True) [(hwr, .inr (1, [.ref ho, .int bo, .int wg, .int sl])), (ho, .inr (3, [.ref hh, .int sz])), (hh, .inl (cI, 600, .inl f))])) (va_Qv (fun (u : Int32 × Int32 × (Nat → Int32)) => (kB u.2.1 0 600) ∧ (u.2.1.toInt = sz.toInt + 4) ∧ (u.2.2 = (wAp 4 (sz.toInt, wEb sl.toInt Bz, wEf sl.toInt sz.toInt.toNat Bz f)).2.2)) (fun (u : Int32 × Int32 × (Nat → Int32)) (t : State) => va_P D vwCl [(hwr, .inr (1, [.ref ho, .int u.1, .int wg, .int sl])), (ho, .inr (3, [.ref hh, .int u.2.1])), (hh, .inl (cI, 600, .inl u.2.2))] t.heap ∧ va_D (va_A [(hwr, .inr (1, [.ref ho, .int bo, .int wg, .int sl])), (ho, .inr (3, [.ref hh, .int sz])), (hh, .inl (cI, 600, .inl f))] hpz) [(hwr, .inr (1, [.ref ho, .int u.1, .int wg, .int sl])), (ho, .inr (3, [.ref hh, .int u.2.1])), (hh, .inl (cI, 600, .inl u.2.2))]) (va_A [(hwr, .inr (1, [.ref ho, .int bo, .int wg, .int sl])), (ho, .inr (3, [.ref hh, .int sz])), (hh, .inl (cI, 600, .inl f))] hpz)) 0 0 (va_A [(hwr, .inr (1, [.ref ho, .int bo, .int wg, .int sl])), (ho, .inr (3, [.ref hh, .int sz])), (hh, .inl (cI, 600, .inl f))] hpz) := by
  refine Met.ofW (cc := cX1_finish) (maxL := 2) (ret := none) (by decide) rfl ?_
  intro p e s m args below meth c s₁ B hml hv
  obtain ⟨rfl, hsz, hP, hK, hD0⟩ := hv
  have hx := B.exec
  have hb := B.bytes
  have hr := B.returns
  have hts := fun (w : Cond) (h : w ∈ kW) => atoms_spec (ws := kw_X1_finish) B.pre w (List.mem_cons_of_mem _ h)
  have hown : s.vm.findClass RX1 = some m.cls := findClass_of_methodNamed B.named
  have hlocks := B.notSynchronized
  subst hsz
  have hD := hD0.self (sz := s.heap.size)
  generalize hAe : va_A [(hwr, .inr (1, [.ref ho, .int bo, .int wg, .int sl])), (ho, .inr (3, [.ref hh, .int sz])), (hh, .inl (cI, 600, .inl f))] s.heap.size = A at hD ⊢
  have hA : ∀ q : Nat, s.heap.size ≤ q → A q := fun q h => by rw [← hAe]; exact Or.inr h
  have hS : va_S A s.heap s.heap [] := va_S.rf
  have hP : va_P D vwCl [(hwr, .inr (1, [.ref ho, .int bo, .int wg, .int sl])), (ho, .inr (3, [.ref hh, .int sz])), (hh, .inl (cI, 600, .inl f))] s.heap := hP
  have hl := lv_entry ([.ref hwr]) (n := 2) (Nat.le_of_ble_eq_true rfl)
  rw [lg_entry_eq]
  generalize (lg_sl ([.ref hwr]) ++ List.replicate (2 - (lg_sl ([.ref hwr])).length) Slot.unset).toArray = ls at hl ⊢
  have hl : lv_has ls 2 [(0, .ref hwr)] := hl
  refine lv_aload_n hx hb dX1_finish_0 rfl (lv_at hl 0 rfl) ?_
  refine va_get (D := D) (ci := 1) (v := .int bo) (C := RX1) (T := TX1) (N := 4) hx hb hts in_X1 hown hK.1 hP 0 rfl rfl 1 (by decide) (hts _ mk_310) (fun _ h9 => h9) rfl dX1_finish_1 ?_
  refine lv_bipush (v := 32) hx hb dX1_finish_4 (by decide) ?_
  refine lv_aload_n hx hb dX1_finish_6 rfl (lv_at hl 0 rfl) ?_
  refine va_get (D := D) (ci := 1) (v := .int sl) (C := RX1) (T := TX1) (N := 4) hx hb hts in_X1 hown hK.1 hP 0 rfl rfl 3 (by decide) (hts _ mk_312) (fun _ h9 => h9) rfl dX1_finish_7 ?_
  refine lv_isub hx hb dX1_finish_10 ?_
  refine lv_topi (fun v10 e10 => ?_)
  have b10 : kB v10 8 31 := kB_eq e10 (kB_sub kc_32 bsl (by decide))
  refine lv_iushr hx hb dX1_finish_11 rfl ?_
  refine lv_topi (fun v11 e11 => ?_)
  refine lv_iconst (v := 1) hx hb dX1_finish_12 (by decide) ?_
  refine lv_iand hx hb dX1_finish_13 ?_
  refine lv_topi (fun v13 e13 => ?_)
  have b13 : kB v13 0 1 := kB_eq e13 (kB_and 1 (by decide) (by decide))
  have V13 : v13 = nI (Bz / 2 ^ (32 - sl.toInt).toNat % 2) := by rw [e13, e11, hB, nI_ushx hB2 bsl e10]; exact nI_msk (k := 1) (wDv hB2) (by decide)
  refine lv_if_eq (tgt := 24) hx hb dX1_finish_14 (by decide) (fun c14 => ?_) (fun c14 => ?_)
  · have c14x : kB v13 0 0 := kB_eq c14 kc_0
    have CF : f = wEf sl.toInt sz.toInt.toNat Bz f := wEf_n (nI_bit0 V13 c14)
    refine lv_aload_n hx hb dX1_finish_24 rfl (lv_at hl 0 rfl) ?_
    refine lv_dup hx hb dX1_finish_25 rfl ?_
    refine va_get (D := D) (ci := 1) (v := .int bo) (C := RX1) (T := TX1) (N := 4) hx hb hts in_X1 hown hK.1 hP 0 rfl rfl 1 (by decide) (hts _ mk_310) (fun _ h9 => h9) rfl dX1_finish_26 ?_
    refine lv_aload_n hx hb dX1_finish_29 rfl (lv_at hl 0 rfl) ?_
    refine va_get (D := D) (ci := 1) (v := .int sl) (C := RX1) (T := TX1) (N := 4) hx hb hts in_X1 hown hK.1 hP 0 rfl rfl 3 (by decide) (hts _ mk_312) (fun _ h9 => h9) rfl dX1_finish_30 ?_
    refine lv_ishl hx hb dX1_finish_33 ?_
    refine lv_topi (fun v33 e33 => ?_)
    have V33 : v33 = nI (wEb sl.toInt Bz) := by rw [e33, hB]; exact nI_shlx hB2 bsl
    refine va_put (D := D) (ci := 1) (v := .int v33) (ty := .int) (C := RX1) (T := TX1) (N := 4) hx hb hts in_X1 tyX1 tyX1_ok nmX1 hown hK.1 hP hD hS 0 rfl rfl 1 (by decide) (hts _ mk_310) (fun _ h9 => h9) rfl (by decide +kernel) rfl rfl (Nat.le_of_ble_eq_true rfl) dX1_finish_34 (fun H locs hP hD hS => ?_)
    have hP : va_P D vwCl [(hwr, .inr (1, [.ref ho, .int v33, .int wg, .int sl])), (ho, .inr (3, [.ref hh, .int sz])), (hh, .inl (cI, 600, .inl f))] H := hP
    have hD : va_D A [(hwr, .inr (1, [.ref ho, .int v33, .int wg, .int sl])), (ho, .inr (3, [.ref hh, .int sz])), (hh, .inl (cI, 600, .inl f))] := hD
    refine lv_iconst (v := 0) hx hb dX1_finish_37 (by decide) ?_
    refine lv_istore_n (lv' := [(1, .int 0), (0, .ref hwr)]) hx hb dX1_finish_38 rfl hl (by decide) rfl (fun ls hl => ?_)
    exact lp_X1_finish_39 D cI cJ cZ hwr ho hh bo wg sl sz f Bz bsz bsl hB hB2 hx hb hr hml hown hts hlocks hK hA ((4 - (0 : Int32).toInt).toNat + 1) 0 v33 sz f (wEb sl.toInt Bz) (Nat.lt_succ_self _) (kB_w kc_0 (by decide) (by decide)) (kB_w bsz (by decide) (by decide)) (by rw [show (0 : Int32).toInt = 0 from by decide]; omega) V33 (wEb_lt _ _) (by rw [show (4 - (0 : Int32).toInt).toNat = 4 from by decide, ← CF]) _ _ ls hP hD hS (lv_sub hl [1, 0] rfl)
  · have c14x : kB v13 1 1 := kB_nlo b13 c14 kc_0 (by decide)
    refine lv_aload_n hx hb dX1_finish_17 rfl (lv_at hl 0 rfl) ?_
    refine va_get (D := D) (ci := 1) (v := .ref ho) (C := RX1) (T := TX1) (N := 4) hx hb hts in_X1 hown hK.1 hP 0 rfl rfl 0 (by decide) (hts _ mk_313) (fun _ h9 => h9) rfl dX1_finish_18 ?_
    have hPc := hP.sub (ws' := [(ho, .inr (3, [.ref hh, .int sz])), (hh, .inl (cI, 600, .inl f))]) [1, 2] rfl
    have hDc := hD.sub (ws' := [(ho, .inr (3, [.ref hh, .int sz])), (hh, .inl (cI, 600, .inl f))]) [1, 2] (by decide) rfl
    have hFc := va_free (wc := [(ho, .inr (3, [.ref hh, .int sz])), (hh, .inl (cI, 600, .inl f))]) hD hS hA [1, 2] rfl
    refine va_callv (va_runV (As := []) (rest := []) ⟨hx, hb, hml, hown, hts⟩ (c_X3_addOneToLast l D cI cJ cZ ho hh sz f (kB_w bsz (by decide) (by decide)) (s.heap).size) (cwV 0 hts (kg_V mk_319 mk_320 mk_321 mk_6 mk_322) rfl rfl rfl (by decide +kernel) ⟨Nat.le_of_ble_eq_true rfl, Nat.le_of_ble_eq_true rfl⟩) ⟨fun a U g mk q => by obtain ⟨q0, q1, qP, qK, qD⟩ := q; exact ⟨q0, q1, qP, kK.call qK, qD⟩, va_recv hK.1 hPc (ci := 3) (q0 := 0) rfl rfl, fun U hU hW => ⟨rfl, by rw [hU], by rw [hU]; exact hPc, kK.warm hW hK, hDc.weaken (fun _ _ _ _ => trivial)⟩⟩ rfl rfl hl.1 rfl (lv_room (Nat.le_of_ble_eq_true rfl)) dX1_finish_21 ⟨Nat.zero_le _, Nat.zero_le _⟩) hS (fun q _ h => hFc q h) hFc (fun u t9 H1 locs ht9 hvm9 hw9 hB9 hz9 hk9 hS => ?_)
    obtain ⟨f2_21, rfl⟩ : ∃ z, z = u := ⟨_, rfl⟩
    obtain ⟨hP1, hD1⟩ := hB9
    rw [ht9] at hP1
    have hP1 : va_P D vwCl [(ho, .inr (3, [.ref hh, .int sz])), (hh, .inl (cI, 600, .inl f2_21))] H1 := hP1
    obtain ⟨hP, hD⟩ := va_join (wr := [(hwr, .inr (1, [.ref ho, .int bo, .int wg, .int sl]))]) (w1 := [(ho, .inr (3, [.ref hh, .int sz])), (hh, .inl (cI, 600, .inl f2_21))]) hP hD [1, 2] [0] rfl rfl (by decide) (by decide) hk9 hFc hP1 hD1
    have hP := hP.sub (ws' := [(hwr, .inr (1, [.ref ho, .int bo, .int wg, .int sl])), (ho, .inr (3, [.ref hh, .int sz])), (hh, .inl (cI, 600, .inl f2_21))]) [0, 1, 2] rfl
    have hD := hD.sub (ws' := [(hwr, .inr (1, [.ref ho, .int bo, .int wg, .int sl])), (ho, .inr (3, [.ref hh, .int sz])), (hh, .inl (cI, 600, .inl f2_21))]) [0, 1, 2] (by decide) rfl
    generalize H1 = H at hP hS ⊢
    have q21_0 : f2_21 = wCar sz.toInt.toNat f := hw9
    have CF : f2_21 = wEf sl.toInt sz.toInt.toNat Bz f := by rw [q21_0]; exact wEf_y (nI_bit1 V13 c14)
    refine lv_aload_n hx hb dX1_finish_24 rfl (lv_at hl 0 rfl) ?_
    refine lv_dup hx hb dX1_finish_25 rfl ?_
    refine va_get (D := D) (ci := 1) (v := .int bo) (C := RX1) (T := TX1) (N := 4) hx hb hts in_X1 hown hK.1 hP 0 rfl rfl 1 (by decide) (hts _ mk_310) (fun _ h9 => h9) rfl dX1_finish_26 ?_
    refine lv_aload_n hx hb dX1_finish_29 rfl (lv_at hl 0 rfl) ?_
    refine va_get (D := D) (ci := 1) (v := .int sl) (C := RX1) (T := TX1) (N := 4) hx hb hts in_X1 hown hK.1 hP 0 rfl rfl 3 (by decide) (hts _ mk_312) (fun _ h9 => h9) rfl dX1_finish_30 ?_
    refine lv_ishl hx hb dX1_finish_33 ?_
    refine lv_topi (fun v33 e33 => ?_)
    have V33 : v33 = nI (wEb sl.toInt Bz) := by rw [e33, hB]; exact nI_shlx hB2 bsl
    refine va_put (D := D) (ci := 1) (v := .int v33) (ty := .int) (C := RX1) (T := TX1) (N := 4) hx hb hts in_X1 tyX1 tyX1_ok nmX1 hown hK.1 hP hD hS 0 rfl rfl 1 (by decide) (hts _ mk_310) (fun _ h9 => h9) rfl (by decide +kernel) rfl rfl (Nat.le_of_ble_eq_true rfl) dX1_finish_34 (fun H locs hP hD hS => ?_)
    have hP : va_P D vwCl [(hwr, .inr (1, [.ref ho, .int v33, .int wg, .int sl])), (ho, .inr (3, [.ref hh, .int sz])), (hh, .inl (cI, 600, .inl f2_21))] H := hP
    have hD : va_D A [(hwr, .inr (1, [.ref ho, .int v33, .int wg, .int sl])), (ho, .inr (3, [.ref hh, .int sz])), (hh, .inl (cI, 600, .inl f2_21))] := hD
    refine lv_iconst (v := 0) hx hb dX1_finish_37 (by decide) ?_
    refine lv_istore_n (lv' := [(1, .int 0), (0, .ref hwr)]) hx hb dX1_finish_38 rfl hl (by decide) rfl (fun ls hl => ?_)
    exact lp_X1_finish_39 D cI cJ cZ hwr ho hh bo wg sl sz f Bz bsz bsl hB hB2 hx hb hr hml hown hts hlocks hK hA ((4 - (0 : Int32).toInt).toNat + 1) 0 v33 sz f2_21 (wEb sl.toInt Bz) (Nat.lt_succ_self _) (kB_w kc_0 (by decide) (by decide)) (kB_w bsz (by decide) (by decide)) (by rw [show (0 : Int32).toInt = 0 from by decide]; omega) V33 (wEb_lt _ _) (by rw [show (4 - (0 : Int32).toInt).toNat = 4 from by decide, ← CF]) _ _ ls hP hD hS (lv_sub hl [1, 0] rfl)
