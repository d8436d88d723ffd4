abbrev kw_X7_erase : List Cond := Cond.code yX7_erase cX7_erase 2 (some .int) :: kW
set_option maxHeartbeats 4000000 in
set_option maxRecDepth 100000 in
theorem c_X7_erase (l : Launch) (D : va_G) (cI cJ cZ : ClassId) (hk ho hwr hrd hp hh : Nat) (bg : Int32) (sz : Int32) (f : Nat → Int32) (hpz : Nat) : Met l yX7_erase kw_X7_erase ({ frames := 1, cells := 0, slots := 0, locals := 20 }) (va_Pc [.ref hk] (fun U => U.heap.size = hpz ∧ va_P D vwCl [(hk, .inr (7, [.ref ho, .ref hwr, .ref hrd, .ref hp, .int bg])), (ho, .inr (3, [.ref hh, .int sz])), (hh, .inl (cI, 600, .inl f))] U.heap ∧ kK D cI cJ cZ U ∧ va_D (fun _ => True) [(hk, .inr (7, [.ref ho, .ref hwr, .ref hrd, .ref hp, .int bg])), (ho, .inr (3, [.ref hh, .int sz])), (hh, .inl (cI, 600, .inl f))])) (va_Qi (fun (r : Int32) (u : Unit) => (r = sz)) (fun (u : Unit) (t : State) => va_P D vwCl [(hk, .inr (7, [.ref ho, .ref hwr, .ref hrd, .ref hp, .int 0])), (ho, .inr (3, [.ref hh, .int 0])), (hh, .inl (cI, 600, .inl f))] t.heap ∧ va_D (va_A [(hk, .inr (7, [.ref ho, .ref hwr, .ref hrd, .ref hp, .int bg])), (ho, .inr (3, [.ref hh, .int sz])), (hh, .inl (cI, 600, .inl f))] hpz) [(hk, .inr (7, [.ref ho, .ref hwr, .ref hrd, .ref hp, .int 0])), (ho, .inr (3, [.ref hh, .int 0])), (hh, .inl (cI, 600, .inl f))]) (va_A [(hk, .inr (7, [.ref ho, .ref hwr, .ref hrd, .ref hp, .int bg])), (ho, .inr (3, [.ref hh, .int sz])), (hh, .inl (cI, 600, .inl f))] hpz)) 0 0 (va_A [(hk, .inr (7, [.ref ho, .ref hwr, .ref hrd, .ref hp, .int bg])), (ho, .inr (3, [.ref hh, .int sz])), (hh, .inl (cI, 600, .inl f))] hpz) := by
  refine Met.ofW (cc := cX7_erase) (maxL := 2) (ret := (some .int)) (by decide) rfl ?_
  intro p e s m args below meth c s₁ B hml hv
  obtain ⟨rfl, hsz, hP, hK, hD0⟩ := hv
  have hx := B.exec
  have hb := B.bytes
  have hr := B.returns
  have hts := fun (w : Cond) (h : w ∈ kW) => atoms_spec (ws := kw_X7_erase) B.pre w (List.mem_cons_of_mem _ h)
  have hown : s.vm.findClass RX7 = some m.cls := findClass_of_methodNamed B.named
  have hlocks := B.notSynchronized
  subst hsz
  have hD := hD0.self (sz := s.heap.size)
  generalize hAe : va_A [(hk, .inr (7, [.ref ho, .ref hwr, .ref hrd, .ref hp, .int bg])), (ho, .inr (3, [.ref hh, .int sz])), (hh, .inl (cI, 600, .inl f))] s.heap.size = A at hD ⊢
  have hA : ∀ q : Nat, s.heap.size ≤ q → A q := fun q h => by rw [← hAe]; exact Or.inr h
  have hS : va_S A s.heap s.heap [] := va_S.rf
  have hP : va_P D vwCl [(hk, .inr (7, [.ref ho, .ref hwr, .ref hrd, .ref hp, .int bg])), (ho, .inr (3, [.ref hh, .int sz])), (hh, .inl (cI, 600, .inl f))] s.heap := hP
  have hl := lv_entry ([.ref hk]) (n := 2) (Nat.le_of_ble_eq_true rfl)
  rw [lg_entry_eq]
  generalize (lg_sl ([.ref hk]) ++ List.replicate (2 - (lg_sl ([.ref hk])).length) Slot.unset).toArray = ls at hl ⊢
  have hl : lv_has ls 2 [(0, .ref hk)] := hl
  refine lv_aload_n hx hb dX7_erase_0 rfl (lv_at hl 0 rfl) ?_
  refine va_get (D := D) (ci := 7) (v := .ref ho) (C := RX7) (T := TX7) (N := 5) hx hb hts in_X7 hown hK.1 hP 0 rfl rfl 0 (by decide) (hts _ mk_328) (fun _ h9 => h9) rfl dX7_erase_1 ?_
  have hPc := hP.sub (ws' := [(ho, .inr (3, [.ref hh, .int sz])), (hh, .inl (cI, 600, .inl f))]) [1, 2] rfl
  have hDc := hD.sub (ws' := [(ho, .inr (3, [.ref hh, .int sz])), (hh, .inl (cI, 600, .inl f))]) [1, 2] (by decide) rfl
  have hFc := va_free (wc := [(ho, .inr (3, [.ref hh, .int sz])), (hh, .inl (cI, 600, .inl f))]) hD hS hA [1, 2] rfl
  refine va_calli (va_runV (As := []) (rest := []) ⟨hx, hb, hml, hown, hts⟩ (c_X3_size l D cI cJ cZ ho hh sz f (s.heap).size) (cwV 0 hts (kg_V mk_329 mk_30 mk_31 mk_6 mk_32) rfl rfl rfl (by decide +kernel) ⟨Nat.le_of_ble_eq_true rfl, Nat.le_of_ble_eq_true rfl⟩) ⟨fun a U g mk q => by obtain ⟨q0, q1, qP, qK, qD⟩ := q; exact ⟨q0, q1, qP, kK.call qK, qD⟩, va_recv hK.1 hPc (ci := 3) (q0 := 0) rfl rfl, fun U hU hW => ⟨rfl, by rw [hU], by rw [hU]; exact hPc, kK.warm hW hK, hDc.weaken (fun _ _ _ _ => trivial)⟩⟩ rfl rfl hl.1 rfl (lv_room (Nat.le_of_ble_eq_true rfl)) dX7_erase_4 ⟨Nat.zero_le _, Nat.zero_le _⟩) hS (fun q _ h => hFc q h) hFc (fun r4 u t9 H1 locs ht9 hvm9 hw9 hB9 hz9 hk9 hS => ?_)
  obtain ⟨hP1, hD1⟩ := hB9
  rw [ht9] at hP1
  have hP1 : va_P D vwCl [(ho, .inr (3, [.ref hh, .int sz])), (hh, .inl (cI, 600, .inl f))] H1 := hP1
  obtain ⟨hP, hD⟩ := va_join (wr := [(hk, .inr (7, [.ref ho, .ref hwr, .ref hrd, .ref hp, .int bg]))]) (w1 := [(ho, .inr (3, [.ref hh, .int sz])), (hh, .inl (cI, 600, .inl f))]) hP hD [1, 2] [0] rfl rfl (by decide) (by decide) hk9 hFc hP1 hD1
  have hP := hP.sub (ws' := [(hk, .inr (7, [.ref ho, .ref hwr, .ref hrd, .ref hp, .int bg])), (ho, .inr (3, [.ref hh, .int sz])), (hh, .inl (cI, 600, .inl f))]) [0, 1, 2] rfl
  have hD := hD.sub (ws' := [(hk, .inr (7, [.ref ho, .ref hwr, .ref hrd, .ref hp, .int bg])), (ho, .inr (3, [.ref hh, .int sz])), (hh, .inl (cI, 600, .inl f))]) [0, 1, 2] (by decide) rfl
  generalize H1 = H at hP hS ⊢
  have q4_0 : r4 = sz := hw9
  refine lv_istore_n (lv' := [(1, .int r4), (0, .ref hk)]) hx hb dX7_erase_7 rfl hl (by decide) rfl (fun ls hl => ?_)
  refine lv_aload_n hx hb dX7_erase_8 rfl (lv_at hl 1 rfl) ?_
  refine va_get (D := D) (ci := 7) (v := .ref ho) (C := RX7) (T := TX7) (N := 5) hx hb hts in_X7 hown hK.1 hP 0 rfl rfl 0 (by decide) (hts _ mk_328) (fun _ h9 => h9) rfl dX7_erase_9 ?_
  have hPc := hP.sub (ws' := [(ho, .inr (3, [.ref hh, .int sz])), (hh, .inl (cI, 600, .inl f))]) [1, 2] rfl
  have hDc := hD.sub (ws' := [(ho, .inr (3, [.ref hh, .int sz])), (hh, .inl (cI, 600, .inl f))]) [1, 2] (by decide) rfl
  have hFc := va_free (wc := [(ho, .inr (3, [.ref hh, .int sz])), (hh, .inl (cI, 600, .inl f))]) hD hS hA [1, 2] rfl
  refine va_callv (va_runV (As := []) (rest := []) ⟨hx, hb, hml, hown, hts⟩ (c_X3_clear l D cI cJ cZ ho hh sz f (H).size) (cwV 0 hts (kg_V mk_330 mk_331 mk_332 mk_6 mk_333) rfl rfl rfl (by decide +kernel) ⟨Nat.le_of_ble_eq_true rfl, Nat.le_of_ble_eq_true rfl⟩) ⟨fun a U g mk q => by obtain ⟨q0, q1, qP, qK, qD⟩ := q; exact ⟨q0, q1, qP, kK.call qK, qD⟩, va_recv hK.1 hPc (ci := 3) (q0 := 0) rfl rfl, fun U hU hW => ⟨rfl, by rw [hU], by rw [hU]; exact hPc, kK.warm hW hK, hDc.weaken (fun _ _ _ _ => trivial)⟩⟩ rfl rfl hl.1 rfl (lv_room (Nat.le_of_ble_eq_true rfl)) dX7_erase_12 ⟨Nat.zero_le _, Nat.zero_le _⟩) hS (fun q _ h => hFc q h) hFc (fun u t9 H1 locs ht9 hvm9 hw9 hB9 hz9 hk9 hS => ?_)
  obtain ⟨hP1, hD1⟩ := hB9
  rw [ht9] at hP1
  have hP1 : va_P D vwCl [(ho, .inr (3, [.ref hh, .int 0])), (hh, .inl (cI, 600, .inl f))] H1 := hP1
  obtain ⟨hP, hD⟩ := va_join (wr := [(hk, .inr (7, [.ref ho, .ref hwr, .ref hrd, .ref hp, .int bg]))]) (w1 := [(ho, .inr (3, [.ref hh, .int 0])), (hh, .inl (cI, 600, .inl f))]) hP hD [1, 2] [0] rfl rfl (by decide) (by decide) hk9 hFc hP1 hD1
  have hP := hP.sub (ws' := [(hk, .inr (7, [.ref ho, .ref hwr, .ref hrd, .ref hp, .int bg])), (ho, .inr (3, [.ref hh, .int 0])), (hh, .inl (cI, 600, .inl f))]) [0, 1, 2] rfl
  have hD := hD.sub (ws' := [(hk, .inr (7, [.ref ho, .ref hwr, .ref hrd, .ref hp, .int bg])), (ho, .inr (3, [.ref hh, .int 0])), (hh, .inl (cI, 600, .inl f))]) [0, 1, 2] (by decide) rfl
  generalize H1 = H at hP hS ⊢
  refine lv_aload_n hx hb dX7_erase_15 rfl (lv_at hl 1 rfl) ?_
  refine lv_iconst (v := 0) hx hb dX7_erase_16 (by decide) ?_
  refine va_put (D := D) (ci := 7) (v := .int 0) (ty := .int) (C := RX7) (T := TX7) (N := 5) hx hb hts in_X7 tyX7 tyX7_ok nmX7 hown hK.1 hP hD hS 0 rfl rfl 4 (by decide) (hts _ mk_334) (fun _ h9 => h9) rfl (by decide +kernel) rfl rfl (Nat.le_of_ble_eq_true rfl) dX7_erase_17 (fun H locs hP hD hS => ?_)
  have hP : va_P D vwCl [(hk, .inr (7, [.ref ho, .ref hwr, .ref hrd, .ref hp, .int 0])), (ho, .inr (3, [.ref hh, .int 0])), (hh, .inl (cI, 600, .inl f))] H := hP
  have hD : va_D A [(hk, .inr (7, [.ref ho, .ref hwr, .ref hrd, .ref hp, .int 0])), (ho, .inr (3, [.ref hh, .int 0])), (hh, .inl (cI, 600, .inl f))] := hD
  refine lv_iload_n hx hb dX7_erase_20 rfl (lv_at hl 0 rfl) ?_
  exact W.iret (v := r4) hx hb hr (fun t9 ht9 hW9 => ⟨⟨r4, (), rfl, q4_0, by rw [ht9]; exact hP, hD⟩, hS.F ht9⟩) hS.2.2 dX7_erase_21
abbrev kw_X7_write : List Cond := Cond.code yX7_write cX7_write 1 none :: kW
set_option maxHeartbeats 4000000 in
set_option maxRecDepth 100000 in
theorem c_X7_write (l : Launch) (D : va_G) (cI cJ cZ : ClassId) (hk ho hwr hrd hp hh : Nat) (bg : Int32) (bo : Int32) (wg : Int32) (sl : Int32) (sz : Int32) (f : Nat → Int32) (hpz : Nat) : Met l yX7_write kw_X7_write ({ frames := 1, cells := 0, slots := 0, locals := 20 }) (va_Pc [.ref hk] (fun U => U.heap.size = hpz ∧ va_P D vwCl [(hk, .inr (7, [.ref ho, .ref hwr, .ref hrd, .ref hp, .int bg])), (hwr, .inr (1, [.ref ho, .int bo, .int wg, .int sl])), (ho, .inr (3, [.ref hh, .int sz])), (hh, .inl (cI, 600, .inl f))] U.heap ∧ kK D cI cJ cZ U ∧ va_D (fun _ => True) [(hk, .inr (7, [.ref ho, .ref hwr, .ref hrd, .ref hp, .int bg])), (hwr, .inr (1, [.ref ho, .int bo, .int wg, .int sl])), (ho, .inr (3, [.ref hh, .int sz])), (hh, .inl (cI, 600, .inl f))])) (va_Qv (fun (u : Unit) => True) (fun (u : Unit) (t : State) => va_P D vwCl [(hk, .inr (7, [.ref ho, .ref hwr, .ref hrd, .ref hp, .int 1])), (hwr, .inr (1, [.ref ho, .int 0, .int 255, .int 24])), (ho, .inr (3, [.ref hh, .int 0])), (hh, .inl (cI, 600, .inl f))] t.heap ∧ va_D (va_A [(hk, .inr (7, [.ref ho, .ref hwr, .ref hrd, .ref hp, .int bg])), (hwr, .inr (1, [.ref ho, .int bo, .int wg, .int sl])), (ho, .inr (3, [.ref hh, .int sz])), (hh, .inl (cI, 600, .inl f))] hpz) [(hk, .inr (7, [.ref ho, .ref hwr, .ref hrd, .ref hp, .int 1])), (hwr, .inr (1, [.ref ho, .int 0, .int 255, .int 24])), (ho, .inr (3, [.ref hh, .int 0])), (hh, .inl (cI, 600, .inl f))]) (va_A [(hk, .inr (7, [.ref ho, .ref hwr, .ref hrd, .ref hp, .int bg])), (hwr, .inr (1, [.ref ho, .int bo, .int wg, .int sl])), (ho, .inr (3, [.ref hh, .int sz])), (hh, .inl (cI, 600, .inl f))] hpz)) 0 0 (va_A [(hk, .inr (7, [.ref ho, .ref hwr, .ref hrd, .ref hp, .int bg])), (hwr, .inr (1, [.ref ho, .int bo, .int wg, .int sl])), (ho, .inr (3, [.ref hh, .int sz])), (hh, .inl (cI, 600, .inl f))] hpz) := by
  refine Met.ofW (cc := cX7_write) (maxL := 1) (ret := none) (by decide) rfl ?_
  intro p e s m args below meth c s₁ B hml hv
  obtain ⟨rfl, hsz, hP, hK, hD0⟩ := hv
  have hx := B.exec
  have hb := B.bytes
  have hr := B.returns
  have hts := fun (w : Cond) (h : w ∈ kW) => atoms_spec (ws := kw_X7_write) B.pre w (List.mem_cons_of_mem _ h)
  have hown : s.vm.findClass RX7 = some m.cls := findClass_of_methodNamed B.named
  have hlocks := B.notSynchronized
  subst hsz
  have hD := hD0.self (sz := s.heap.size)
  generalize hAe : va_A [(hk, .inr (7, [.ref ho, .ref hwr, .ref hrd, .ref hp, .int bg])), (hwr, .inr (1, [.ref ho, .int bo, .int wg, .int sl])), (ho, .inr (3, [.ref hh, .int sz])), (hh, .inl (cI, 600, .inl f))] s.heap.size = A at hD ⊢
  have hA : ∀ q : Nat, s.heap.size ≤ q → A q := fun q h => by rw [← hAe]; exact Or.inr h
  have hS : va_S A s.heap s.heap [] := va_S.rf
  have hP : va_P D vwCl [(hk, .inr (7, [.ref ho, .ref hwr, .ref hrd, .ref hp, .int bg])), (hwr, .inr (1, [.ref ho, .int bo, .int wg, .int sl])), (ho, .inr (3, [.ref hh, .int sz])), (hh, .inl (cI, 600, .inl f))] s.heap := hP
  have hl := lv_entry ([.ref hk]) (n := 1) (Nat.le_of_ble_eq_true rfl)
  rw [lg_entry_eq]
  generalize (lg_sl ([.ref hk]) ++ List.replicate (1 - (lg_sl ([.ref hk])).length) Slot.unset).toArray = ls at hl ⊢
  have hl : lv_has ls 1 [(0, .ref hk)] := hl
  refine lv_aload_n hx hb dX7_write_0 rfl (lv_at hl 0 rfl) ?_
  refine va_get (D := D) (ci := 7) (v := .ref ho) (C := RX7) (T := TX7) (N := 5) hx hb hts in_X7 hown hK.1 hP 0 rfl rfl 0 (by decide) (hts _ mk_328) (fun _ h9 => h9) rfl dX7_write_1 ?_
  have hPc := hP.sub (ws' := [(ho, .inr (3, [.ref hh, .int sz])), (hh, .inl (cI, 600, .inl f))]) [2, 3] rfl
  have hDc := hD.sub (ws' := [(ho, .inr (3, [.ref hh, .int sz])), (hh, .inl (cI, 600, .inl f))]) [2, 3] (by decide) rfl
  have hFc := va_free (wc := [(ho, .inr (3, [.ref hh, .int sz])), (hh, .inl (cI, 600, .inl f))]) hD hS hA [2, 3] rfl
  refine va_callv (va_runV (As := []) (rest := []) ⟨hx, hb, hml, hown, hts⟩ (c_X3_clear l D cI cJ cZ ho hh sz f (s.heap).size) (cwV 0 hts (kg_V mk_330 mk_331 mk_332 mk_6 mk_333) rfl rfl rfl (by decide +kernel) ⟨Nat.le_of_ble_eq_true rfl, Nat.le_of_ble_eq_true rfl⟩) ⟨fun a U g mk q => by obtain ⟨q0, q1, qP, qK, qD⟩ := q; exact ⟨q0, q1, qP, kK.call qK, qD⟩, va_recv hK.1 hPc (ci := 3) (q0 := 0) rfl rfl, fun U hU hW => ⟨rfl, by rw [hU], by rw [hU]; exact hPc, kK.warm hW hK, hDc.weaken (fun _ _ _ _ => trivial)⟩⟩ rfl rfl hl.1 rfl (lv_room (Nat.le_of_ble_eq_true rfl)) dX7_write_4 ⟨Nat.zero_le _, Nat.zero_le _⟩) hS (fun q _ h => hFc q h) hFc (fun u t9 H1 locs ht9 hvm9 hw9 hB9 hz9 hk9 hS => ?_)
  obtain ⟨hP1, hD1⟩ := hB9
  rw [ht9] at hP1
  have hP1 : va_P D vwCl [(ho, .inr (3, [.ref hh, .int 0])), (hh, .inl (cI, 600, .inl f))] H1 := hP1
  obtain ⟨hP, hD⟩ := va_join (wr := [(hk, .inr (7, [.ref ho, .ref hwr, .ref hrd, .ref hp, .int bg])), (hwr, .inr (1, [.ref ho, .int bo, .int wg, .int sl]))]) (w1 := [(ho, .inr (3, [.ref hh, .int 0])), (hh, .inl (cI, 600, .inl f))]) hP hD [2, 3] [0, 1] rfl rfl (by decide) (by decide) hk9 hFc hP1 hD1
  have hP := hP.sub (ws' := [(hk, .inr (7, [.ref ho, .ref hwr, .ref hrd, .ref hp, .int bg])), (hwr, .inr (1, [.ref ho, .int bo, .int wg, .int sl])), (ho, .inr (3, [.ref hh, .int 0])), (hh, .inl (cI, 600, .inl f))]) [0, 1, 2, 3] rfl
  have hD := hD.sub (ws' := [(hk, .inr (7, [.ref ho, .ref hwr, .ref hrd, .ref hp, .int bg])), (hwr, .inr (1, [.ref ho, .int bo, .int wg, .int sl])), (ho, .inr (3, [.ref hh, .int 0])), (hh, .inl (cI, 600, .inl f))]) [0, 1, 2, 3] (by decide) rfl
  generalize H1 = H at hP hS ⊢
  refine lv_aload_n hx hb dX7_write_7 rfl (lv_at hl 0 rfl) ?_
  refine va_get (D := D) (ci := 7) (v := .ref hwr) (C := RX7) (T := TX7) (N := 5) hx hb hts in_X7 hown hK.1 hP 0 rfl rfl 1 (by decide) (hts _ mk_335) (fun _ h9 => h9) rfl dX7_write_8 ?_
  have hPc := hP.sub (ws' := [(hwr, .inr (1, [.ref ho, .int bo, .int wg, .int sl]))]) [1] rfl
  have hDc := hD.sub (ws' := [(hwr, .inr (1, [.ref ho, .int bo, .int wg, .int sl]))]) [1] (by decide) rfl
  have hFc := va_free (wc := [(hwr, .inr (1, [.ref ho, .int bo, .int wg, .int sl]))]) hD hS hA [1] rfl
  refine va_callv (va_runV (As := []) (rest := []) ⟨hx, hb, hml, hown, hts⟩ (c_X1_start l D cI cJ cZ hwr ho bo wg sl (H).size) (cwV 0 hts (kg_V mk_336 mk_337 mk_338 mk_326 mk_339) rfl rfl rfl (by decide +kernel) ⟨Nat.le_of_ble_eq_true rfl, Nat.le_of_ble_eq_true rfl⟩) ⟨fun a U g mk q => by obtain ⟨q0, q1, qP, qK, qD⟩ := q; exact ⟨q0, q1, qP, kK.call qK, qD⟩, va_recv hK.1 hPc (ci := 1) (q0 := 0) rfl rfl, fun U hU hW => ⟨rfl, by rw [hU], by rw [hU]; exact hPc, kK.warm hW hK, hDc.weaken (fun _ _ _ _ => trivial)⟩⟩ rfl rfl hl.1 rfl (lv_room (Nat.le_of_ble_eq_true rfl)) dX7_write_11 ⟨Nat.zero_le _, Nat.zero_le _⟩) hS (fun q _ h => hFc q h) hFc (fun u t9 H1 locs ht9 hvm9 hw9 hB9 hz9 hk9 hS => ?_)
  obtain ⟨hP1, hD1⟩ := hB9
  rw [ht9] at hP1
  have hP1 : va_P D vwCl [(hwr, .inr (1, [.ref ho, .int 0, .int 255, .int 24]))] H1 := hP1
  obtain ⟨hP, hD⟩ := va_join (wr := [(hk, .inr (7, [.ref ho, .ref hwr, .ref hrd, .ref hp, .int bg])), (ho, .inr (3, [.ref hh, .int 0])), (hh, .inl (cI, 600, .inl f))]) (w1 := [(hwr, .inr (1, [.ref ho, .int 0, .int 255, .int 24]))]) hP hD [1] [0, 2, 3] rfl rfl (by decide) (by decide) hk9 hFc hP1 hD1
  have hP := hP.sub (ws' := [(hk, .inr (7, [.ref ho, .ref hwr, .ref hrd, .ref hp, .int bg])), (hwr, .inr (1, [.ref ho, .int 0, .int 255, .int 24])), (ho, .inr (3, [.ref hh, .int 0])), (hh, .inl (cI, 600, .inl f))]) [0, 3, 1, 2] rfl
  have hD := hD.sub (ws' := [(hk, .inr (7, [.ref ho, .ref hwr, .ref hrd, .ref hp, .int bg])), (hwr, .inr (1, [.ref ho, .int 0, .int 255, .int 24])), (ho, .inr (3, [.ref hh, .int 0])), (hh, .inl (cI, 600, .inl f))]) [0, 3, 1, 2] (by decide) rfl
  generalize H1 = H at hP hS ⊢
  refine lv_aload_n hx hb dX7_write_14 rfl (lv_at hl 0 rfl) ?_
  refine lv_iconst (v := 1) hx hb dX7_write_15 (by decide) ?_
  refine va_put (D := D) (ci := 7) (v := .int 1) (ty := .int) (C := RX7) (T := TX7) (N := 5) hx hb hts in_X7 tyX7 tyX7_ok nmX7 hown hK.1 hP hD hS 0 rfl rfl 4 (by decide) (hts _ mk_334) (fun _ h9 => h9) rfl (by decide +kernel) rfl rfl (Nat.le_of_ble_eq_true rfl) dX7_write_16 (fun H locs hP hD hS => ?_)
  have hP : va_P D vwCl [(hk, .inr (7, [.ref ho, .ref hwr, .ref hrd, .ref hp, .int 1])), (hwr, .inr (1, [.ref ho, .int 0, .int 255, .int 24])), (ho, .inr (3, [.ref hh, .int 0])), (hh, .inl (cI, 600, .inl f))] H := hP
  have hD : va_D A [(hk, .inr (7, [.ref ho, .ref hwr, .ref hrd, .ref hp, .int 1])), (hwr, .inr (1, [.ref ho, .int 0, .int 255, .int 24])), (ho, .inr (3, [.ref hh, .int 0])), (hh, .inl (cI, 600, .inl f))] := hD
  exact W.vret hx hb hr (fun t9 ht9 hW9 => ⟨⟨(), rfl, trivial, by rw [ht9]; exact hP, hD⟩, hS.F ht9⟩) hS.2.2 dX7_write_19
abbrev kw_X7_read : List Cond := Cond.code yX7_read cX7_read 1 none :: kW
set_option maxHeartbeats 4000000 in
set_option maxRecDepth 100000 in
theorem c_X7_read (l : Launch) (D : va_G) (cI cJ cZ : ClassId) (hk ho hwr hrd hp hh : Nat) (bg : Int32) (va : Int32) (rg : Int32) (sh : Int32) (nx : Int32) (sz : Int32) (f : Nat → Int32) (bsz : kB sz 0 600) (hpz : Nat) : Met l yX7_read kw_X7_read ({ frames := 2, cells := 0, slots := 0, locals := 41 }) (va_Pc [.ref hk] (fun U => U.heap.size = hpz ∧ va_P D vwCl [(hk, .inr (7, [.ref ho, .ref hwr, .ref hrd, .ref hp, .int bg])), (hrd, .inr (0, [.ref ho, .int va, .int rg, .int sh, .int nx])), (ho, .inr (3, [.ref hh, .int sz])), (hh, .inl (cI, 600, .inl f))] U.heap ∧ kK D cI cJ cZ U ∧ va_D (fun _ => True) [(hk, .inr (7, [.ref ho, .ref hwr, .ref hrd, .ref hp, .int bg])), (hrd, .inr (0, [.ref ho, .int va, .int rg, .int sh, .int nx])), (ho, .inr (3, [.ref hh, .int sz])), (hh, .inl (cI, 600, .inl f))])) (va_Qv (fun (u : Int32) => (u = ((if 0 ≤ (0 : Int32).toInt ∧ (0 : Int32).toInt < sz.toInt then f (0 : Int32).toNatClampNeg else 0) <<< ((8 : Int32) &&& 31)) + (if 0 ≤ (1 : Int32).toInt ∧ (1 : Int32).toInt < sz.toInt then f (1 : Int32).toNatClampNeg else 0))) (fun (u : Int32) (t : State) => va_P D vwCl [(hk, .inr (7, [.ref ho, .ref hwr, .ref hrd, .ref hp, .int 2])), (hrd, .inr (0, [.ref ho, .int u, .int 255, .int 0, .int 2])), (ho, .inr (3, [.ref hh, .int sz])), (hh, .inl (cI, 600, .inl f))] t.heap ∧ va_D (va_A [(hk, .inr (7, [.ref ho, .ref hwr, .ref hrd, .ref hp, .int bg])), (hrd, .inr (0, [.ref ho, .int va, .int rg, .int sh, .int nx])), (ho, .inr (3, [.ref hh, .int sz])), (hh, .inl (cI, 600, .inl f))] hpz) [(hk, .inr (7, [.ref ho, .ref hwr, .ref hrd, .ref hp, .int 2])), (hrd, .inr (0, [.ref ho, .int u, .int 255, .int 0, .int 2])), (ho, .inr (3, [.ref hh, .int sz])), (hh, .inl (cI, 600, .inl f))]) (va_A [(hk, .inr (7, [.ref ho, .ref hwr, .ref hrd, .ref hp, .int bg])), (hrd, .inr (0, [.ref ho, .int va, .int rg, .int sh, .int nx])), (ho, .inr (3, [.ref hh, .int sz])), (hh, .inl (cI, 600, .inl f))] hpz)) 0 0 (va_A [(hk, .inr (7, [.ref ho, .ref hwr, .ref hrd, .ref hp, .int bg])), (hrd, .inr (0, [.ref ho, .int va, .int rg, .int sh, .int nx])), (ho, .inr (3, [.ref hh, .int sz])), (hh, .inl (cI, 600, .inl f))] hpz) := by
  refine Met.ofW (cc := cX7_read) (maxL := 1) (ret := none) (by decide) rfl ?_
  intro p e s m args below meth c s₁ B hml hv
  obtain ⟨rfl, hsz, hP, hK, hD0⟩ := hv
  have hx := B.exec
  have hb := B.bytes
  have hr := B.returns
  have hts := fun (w : Cond) (h : w ∈ kW) => atoms_spec (ws := kw_X7_read) B.pre w (List.mem_cons_of_mem _ h)
  have hown : s.vm.findClass RX7 = some m.cls := findClass_of_methodNamed B.named
  have hlocks := B.notSynchronized
  subst hsz
  have hD := hD0.self (sz := s.heap.size)
  generalize hAe : va_A [(hk, .inr (7, [.ref ho, .ref hwr, .ref hrd, .ref hp, .int bg])), (hrd, .inr (0, [.ref ho, .int va, .int rg, .int sh, .int nx])), (ho, .inr (3, [.ref hh, .int sz])), (hh, .inl (cI, 600, .inl f))] s.heap.size = A at hD ⊢
  have hA : ∀ q : Nat, s.heap.size ≤ q → A q := fun q h => by rw [← hAe]; exact Or.inr h
  have hS : va_S A s.heap s.heap [] := va_S.rf
  have hP : va_P D vwCl [(hk, .inr (7, [.ref ho, .ref hwr, .ref hrd, .ref hp, .int bg])), (hrd, .inr (0, [.ref ho, .int va, .int rg, .int sh, .int nx])), (ho, .inr (3, [.ref hh, .int sz])), (hh, .inl (cI, 600, .inl f))] s.heap := hP
  have hl := lv_entry ([.ref hk]) (n := 1) (Nat.le_of_ble_eq_true rfl)
  rw [lg_entry_eq]
  generalize (lg_sl ([.ref hk]) ++ List.replicate (1 - (lg_sl ([.ref hk])).length) Slot.unset).toArray = ls at hl ⊢
  have hl : lv_has ls 1 [(0, .ref hk)] := hl
  refine lv_aload_n hx hb dX7_read_0 rfl (lv_at hl 0 rfl) ?_
  refine va_get (D := D) (ci := 7) (v := .ref hrd) (C := RX7) (T := TX7) (N := 5) hx hb hts in_X7 hown hK.1 hP 0 rfl rfl 2 (by decide) (hts _ mk_340) (fun _ h9 => h9) rfl dX7_read_1 ?_
  have hPc := hP.sub (ws' := [(hrd, .inr (0, [.ref ho, .int va, .int rg, .int sh, .int nx])), (ho, .inr (3, [.ref hh, .int sz])), (hh, .inl (cI, 600, .inl f))]) [1, 2, 3] rfl
  have hDc := hD.sub (ws' := [(hrd, .inr (0, [.ref ho, .int va, .int rg, .int sh, .int nx])), (ho, .inr (3, [.ref hh, .int sz])), (hh, .inl (cI, 600, .inl f))]) [1, 2, 3] (by decide) rfl
  have hFc := va_free (wc := [(hrd, .inr (0, [.ref ho, .int va, .int rg, .int sh, .int nx])), (ho, .inr (3, [.ref hh, .int sz])), (hh, .inl (cI, 600, .inl f))]) hD hS hA [1, 2, 3] rfl
  refine va_callv (va_runV (As := []) (rest := []) ⟨hx, hb, hml, hown, hts⟩ (c_X0_start l D cI cJ cZ hrd ho hh va rg sh nx sz f bsz (s.heap).size) (cwV 0 hts (kg_V mk_341 mk_342 mk_343 mk_23 mk_344) rfl rfl rfl (by decide +kernel) ⟨Nat.le_of_ble_eq_true rfl, Nat.le_of_ble_eq_true rfl⟩) ⟨fun a U g mk q => by obtain ⟨q0, q1, qP, qK, qD⟩ := q; exact ⟨q0, q1, qP, kK.call qK, qD⟩, va_recv hK.1 hPc (ci := 0) (q0 := 0) rfl rfl, fun U hU hW => ⟨rfl, by rw [hU], by rw [hU]; exact hPc, kK.warm hW hK, hDc.weaken (fun _ _ _ _ => trivial)⟩⟩ rfl rfl hl.1 rfl (lv_room (Nat.le_of_ble_eq_true rfl)) dX7_read_4 ⟨Nat.zero_le _, Nat.zero_le _⟩) hS (fun q _ h => hFc q h) hFc (fun u t9 H1 locs ht9 hvm9 hw9 hB9 hz9 hk9 hS => ?_)
  obtain ⟨va2_4, rfl⟩ : ∃ z, z = u := ⟨_, rfl⟩
  obtain ⟨hP1, hD1⟩ := hB9
  rw [ht9] at hP1
  have hP1 : va_P D vwCl [(hrd, .inr (0, [.ref ho, .int va2_4, .int 255, .int 0, .int 2])), (ho, .inr (3, [.ref hh, .int sz])), (hh, .inl (cI, 600, .inl f))] H1 := hP1
  obtain ⟨hP, hD⟩ := va_join (wr := [(hk, .inr (7, [.ref ho, .ref hwr, .ref hrd, .ref hp, .int bg]))]) (w1 := [(hrd, .inr (0, [.ref ho, .int va2_4, .int 255, .int 0, .int 2])), (ho, .inr (3, [.ref hh, .int sz])), (hh, .inl (cI, 600, .inl f))]) hP hD [1, 2, 3] [0] rfl rfl (by decide) (by decide) hk9 hFc hP1 hD1
  have hP := hP.sub (ws' := [(hk, .inr (7, [.ref ho, .ref hwr, .ref hrd, .ref hp, .int bg])), (hrd, .inr (0, [.ref ho, .int va2_4, .int 255, .int 0, .int 2])), (ho, .inr (3, [.ref hh, .int sz])), (hh, .inl (cI, 600, .inl f))]) [0, 1, 2, 3] rfl
  have hD := hD.sub (ws' := [(hk, .inr (7, [.ref ho, .ref hwr, .ref hrd, .ref hp, .int bg])), (hrd, .inr (0, [.ref ho, .int va2_4, .int 255, .int 0, .int 2])), (ho, .inr (3, [.ref hh, .int sz])), (hh, .inl (cI, 600, .inl f))]) [0, 1, 2, 3] (by decide) rfl
  generalize H1 = H at hP hS ⊢
  have q4_0 : va2_4 = ((if 0 ≤ (0 : Int32).toInt ∧ (0 : Int32).toInt < sz.toInt then f (0 : Int32).toNatClampNeg else 0) <<< ((8 : Int32) &&& 31)) + (if 0 ≤ (1 : Int32).toInt ∧ (1 : Int32).toInt < sz.toInt then f (1 : Int32).toNatClampNeg else 0) := hw9
  refine lv_aload_n hx hb dX7_read_7 rfl (lv_at hl 0 rfl) ?_
  refine lv_iconst (v := 2) hx hb dX7_read_8 (by decide) ?_
  refine va_put (D := D) (ci := 7) (v := .int 2) (ty := .int) (C := RX7) (T := TX7) (N := 5) hx hb hts in_X7 tyX7 tyX7_ok nmX7 hown hK.1 hP hD hS 0 rfl rfl 4 (by decide) (hts _ mk_334) (fun _ h9 => h9) rfl (by decide +kernel) rfl rfl (Nat.le_of_ble_eq_true rfl) dX7_read_9 (fun H locs hP hD hS => ?_)
  have hP : va_P D vwCl [(hk, .inr (7, [.ref ho, .ref hwr, .ref hrd, .ref hp, .int 2])), (hrd, .inr (0, [.ref ho, .int va2_4, .int 255, .int 0, .int 2])), (ho, .inr (3, [.ref hh, .int sz])), (hh, .inl (cI, 600, .inl f))] H := hP
  have hD : va_D A [(hk, .inr (7, [.ref ho, .ref hwr, .ref hrd, .ref hp, .int 2])), (hrd, .inr (0, [.ref ho, .int va2_4, .int 255, .int 0, .int 2])), (ho, .inr (3, [.ref hh, .int sz])), (hh, .inl (cI, 600, .inl f))] := hD
  exact W.vret hx hb hr (fun t9 ht9 hW9 => ⟨⟨va2_4, rfl, q4_0, by rw [ht9]; exact hP, hD⟩, hS.F ht9⟩) hS.2.2 dX7_read_12
abbrev kw_X7_octet : List Cond := Cond.code yX7_octet cX7_octet 2 (some .int) :: kW
set_option maxHeartbeats 4000000 in
set_option maxRecDepth 100000 in
theorem c_X7_octet (l : Launch) (D : va_G) (cI cJ cZ : ClassId) (hk ho hwr hrd hp hh : Nat) (bg : Int32) (sz : Int32) (f : Nat → Int32) (k : Int32) (bsz : kB sz 0 600) (hpz : Nat) : Met l yX7_octet kw_X7_octet ({ frames := 1, cells := 0, slots := 0, locals := 21 }) (va_Pc [.ref hk, .int k] (fun U => U.heap.size = hpz ∧ va_P D vwCl [(hk, .inr (7, [.ref ho, .ref hwr, .ref hrd, .ref hp, .int bg])), (ho, .inr (3, [.ref hh, .int sz])), (hh, .inl (cI, 600, .inl f))] U.heap ∧ kK D cI cJ cZ U ∧ va_D (fun _ => True) [(hk, .inr (7, [.ref ho, .ref hwr, .ref hrd, .ref hp, .int bg])), (ho, .inr (3, [.ref hh, .int sz])), (hh, .inl (cI, 600, .inl f))])) (va_Qi (fun (r : Int32) (u : Unit) => (r = if 0 ≤ k.toInt ∧ k.toInt < sz.toInt then f k.toNatClampNeg else (-1))) (fun (u : Unit) (t : State) => va_P D vwCl [(hk, .inr (7, [.ref ho, .ref hwr, .ref hrd, .ref hp, .int bg])), (ho, .inr (3, [.ref hh, .int sz])), (hh, .inl (cI, 600, .inl f))] t.heap ∧ va_D (va_A [(hk, .inr (7, [.ref ho, .ref hwr, .ref hrd, .ref hp, .int bg])), (ho, .inr (3, [.ref hh, .int sz])), (hh, .inl (cI, 600, .inl f))] hpz) [(hk, .inr (7, [.ref ho, .ref hwr, .ref hrd, .ref hp, .int bg])), (ho, .inr (3, [.ref hh, .int sz])), (hh, .inl (cI, 600, .inl f))]) (va_A [(hk, .inr (7, [.ref ho, .ref hwr, .ref hrd, .ref hp, .int bg])), (ho, .inr (3, [.ref hh, .int sz])), (hh, .inl (cI, 600, .inl f))] hpz)) 0 0 (va_A [(hk, .inr (7, [.ref ho, .ref hwr, .ref hrd, .ref hp, .int bg])), (ho, .inr (3, [.ref hh, .int sz])), (hh, .inl (cI, 600, .inl f))] hpz) := by
  refine Met.ofW (cc := cX7_octet) (maxL := 2) (ret := (some .int)) (by decide) rfl ?_
  intro p e s m args below meth c s₁ B hml hv
  obtain ⟨rfl, hsz, hP, hK, hD0⟩ := hv
  have hx := B.exec
  have hb := B.bytes
  have hr := B.returns
  have hts := fun (w : Cond) (h : w ∈ kW) => atoms_spec (ws := kw_X7_octet) B.pre w (List.mem_cons_of_mem _ h)
  have hown : s.vm.findClass RX7 = some m.cls := findClass_of_methodNamed B.named
  have hlocks := B.notSynchronized
  subst hsz
  have hD := hD0.self (sz := s.heap.size)
  generalize hAe : va_A [(hk, .inr (7, [.ref ho, .ref hwr, .ref hrd, .ref hp, .int bg])), (ho, .inr (3, [.ref hh, .int sz])), (hh, .inl (cI, 600, .inl f))] s.heap.size = A at hD ⊢
  have hA : ∀ q : Nat, s.heap.size ≤ q → A q := fun q h => by rw [← hAe]; exact Or.inr h
  have hS : va_S A s.heap s.heap [] := va_S.rf
  have hP : va_P D vwCl [(hk, .inr (7, [.ref ho, .ref hwr, .ref hrd, .ref hp, .int bg])), (ho, .inr (3, [.ref hh, .int sz])), (hh, .inl (cI, 600, .inl f))] s.heap := hP
  have hl := lv_entry ([.ref hk, .int k]) (n := 2) (Nat.le_of_ble_eq_true rfl)
  rw [lg_entry_eq]
  generalize (lg_sl ([.ref hk, .int k]) ++ List.replicate (2 - (lg_sl ([.ref hk, .int k])).length) Slot.unset).toArray = ls at hl ⊢
  have hl : lv_has ls 2 [(0, .ref hk), (1, .int k)] := hl
  refine lv_iload_n hx hb dX7_octet_0 rfl (lv_at hl 1 rfl) ?_
  refine lv_if_lt (tgt := 26) hx hb dX7_octet_1 (by decide) (fun c1 => ?_) (fun c1 => ?_)
  · have c1a := kB_all k
    have c1x : kB k (-2147483648) (-1) := kB_lt_l c1a kc_0 c1 (by decide)
    have K1 : ¬ (0 ≤ k.toInt ∧ k.toInt < sz.toInt) := fun h => by have := Int32.lt_iff_toInt_lt.mp c1; rw [show (0 : Int32).toInt = 0 from by decide] at this; omega
    refine lv_iconst (v := (-1)) hx hb dX7_octet_26 (by decide) ?_
    have pf_x : (-1 : Int32) = if 0 ≤ k.toInt ∧ k.toInt < sz.toInt then f k.toNatClampNeg else (-1) := (by rw [if_neg K1])
    exact W.iret (v := (-1)) hx hb hr (fun t9 ht9 hW9 => ⟨⟨(-1), (), rfl, pf_x, by rw [ht9]; exact hP, hD⟩, hS.F ht9⟩) hS.2.2 dX7_octet_27
  · have c1n : 0 ≤ k := kN_lt c1
    have c1nb := kB_all k
    have c1ny : kB k 0 2147483647 := kB_le_r kc_0 c1nb c1n (by decide)
    refine lv_iload_n hx hb dX7_octet_4 rfl (lv_at hl 1 rfl) ?_
    refine lv_aload_n hx hb dX7_octet_5 rfl (lv_at hl 0 rfl) ?_
    refine va_get (D := D) (ci := 7) (v := .ref ho) (C := RX7) (T := TX7) (N := 5) hx hb hts in_X7 hown hK.1 hP 0 rfl rfl 0 (by decide) (hts _ mk_328) (fun _ h9 => h9) rfl dX7_octet_6 ?_
    have hPc := hP.sub (ws' := [(ho, .inr (3, [.ref hh, .int sz])), (hh, .inl (cI, 600, .inl f))]) [1, 2] rfl
    have hDc := hD.sub (ws' := [(ho, .inr (3, [.ref hh, .int sz])), (hh, .inl (cI, 600, .inl f))]) [1, 2] (by decide) rfl
    have hFc := va_free (wc := [(ho, .inr (3, [.ref hh, .int sz])), (hh, .inl (cI, 600, .inl f))]) hD hS hA [1, 2] rfl
    refine va_calli (va_runV (As := []) (rest := [.int k]) ⟨hx, hb, hml, hown, hts⟩ (c_X3_size l D cI cJ cZ ho hh sz f (s.heap).size) (cwV 0 hts (kg_V mk_329 mk_30 mk_31 mk_6 mk_32) rfl rfl rfl (by decide +kernel) ⟨Nat.le_of_ble_eq_true rfl, Nat.le_of_ble_eq_true rfl⟩) ⟨fun a U g mk q => by obtain ⟨q0, q1, qP, qK, qD⟩ := q; exact ⟨q0, q1, qP, kK.call qK, qD⟩, va_recv hK.1 hPc (ci := 3) (q0 := 0) rfl rfl, fun U hU hW => ⟨rfl, by rw [hU], by rw [hU]; exact hPc, kK.warm hW hK, hDc.weaken (fun _ _ _ _ => trivial)⟩⟩ rfl rfl hl.1 rfl (lv_room (Nat.le_of_ble_eq_true rfl)) dX7_octet_9 ⟨Nat.zero_le _, Nat.zero_le _⟩) hS (fun q _ h => hFc q h) hFc (fun r9 u t9 H1 locs ht9 hvm9 hw9 hB9 hz9 hk9 hS => ?_)
    obtain ⟨hP1, hD1⟩ := hB9
    rw [ht9] at hP1
    have hP1 : va_P D vwCl [(ho, .inr (3, [.ref hh, .int sz])), (hh, .inl (cI, 600, .inl f))] H1 := hP1
    obtain ⟨hP, hD⟩ := va_join (wr := [(hk, .inr (7, [.ref ho, .ref hwr, .ref hrd, .ref hp, .int bg]))]) (w1 := [(ho, .inr (3, [.ref hh, .int sz])), (hh, .inl (cI, 600, .inl f))]) hP hD [1, 2] [0] rfl rfl (by decide) (by decide) hk9 hFc hP1 hD1
    have hP := hP.sub (ws' := [(hk, .inr (7, [.ref ho, .ref hwr, .ref hrd, .ref hp, .int bg])), (ho, .inr (3, [.ref hh, .int sz])), (hh, .inl (cI, 600, .inl f))]) [0, 1, 2] rfl
    have hD := hD.sub (ws' := [(hk, .inr (7, [.ref ho, .ref hwr, .ref hrd, .ref hp, .int bg])), (ho, .inr (3, [.ref hh, .int sz])), (hh, .inl (cI, 600, .inl f))]) [0, 1, 2] (by decide) rfl
    generalize H1 = H at hP hS ⊢
    have q9_0 : r9 = sz := hw9
    refine lv_icmp_ge (tgt := 26) hx hb dX7_octet_12 (by decide) (fun c12 => ?_) (fun c12 => ?_)
    · have c12a := kB_all r9
      have c12x : kB r9 (-2147483648) 2147483647 := kB_le_l c12a c1ny c12 (by decide)
      have K1 : ¬ (0 ≤ k.toInt ∧ k.toInt < sz.toInt) := fun h => by have := Int32.le_iff_toInt_le.mp c12; rw [q9_0] at this; omega
      refine lv_iconst (v := (-1)) hx hb dX7_octet_26 (by decide) ?_
      have pf_x : (-1 : Int32) = if 0 ≤ k.toInt ∧ k.toInt < sz.toInt then f k.toNatClampNeg else (-1) := (by rw [if_neg K1])
      exact W.iret (v := (-1)) hx hb hr (fun t9 ht9 hW9 => ⟨⟨(-1), (), rfl, pf_x, by rw [ht9]; exact hP, hD⟩, hS.F ht9⟩) hS.2.2 dX7_octet_27
    · have c12n : k < r9 := kN_le c12
      have c12nb := kB_all r9
      have c12nx : kB k 0 2147483646 := kB_lt_l c1ny c12nb c12n (by decide)
      have c12ny : kB r9 1 2147483647 := kB_lt_r c1ny c12nb c12n (by decide)
      have K1 : 0 ≤ k.toInt ∧ k.toInt < sz.toInt := ⟨c1ny.1, by have := Int32.lt_iff_toInt_lt.mp c12n; rw [q9_0] at this; exact this⟩
      refine lv_aload_n hx hb dX7_octet_15 rfl (lv_at hl 0 rfl) ?_
      refine va_get (D := D) (ci := 7) (v := .ref ho) (C := RX7) (T := TX7) (N := 5) hx hb hts in_X7 hown hK.1 hP 0 rfl rfl 0 (by decide) (hts _ mk_328) (fun _ h9 => h9) rfl dX7_octet_16 ?_
      refine lv_iload_n hx hb dX7_octet_19 rfl (lv_at hl 1 rfl) ?_
      have hPc := hP.sub (ws' := [(ho, .inr (3, [.ref hh, .int sz])), (hh, .inl (cI, 600, .inl f))]) [1, 2] rfl
      have hDc := hD.sub (ws' := [(ho, .inr (3, [.ref hh, .int sz])), (hh, .inl (cI, 600, .inl f))]) [1, 2] (by decide) rfl
      have hFc := va_free (wc := [(ho, .inr (3, [.ref hh, .int sz])), (hh, .inl (cI, 600, .inl f))]) hD hS hA [1, 2] rfl
      refine va_calli (va_runV (As := [.int k]) (rest := []) ⟨hx, hb, hml, hown, hts⟩ (c_X3_at l D cI cJ cZ ho hh sz f k bsz (H).size) (cwV 1 hts (kg_V mk_345 mk_4 mk_5 mk_6 mk_7) rfl rfl rfl (by decide +kernel) ⟨Nat.le_of_ble_eq_true rfl, Nat.le_of_ble_eq_true rfl⟩) ⟨fun a U g mk q => by obtain ⟨q0, q1, qP, qK, qD⟩ := q; exact ⟨q0, q1, qP, kK.call qK, qD⟩, va_recv hK.1 hPc (ci := 3) (q0 := 0) rfl rfl, fun U hU hW => ⟨rfl, by rw [hU], by rw [hU]; exact hPc, kK.warm hW hK, hDc.weaken (fun _ _ _ _ => trivial)⟩⟩ rfl rfl hl.1 rfl (lv_room (Nat.le_of_ble_eq_true rfl)) dX7_octet_20 ⟨Nat.zero_le _, Nat.zero_le _⟩) hS (fun q _ h => hFc q h) hFc (fun r20 u t9 H1 locs ht9 hvm9 hw9 hB9 hz9 hk9 hS => ?_)
      obtain ⟨hP1, hD1⟩ := hB9
      rw [ht9] at hP1
      have hP1 : va_P D vwCl [(ho, .inr (3, [.ref hh, .int sz])), (hh, .inl (cI, 600, .inl f))] H1 := hP1
      obtain ⟨hP, hD⟩ := va_join (wr := [(hk, .inr (7, [.ref ho, .ref hwr, .ref hrd, .ref hp, .int bg]))]) (w1 := [(ho, .inr (3, [.ref hh, .int sz])), (hh, .inl (cI, 600, .inl f))]) hP hD [1, 2] [0] rfl rfl (by decide) (by decide) hk9 hFc hP1 hD1
      have hP := hP.sub (ws' := [(hk, .inr (7, [.ref ho, .ref hwr, .ref hrd, .ref hp, .int bg])), (ho, .inr (3, [.ref hh, .int sz])), (hh, .inl (cI, 600, .inl f))]) [0, 1, 2] rfl
      have hD := hD.sub (ws' := [(hk, .inr (7, [.ref ho, .ref hwr, .ref hrd, .ref hp, .int bg])), (ho, .inr (3, [.ref hh, .int sz])), (hh, .inl (cI, 600, .inl f))]) [0, 1, 2] (by decide) rfl
      generalize H1 = H at hP hS ⊢
      have q20_0 : r20 = if 0 ≤ k.toInt ∧ k.toInt < sz.toInt then f k.toNatClampNeg else 0 := hw9
      refine lv_goto (tgt := 27) hx hb dX7_octet_23 (by decide) ?_
      have pf_x : r20 = if 0 ≤ k.toInt ∧ k.toInt < sz.toInt then f k.toNatClampNeg else (-1) := (by rw [if_pos K1, q20_0, if_pos K1])
      exact W.iret (v := r20) hx hb hr (fun t9 ht9 hW9 => ⟨⟨r20, (), rfl, pf_x, by rw [ht9]; exact hP, hD⟩, hS.F ht9⟩) hS.2.2 dX7_octet_27
abbrev kw_X7_sample : List Cond := Cond.code yX7_sample cX7_sample 3 (some .int) :: kW
set_option maxHeartbeats 4000000 in
set_option maxRecDepth 100000 in
theorem c_X7_sample (l : Launch) (D : va_G) (cI cJ cZ : ClassId) (hk ho hwr hrd hp ht htr hpl hw hcr hco hhs hs : Nat) (bg : Int32) (cols : Int32) (rows : Int32) (q : Int32) (lev : Int32) (ta : Int32) (ob : Int32) (fch : Int32) (sm : Nat → Int32) (x : Int32) (y : Int32) (bcols : kB cols 0 4) (brows : kB rows 0 4) (hpz : Nat) : Met l yX7_sample kw_X7_sample ({ frames := 2, cells := 0, slots := 0, locals := 45 }) (va_Pc [.ref hk, .int x, .int y] (fun U => U.heap.size = hpz ∧ va_P D vwCl [(hk, .inr (7, [.ref ho, .ref hwr, .ref hrd, .ref hp, .int bg])), (hp, .inr (4, [.ref ht, .ref htr, .ref hpl, .ref hw, .ref hcr, .ref hco, .ref hhs, .int cols, .int rows, .int q, .int lev, .int ta, .int ob, .int fch])), (hpl, .inr (5, [.ref hs])), (hs, .inl (cI, 256, .inl sm))] U.heap ∧ kK D cI cJ cZ U ∧ va_D (fun _ => True) [(hk, .inr (7, [.ref ho, .ref hwr, .ref hrd, .ref hp, .int bg])), (hp, .inr (4, [.ref ht, .ref htr, .ref hpl, .ref hw, .ref hcr, .ref hco, .ref hhs, .int cols, .int rows, .int q, .int lev, .int ta, .int ob, .int fch])), (hpl, .inr (5, [.ref hs])), (hs, .inl (cI, 256, .inl sm))])) (va_Qi (fun (r : Int32) (u : Unit) => (kIf (cols = 0) (r = -1))) (fun (u : Unit) (t : State) => va_P D vwCl [(hk, .inr (7, [.ref ho, .ref hwr, .ref hrd, .ref hp, .int bg])), (hp, .inr (4, [.ref ht, .ref htr, .ref hpl, .ref hw, .ref hcr, .ref hco, .ref hhs, .int cols, .int rows, .int q, .int lev, .int ta, .int ob, .int fch])), (hpl, .inr (5, [.ref hs])), (hs, .inl (cI, 256, .inl sm))] t.heap ∧ va_D (va_A [(hk, .inr (7, [.ref ho, .ref hwr, .ref hrd, .ref hp, .int bg])), (hp, .inr (4, [.ref ht, .ref htr, .ref hpl, .ref hw, .ref hcr, .ref hco, .ref hhs, .int cols, .int rows, .int q, .int lev, .int ta, .int ob, .int fch])), (hpl, .inr (5, [.ref hs])), (hs, .inl (cI, 256, .inl sm))] hpz) [(hk, .inr (7, [.ref ho, .ref hwr, .ref hrd, .ref hp, .int bg])), (hp, .inr (4, [.ref ht, .ref htr, .ref hpl, .ref hw, .ref hcr, .ref hco, .ref hhs, .int cols, .int rows, .int q, .int lev, .int ta, .int ob, .int fch])), (hpl, .inr (5, [.ref hs])), (hs, .inl (cI, 256, .inl sm))]) (va_A [(hk, .inr (7, [.ref ho, .ref hwr, .ref hrd, .ref hp, .int bg])), (hp, .inr (4, [.ref ht, .ref htr, .ref hpl, .ref hw, .ref hcr, .ref hco, .ref hhs, .int cols, .int rows, .int q, .int lev, .int ta, .int ob, .int fch])), (hpl, .inr (5, [.ref hs])), (hs, .inl (cI, 256, .inl sm))] hpz)) 0 0 (va_A [(hk, .inr (7, [.ref ho, .ref hwr, .ref hrd, .ref hp, .int bg])), (hp, .inr (4, [.ref ht, .ref htr, .ref hpl, .ref hw, .ref hcr, .ref hco, .ref hhs, .int cols, .int rows, .int q, .int lev, .int ta, .int ob, .int fch])), (hpl, .inr (5, [.ref hs])), (hs, .inl (cI, 256, .inl sm))] hpz) := by
  refine Met.ofW (cc := cX7_sample) (maxL := 3) (ret := (some .int)) (by decide) rfl ?_
  intro p e s m args below meth c s₁ B hml hv
  obtain ⟨rfl, hsz, hP, hK, hD0⟩ := hv
  have hx := B.exec
  have hb := B.bytes
  have hr := B.returns
  have hts := fun (w : Cond) (h : w ∈ kW) => atoms_spec (ws := kw_X7_sample) B.pre w (List.mem_cons_of_mem _ h)
  have hown : s.vm.findClass RX7 = some m.cls := findClass_of_methodNamed B.named
  have hlocks := B.notSynchronized
  subst hsz
  have hD := hD0.self (sz := s.heap.size)
  generalize hAe : va_A [(hk, .inr (7, [.ref ho, .ref hwr, .ref hrd, .ref hp, .int bg])), (hp, .inr (4, [.ref ht, .ref htr, .ref hpl, .ref hw, .ref hcr, .ref hco, .ref hhs, .int cols, .int rows, .int q, .int lev, .int ta, .int ob, .int fch])), (hpl, .inr (5, [.ref hs])), (hs, .inl (cI, 256, .inl sm))] s.heap.size = A at hD ⊢
  have hA : ∀ q : Nat, s.heap.size ≤ q → A q := fun q h => by rw [← hAe]; exact Or.inr h
  have hS : va_S A s.heap s.heap [] := va_S.rf
  have hP : va_P D vwCl [(hk, .inr (7, [.ref ho, .ref hwr, .ref hrd, .ref hp, .int bg])), (hp, .inr (4, [.ref ht, .ref htr, .ref hpl, .ref hw, .ref hcr, .ref hco, .ref hhs, .int cols, .int rows, .int q, .int lev, .int ta, .int ob, .int fch])), (hpl, .inr (5, [.ref hs])), (hs, .inl (cI, 256, .inl sm))] s.heap := hP
  have hl := lv_entry ([.ref hk, .int x, .int y]) (n := 3) (Nat.le_of_ble_eq_true rfl)
  rw [lg_entry_eq]
  generalize (lg_sl ([.ref hk, .int x, .int y]) ++ List.replicate (3 - (lg_sl ([.ref hk, .int x, .int y])).length) Slot.unset).toArray = ls at hl ⊢
  have hl : lv_has ls 3 [(0, .ref hk), (1, .int x), (2, .int y)] := hl
  refine lv_aload_n hx hb dX7_sample_0 rfl (lv_at hl 0 rfl) ?_
  refine va_get (D := D) (ci := 7) (v := .ref hp) (C := RX7) (T := TX7) (N := 5) hx hb hts in_X7 hown hK.1 hP 0 rfl rfl 3 (by decide) (hts _ mk_346) (fun _ h9 => h9) rfl dX7_sample_1 ?_
  refine lv_iload_n hx hb dX7_sample_4 rfl (lv_at hl 1 rfl) ?_
  refine lv_iload_n hx hb dX7_sample_5 rfl (lv_at hl 2 rfl) ?_
  have hPc := hP.sub (ws' := [(hp, .inr (4, [.ref ht, .ref htr, .ref hpl, .ref hw, .ref hcr, .ref hco, .ref hhs, .int cols, .int rows, .int q, .int lev, .int ta, .int ob, .int fch])), (hpl, .inr (5, [.ref hs])), (hs, .inl (cI, 256, .inl sm))]) [1, 2, 3] rfl
  have hDc := hD.sub (ws' := [(hp, .inr (4, [.ref ht, .ref htr, .ref hpl, .ref hw, .ref hcr, .ref hco, .ref hhs, .int cols, .int rows, .int q, .int lev, .int ta, .int ob, .int fch])), (hpl, .inr (5, [.ref hs])), (hs, .inl (cI, 256, .inl sm))]) [1, 2, 3] (by decide) rfl
  have hFc := va_free (wc := [(hp, .inr (4, [.ref ht, .ref htr, .ref hpl, .ref hw, .ref hcr, .ref hco, .ref hhs, .int cols, .int rows, .int q, .int lev, .int ta, .int ob, .int fch])), (hpl, .inr (5, [.ref hs])), (hs, .inl (cI, 256, .inl sm))]) hD hS hA [1, 2, 3] rfl
  refine va_calli (va_runV (As := [.int x, .int y]) (rest := []) ⟨hx, hb, hml, hown, hts⟩ (c_X4_sampleAt l D cI cJ cZ hp ht htr hpl hw hcr hco hhs hs cols rows q lev ta ob fch sm x y bcols brows (s.heap).size) (cwV 2 hts (kg_V mk_347 mk_348 mk_349 mk_119 mk_350) rfl rfl rfl (by decide +kernel) ⟨Nat.le_of_ble_eq_true rfl, Nat.le_of_ble_eq_true rfl⟩) ⟨fun a U g mk q => by obtain ⟨q0, q1, qP, qK, qD⟩ := q; exact ⟨q0, q1, qP, kK.call qK, qD⟩, va_recv hK.1 hPc (ci := 4) (q0 := 0) rfl rfl, fun U hU hW => ⟨rfl, by rw [hU], by rw [hU]; exact hPc, kK.warm hW hK, hDc.weaken (fun _ _ _ _ => trivial)⟩⟩ rfl rfl hl.1 rfl (lv_room (Nat.le_of_ble_eq_true rfl)) dX7_sample_6 ⟨Nat.zero_le _, Nat.zero_le _⟩) hS (fun q _ h => hFc q h) hFc (fun r6 u t9 H1 locs ht9 hvm9 hw9 hB9 hz9 hk9 hS => ?_)
  obtain ⟨hP1, hD1⟩ := hB9
  rw [ht9] at hP1
  have hP1 : va_P D vwCl [(hp, .inr (4, [.ref ht, .ref htr, .ref hpl, .ref hw, .ref hcr, .ref hco, .ref hhs, .int cols, .int rows, .int q, .int lev, .int ta, .int ob, .int fch])), (hpl, .inr (5, [.ref hs])), (hs, .inl (cI, 256, .inl sm))] H1 := hP1
  obtain ⟨hP, hD⟩ := va_join (wr := [(hk, .inr (7, [.ref ho, .ref hwr, .ref hrd, .ref hp, .int bg]))]) (w1 := [(hp, .inr (4, [.ref ht, .ref htr, .ref hpl, .ref hw, .ref hcr, .ref hco, .ref hhs, .int cols, .int rows, .int q, .int lev, .int ta, .int ob, .int fch])), (hpl, .inr (5, [.ref hs])), (hs, .inl (cI, 256, .inl sm))]) hP hD [1, 2, 3] [0] rfl rfl (by decide) (by decide) hk9 hFc hP1 hD1
  have hP := hP.sub (ws' := [(hk, .inr (7, [.ref ho, .ref hwr, .ref hrd, .ref hp, .int bg])), (hp, .inr (4, [.ref ht, .ref htr, .ref hpl, .ref hw, .ref hcr, .ref hco, .ref hhs, .int cols, .int rows, .int q, .int lev, .int ta, .int ob, .int fch])), (hpl, .inr (5, [.ref hs])), (hs, .inl (cI, 256, .inl sm))]) [0, 1, 2, 3] rfl
  have hD := hD.sub (ws' := [(hk, .inr (7, [.ref ho, .ref hwr, .ref hrd, .ref hp, .int bg])), (hp, .inr (4, [.ref ht, .ref htr, .ref hpl, .ref hw, .ref hcr, .ref hco, .ref hhs, .int cols, .int rows, .int q, .int lev, .int ta, .int ob, .int fch])), (hpl, .inr (5, [.ref hs])), (hs, .inl (cI, 256, .inl sm))]) [0, 1, 2, 3] (by decide) rfl
  generalize H1 = H at hP hS ⊢
  have q6_0 : kIf (cols = 0) (r6 = -1) := hw9
  exact W.iret (v := r6) hx hb hr (fun t9 ht9 hW9 => ⟨⟨r6, (), rfl, q6_0, by rw [ht9]; exact hP, hD⟩, hS.F ht9⟩) hS.2.2 dX7_sample_9
abbrev kw_X7_decode : List Cond := Cond.code yX7_decode cX7_decode 1 (some .int) :: kW
set_option maxHeartbeats 4000000 in
set_option maxRecDepth 100000 in
theorem c_X7_decode (l : Launch) (D : va_G) (cI cJ cZ : ClassId) (hk hwr hp ht hpr htr hg hpl hs hw hcr hco hhs hrd ho hh : Nat) (bg : Int32) (va : Int32) (rg : Int32) (sh : Int32) (nx : Int32) (sz : Int32) (f : Nat → Int32) (cols : Int32) (rows : Int32) (q : Int32) (lev : Int32) (ta : Int32) (ob : Int32) (fch : Int32) (pr : Nat → Int32) (g : Nat → Int64) (sm : Nat → Int32) (wy : Nat → Int32) (cr : Nat → Int32) (co : Nat → Int32) (hb_ : Nat → Int32) (bsz : kB sz 0 600) (apr : kA pr 0 255) (af : kA f 0 255) (hpz : Nat) : Met l yX7_decode kw_X7_decode ({ frames := 6, cells := 0, slots := 0, locals := 151 }) (va_Pc [.ref hk] (fun U => U.heap.size = hpz ∧ va_P D vwCl [(hk, .inr (7, [.ref ho, .ref hwr, .ref hrd, .ref hp, .int bg])), (hp, .inr (4, [.ref ht, .ref htr, .ref hpl, .ref hw, .ref hcr, .ref hco, .ref hhs, .int cols, .int rows, .int q, .int lev, .int ta, .int ob, .int fch])), (ht, .inr (2, [.ref hpr])), (hpr, .inl (cI, 264, .inl pr)), (htr, .inr (6, [.ref hg])), (hg, .inl (cJ, 16, .inr (.inl g))), (hpl, .inr (5, [.ref hs])), (hs, .inl (cI, 256, .inl sm)), (hw, .inl (cI, 16, .inl wy)), (hcr, .inl (cI, 16, .inl cr)), (hco, .inl (cI, 256, .inl co)), (hhs, .inl (cZ, 16, .inl hb_)), (hrd, .inr (0, [.ref ho, .int va, .int rg, .int sh, .int nx])), (ho, .inr (3, [.ref hh, .int sz])), (hh, .inl (cI, 600, .inl f))] U.heap ∧ kK D cI cJ cZ U ∧ va_D (fun _ => True) [(hk, .inr (7, [.ref ho, .ref hwr, .ref hrd, .ref hp, .int bg])), (hp, .inr (4, [.ref ht, .ref htr, .ref hpl, .ref hw, .ref hcr, .ref hco, .ref hhs, .int cols, .int rows, .int q, .int lev, .int ta, .int ob, .int fch])), (ht, .inr (2, [.ref hpr])), (hpr, .inl (cI, 264, .inl pr)), (htr, .inr (6, [.ref hg])), (hg, .inl (cJ, 16, .inr (.inl g))), (hpl, .inr (5, [.ref hs])), (hs, .inl (cI, 256, .inl sm)), (hw, .inl (cI, 16, .inl wy)), (hcr, .inl (cI, 16, .inl cr)), (hco, .inl (cI, 256, .inl co)), (hhs, .inl (cZ, 16, .inl hb_)), (hrd, .inr (0, [.ref ho, .int va, .int rg, .int sh, .int nx])), (ho, .inr (3, [.ref hh, .int sz])), (hh, .inl (cI, 600, .inl f))] ∧ kT (va_A [(hk, .inr (7, [.ref ho, .ref hwr, .ref hrd, .ref hp, .int bg])), (hp, .inr (4, [.ref ht, .ref htr, .ref hpl, .ref hw, .ref hcr, .ref hco, .ref hhs, .int cols, .int rows, .int q, .int lev, .int ta, .int ob, .int fch])), (ht, .inr (2, [.ref hpr])), (hpr, .inl (cI, 264, .inl pr)), (htr, .inr (6, [.ref hg])), (hg, .inl (cJ, 16, .inr (.inl g))), (hpl, .inr (5, [.ref hs])), (hs, .inl (cI, 256, .inl sm)), (hw, .inl (cI, 16, .inl wy)), (hcr, .inl (cI, 16, .inl cr)), (hco, .inl (cI, 256, .inl co)), (hhs, .inl (cZ, 16, .inl hb_)), (hrd, .inr (0, [.ref ho, .int va, .int rg, .int sh, .int nx])), (ho, .inr (3, [.ref hh, .int sz])), (hh, .inl (cI, 600, .inl f))] hpz) U U.heap)) (va_Qi (fun (r : Int32) (u : Int32 × Int32 × Int32 × Int32 × Int32 × Int32 × Int32 × Int32 × Int32 × Int32 × Int32 × (Nat → Int32) × (Nat → Int64) × (Nat → Int32) × (Nat → Int32) × (Nat → Int32) × (Nat → Int32) × (Nat → Int32)) => (kB u.2.1 128 255) ∧ (kB u.2.2.1 0 7) ∧ (kB u.2.2.2.2.1 1 4) ∧ (kB u.2.2.2.2.2.1 1 4) ∧ (kA u.2.2.2.2.2.2.2.2.2.2.2.1 0 255) ∧ (r = u.2.2.2.2.1 * u.2.2.2.2.2.1) ∧ (r.toInt = rCol (rV0 sz f) * rRow (rV0 sz f))) (fun (u : Int32 × Int32 × Int32 × Int32 × Int32 × Int32 × Int32 × Int32 × Int32 × Int32 × Int32 × (Nat → Int32) × (Nat → Int64) × (Nat → Int32) × (Nat → Int32) × (Nat → Int32) × (Nat → Int32) × (Nat → Int32)) (t : State) => va_P D vwCl [(hk, .inr (7, [.ref ho, .ref hwr, .ref hrd, .ref hp, .int 0])), (hp, .inr (4, [.ref ht, .ref htr, .ref hpl, .ref hw, .ref hcr, .ref hco, .ref hhs, .int u.2.2.2.2.1, .int u.2.2.2.2.2.1, .int u.2.2.2.2.2.2.1, .int u.2.2.2.2.2.2.2.1, .int u.2.2.2.2.2.2.2.2.1, .int u.2.2.2.2.2.2.2.2.2.1, .int u.2.2.2.2.2.2.2.2.2.2.1])), (ht, .inr (2, [.ref hpr])), (hpr, .inl (cI, 264, .inl u.2.2.2.2.2.2.2.2.2.2.2.1)), (htr, .inr (6, [.ref hg])), (hg, .inl (cJ, 16, .inr (.inl u.2.2.2.2.2.2.2.2.2.2.2.2.1))), (hpl, .inr (5, [.ref hs])), (hs, .inl (cI, 256, .inl u.2.2.2.2.2.2.2.2.2.2.2.2.2.1)), (hw, .inl (cI, 16, .inl u.2.2.2.2.2.2.2.2.2.2.2.2.2.2.1)), (hcr, .inl (cI, 16, .inl u.2.2.2.2.2.2.2.2.2.2.2.2.2.2.2.1)), (hco, .inl (cI, 256, .inl u.2.2.2.2.2.2.2.2.2.2.2.2.2.2.2.2.1)), (hhs, .inl (cZ, 16, .inl u.2.2.2.2.2.2.2.2.2.2.2.2.2.2.2.2.2)), (hrd, .inr (0, [.ref ho, .int u.1, .int u.2.1, .int u.2.2.1, .int u.2.2.2.1])), (ho, .inr (3, [.ref hh, .int sz])), (hh, .inl (cI, 600, .inl f))] t.heap ∧ va_D (va_A [(hk, .inr (7, [.ref ho, .ref hwr, .ref hrd, .ref hp, .int bg])), (hp, .inr (4, [.ref ht, .ref htr, .ref hpl, .ref hw, .ref hcr, .ref hco, .ref hhs, .int cols, .int rows, .int q, .int lev, .int ta, .int ob, .int fch])), (ht, .inr (2, [.ref hpr])), (hpr, .inl (cI, 264, .inl pr)), (htr, .inr (6, [.ref hg])), (hg, .inl (cJ, 16, .inr (.inl g))), (hpl, .inr (5, [.ref hs])), (hs, .inl (cI, 256, .inl sm)), (hw, .inl (cI, 16, .inl wy)), (hcr, .inl (cI, 16, .inl cr)), (hco, .inl (cI, 256, .inl co)), (hhs, .inl (cZ, 16, .inl hb_)), (hrd, .inr (0, [.ref ho, .int va, .int rg, .int sh, .int nx])), (ho, .inr (3, [.ref hh, .int sz])), (hh, .inl (cI, 600, .inl f))] hpz) [(hk, .inr (7, [.ref ho, .ref hwr, .ref hrd, .ref hp, .int 0])), (hp, .inr (4, [.ref ht, .ref htr, .ref hpl, .ref hw, .ref hcr, .ref hco, .ref hhs, .int u.2.2.2.2.1, .int u.2.2.2.2.2.1, .int u.2.2.2.2.2.2.1, .int u.2.2.2.2.2.2.2.1, .int u.2.2.2.2.2.2.2.2.1, .int u.2.2.2.2.2.2.2.2.2.1, .int u.2.2.2.2.2.2.2.2.2.2.1])), (ht, .inr (2, [.ref hpr])), (hpr, .inl (cI, 264, .inl u.2.2.2.2.2.2.2.2.2.2.2.1)), (htr, .inr (6, [.ref hg])), (hg, .inl (cJ, 16, .inr (.inl u.2.2.2.2.2.2.2.2.2.2.2.2.1))), (hpl, .inr (5, [.ref hs])), (hs, .inl (cI, 256, .inl u.2.2.2.2.2.2.2.2.2.2.2.2.2.1)), (hw, .inl (cI, 16, .inl u.2.2.2.2.2.2.2.2.2.2.2.2.2.2.1)), (hcr, .inl (cI, 16, .inl u.2.2.2.2.2.2.2.2.2.2.2.2.2.2.2.1)), (hco, .inl (cI, 256, .inl u.2.2.2.2.2.2.2.2.2.2.2.2.2.2.2.2.1)), (hhs, .inl (cZ, 16, .inl u.2.2.2.2.2.2.2.2.2.2.2.2.2.2.2.2.2)), (hrd, .inr (0, [.ref ho, .int u.1, .int u.2.1, .int u.2.2.1, .int u.2.2.2.1])), (ho, .inr (3, [.ref hh, .int sz])), (hh, .inl (cI, 600, .inl f))]) (va_A [(hk, .inr (7, [.ref ho, .ref hwr, .ref hrd, .ref hp, .int bg])), (hp, .inr (4, [.ref ht, .ref htr, .ref hpl, .ref hw, .ref hcr, .ref hco, .ref hhs, .int cols, .int rows, .int q, .int lev, .int ta, .int ob, .int fch])), (ht, .inr (2, [.ref hpr])), (hpr, .inl (cI, 264, .inl pr)), (htr, .inr (6, [.ref hg])), (hg, .inl (cJ, 16, .inr (.inl g))), (hpl, .inr (5, [.ref hs])), (hs, .inl (cI, 256, .inl sm)), (hw, .inl (cI, 16, .inl wy)), (hcr, .inl (cI, 16, .inl cr)), (hco, .inl (cI, 256, .inl co)), (hhs, .inl (cZ, 16, .inl hb_)), (hrd, .inr (0, [.ref ho, .int va, .int rg, .int sh, .int nx])), (ho, .inr (3, [.ref hh, .int sz])), (hh, .inl (cI, 600, .inl f))] hpz)) 0 0 (va_A [(hk, .inr (7, [.ref ho, .ref hwr, .ref hrd, .ref hp, .int bg])), (hp, .inr (4, [.ref ht, .ref htr, .ref hpl, .ref hw, .ref hcr, .ref hco, .ref hhs, .int cols, .int rows, .int q, .int lev, .int ta, .int ob, .int fch])), (ht, .inr (2, [.ref hpr])), (hpr, .inl (cI, 264, .inl pr)), (htr, .inr (6, [.ref hg])), (hg, .inl (cJ, 16, .inr (.inl g))), (hpl, .inr (5, [.ref hs])), (hs, .inl (cI, 256, .inl sm)), (hw, .inl (cI, 16, .inl wy)), (hcr, .inl (cI, 16, .inl cr)), (hco, .inl (cI, 256, .inl co)), (hhs, .inl (cZ, 16, .inl hb_)), (hrd, .inr (0, [.ref ho, .int va, .int rg, .int sh, .int nx])), (ho, .inr (3, [.ref hh, .int sz])), (hh, .inl (cI, 600, .inl f))] hpz) := by
  refine Met.ofW (cc := cX7_decode) (maxL := 1) (ret := (some .int)) (by decide) rfl ?_
  intro p e s m args below meth c s₁ B hml hv
  obtain ⟨rfl, hsz, hP, hK, hD0, hT⟩ := hv
  have hx := B.exec
  have hb := B.bytes
  have hr := B.returns
  have hts := fun (w : Cond) (h : w ∈ kW) => atoms_spec (ws := kw_X7_decode) B.pre w (List.mem_cons_of_mem _ h)
  have hown : s.vm.findClass RX7 = some m.cls := findClass_of_methodNamed B.named
  have hlocks := B.notSynchronized
  subst hsz
  have hD := hD0.self (sz := s.heap.size)
  generalize hAe : va_A [(hk, .inr (7, [.ref ho, .ref hwr, .ref hrd, .ref hp, .int bg])), (hp, .inr (4, [.ref ht, .ref htr, .ref hpl, .ref hw, .ref hcr, .ref hco, .ref hhs, .int cols, .int rows, .int q, .int lev, .int ta, .int ob, .int fch])), (ht, .inr (2, [.ref hpr])), (hpr, .inl (cI, 264, .inl pr)), (htr, .inr (6, [.ref hg])), (hg, .inl (cJ, 16, .inr (.inl g))), (hpl, .inr (5, [.ref hs])), (hs, .inl (cI, 256, .inl sm)), (hw, .inl (cI, 16, .inl wy)), (hcr, .inl (cI, 16, .inl cr)), (hco, .inl (cI, 256, .inl co)), (hhs, .inl (cZ, 16, .inl hb_)), (hrd, .inr (0, [.ref ho, .int va, .int rg, .int sh, .int nx])), (ho, .inr (3, [.ref hh, .int sz])), (hh, .inl (cI, 600, .inl f))] s.heap.size = A at hD hT ⊢
  have hA : ∀ q : Nat, s.heap.size ≤ q → A q := fun q h => by rw [← hAe]; exact Or.inr h
  have hS : va_S A s.heap s.heap [] := va_S.rf
  have hP : va_P D vwCl [(hk, .inr (7, [.ref ho, .ref hwr, .ref hrd, .ref hp, .int bg])), (hp, .inr (4, [.ref ht, .ref htr, .ref hpl, .ref hw, .ref hcr, .ref hco, .ref hhs, .int cols, .int rows, .int q, .int lev, .int ta, .int ob, .int fch])), (ht, .inr (2, [.ref hpr])), (hpr, .inl (cI, 264, .inl pr)), (htr, .inr (6, [.ref hg])), (hg, .inl (cJ, 16, .inr (.inl g))), (hpl, .inr (5, [.ref hs])), (hs, .inl (cI, 256, .inl sm)), (hw, .inl (cI, 16, .inl wy)), (hcr, .inl (cI, 16, .inl cr)), (hco, .inl (cI, 256, .inl co)), (hhs, .inl (cZ, 16, .inl hb_)), (hrd, .inr (0, [.ref ho, .int va, .int rg, .int sh, .int nx])), (ho, .inr (3, [.ref hh, .int sz])), (hh, .inl (cI, 600, .inl f))] s.heap := hP
  have hl := lv_entry ([.ref hk]) (n := 1) (Nat.le_of_ble_eq_true rfl)
  rw [lg_entry_eq]
  generalize (lg_sl ([.ref hk]) ++ List.replicate (1 - (lg_sl ([.ref hk])).length) Slot.unset).toArray = ls at hl ⊢
  have hl : lv_has ls 1 [(0, .ref hk)] := hl
  refine lv_aload_n hx hb dX7_decode_0 rfl (lv_at hl 0 rfl) ?_
  refine va_get (D := D) (ci := 7) (v := .ref hrd) (C := RX7) (T := TX7) (N := 5) hx hb hts in_X7 hown hK.1 hP 0 rfl rfl 2 (by decide) (hts _ mk_340) (fun _ h9 => h9) rfl dX7_decode_1 ?_
  have hPc := hP.sub (ws' := [(hrd, .inr (0, [.ref ho, .int va, .int rg, .int sh, .int nx])), (ho, .inr (3, [.ref hh, .int sz])), (hh, .inl (cI, 600, .inl f))]) [12, 13, 14] rfl
  have hDc := hD.sub (ws' := [(hrd, .inr (0, [.ref ho, .int va, .int rg, .int sh, .int nx])), (ho, .inr (3, [.ref hh, .int sz])), (hh, .inl (cI, 600, .inl f))]) [12, 13, 14] (by decide) rfl
  have hFc := va_free (wc := [(hrd, .inr (0, [.ref ho, .int va, .int rg, .int sh, .int nx])), (ho, .inr (3, [.ref hh, .int sz])), (hh, .inl (cI, 600, .inl f))]) hD hS hA [12, 13, 14] rfl
  refine va_callv (va_runV (As := []) (rest := []) ⟨hx, hb, hml, hown, hts⟩ (c_X0_start l D cI cJ cZ hrd ho hh va rg sh nx sz f bsz (s.heap).size) (cwV 0 hts (kg_V mk_341 mk_342 mk_343 mk_23 mk_344) rfl rfl rfl (by decide +kernel) ⟨Nat.le_of_ble_eq_true rfl, Nat.le_of_ble_eq_true rfl⟩) ⟨fun a U g mk q => by obtain ⟨q0, q1, qP, qK, qD⟩ := q; exact ⟨q0, q1, qP, kK.call qK, qD⟩, va_recv hK.1 hPc (ci := 0) (q0 := 0) rfl rfl, fun U hU hW => ⟨rfl, by rw [hU], by rw [hU]; exact hPc, kK.warm hW hK, hDc.weaken (fun _ _ _ _ => trivial)⟩⟩ rfl rfl hl.1 rfl (lv_room (Nat.le_of_ble_eq_true rfl)) dX7_decode_4 ⟨Nat.zero_le _, Nat.zero_le _⟩) hS (fun q _ h => hFc q h) hFc (fun u t9 H1 locs ht9 hvm9 hw9 hB9 hz9 hk9 hS => ?_)
  obtain ⟨va2_4, rfl⟩ : ∃ z, z = u := ⟨_, rfl⟩
  obtain ⟨hP1, hD1⟩ := hB9
  rw [ht9] at hP1
  have hP1 : va_P D vwCl [(hrd, .inr (0, [.ref ho, .int va2_4, .int 255, .int 0, .int 2])), (ho, .inr (3, [.ref hh, .int sz])), (hh, .inl (cI, 600, .inl f))] H1 := hP1
  obtain ⟨hP, hD⟩ := va_join (wr := [(hk, .inr (7, [.ref ho, .ref hwr, .ref hrd, .ref hp, .int bg])), (hp, .inr (4, [.ref ht, .ref htr, .ref hpl, .ref hw, .ref hcr, .ref hco, .ref hhs, .int cols, .int rows, .int q, .int lev, .int ta, .int ob, .int fch])), (ht, .inr (2, [.ref hpr])), (hpr, .inl (cI, 264, .inl pr)), (htr, .inr (6, [.ref hg])), (hg, .inl (cJ, 16, .inr (.inl g))), (hpl, .inr (5, [.ref hs])), (hs, .inl (cI, 256, .inl sm)), (hw, .inl (cI, 16, .inl wy)), (hcr, .inl (cI, 16, .inl cr)), (hco, .inl (cI, 256, .inl co)), (hhs, .inl (cZ, 16, .inl hb_))]) (w1 := [(hrd, .inr (0, [.ref ho, .int va2_4, .int 255, .int 0, .int 2])), (ho, .inr (3, [.ref hh, .int sz])), (hh, .inl (cI, 600, .inl f))]) hP hD [12, 13, 14] [0, 1, 2, 3, 4, 5, 6, 7, 8, 9, 10, 11] rfl rfl (by decide) (by decide) hk9 hFc hP1 hD1
  have hP := hP.sub (ws' := [(hk, .inr (7, [.ref ho, .ref hwr, .ref hrd, .ref hp, .int bg])), (hp, .inr (4, [.ref ht, .ref htr, .ref hpl, .ref hw, .ref hcr, .ref hco, .ref hhs, .int cols, .int rows, .int q, .int lev, .int ta, .int ob, .int fch])), (ht, .inr (2, [.ref hpr])), (hpr, .inl (cI, 264, .inl pr)), (htr, .inr (6, [.ref hg])), (hg, .inl (cJ, 16, .inr (.inl g))), (hpl, .inr (5, [.ref hs])), (hs, .inl (cI, 256, .inl sm)), (hw, .inl (cI, 16, .inl wy)), (hcr, .inl (cI, 16, .inl cr)), (hco, .inl (cI, 256, .inl co)), (hhs, .inl (cZ, 16, .inl hb_)), (hrd, .inr (0, [.ref ho, .int va2_4, .int 255, .int 0, .int 2])), (ho, .inr (3, [.ref hh, .int sz])), (hh, .inl (cI, 600, .inl f))]) [0, 1, 2, 3, 4, 5, 6, 7, 8, 9, 10, 11, 12, 13, 14] rfl
  have hD := hD.sub (ws' := [(hk, .inr (7, [.ref ho, .ref hwr, .ref hrd, .ref hp, .int bg])), (hp, .inr (4, [.ref ht, .ref htr, .ref hpl, .ref hw, .ref hcr, .ref hco, .ref hhs, .int cols, .int rows, .int q, .int lev, .int ta, .int ob, .int fch])), (ht, .inr (2, [.ref hpr])), (hpr, .inl (cI, 264, .inl pr)), (htr, .inr (6, [.ref hg])), (hg, .inl (cJ, 16, .inr (.inl g))), (hpl, .inr (5, [.ref hs])), (hs, .inl (cI, 256, .inl sm)), (hw, .inl (cI, 16, .inl wy)), (hcr, .inl (cI, 16, .inl cr)), (hco, .inl (cI, 256, .inl co)), (hhs, .inl (cZ, 16, .inl hb_)), (hrd, .inr (0, [.ref ho, .int va2_4, .int 255, .int 0, .int 2])), (ho, .inr (3, [.ref hh, .int sz])), (hh, .inl (cI, 600, .inl f))]) [0, 1, 2, 3, 4, 5, 6, 7, 8, 9, 10, 11, 12, 13, 14] (by decide) rfl
  generalize H1 = H at hP hS ⊢
  have q4_0 : va2_4 = ((if 0 ≤ (0 : Int32).toInt ∧ (0 : Int32).toInt < sz.toInt then f (0 : Int32).toNatClampNeg else 0) <<< ((8 : Int32) &&& 31)) + (if 0 ≤ (1 : Int32).toInt ∧ (1 : Int32).toInt < sz.toInt then f (1 : Int32).toNatClampNeg else 0) := hw9
  refine lv_aload_n hx hb dX7_decode_7 rfl (lv_at hl 0 rfl) ?_
  refine va_get (D := D) (ci := 7) (v := .ref hp) (C := RX7) (T := TX7) (N := 5) hx hb hts in_X7 hown hK.1 hP 0 rfl rfl 3 (by decide) (hts _ mk_346) (fun _ h9 => h9) rfl dX7_decode_8 ?_
  refine lv_aload_n hx hb dX7_decode_11 rfl (lv_at hl 0 rfl) ?_
  refine va_get (D := D) (ci := 7) (v := .ref hrd) (C := RX7) (T := TX7) (N := 5) hx hb hts in_X7 hown hK.1 hP 0 rfl rfl 2 (by decide) (hts _ mk_340) (fun _ h9 => h9) rfl dX7_decode_12 ?_
  have HV : va2_4.toInt = rV0 sz f := rV0_C af q4_0
  have HV2 := rV0_in (sz := sz) af
  have hPc := hP.sub (ws' := [(hp, .inr (4, [.ref ht, .ref htr, .ref hpl, .ref hw, .ref hcr, .ref hco, .ref hhs, .int cols, .int rows, .int q, .int lev, .int ta, .int ob, .int fch])), (ht, .inr (2, [.ref hpr])), (hpr, .inl (cI, 264, .inl pr)), (htr, .inr (6, [.ref hg])), (hg, .inl (cJ, 16, .inr (.inl g))), (hpl, .inr (5, [.ref hs])), (hs, .inl (cI, 256, .inl sm)), (hw, .inl (cI, 16, .inl wy)), (hcr, .inl (cI, 16, .inl cr)), (hco, .inl (cI, 256, .inl co)), (hhs, .inl (cZ, 16, .inl hb_)), (hrd, .inr (0, [.ref ho, .int va2_4, .int 255, .int 0, .int 2])), (ho, .inr (3, [.ref hh, .int sz])), (hh, .inl (cI, 600, .inl f))]) [1, 2, 3, 4, 5, 6, 7, 8, 9, 10, 11, 12, 13, 14] rfl
  have hDc := hD.sub (ws' := [(hp, .inr (4, [.ref ht, .ref htr, .ref hpl, .ref hw, .ref hcr, .ref hco, .ref hhs, .int cols, .int rows, .int q, .int lev, .int ta, .int ob, .int fch])), (ht, .inr (2, [.ref hpr])), (hpr, .inl (cI, 264, .inl pr)), (htr, .inr (6, [.ref hg])), (hg, .inl (cJ, 16, .inr (.inl g))), (hpl, .inr (5, [.ref hs])), (hs, .inl (cI, 256, .inl sm)), (hw, .inl (cI, 16, .inl wy)), (hcr, .inl (cI, 16, .inl cr)), (hco, .inl (cI, 256, .inl co)), (hhs, .inl (cZ, 16, .inl hb_)), (hrd, .inr (0, [.ref ho, .int va2_4, .int 255, .int 0, .int 2])), (ho, .inr (3, [.ref hh, .int sz])), (hh, .inl (cI, 600, .inl f))]) [1, 2, 3, 4, 5, 6, 7, 8, 9, 10, 11, 12, 13, 14] (by decide) rfl
  have hFc := va_free (wc := [(hp, .inr (4, [.ref ht, .ref htr, .ref hpl, .ref hw, .ref hcr, .ref hco, .ref hhs, .int cols, .int rows, .int q, .int lev, .int ta, .int ob, .int fch])), (ht, .inr (2, [.ref hpr])), (hpr, .inl (cI, 264, .inl pr)), (htr, .inr (6, [.ref hg])), (hg, .inl (cJ, 16, .inr (.inl g))), (hpl, .inr (5, [.ref hs])), (hs, .inl (cI, 256, .inl sm)), (hw, .inl (cI, 16, .inl wy)), (hcr, .inl (cI, 16, .inl cr)), (hco, .inl (cI, 256, .inl co)), (hhs, .inl (cZ, 16, .inl hb_)), (hrd, .inr (0, [.ref ho, .int va2_4, .int 255, .int 0, .int 2])), (ho, .inr (3, [.ref hh, .int sz])), (hh, .inl (cI, 600, .inl f))]) hD hS hA [1, 2, 3, 4, 5, 6, 7, 8, 9, 10, 11, 12, 13, 14] rfl
  refine va_callv (va_runV (As := [.ref hrd]) (rest := []) ⟨hx, hb, hml, hown, hts⟩ (c_X4_readFrom l D cI cJ cZ hp ht hpr htr hg hpl hs hw hcr hco hhs hrd ho hh va2_4 255 0 2 sz f cols rows q lev ta ob fch pr g sm wy cr co hb_ (kB_w kc_255 (by decide) (by decide)) (kB_w kc_0 (by decide) (by decide)) bsz apr (H).size) (cwV 1 hts (kg_V mk_351 mk_352 mk_353 mk_119 mk_354) rfl rfl rfl (by decide +kernel) ⟨Nat.le_of_ble_eq_true rfl, Nat.le_of_ble_eq_true rfl⟩) ⟨fun a U g mk q => by obtain ⟨q0, q1, qP, qK, qD, qT⟩ := q; exact ⟨q0, q1, qP, kK.call qK, qD, kT.call qT⟩, va_recv hK.1 hPc (ci := 4) (q0 := 0) rfl rfl, fun U hU hW => ⟨rfl, by rw [hU], by rw [hU]; exact hPc, kK.warm hW hK, hDc.weaken (fun _ _ _ _ => trivial), by rw [hU]; exact kT.at hT hS hFc hW⟩⟩ rfl rfl hl.1 rfl (lv_room (Nat.le_of_ble_eq_true rfl)) dX7_decode_15 ⟨Nat.zero_le _, Nat.zero_le _⟩) hS (fun q _ h => hFc q h) hFc (fun u t9 H1 locs ht9 hvm9 hw9 hB9 hz9 hk9 hS => ?_)
  obtain ⟨va2_15, rg2_15, sh2_15, nx2_15, cols2_15, rows2_15, q2_15, lev2_15, ta2_15, ob2_15, fch2_15, pr2_15, g2_15, sm2_15, wy2_15, cr2_15, co2_15, hb2__15⟩ := u
  obtain ⟨hP1, hD1⟩ := hB9
  rw [ht9] at hP1
  have hP1 : va_P D vwCl [(hp, .inr (4, [.ref ht, .ref htr, .ref hpl, .ref hw, .ref hcr, .ref hco, .ref hhs, .int cols2_15, .int rows2_15, .int q2_15, .int lev2_15, .int ta2_15, .int ob2_15, .int fch2_15])), (ht, .inr (2, [.ref hpr])), (hpr, .inl (cI, 264, .inl pr2_15)), (htr, .inr (6, [.ref hg])), (hg, .inl (cJ, 16, .inr (.inl g2_15))), (hpl, .inr (5, [.ref hs])), (hs, .inl (cI, 256, .inl sm2_15)), (hw, .inl (cI, 16, .inl wy2_15)), (hcr, .inl (cI, 16, .inl cr2_15)), (hco, .inl (cI, 256, .inl co2_15)), (hhs, .inl (cZ, 16, .inl hb2__15)), (hrd, .inr (0, [.ref ho, .int va2_15, .int rg2_15, .int sh2_15, .int nx2_15])), (ho, .inr (3, [.ref hh, .int sz])), (hh, .inl (cI, 600, .inl f))] H1 := hP1
  obtain ⟨hP, hD⟩ := va_join (wr := [(hk, .inr (7, [.ref ho, .ref hwr, .ref hrd, .ref hp, .int bg]))]) (w1 := [(hp, .inr (4, [.ref ht, .ref htr, .ref hpl, .ref hw, .ref hcr, .ref hco, .ref hhs, .int cols2_15, .int rows2_15, .int q2_15, .int lev2_15, .int ta2_15, .int ob2_15, .int fch2_15])), (ht, .inr (2, [.ref hpr])), (hpr, .inl (cI, 264, .inl pr2_15)), (htr, .inr (6, [.ref hg])), (hg, .inl (cJ, 16, .inr (.inl g2_15))), (hpl, .inr (5, [.ref hs])), (hs, .inl (cI, 256, .inl sm2_15)), (hw, .inl (cI, 16, .inl wy2_15)), (hcr, .inl (cI, 16, .inl cr2_15)), (hco, .inl (cI, 256, .inl co2_15)), (hhs, .inl (cZ, 16, .inl hb2__15)), (hrd, .inr (0, [.ref ho, .int va2_15, .int rg2_15, .int sh2_15, .int nx2_15])), (ho, .inr (3, [.ref hh, .int sz])), (hh, .inl (cI, 600, .inl f))]) hP hD [1, 2, 3, 4, 5, 6, 7, 8, 9, 10, 11, 12, 13, 14] [0] rfl rfl (by decide) (by decide) hk9 hFc hP1 hD1
  have hP := hP.sub (ws' := [(hk, .inr (7, [.ref ho, .ref hwr, .ref hrd, .ref hp, .int bg])), (hp, .inr (4, [.ref ht, .ref htr, .ref hpl, .ref hw, .ref hcr, .ref hco, .ref hhs, .int cols2_15, .int rows2_15, .int q2_15, .int lev2_15, .int ta2_15, .int ob2_15, .int fch2_15])), (ht, .inr (2, [.ref hpr])), (hpr, .inl (cI, 264, .inl pr2_15)), (htr, .inr (6, [.ref hg])), (hg, .inl (cJ, 16, .inr (.inl g2_15))), (hpl, .inr (5, [.ref hs])), (hs, .inl (cI, 256, .inl sm2_15)), (hw, .inl (cI, 16, .inl wy2_15)), (hcr, .inl (cI, 16, .inl cr2_15)), (hco, .inl (cI, 256, .inl co2_15)), (hhs, .inl (cZ, 16, .inl hb2__15)), (hrd, .inr (0, [.ref ho, .int va2_15, .int rg2_15, .int sh2_15, .int nx2_15])), (ho, .inr (3, [.ref hh, .int sz])), (hh, .inl (cI, 600, .inl f))]) [0, 1, 2, 3, 4, 5, 6, 7, 8, 9, 10, 11, 12, 13, 14] rfl
  have hD := hD.sub (ws' := [(hk, .inr (7, [.ref ho, .ref hwr, .ref hrd, .ref hp, .int bg])), (hp, .inr (4, [.ref ht, .ref htr, .ref hpl, .ref hw, .ref hcr, .ref hco, .ref hhs, .int cols2_15, .int rows2_15, .int q2_15, .int lev2_15, .int ta2_15, .int ob2_15, .int fch2_15])), (ht, .inr (2, [.ref hpr])), (hpr, .inl (cI, 264, .inl pr2_15)), (htr, .inr (6, [.ref hg])), (hg, .inl (cJ, 16, .inr (.inl g2_15))), (hpl, .inr (5, [.ref hs])), (hs, .inl (cI, 256, .inl sm2_15)), (hw, .inl (cI, 16, .inl wy2_15)), (hcr, .inl (cI, 16, .inl cr2_15)), (hco, .inl (cI, 256, .inl co2_15)), (hhs, .inl (cZ, 16, .inl hb2__15)), (hrd, .inr (0, [.ref ho, .int va2_15, .int rg2_15, .int sh2_15, .int nx2_15])), (ho, .inr (3, [.ref hh, .int sz])), (hh, .inl (cI, 600, .inl f))]) [0, 1, 2, 3, 4, 5, 6, 7, 8, 9, 10, 11, 12, 13, 14] (by decide) rfl
  generalize H1 = H at hP hS ⊢
  obtain ⟨q15_0, q15_1, q15_2, q15_3, q15_4, q15_5⟩ := hw9
  have q15_0 : kB rg2_15 128 255 := q15_0
  have q15_1 : kB sh2_15 0 7 := q15_1
  have q15_2 : kB cols2_15 1 4 := q15_2
  have q15_3 : kB rows2_15 1 4 := q15_3
  have q15_4 : kA pr2_15 0 255 := q15_4
  have q15_5 : kIf (0 ≤ va2_4.toInt ∧ va2_4.toInt ≤ 65535 ∧ (255 : Int32).toInt = 255 ∧ (0 : Int32).toInt = 0) (cols2_15.toInt = rCol va2_4.toInt ∧ rows2_15.toInt = rRow va2_4.toInt) := q15_5
  have HD := q15_5 ⟨by rw [HV]; exact HV2.1, by rw [HV]; exact HV2.2, by decide, by decide⟩
  refine lv_aload_n hx hb dX7_decode_18 rfl (lv_at hl 0 rfl) ?_
  refine lv_iconst (v := 0) hx hb dX7_decode_19 (by decide) ?_
  refine va_put (D := D) (ci := 7) (v := .int 0) (ty := .int) (C := RX7) (T := TX7) (N := 5) hx hb hts in_X7 tyX7 tyX7_ok nmX7 hown hK.1 hP hD hS 0 rfl rfl 4 (by decide) (hts _ mk_334) (fun _ h9 => h9) rfl (by decide +kernel) rfl rfl (Nat.le_of_ble_eq_true rfl) dX7_decode_20 (fun H locs hP hD hS => ?_)
  have hP : va_P D vwCl [(hk, .inr (7, [.ref ho, .ref hwr, .ref hrd, .ref hp, .int 0])), (hp, .inr (4, [.ref ht, .ref htr, .ref hpl, .ref hw, .ref hcr, .ref hco, .ref hhs, .int cols2_15, .int rows2_15, .int q2_15, .int lev2_15, .int ta2_15, .int ob2_15, .int fch2_15])), (ht, .inr (2, [.ref hpr])), (hpr, .inl (cI, 264, .inl pr2_15)), (htr, .inr (6, [.ref hg])), (hg, .inl (cJ, 16, .inr (.inl g2_15))), (hpl, .inr (5, [.ref hs])), (hs, .inl (cI, 256, .inl sm2_15)), (hw, .inl (cI, 16, .inl wy2_15)), (hcr, .inl (cI, 16, .inl cr2_15)), (hco, .inl (cI, 256, .inl co2_15)), (hhs, .inl (cZ, 16, .inl hb2__15)), (hrd, .inr (0, [.ref ho, .int va2_15, .int rg2_15, .int sh2_15, .int nx2_15])), (ho, .inr (3, [.ref hh, .int sz])), (hh, .inl (cI, 600, .inl f))] H := hP
  have hD : va_D A [(hk, .inr (7, [.ref ho, .ref hwr, .ref hrd, .ref hp, .int 0])), (hp, .inr (4, [.ref ht, .ref htr, .ref hpl, .ref hw, .ref hcr, .ref hco, .ref hhs, .int cols2_15, .int rows2_15, .int q2_15, .int lev2_15, .int ta2_15, .int ob2_15, .int fch2_15])), (ht, .inr (2, [.ref hpr])), (hpr, .inl (cI, 264, .inl pr2_15)), (htr, .inr (6, [.ref hg])), (hg, .inl (cJ, 16, .inr (.inl g2_15))), (hpl, .inr (5, [.ref hs])), (hs, .inl (cI, 256, .inl sm2_15)), (hw, .inl (cI, 16, .inl wy2_15)), (hcr, .inl (cI, 16, .inl cr2_15)), (hco, .inl (cI, 256, .inl co2_15)), (hhs, .inl (cZ, 16, .inl hb2__15)), (hrd, .inr (0, [.ref ho, .int va2_15, .int rg2_15, .int sh2_15, .int nx2_15])), (ho, .inr (3, [.ref hh, .int sz])), (hh, .inl (cI, 600, .inl f))] := hD
  refine lv_aload_n hx hb dX7_decode_23 rfl (lv_at hl 0 rfl) ?_
  refine va_get (D := D) (ci := 7) (v := .ref hp) (C := RX7) (T := TX7) (N := 5) hx hb hts in_X7 hown hK.1 hP 0 rfl rfl 3 (by decide) (hts _ mk_346) (fun _ h9 => h9) rfl dX7_decode_24 ?_
  have hPc := hP.sub (ws' := [(hp, .inr (4, [.ref ht, .ref htr, .ref hpl, .ref hw, .ref hcr, .ref hco, .ref hhs, .int cols2_15, .int rows2_15, .int q2_15, .int lev2_15, .int ta2_15, .int ob2_15, .int fch2_15]))]) [1] rfl
  have hDc := hD.sub (ws' := [(hp, .inr (4, [.ref ht, .ref htr, .ref hpl, .ref hw, .ref hcr, .ref hco, .ref hhs, .int cols2_15, .int rows2_15, .int q2_15, .int lev2_15, .int ta2_15, .int ob2_15, .int fch2_15]))]) [1] (by decide) rfl
  have hFc := va_free (wc := [(hp, .inr (4, [.ref ht, .ref htr, .ref hpl, .ref hw, .ref hcr, .ref hco, .ref hhs, .int cols2_15, .int rows2_15, .int q2_15, .int lev2_15, .int ta2_15, .int ob2_15, .int fch2_15]))]) hD hS hA [1] rfl
  refine va_calli (va_runV (As := []) (rest := []) ⟨hx, hb, hml, hown, hts⟩ (c_X4_blocks l D cI cJ cZ hp ht htr hpl hw hcr hco hhs cols2_15 rows2_15 q2_15 lev2_15 ta2_15 ob2_15 fch2_15 (kB_w q15_2 (by decide) (by decide)) (kB_w q15_3 (by decide) (by decide)) (H).size) (cwV 0 hts (kg_V mk_355 mk_117 mk_118 mk_119 mk_120) rfl rfl rfl (by decide +kernel) ⟨Nat.le_of_ble_eq_true rfl, Nat.le_of_ble_eq_true rfl⟩) ⟨fun a U g mk q => by obtain ⟨q0, q1, qP, qK, qD⟩ := q; exact ⟨q0, q1, qP, kK.call qK, qD⟩, va_recv hK.1 hPc (ci := 4) (q0 := 0) rfl rfl, fun U hU hW => ⟨rfl, by rw [hU], by rw [hU]; exact hPc, kK.warm hW hK, hDc.weaken (fun _ _ _ _ => trivial)⟩⟩ rfl rfl hl.1 rfl (lv_room (Nat.le_of_ble_eq_true rfl)) dX7_decode_27 ⟨Nat.zero_le _, Nat.zero_le _⟩) hS (fun q _ h => hFc q h) hFc (fun r27 u t9 H1 locs ht9 hvm9 hw9 hB9 hz9 hk9 hS => ?_)
  obtain ⟨hP1, hD1⟩ := hB9
  rw [ht9] at hP1
  have hP1 : va_P D vwCl [(hp, .inr (4, [.ref ht, .ref htr, .ref hpl, .ref hw, .ref hcr, .ref hco, .ref hhs, .int cols2_15, .int rows2_15, .int q2_15, .int lev2_15, .int ta2_15, .int ob2_15, .int fch2_15]))] H1 := hP1
  obtain ⟨hP, hD⟩ := va_join (wr := [(hk, .inr (7, [.ref ho, .ref hwr, .ref hrd, .ref hp, .int 0])), (ht, .inr (2, [.ref hpr])), (hpr, .inl (cI, 264, .inl pr2_15)), (htr, .inr (6, [.ref hg])), (hg, .inl (cJ, 16, .inr (.inl g2_15))), (hpl, .inr (5, [.ref hs])), (hs, .inl (cI, 256, .inl sm2_15)), (hw, .inl (cI, 16, .inl wy2_15)), (hcr, .inl (cI, 16, .inl cr2_15)), (hco, .inl (cI, 256, .inl co2_15)), (hhs, .inl (cZ, 16, .inl hb2__15)), (hrd, .inr (0, [.ref ho, .int va2_15, .int rg2_15, .int sh2_15, .int nx2_15])), (ho, .inr (3, [.ref hh, .int sz])), (hh, .inl (cI, 600, .inl f))]) (w1 := [(hp, .inr (4, [.ref ht, .ref htr, .ref hpl, .ref hw, .ref hcr, .ref hco, .ref hhs, .int cols2_15, .int rows2_15, .int q2_15, .int lev2_15, .int ta2_15, .int ob2_15, .int fch2_15]))]) hP hD [1] [0, 2, 3, 4, 5, 6, 7, 8, 9, 10, 11, 12, 13, 14] rfl rfl (by decide) (by decide) hk9 hFc hP1 hD1
  have hP := hP.sub (ws' := [(hk, .inr (7, [.ref ho, .ref hwr, .ref hrd, .ref hp, .int 0])), (hp, .inr (4, [.ref ht, .ref htr, .ref hpl, .ref hw, .ref hcr, .ref hco, .ref hhs, .int cols2_15, .int rows2_15, .int q2_15, .int lev2_15, .int ta2_15, .int ob2_15, .int fch2_15])), (ht, .inr (2, [.ref hpr])), (hpr, .inl (cI, 264, .inl pr2_15)), (htr, .inr (6, [.ref hg])), (hg, .inl (cJ, 16, .inr (.inl g2_15))), (hpl, .inr (5, [.ref hs])), (hs, .inl (cI, 256, .inl sm2_15)), (hw, .inl (cI, 16, .inl wy2_15)), (hcr, .inl (cI, 16, .inl cr2_15)), (hco, .inl (cI, 256, .inl co2_15)), (hhs, .inl (cZ, 16, .inl hb2__15)), (hrd, .inr (0, [.ref ho, .int va2_15, .int rg2_15, .int sh2_15, .int nx2_15])), (ho, .inr (3, [.ref hh, .int sz])), (hh, .inl (cI, 600, .inl f))]) [0, 14, 1, 2, 3, 4, 5, 6, 7, 8, 9, 10, 11, 12, 13] rfl
  have hD := hD.sub (ws' := [(hk, .inr (7, [.ref ho, .ref hwr, .ref hrd, .ref hp, .int 0])), (hp, .inr (4, [.ref ht, .ref htr, .ref hpl, .ref hw, .ref hcr, .ref hco, .ref hhs, .int cols2_15, .int rows2_15, .int q2_15, .int lev2_15, .int ta2_15, .int ob2_15, .int fch2_15])), (ht, .inr (2, [.ref hpr])), (hpr, .inl (cI, 264, .inl pr2_15)), (htr, .inr (6, [.ref hg])), (hg, .inl (cJ, 16, .inr (.inl g2_15))), (hpl, .inr (5, [.ref hs])), (hs, .inl (cI, 256, .inl sm2_15)), (hw, .inl (cI, 16, .inl wy2_15)), (hcr, .inl (cI, 16, .inl cr2_15)), (hco, .inl (cI, 256, .inl co2_15)), (hhs, .inl (cZ, 16, .inl hb2__15)), (hrd, .inr (0, [.ref ho, .int va2_15, .int rg2_15, .int sh2_15, .int nx2_15])), (ho, .inr (3, [.ref hh, .int sz])), (hh, .inl (cI, 600, .inl f))]) [0, 14, 1, 2, 3, 4, 5, 6, 7, 8, 9, 10, 11, 12, 13] (by decide) rfl
  generalize H1 = H at hP hS ⊢
  obtain ⟨q27_0, q27_1⟩ := hw9
  have q27_0 : kB r27 0 16 := q27_0
  have q27_1 : r27 = cols2_15 * rows2_15 := q27_1
  have pf_dx : r27.toInt = rCol (rV0 sz f) * rRow (rV0 sz f) := (by rw [q27_1, kmulI (kB_w q15_2 (by decide) (by decide)) (kB_w q15_3 (by decide) (by decide)), HD.1, HD.2, HV])
  exact W.iret (v := r27) hx hb hr (fun t9 ht9 hW9 => ⟨⟨r27, (va2_15, rg2_15, sh2_15, nx2_15, cols2_15, rows2_15, q2_15, lev2_15, ta2_15, ob2_15, fch2_15, pr2_15, g2_15, sm2_15, wy2_15, cr2_15, co2_15, hb2__15), rfl, ⟨q15_0, q15_1, q15_2, q15_3, q15_4, q27_1, pf_dx⟩, by rw [ht9]; exact hP, hD⟩, hS.F ht9⟩) hS.2.2 dX7_decode_30
