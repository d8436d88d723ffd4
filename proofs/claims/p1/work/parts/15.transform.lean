abbrev kw_X6_timesM : List Cond := Cond.code yX6_timesM cX6_timesM 2 (some .long) :: kW
set_option maxHeartbeats 4000000 in
set_option maxRecDepth 100000 in
theorem c_X6_timesM (l : Launch) (D : va_G) (cI cJ cZ : ClassId) (n : Int64) (hpz : Nat) : Met l yX6_timesM kw_X6_timesM ({ frames := 0, cells := 0, slots := 0, locals := 0 }) (va_Pc [.long n] (fun U => U.heap.size = hpz ∧ va_P D vwCl [] U.heap ∧ kK D cI cJ cZ U ∧ va_D (fun _ => True) [])) (va_Ql (fun (r : Int64) (u : Unit) => True) (fun (u : Unit) (t : State) => va_P D vwCl [] t.heap ∧ va_D (va_A [] hpz) []) (va_A [] hpz)) 0 0 (va_A [] hpz) := by
  refine Met.ofW (cc := cX6_timesM) (maxL := 2) (ret := (some .long)) (by decide) rfl ?_
  intro p e s m args below meth c s₁ B hml hv
  obtain ⟨rfl, hsz, hP, hK, hD0⟩ := hv
  have hx := B.exec
  have hb := B.bytes
  have hr := B.returns
  have hts := fun (w : Cond) (h : w ∈ kW) => atoms_spec (ws := kw_X6_timesM) B.pre w (List.mem_cons_of_mem _ h)
  have hown : s.vm.findClass RX6 = some m.cls := findClass_of_methodNamed B.named
  have hlocks := B.notSynchronized
  subst hsz
  have hD := hD0.self (sz := s.heap.size)
  generalize hAe : va_A [] s.heap.size = A at hD ⊢
  have hA : ∀ q : Nat, s.heap.size ≤ q → A q := fun q h => by rw [← hAe]; exact Or.inr h
  have hS : va_S A s.heap s.heap [] := va_S.rf
  have hP : va_P D vwCl [] s.heap := hP
  have hl := lv_entry ([.long n]) (n := 2) (Nat.le_of_ble_eq_true rfl)
  rw [lg_entry_eq]
  generalize (lg_sl ([.long n]) ++ List.replicate (2 - (lg_sl ([.long n])).length) Slot.unset).toArray = ls at hl ⊢
  have hl : lv_has ls 2 [(0, .long n)] := hl
  refine lv_lload_n hx hb dX6_timesM_0 rfl (lv_at hl 0 rfl) ?_
  refine lv_lload_n hx hb dX6_timesM_1 rfl (lv_at hl 0 rfl) ?_
  refine lv_ldc2 (v := 20091) hx hb hown (hts _ mk_60) dX6_timesM_2 ?_
  refine lv_lmul hx hb dX6_timesM_5 ?_
  refine lv_topl (fun v5 e5 => ?_)
  refine lv_bipush (v := 16) hx hb dX6_timesM_6 (by decide) ?_
  refine lv_lshr hx hb dX6_timesM_8 rfl ?_
  refine lv_topl (fun v8 e8 => ?_)
  refine lv_ladd hx hb dX6_timesM_9 ?_
  refine lv_topl (fun v9 e9 => ?_)
  exact W.lret (v := v9) hx hb hr (fun t9 ht9 hW9 => ⟨⟨v9, (), rfl, trivial, by rw [ht9]; exact hP, hD⟩, hS.F ht9⟩) hS.2.2 dX6_timesM_10
abbrev kw_X6_timesH : List Cond := Cond.code yX6_timesH cX6_timesH 2 (some .long) :: kW
set_option maxHeartbeats 4000000 in
set_option maxRecDepth 100000 in
theorem c_X6_timesH (l : Launch) (D : va_G) (cI cJ cZ : ClassId) (n : Int64) (hpz : Nat) : Met l yX6_timesH kw_X6_timesH ({ frames := 0, cells := 0, slots := 0, locals := 0 }) (va_Pc [.long n] (fun U => U.heap.size = hpz ∧ va_P D vwCl [] U.heap ∧ kK D cI cJ cZ U ∧ va_D (fun _ => True) [])) (va_Ql (fun (r : Int64) (u : Unit) => True) (fun (u : Unit) (t : State) => va_P D vwCl [] t.heap ∧ va_D (va_A [] hpz) []) (va_A [] hpz)) 0 0 (va_A [] hpz) := by
  refine Met.ofW (cc := cX6_timesH) (maxL := 2) (ret := (some .long)) (by decide) rfl ?_
  intro p e s m args below meth c s₁ B hml hv
  obtain ⟨rfl, hsz, hP, hK, hD0⟩ := hv
  have hx := B.exec
  have hb := B.bytes
  have hr := B.returns
  have hts := fun (w : Cond) (h : w ∈ kW) => atoms_spec (ws := kw_X6_timesH) B.pre w (List.mem_cons_of_mem _ h)
  have hown : s.vm.findClass RX6 = some m.cls := findClass_of_methodNamed B.named
  have hlocks := B.notSynchronized
  subst hsz
  have hD := hD0.self (sz := s.heap.size)
  generalize hAe : va_A [] s.heap.size = A at hD ⊢
  have hA : ∀ q : Nat, s.heap.size ≤ q → A q := fun q h => by rw [← hAe]; exact Or.inr h
  have hS : va_S A s.heap s.heap [] := va_S.rf
  have hP : va_P D vwCl [] s.heap := hP
  have hl := lv_entry ([.long n]) (n := 2) (Nat.le_of_ble_eq_true rfl)
  rw [lg_entry_eq]
  generalize (lg_sl ([.long n]) ++ List.replicate (2 - (lg_sl ([.long n])).length) Slot.unset).toArray = ls at hl ⊢
  have hl : lv_has ls 2 [(0, .long n)] := hl
  refine lv_lload_n hx hb dX6_timesH_0 rfl (lv_at hl 0 rfl) ?_
  refine lv_ldc2 (v := 35468) hx hb hown (hts _ mk_61) dX6_timesH_1 ?_
  refine lv_lmul hx hb dX6_timesH_4 ?_
  refine lv_topl (fun v4 e4 => ?_)
  refine lv_bipush (v := 16) hx hb dX6_timesH_5 (by decide) ?_
  refine lv_lshr hx hb dX6_timesH_7 rfl ?_
  refine lv_topl (fun v7 e7 => ?_)
  exact W.lret (v := v7) hx hb hr (fun t9 ht9 hW9 => ⟨⟨v7, (), rfl, trivial, by rw [ht9]; exact hP, hD⟩, hS.F ht9⟩) hS.2.2 dX6_timesH_8
abbrev kw_X6_turnFour : List Cond := Cond.code yX6_turnFour cX6_turnFour 19 none :: kW
set_option maxHeartbeats 4000000 in
set_option maxRecDepth 100000 in
theorem c_X6_turnFour_a (l : Launch) (D : va_G) (cI cJ cZ : ClassId) (htr hg : Nat) (g : Nat → Int64) (fi : Int32) (bfi : kB fi 0 3) (hpz : Nat) : Met l yX6_turnFour kw_X6_turnFour ({ frames := 1, cells := 0, slots := 0, locals := 21 }) (va_Pc [.ref htr, .int fi, .int 4] (fun U => U.heap.size = hpz ∧ va_P D vwCl [(htr, .inr (6, [.ref hg])), (hg, .inl (cJ, 16, .inr (.inl g)))] U.heap ∧ kK D cI cJ cZ U ∧ va_D (fun _ => True) [(htr, .inr (6, [.ref hg])), (hg, .inl (cJ, 16, .inr (.inl g)))])) (va_Qv (fun (u : (Nat → Int64)) => True) (fun (u : (Nat → Int64)) (t : State) => va_P D vwCl [(htr, .inr (6, [.ref hg])), (hg, .inl (cJ, 16, .inr (.inl u)))] t.heap ∧ va_D (va_A [(htr, .inr (6, [.ref hg])), (hg, .inl (cJ, 16, .inr (.inl g)))] hpz) [(htr, .inr (6, [.ref hg])), (hg, .inl (cJ, 16, .inr (.inl u)))]) (va_A [(htr, .inr (6, [.ref hg])), (hg, .inl (cJ, 16, .inr (.inl g)))] hpz)) 0 0 (va_A [(htr, .inr (6, [.ref hg])), (hg, .inl (cJ, 16, .inr (.inl g)))] hpz) := by
  refine Met.ofW (cc := cX6_turnFour) (maxL := 19) (ret := none) (by decide) rfl ?_
  intro p e s m args below meth c s₁ B hml hv
  obtain ⟨rfl, hsz, hP, hK, hD0⟩ := hv
  have hx := B.exec
  have hb := B.bytes
  have hr := B.returns
  have hts := fun (w : Cond) (h : w ∈ kW) => atoms_spec (ws := kw_X6_turnFour) B.pre w (List.mem_cons_of_mem _ h)
  have hown : s.vm.findClass RX6 = some m.cls := findClass_of_methodNamed B.named
  have hlocks := B.notSynchronized
  subst hsz
  have hD := hD0.self (sz := s.heap.size)
  generalize hAe : va_A [(htr, .inr (6, [.ref hg])), (hg, .inl (cJ, 16, .inr (.inl g)))] s.heap.size = A at hD ⊢
  have hA : ∀ q : Nat, s.heap.size ≤ q → A q := fun q h => by rw [← hAe]; exact Or.inr h
  have hS : va_S A s.heap s.heap [] := va_S.rf
  have hP : va_P D vwCl [(htr, .inr (6, [.ref hg])), (hg, .inl (cJ, 16, .inr (.inl g)))] s.heap := hP
  have hl := lv_entry ([.ref htr, .int fi, .int 4]) (n := 19) (Nat.le_of_ble_eq_true rfl)
  rw [lg_entry_eq]
  generalize (lg_sl ([.ref htr, .int fi, .int 4]) ++ List.replicate (19 - (lg_sl ([.ref htr, .int fi, .int 4])).length) Slot.unset).toArray = ls at hl ⊢
  have hl : lv_has ls 19 [(0, .ref htr), (1, .int fi), (2, .int 4)] := hl
  refine lv_aload_n hx hb dX6_turnFour_0 rfl (lv_at hl 0 rfl) ?_
  refine va_get (D := D) (ci := 6) (v := .ref hg) (C := RX6) (T := TX6) (N := 1) hx hb hts in_X6 hown hK.1 hP 0 rfl rfl 0 (by decide) (hts _ mk_62) (fun _ h9 => h9) rfl dX6_turnFour_1 ?_
  refine lv_iload_n hx hb dX6_turnFour_4 rfl (lv_at hl 1 rfl) ?_
  refine va_lald hx hb hK.1 hP 1 1 rfl rfl (kB_in bfi (by decide)) dX6_turnFour_5 ?_
  refine lv_topl (fun v5 e5 => ?_)
  refine lv_lstore_n (lv' := [(3, .long v5), (0, .ref htr), (1, .int fi), (2, .int 4)]) hx hb dX6_turnFour_6 rfl hl (by decide) rfl (fun ls hl => ?_)
  refine lv_aload_n hx hb dX6_turnFour_7 rfl (lv_at hl 1 rfl) ?_
  refine va_get (D := D) (ci := 6) (v := .ref hg) (C := RX6) (T := TX6) (N := 1) hx hb hts in_X6 hown hK.1 hP 0 rfl rfl 0 (by decide) (hts _ mk_62) (fun _ h9 => h9) rfl dX6_turnFour_8 ?_
  refine lv_iload_n hx hb dX6_turnFour_11 rfl (lv_at hl 2 rfl) ?_
  refine lv_iload_n hx hb dX6_turnFour_12 rfl (lv_at hl 3 rfl) ?_
  refine lv_iadd hx hb dX6_turnFour_13 ?_
  refine lv_topi (fun v13 e13 => ?_)
  have b13 : kB v13 4 7 := kB_eq e13 (kB_add bfi kc_4 (by decide))
  refine va_lald hx hb hK.1 hP 1 1 rfl rfl (kB_in b13 (by decide)) dX6_turnFour_14 ?_
  refine lv_topl (fun v14 e14 => ?_)
  refine lv_lstore (lv' := [(5, .long v14), (3, .long v5), (0, .ref htr), (1, .int fi), (2, .int 4)]) hx hb dX6_turnFour_15 hl (by decide) rfl (fun ls hl => ?_)
  refine lv_aload_n hx hb dX6_turnFour_17 rfl (lv_at hl 2 rfl) ?_
  refine va_get (D := D) (ci := 6) (v := .ref hg) (C := RX6) (T := TX6) (N := 1) hx hb hts in_X6 hown hK.1 hP 0 rfl rfl 0 (by decide) (hts _ mk_62) (fun _ h9 => h9) rfl dX6_turnFour_18 ?_
  refine lv_iload_n hx hb dX6_turnFour_21 rfl (lv_at hl 3 rfl) ?_
  refine lv_iconst (v := 2) hx hb dX6_turnFour_22 (by decide) ?_
  refine lv_iload_n hx hb dX6_turnFour_23 rfl (lv_at hl 4 rfl) ?_
  refine lv_imul hx hb dX6_turnFour_24 ?_
  refine lv_topi (fun v24 e24 => ?_)
  have b24 : kB v24 8 8 := kB_eq e24 (kB_mulc kc_2 kc_4 (by decide))
  refine lv_iadd hx hb dX6_turnFour_25 ?_
  refine lv_topi (fun v25 e25 => ?_)
  have b25 : kB v25 8 11 := kB_eq e25 (kB_add bfi b24 (by decide))
  refine va_lald hx hb hK.1 hP 1 1 rfl rfl (kB_in b25 (by decide)) dX6_turnFour_26 ?_
  refine lv_topl (fun v26 e26 => ?_)
  refine lv_lstore (lv' := [(7, .long v26), (5, .long v14), (3, .long v5), (0, .ref htr), (1, .int fi), (2, .int 4)]) hx hb dX6_turnFour_27 hl (by decide) rfl (fun ls hl => ?_)
  refine lv_aload_n hx hb dX6_turnFour_29 rfl (lv_at hl 3 rfl) ?_
  refine va_get (D := D) (ci := 6) (v := .ref hg) (C := RX6) (T := TX6) (N := 1) hx hb hts in_X6 hown hK.1 hP 0 rfl rfl 0 (by decide) (hts _ mk_62) (fun _ h9 => h9) rfl dX6_turnFour_30 ?_
  refine lv_iload_n hx hb dX6_turnFour_33 rfl (lv_at hl 4 rfl) ?_
  refine lv_iconst (v := 3) hx hb dX6_turnFour_34 (by decide) ?_
  refine lv_iload_n hx hb dX6_turnFour_35 rfl (lv_at hl 5 rfl) ?_
  refine lv_imul hx hb dX6_turnFour_36 ?_
  refine lv_topi (fun v36 e36 => ?_)
  have b36 : kB v36 12 12 := kB_eq e36 (kB_mulc kc_3 kc_4 (by decide))
  refine lv_iadd hx hb dX6_turnFour_37 ?_
  refine lv_topi (fun v37 e37 => ?_)
  have b37 : kB v37 12 15 := kB_eq e37 (kB_add bfi b36 (by decide))
  refine va_lald hx hb hK.1 hP 1 1 rfl rfl (kB_in b37 (by decide)) dX6_turnFour_38 ?_
  refine lv_topl (fun v38 e38 => ?_)
  refine lv_lstore (lv' := [(9, .long v38), (7, .long v26), (5, .long v14), (3, .long v5), (0, .ref htr), (1, .int fi), (2, .int 4)]) hx hb dX6_turnFour_39 hl (by decide) rfl (fun ls hl => ?_)
  refine lv_lload_n hx hb dX6_turnFour_41 rfl (lv_at hl 3 rfl) ?_
  refine lv_lload hx hb dX6_turnFour_42 (lv_at hl 1 rfl) ?_
  refine lv_ladd hx hb dX6_turnFour_44 ?_
  refine lv_topl (fun v44 e44 => ?_)
  refine lv_lstore (lv' := [(11, .long v44), (9, .long v38), (7, .long v26), (5, .long v14), (3, .long v5), (0, .ref htr), (1, .int fi), (2, .int 4)]) hx hb dX6_turnFour_45 hl (by decide) rfl (fun ls hl => ?_)
  refine lv_lload_n hx hb dX6_turnFour_47 rfl (lv_at hl 4 rfl) ?_
  refine lv_lload hx hb dX6_turnFour_48 (lv_at hl 2 rfl) ?_
  refine lv_lsub hx hb dX6_turnFour_50 ?_
  refine lv_topl (fun v50 e50 => ?_)
  refine lv_lstore (lv' := [(13, .long v50), (11, .long v44), (9, .long v38), (7, .long v26), (5, .long v14), (3, .long v5), (0, .ref htr), (1, .int fi), (2, .int 4)]) hx hb dX6_turnFour_51 hl (by decide) rfl (fun ls hl => ?_)
  refine lv_lload hx hb dX6_turnFour_53 (lv_at hl 4 rfl) ?_
  have hPc := hP.sub (ws' := []) [] rfl
  have hDc := hD.sub (ws' := []) [] (by decide) rfl
  have hFc := va_free (wc := []) hD hS hA [] rfl
  refine va_calll (va_runS (As := [.long v14]) (rest := []) ⟨hx, hb, hml, hown, hts⟩ (c_X6_timesH l D cI cJ cZ v14 (s.heap).size) (cwS 1 hts (kg_S mk_63 mk_64 mk_65 mk_66) rfl rfl rfl (by decide +kernel) ⟨Nat.le_of_ble_eq_true rfl, Nat.le_of_ble_eq_true rfl⟩) ⟨fun a U g mk q => by obtain ⟨q0, q1, qP, qK, qD⟩ := q; exact ⟨q0, q1, qP, kK.call qK, qD⟩, fun U hU hW => ⟨rfl, by rw [hU], by rw [hU]; exact hPc, kK.warm hW hK, hDc.weaken (fun _ _ _ _ => trivial)⟩⟩ rfl rfl hl.1 rfl (lv_room (Nat.le_of_ble_eq_true rfl)) dX6_turnFour_55 ⟨Nat.zero_le _, Nat.zero_le _⟩) hS (fun q _ h => hFc q h) hFc (fun r55 u t9 H1 locs ht9 hvm9 hw9 hB9 hz9 hk9 hS => ?_)
  obtain ⟨hP1, hD1⟩ := hB9
  rw [ht9] at hP1
  have hP1 : va_P D vwCl [] H1 := hP1
  obtain ⟨hP, hD⟩ := va_join (wr := [(htr, .inr (6, [.ref hg])), (hg, .inl (cJ, 16, .inr (.inl g)))]) (w1 := []) hP hD [] [0, 1] rfl rfl (by decide) (by decide) hk9 hFc hP1 hD1
  have hP := hP.sub (ws' := [(htr, .inr (6, [.ref hg])), (hg, .inl (cJ, 16, .inr (.inl g)))]) [0, 1] rfl
  have hD := hD.sub (ws' := [(htr, .inr (6, [.ref hg])), (hg, .inl (cJ, 16, .inr (.inl g)))]) [0, 1] (by decide) rfl
  generalize H1 = H at hP hS ⊢
  refine lv_lload hx hb dX6_turnFour_58 (lv_at hl 2 rfl) ?_
  have hPc := hP.sub (ws' := []) [] rfl
  have hDc := hD.sub (ws' := []) [] (by decide) rfl
  have hFc := va_free (wc := []) hD hS hA [] rfl
  refine va_calll (va_runS (As := [.long v38]) (rest := [.long r55]) ⟨hx, hb, hml, hown, hts⟩ (c_X6_timesM l D cI cJ cZ v38 (H).size) (cwS 1 hts (kg_S mk_67 mk_68 mk_65 mk_69) rfl rfl rfl (by decide +kernel) ⟨Nat.le_of_ble_eq_true rfl, Nat.le_of_ble_eq_true rfl⟩) ⟨fun a U g mk q => by obtain ⟨q0, q1, qP, qK, qD⟩ := q; exact ⟨q0, q1, qP, kK.call qK, qD⟩, fun U hU hW => ⟨rfl, by rw [hU], by rw [hU]; exact hPc, kK.warm hW hK, hDc.weaken (fun _ _ _ _ => trivial)⟩⟩ rfl rfl hl.1 rfl (lv_room (Nat.le_of_ble_eq_true rfl)) dX6_turnFour_60 ⟨Nat.zero_le _, Nat.zero_le _⟩) hS (fun q _ h => hFc q h) hFc (fun r60 u t9 H1 locs ht9 hvm9 hw9 hB9 hz9 hk9 hS => ?_)
  obtain ⟨hP1, hD1⟩ := hB9
  rw [ht9] at hP1
  have hP1 : va_P D vwCl [] H1 := hP1
  obtain ⟨hP, hD⟩ := va_join (wr := [(htr, .inr (6, [.ref hg])), (hg, .inl (cJ, 16, .inr (.inl g)))]) (w1 := []) hP hD [] [0, 1] rfl rfl (by decide) (by decide) hk9 hFc hP1 hD1
  have hP := hP.sub (ws' := [(htr, .inr (6, [.ref hg])), (hg, .inl (cJ, 16, .inr (.inl g)))]) [0, 1] rfl
  have hD := hD.sub (ws' := [(htr, .inr (6, [.ref hg])), (hg, .inl (cJ, 16, .inr (.inl g)))]) [0, 1] (by decide) rfl
  generalize H1 = H at hP hS ⊢
  refine lv_lsub hx hb dX6_turnFour_63 ?_
  refine lv_topl (fun v63 e63 => ?_)
  refine lv_lstore (lv' := [(15, .long v63), (13, .long v50), (11, .long v44), (9, .long v38), (7, .long v26), (5, .long v14), (3, .long v5), (0, .ref htr), (1, .int fi), (2, .int 4)]) hx hb dX6_turnFour_64 hl (by decide) rfl (fun ls hl => ?_)
  refine lv_lload hx hb dX6_turnFour_66 (lv_at hl 5 rfl) ?_
  have hPc := hP.sub (ws' := []) [] rfl
  have hDc := hD.sub (ws' := []) [] (by decide) rfl
  have hFc := va_free (wc := []) hD hS hA [] rfl
  refine va_calll (va_runS (As := [.long v14]) (rest := []) ⟨hx, hb, hml, hown, hts⟩ (c_X6_timesM l D cI cJ cZ v14 (H).size) (cwS 1 hts (kg_S mk_67 mk_68 mk_65 mk_69) rfl rfl rfl (by decide +kernel) ⟨Nat.le_of_ble_eq_true rfl, Nat.le_of_ble_eq_true rfl⟩) ⟨fun a U g mk q => by obtain ⟨q0, q1, qP, qK, qD⟩ := q; exact ⟨q0, q1, qP, kK.call qK, qD⟩, fun U hU hW => ⟨rfl, by rw [hU], by rw [hU]; exact hPc, kK.warm hW hK, hDc.weaken (fun _ _ _ _ => trivial)⟩⟩ rfl rfl hl.1 rfl (lv_room (Nat.le_of_ble_eq_true rfl)) dX6_turnFour_68 ⟨Nat.zero_le _, Nat.zero_le _⟩) hS (fun q _ h => hFc q h) hFc (fun r68 u t9 H1 locs ht9 hvm9 hw9 hB9 hz9 hk9 hS => ?_)
  obtain ⟨hP1, hD1⟩ := hB9
  rw [ht9] at hP1
  have hP1 : va_P D vwCl [] H1 := hP1
  obtain ⟨hP, hD⟩ := va_join (wr := [(htr, .inr (6, [.ref hg])), (hg, .inl (cJ, 16, .inr (.inl g)))]) (w1 := []) hP hD [] [0, 1] rfl rfl (by decide) (by decide) hk9 hFc hP1 hD1
  have hP := hP.sub (ws' := [(htr, .inr (6, [.ref hg])), (hg, .inl (cJ, 16, .inr (.inl g)))]) [0, 1] rfl
  have hD := hD.sub (ws' := [(htr, .inr (6, [.ref hg])), (hg, .inl (cJ, 16, .inr (.inl g)))]) [0, 1] (by decide) rfl
  generalize H1 = H at hP hS ⊢
  refine lv_lload hx hb dX6_turnFour_71 (lv_at hl 3 rfl) ?_
  have hPc := hP.sub (ws' := []) [] rfl
  have hDc := hD.sub (ws' := []) [] (by decide) rfl
  have hFc := va_free (wc := []) hD hS hA [] rfl
  refine va_calll (va_runS (As := [.long v38]) (rest := [.long r68]) ⟨hx, hb, hml, hown, hts⟩ (c_X6_timesH l D cI cJ cZ v38 (H).size) (cwS 1 hts (kg_S mk_63 mk_64 mk_65 mk_66) rfl rfl rfl (by decide +kernel) ⟨Nat.le_of_ble_eq_true rfl, Nat.le_of_ble_eq_true rfl⟩) ⟨fun a U g mk q => by obtain ⟨q0, q1, qP, qK, qD⟩ := q; exact ⟨q0, q1, qP, kK.call qK, qD⟩, fun U hU hW => ⟨rfl, by rw [hU], by rw [hU]; exact hPc, kK.warm hW hK, hDc.weaken (fun _ _ _ _ => trivial)⟩⟩ rfl rfl hl.1 rfl (lv_room (Nat.le_of_ble_eq_true rfl)) dX6_turnFour_73 ⟨Nat.zero_le _, Nat.zero_le _⟩) hS (fun q _ h => hFc q h) hFc (fun r73 u t9 H1 locs ht9 hvm9 hw9 hB9 hz9 hk9 hS => ?_)
  obtain ⟨hP1, hD1⟩ := hB9
  rw [ht9] at hP1
  have hP1 : va_P D vwCl [] H1 := hP1
  obtain ⟨hP, hD⟩ := va_join (wr := [(htr, .inr (6, [.ref hg])), (hg, .inl (cJ, 16, .inr (.inl g)))]) (w1 := []) hP hD [] [0, 1] rfl rfl (by decide) (by decide) hk9 hFc hP1 hD1
  have hP := hP.sub (ws' := [(htr, .inr (6, [.ref hg])), (hg, .inl (cJ, 16, .inr (.inl g)))]) [0, 1] rfl
  have hD := hD.sub (ws' := [(htr, .inr (6, [.ref hg])), (hg, .inl (cJ, 16, .inr (.inl g)))]) [0, 1] (by decide) rfl
  generalize H1 = H at hP hS ⊢
  refine lv_ladd hx hb dX6_turnFour_76 ?_
  refine lv_topl (fun v76 e76 => ?_)
  refine lv_lstore (lv' := [(17, .long v76), (15, .long v63), (13, .long v50), (11, .long v44), (9, .long v38), (7, .long v26), (5, .long v14), (3, .long v5), (0, .ref htr), (1, .int fi), (2, .int 4)]) hx hb dX6_turnFour_77 hl (by decide) rfl (fun ls hl => ?_)
  refine lv_aload_n hx hb dX6_turnFour_79 rfl (lv_at hl 8 rfl) ?_
  refine va_get (D := D) (ci := 6) (v := .ref hg) (C := RX6) (T := TX6) (N := 1) hx hb hts in_X6 hown hK.1 hP 0 rfl rfl 0 (by decide) (hts _ mk_62) (fun _ h9 => h9) rfl dX6_turnFour_80 ?_
  refine lv_iload_n hx hb dX6_turnFour_83 rfl (lv_at hl 9 rfl) ?_
  refine lv_lload hx hb dX6_turnFour_84 (lv_at hl 3 rfl) ?_
  refine lv_lload hx hb dX6_turnFour_86 (lv_at hl 0 rfl) ?_
  refine lv_ladd hx hb dX6_turnFour_88 ?_
  refine lv_topl (fun v88 e88 => ?_)
  refine va_last hx hb hK.1 hP hD hS 1 1 rfl rfl (kB_in bfi (by decide)) dX6_turnFour_89 (fun H locs hP hD hS => ?_)
  have hP : va_P D vwCl [(htr, .inr (6, [.ref hg])), (hg, .inl (cJ, 16, .inr (.inl (vp_updL g fi.toNatClampNeg v88))))] H := hP
  have hD : va_D A [(htr, .inr (6, [.ref hg])), (hg, .inl (cJ, 16, .inr (.inl (vp_updL g fi.toNatClampNeg v88))))] := hD
  generalize hf89 : vp_updL g fi.toNatClampNeg v88 = f89 at hP hD
  refine lv_aload_n hx hb dX6_turnFour_90 rfl (lv_at hl 8 rfl) ?_
  refine va_get (D := D) (ci := 6) (v := .ref hg) (C := RX6) (T := TX6) (N := 1) hx hb hts in_X6 hown hK.1 hP 0 rfl rfl 0 (by decide) (hts _ mk_62) (fun _ h9 => h9) rfl dX6_turnFour_91 ?_
  refine lv_iload_n hx hb dX6_turnFour_94 rfl (lv_at hl 9 rfl) ?_
  refine lv_iload_n hx hb dX6_turnFour_95 rfl (lv_at hl 10 rfl) ?_
  refine lv_iadd hx hb dX6_turnFour_96 ?_
  refine lv_topi (fun v96 e96 => ?_)
  have b96 : kB v96 4 7 := kB_eq e96 (kB_add bfi kc_4 (by decide))
  refine lv_lload hx hb dX6_turnFour_97 (lv_at hl 2 rfl) ?_
  refine lv_lload hx hb dX6_turnFour_99 (lv_at hl 1 rfl) ?_
  refine lv_ladd hx hb dX6_turnFour_101 ?_
  refine lv_topl (fun v101 e101 => ?_)
  refine va_last hx hb hK.1 hP hD hS 1 1 rfl rfl (kB_in b96 (by decide)) dX6_turnFour_102 (fun H locs hP hD hS => ?_)
  have hP : va_P D vwCl [(htr, .inr (6, [.ref hg])), (hg, .inl (cJ, 16, .inr (.inl (vp_updL f89 v96.toNatClampNeg v101))))] H := hP
  have hD : va_D A [(htr, .inr (6, [.ref hg])), (hg, .inl (cJ, 16, .inr (.inl (vp_updL f89 v96.toNatClampNeg v101))))] := hD
  generalize hf102 : vp_updL f89 v96.toNatClampNeg v101 = f102 at hP hD
  refine lv_aload_n hx hb dX6_turnFour_103 rfl (lv_at hl 8 rfl) ?_
  refine va_get (D := D) (ci := 6) (v := .ref hg) (C := RX6) (T := TX6) (N := 1) hx hb hts in_X6 hown hK.1 hP 0 rfl rfl 0 (by decide) (hts _ mk_62) (fun _ h9 => h9) rfl dX6_turnFour_104 ?_
  refine lv_iload_n hx hb dX6_turnFour_107 rfl (lv_at hl 9 rfl) ?_
  refine lv_iconst (v := 2) hx hb dX6_turnFour_108 (by decide) ?_
  refine lv_iload_n hx hb dX6_turnFour_109 rfl (lv_at hl 10 rfl) ?_
  refine lv_imul hx hb dX6_turnFour_110 ?_
  refine lv_topi (fun v110 e110 => ?_)
  have b110 : kB v110 8 8 := kB_eq e110 (kB_mulc kc_2 kc_4 (by decide))
  refine lv_iadd hx hb dX6_turnFour_111 ?_
  refine lv_topi (fun v111 e111 => ?_)
  have b111 : kB v111 8 11 := kB_eq e111 (kB_add bfi b110 (by decide))
  refine lv_lload hx hb dX6_turnFour_112 (lv_at hl 2 rfl) ?_
  refine lv_lload hx hb dX6_turnFour_114 (lv_at hl 1 rfl) ?_
  refine lv_lsub hx hb dX6_turnFour_116 ?_
  refine lv_topl (fun v116 e116 => ?_)
  refine va_last hx hb hK.1 hP hD hS 1 1 rfl rfl (kB_in b111 (by decide)) dX6_turnFour_117 (fun H locs hP hD hS => ?_)
  have hP : va_P D vwCl [(htr, .inr (6, [.ref hg])), (hg, .inl (cJ, 16, .inr (.inl (vp_updL f102 v111.toNatClampNeg v116))))] H := hP
  have hD : va_D A [(htr, .inr (6, [.ref hg])), (hg, .inl (cJ, 16, .inr (.inl (vp_updL f102 v111.toNatClampNeg v116))))] := hD
  generalize hf117 : vp_updL f102 v111.toNatClampNeg v116 = f117 at hP hD
  refine lv_aload_n hx hb dX6_turnFour_118 rfl (lv_at hl 8 rfl) ?_
  refine va_get (D := D) (ci := 6) (v := .ref hg) (C := RX6) (T := TX6) (N := 1) hx hb hts in_X6 hown hK.1 hP 0 rfl rfl 0 (by decide) (hts _ mk_62) (fun _ h9 => h9) rfl dX6_turnFour_119 ?_
  refine lv_iload_n hx hb dX6_turnFour_122 rfl (lv_at hl 9 rfl) ?_
  refine lv_iconst (v := 3) hx hb dX6_turnFour_123 (by decide) ?_
  refine lv_iload_n hx hb dX6_turnFour_124 rfl (lv_at hl 10 rfl) ?_
  refine lv_imul hx hb dX6_turnFour_125 ?_
  refine lv_topi (fun v125 e125 => ?_)
  have b125 : kB v125 12 12 := kB_eq e125 (kB_mulc kc_3 kc_4 (by decide))
  refine lv_iadd hx hb dX6_turnFour_126 ?_
  refine lv_topi (fun v126 e126 => ?_)
  have b126 : kB v126 12 15 := kB_eq e126 (kB_add bfi b125 (by decide))
  refine lv_lload hx hb dX6_turnFour_127 (lv_at hl 3 rfl) ?_
  refine lv_lload hx hb dX6_turnFour_129 (lv_at hl 0 rfl) ?_
  refine lv_lsub hx hb dX6_turnFour_131 ?_
  refine lv_topl (fun v131 e131 => ?_)
  refine va_last hx hb hK.1 hP hD hS 1 1 rfl rfl (kB_in b126 (by decide)) dX6_turnFour_132 (fun H locs hP hD hS => ?_)
  have hP : va_P D vwCl [(htr, .inr (6, [.ref hg])), (hg, .inl (cJ, 16, .inr (.inl (vp_updL f117 v126.toNatClampNeg v131))))] H := hP
  have hD : va_D A [(htr, .inr (6, [.ref hg])), (hg, .inl (cJ, 16, .inr (.inl (vp_updL f117 v126.toNatClampNeg v131))))] := hD
  generalize hf132 : vp_updL f117 v126.toNatClampNeg v131 = f132 at hP hD
  exact W.vret hx hb hr (fun t9 ht9 hW9 => ⟨⟨f132, rfl, trivial, by rw [ht9]; exact hP, hD⟩, hS.F ht9⟩) hS.2.2 dX6_turnFour_133
set_option maxHeartbeats 4000000 in
set_option maxRecDepth 100000 in
theorem c_X6_turnFour_b (l : Launch) (D : va_G) (cI cJ cZ : ClassId) (htr hg : Nat) (g : Nat → Int64) (fi : Int32) (bfi : kB fi 0 12) (hpz : Nat) : Met l yX6_turnFour kw_X6_turnFour ({ frames := 1, cells := 0, slots := 0, locals := 21 }) (va_Pc [.ref htr, .int fi, .int 1] (fun U => U.heap.size = hpz ∧ va_P D vwCl [(htr, .inr (6, [.ref hg])), (hg, .inl (cJ, 16, .inr (.inl g)))] U.heap ∧ kK D cI cJ cZ U ∧ va_D (fun _ => True) [(htr, .inr (6, [.ref hg])), (hg, .inl (cJ, 16, .inr (.inl g)))])) (va_Qv (fun (u : (Nat → Int64)) => True) (fun (u : (Nat → Int64)) (t : State) => va_P D vwCl [(htr, .inr (6, [.ref hg])), (hg, .inl (cJ, 16, .inr (.inl u)))] t.heap ∧ va_D (va_A [(htr, .inr (6, [.ref hg])), (hg, .inl (cJ, 16, .inr (.inl g)))] hpz) [(htr, .inr (6, [.ref hg])), (hg, .inl (cJ, 16, .inr (.inl u)))]) (va_A [(htr, .inr (6, [.ref hg])), (hg, .inl (cJ, 16, .inr (.inl g)))] hpz)) 0 0 (va_A [(htr, .inr (6, [.ref hg])), (hg, .inl (cJ, 16, .inr (.inl g)))] hpz) := by
  refine Met.ofW (cc := cX6_turnFour) (maxL := 19) (ret := none) (by decide) rfl ?_
  intro p e s m args below meth c s₁ B hml hv
  obtain ⟨rfl, hsz, hP, hK, hD0⟩ := hv
  have hx := B.exec
  have hb := B.bytes
  have hr := B.returns
  have hts := fun (w : Cond) (h : w ∈ kW) => atoms_spec (ws := kw_X6_turnFour) B.pre w (List.mem_cons_of_mem _ h)
  have hown : s.vm.findClass RX6 = some m.cls := findClass_of_methodNamed B.named
  have hlocks := B.notSynchronized
  subst hsz
  have hD := hD0.self (sz := s.heap.size)
  generalize hAe : va_A [(htr, .inr (6, [.ref hg])), (hg, .inl (cJ, 16, .inr (.inl g)))] s.heap.size = A at hD ⊢
  have hA : ∀ q : Nat, s.heap.size ≤ q → A q := fun q h => by rw [← hAe]; exact Or.inr h
  have hS : va_S A s.heap s.heap [] := va_S.rf
  have hP : va_P D vwCl [(htr, .inr (6, [.ref hg])), (hg, .inl (cJ, 16, .inr (.inl g)))] s.heap := hP
  have hl := lv_entry ([.ref htr, .int fi, .int 1]) (n := 19) (Nat.le_of_ble_eq_true rfl)
  rw [lg_entry_eq]
  generalize (lg_sl ([.ref htr, .int fi, .int 1]) ++ List.replicate (19 - (lg_sl ([.ref htr, .int fi, .int 1])).length) Slot.unset).toArray = ls at hl ⊢
  have hl : lv_has ls 19 [(0, .ref htr), (1, .int fi), (2, .int 1)] := hl
  refine lv_aload_n hx hb dX6_turnFour_0 rfl (lv_at hl 0 rfl) ?_
  refine va_get (D := D) (ci := 6) (v := .ref hg) (C := RX6) (T := TX6) (N := 1) hx hb hts in_X6 hown hK.1 hP 0 rfl rfl 0 (by decide) (hts _ mk_62) (fun _ h9 => h9) rfl dX6_turnFour_1 ?_
  refine lv_iload_n hx hb dX6_turnFour_4 rfl (lv_at hl 1 rfl) ?_
  refine va_lald hx hb hK.1 hP 1 1 rfl rfl (kB_in bfi (by decide)) dX6_turnFour_5 ?_
  refine lv_topl (fun v5 e5 => ?_)
  refine lv_lstore_n (lv' := [(3, .long v5), (0, .ref htr), (1, .int fi), (2, .int 1)]) hx hb dX6_turnFour_6 rfl hl (by decide) rfl (fun ls hl => ?_)
  refine lv_aload_n hx hb dX6_turnFour_7 rfl (lv_at hl 1 rfl) ?_
  refine va_get (D := D) (ci := 6) (v := .ref hg) (C := RX6) (T := TX6) (N := 1) hx hb hts in_X6 hown hK.1 hP 0 rfl rfl 0 (by decide) (hts _ mk_62) (fun _ h9 => h9) rfl dX6_turnFour_8 ?_
  refine lv_iload_n hx hb dX6_turnFour_11 rfl (lv_at hl 2 rfl) ?_
  refine lv_iload_n hx hb dX6_turnFour_12 rfl (lv_at hl 3 rfl) ?_
  refine lv_iadd hx hb dX6_turnFour_13 ?_
  refine lv_topi (fun v13 e13 => ?_)
  have b13 : kB v13 1 13 := kB_eq e13 (kB_add bfi kc_1 (by decide))
  refine va_lald hx hb hK.1 hP 1 1 rfl rfl (kB_in b13 (by decide)) dX6_turnFour_14 ?_
  refine lv_topl (fun v14 e14 => ?_)
  refine lv_lstore (lv' := [(5, .long v14), (3, .long v5), (0, .ref htr), (1, .int fi), (2, .int 1)]) hx hb dX6_turnFour_15 hl (by decide) rfl (fun ls hl => ?_)
  refine lv_aload_n hx hb dX6_turnFour_17 rfl (lv_at hl 2 rfl) ?_
  refine va_get (D := D) (ci := 6) (v := .ref hg) (C := RX6) (T := TX6) (N := 1) hx hb hts in_X6 hown hK.1 hP 0 rfl rfl 0 (by decide) (hts _ mk_62) (fun _ h9 => h9) rfl dX6_turnFour_18 ?_
  refine lv_iload_n hx hb dX6_turnFour_21 rfl (lv_at hl 3 rfl) ?_
  refine lv_iconst (v := 2) hx hb dX6_turnFour_22 (by decide) ?_
  refine lv_iload_n hx hb dX6_turnFour_23 rfl (lv_at hl 4 rfl) ?_
  refine lv_imul hx hb dX6_turnFour_24 ?_
  refine lv_topi (fun v24 e24 => ?_)
  have b24 : kB v24 2 2 := kB_eq e24 (kB_mulc kc_2 kc_1 (by decide))
  refine lv_iadd hx hb dX6_turnFour_25 ?_
  refine lv_topi (fun v25 e25 => ?_)
  have b25 : kB v25 2 14 := kB_eq e25 (kB_add bfi b24 (by decide))
  refine va_lald hx hb hK.1 hP 1 1 rfl rfl (kB_in b25 (by decide)) dX6_turnFour_26 ?_
  refine lv_topl (fun v26 e26 => ?_)
  refine lv_lstore (lv' := [(7, .long v26), (5, .long v14), (3, .long v5), (0, .ref htr), (1, .int fi), (2, .int 1)]) hx hb dX6_turnFour_27 hl (by decide) rfl (fun ls hl => ?_)
  refine lv_aload_n hx hb dX6_turnFour_29 rfl (lv_at hl 3 rfl) ?_
  refine va_get (D := D) (ci := 6) (v := .ref hg) (C := RX6) (T := TX6) (N := 1) hx hb hts in_X6 hown hK.1 hP 0 rfl rfl 0 (by decide) (hts _ mk_62) (fun _ h9 => h9) rfl dX6_turnFour_30 ?_
  refine lv_iload_n hx hb dX6_turnFour_33 rfl (lv_at hl 4 rfl) ?_
  refine lv_iconst (v := 3) hx hb dX6_turnFour_34 (by decide) ?_
  refine lv_iload_n hx hb dX6_turnFour_35 rfl (lv_at hl 5 rfl) ?_
  refine lv_imul hx hb dX6_turnFour_36 ?_
  refine lv_topi (fun v36 e36 => ?_)
  have b36 : kB v36 3 3 := kB_eq e36 (kB_mulc kc_3 kc_1 (by decide))
  refine lv_iadd hx hb dX6_turnFour_37 ?_
  refine lv_topi (fun v37 e37 => ?_)
  have b37 : kB v37 3 15 := kB_eq e37 (kB_add bfi b36 (by decide))
  refine va_lald hx hb hK.1 hP 1 1 rfl rfl (kB_in b37 (by decide)) dX6_turnFour_38 ?_
  refine lv_topl (fun v38 e38 => ?_)
  refine lv_lstore (lv' := [(9, .long v38), (7, .long v26), (5, .long v14), (3, .long v5), (0, .ref htr), (1, .int fi), (2, .int 1)]) hx hb dX6_turnFour_39 hl (by decide) rfl (fun ls hl => ?_)
  refine lv_lload_n hx hb dX6_turnFour_41 rfl (lv_at hl 3 rfl) ?_
  refine lv_lload hx hb dX6_turnFour_42 (lv_at hl 1 rfl) ?_
  refine lv_ladd hx hb dX6_turnFour_44 ?_
  refine lv_topl (fun v44 e44 => ?_)
  refine lv_lstore (lv' := [(11, .long v44), (9, .long v38), (7, .long v26), (5, .long v14), (3, .long v5), (0, .ref htr), (1, .int fi), (2, .int 1)]) hx hb dX6_turnFour_45 hl (by decide) rfl (fun ls hl => ?_)
  refine lv_lload_n hx hb dX6_turnFour_47 rfl (lv_at hl 4 rfl) ?_
  refine lv_lload hx hb dX6_turnFour_48 (lv_at hl 2 rfl) ?_
  refine lv_lsub hx hb dX6_turnFour_50 ?_
  refine lv_topl (fun v50 e50 => ?_)
  refine lv_lstore (lv' := [(13, .long v50), (11, .long v44), (9, .long v38), (7, .long v26), (5, .long v14), (3, .long v5), (0, .ref htr), (1, .int fi), (2, .int 1)]) hx hb dX6_turnFour_51 hl (by decide) rfl (fun ls hl => ?_)
  refine lv_lload hx hb dX6_turnFour_53 (lv_at hl 4 rfl) ?_
  have hPc := hP.sub (ws' := []) [] rfl
  have hDc := hD.sub (ws' := []) [] (by decide) rfl
  have hFc := va_free (wc := []) hD hS hA [] rfl
  refine va_calll (va_runS (As := [.long v14]) (rest := []) ⟨hx, hb, hml, hown, hts⟩ (c_X6_timesH l D cI cJ cZ v14 (s.heap).size) (cwS 1 hts (kg_S mk_63 mk_64 mk_65 mk_66) rfl rfl rfl (by decide +kernel) ⟨Nat.le_of_ble_eq_true rfl, Nat.le_of_ble_eq_true rfl⟩) ⟨fun a U g mk q => by obtain ⟨q0, q1, qP, qK, qD⟩ := q; exact ⟨q0, q1, qP, kK.call qK, qD⟩, fun U hU hW => ⟨rfl, by rw [hU], by rw [hU]; exact hPc, kK.warm hW hK, hDc.weaken (fun _ _ _ _ => trivial)⟩⟩ rfl rfl hl.1 rfl (lv_room (Nat.le_of_ble_eq_true rfl)) dX6_turnFour_55 ⟨Nat.zero_le _, Nat.zero_le _⟩) hS (fun q _ h => hFc q h) hFc (fun r55 u t9 H1 locs ht9 hvm9 hw9 hB9 hz9 hk9 hS => ?_)
  obtain ⟨hP1, hD1⟩ := hB9
  rw [ht9] at hP1
  have hP1 : va_P D vwCl [] H1 := hP1
  obtain ⟨hP, hD⟩ := va_join (wr := [(htr, .inr (6, [.ref hg])), (hg, .inl (cJ, 16, .inr (.inl g)))]) (w1 := []) hP hD [] [0, 1] rfl rfl (by decide) (by decide) hk9 hFc hP1 hD1
  have hP := hP.sub (ws' := [(htr, .inr (6, [.ref hg])), (hg, .inl (cJ, 16, .inr (.inl g)))]) [0, 1] rfl
  have hD := hD.sub (ws' := [(htr, .inr (6, [.ref hg])), (hg, .inl (cJ, 16, .inr (.inl g)))]) [0, 1] (by decide) rfl
  generalize H1 = H at hP hS ⊢
  refine lv_lload hx hb dX6_turnFour_58 (lv_at hl 2 rfl) ?_
  have hPc := hP.sub (ws' := []) [] rfl
  have hDc := hD.sub (ws' := []) [] (by decide) rfl
  have hFc := va_free (wc := []) hD hS hA [] rfl
  refine va_calll (va_runS (As := [.long v38]) (rest := [.long r55]) ⟨hx, hb, hml, hown, hts⟩ (c_X6_timesM l D cI cJ cZ v38 (H).size) (cwS 1 hts (kg_S mk_67 mk_68 mk_65 mk_69) rfl rfl rfl (by decide +kernel) ⟨Nat.le_of_ble_eq_true rfl, Nat.le_of_ble_eq_true rfl⟩) ⟨fun a U g mk q => by obtain ⟨q0, q1, qP, qK, qD⟩ := q; exact ⟨q0, q1, qP, kK.call qK, qD⟩, fun U hU hW => ⟨rfl, by rw [hU], by rw [hU]; exact hPc, kK.warm hW hK, hDc.weaken (fun _ _ _ _ => trivial)⟩⟩ rfl rfl hl.1 rfl (lv_room (Nat.le_of_ble_eq_true rfl)) dX6_turnFour_60 ⟨Nat.zero_le _, Nat.zero_le _⟩) hS (fun q _ h => hFc q h) hFc (fun r60 u t9 H1 locs ht9 hvm9 hw9 hB9 hz9 hk9 hS => ?_)
  obtain ⟨hP1, hD1⟩ := hB9
  rw [ht9] at hP1
  have hP1 : va_P D vwCl [] H1 := hP1
  obtain ⟨hP, hD⟩ := va_join (wr := [(htr, .inr (6, [.ref hg])), (hg, .inl (cJ, 16, .inr (.inl g)))]) (w1 := []) hP hD [] [0, 1] rfl rfl (by decide) (by decide) hk9 hFc hP1 hD1
  have hP := hP.sub (ws' := [(htr, .inr (6, [.ref hg])), (hg, .inl (cJ, 16, .inr (.inl g)))]) [0, 1] rfl
  have hD := hD.sub (ws' := [(htr, .inr (6, [.ref hg])), (hg, .inl (cJ, 16, .inr (.inl g)))]) [0, 1] (by decide) rfl
  generalize H1 = H at hP hS ⊢
  refine lv_lsub hx hb dX6_turnFour_63 ?_
  refine lv_topl (fun v63 e63 => ?_)
  refine lv_lstore (lv' := [(15, .long v63), (13, .long v50), (11, .long v44), (9, .long v38), (7, .long v26), (5, .long v14), (3, .long v5), (0, .ref htr), (1, .int fi), (2, .int 1)]) hx hb dX6_turnFour_64 hl (by decide) rfl (fun ls hl => ?_)
  refine lv_lload hx hb dX6_turnFour_66 (lv_at hl 5 rfl) ?_
  have hPc := hP.sub (ws' := []) [] rfl
  have hDc := hD.sub (ws' := []) [] (by decide) rfl
  have hFc := va_free (wc := []) hD hS hA [] rfl
  refine va_calll (va_runS (As := [.long v14]) (rest := []) ⟨hx, hb, hml, hown, hts⟩ (c_X6_timesM l D cI cJ cZ v14 (H).size) (cwS 1 hts (kg_S mk_67 mk_68 mk_65 mk_69) rfl rfl rfl (by decide +kernel) ⟨Nat.le_of_ble_eq_true rfl, Nat.le_of_ble_eq_true rfl⟩) ⟨fun a U g mk q => by obtain ⟨q0, q1, qP, qK, qD⟩ := q; exact ⟨q0, q1, qP, kK.call qK, qD⟩, fun U hU hW => ⟨rfl, by rw [hU], by rw [hU]; exact hPc, kK.warm hW hK, hDc.weaken (fun _ _ _ _ => trivial)⟩⟩ rfl rfl hl.1 rfl (lv_room (Nat.le_of_ble_eq_true rfl)) dX6_turnFour_68 ⟨Nat.zero_le _, Nat.zero_le _⟩) hS (fun q _ h => hFc q h) hFc (fun r68 u t9 H1 locs ht9 hvm9 hw9 hB9 hz9 hk9 hS => ?_)
  obtain ⟨hP1, hD1⟩ := hB9
  rw [ht9] at hP1
  have hP1 : va_P D vwCl [] H1 := hP1
  obtain ⟨hP, hD⟩ := va_join (wr := [(htr, .inr (6, [.ref hg])), (hg, .inl (cJ, 16, .inr (.inl g)))]) (w1 := []) hP hD [] [0, 1] rfl rfl (by decide) (by decide) hk9 hFc hP1 hD1
  have hP := hP.sub (ws' := [(htr, .inr (6, [.ref hg])), (hg, .inl (cJ, 16, .inr (.inl g)))]) [0, 1] rfl
  have hD := hD.sub (ws' := [(htr, .inr (6, [.ref hg])), (hg, .inl (cJ, 16, .inr (.inl g)))]) [0, 1] (by decide) rfl
  generalize H1 = H at hP hS ⊢
  refine lv_lload hx hb dX6_turnFour_71 (lv_at hl 3 rfl) ?_
  have hPc := hP.sub (ws' := []) [] rfl
  have hDc := hD.sub (ws' := []) [] (by decide) rfl
  have hFc := va_free (wc := []) hD hS hA [] rfl
  refine va_calll (va_runS (As := [.long v38]) (rest := [.long r68]) ⟨hx, hb, hml, hown, hts⟩ (c_X6_timesH l D cI cJ cZ v38 (H).size) (cwS 1 hts (kg_S mk_63 mk_64 mk_65 mk_66) rfl rfl rfl (by decide +kernel) ⟨Nat.le_of_ble_eq_true rfl, Nat.le_of_ble_eq_true rfl⟩) ⟨fun a U g mk q => by obtain ⟨q0, q1, qP, qK, qD⟩ := q; exact ⟨q0, q1, qP, kK.call qK, qD⟩, fun U hU hW => ⟨rfl, by rw [hU], by rw [hU]; exact hPc, kK.warm hW hK, hDc.weaken (fun _ _ _ _ => trivial)⟩⟩ rfl rfl hl.1 rfl (lv_room (Nat.le_of_ble_eq_true rfl)) dX6_turnFour_73 ⟨Nat.zero_le _, Nat.zero_le _⟩) hS (fun q _ h => hFc q h) hFc (fun r73 u t9 H1 locs ht9 hvm9 hw9 hB9 hz9 hk9 hS => ?_)
  obtain ⟨hP1, hD1⟩ := hB9
  rw [ht9] at hP1
  have hP1 : va_P D vwCl [] H1 := hP1
  obtain ⟨hP, hD⟩ := va_join (wr := [(htr, .inr (6, [.ref hg])), (hg, .inl (cJ, 16, .inr (.inl g)))]) (w1 := []) hP hD [] [0, 1] rfl rfl (by decide) (by decide) hk9 hFc hP1 hD1
  have hP := hP.sub (ws' := [(htr, .inr (6, [.ref hg])), (hg, .inl (cJ, 16, .inr (.inl g)))]) [0, 1] rfl
  have hD := hD.sub (ws' := [(htr, .inr (6, [.ref hg])), (hg, .inl (cJ, 16, .inr (.inl g)))]) [0, 1] (by decide) rfl
  generalize H1 = H at hP hS ⊢
  refine lv_ladd hx hb dX6_turnFour_76 ?_
  refine lv_topl (fun v76 e76 => ?_)
  refine lv_lstore (lv' := [(17, .long v76), (15, .long v63), (13, .long v50), (11, .long v44), (9, .long v38), (7, .long v26), (5, .long v14), (3, .long v5), (0, .ref htr), (1, .int fi), (2, .int 1)]) hx hb dX6_turnFour_77 hl (by decide) rfl (fun ls hl => ?_)
  refine lv_aload_n hx hb dX6_turnFour_79 rfl (lv_at hl 8 rfl) ?_
  refine va_get (D := D) (ci := 6) (v := .ref hg) (C := RX6) (T := TX6) (N := 1) hx hb hts in_X6 hown hK.1 hP 0 rfl rfl 0 (by decide) (hts _ mk_62) (fun _ h9 => h9) rfl dX6_turnFour_80 ?_
  refine lv_iload_n hx hb dX6_turnFour_83 rfl (lv_at hl 9 rfl) ?_
  refine lv_lload hx hb dX6_turnFour_84 (lv_at hl 3 rfl) ?_
  refine lv_lload hx hb dX6_turnFour_86 (lv_at hl 0 rfl) ?_
  refine lv_ladd hx hb dX6_turnFour_88 ?_
  refine lv_topl (fun v88 e88 => ?_)
  refine va_last hx hb hK.1 hP hD hS 1 1 rfl rfl (kB_in bfi (by decide)) dX6_turnFour_89 (fun H locs hP hD hS => ?_)
  have hP : va_P D vwCl [(htr, .inr (6, [.ref hg])), (hg, .inl (cJ, 16, .inr (.inl (vp_updL g fi.toNatClampNeg v88))))] H := hP
  have hD : va_D A [(htr, .inr (6, [.ref hg])), (hg, .inl (cJ, 16, .inr (.inl (vp_updL g fi.toNatClampNeg v88))))] := hD
  generalize hf89 : vp_updL g fi.toNatClampNeg v88 = f89 at hP hD
  refine lv_aload_n hx hb dX6_turnFour_90 rfl (lv_at hl 8 rfl) ?_
  refine va_get (D := D) (ci := 6) (v := .ref hg) (C := RX6) (T := TX6) (N := 1) hx hb hts in_X6 hown hK.1 hP 0 rfl rfl 0 (by decide) (hts _ mk_62) (fun _ h9 => h9) rfl dX6_turnFour_91 ?_
  refine lv_iload_n hx hb dX6_turnFour_94 rfl (lv_at hl 9 rfl) ?_
  refine lv_iload_n hx hb dX6_turnFour_95 rfl (lv_at hl 10 rfl) ?_
  refine lv_iadd hx hb dX6_turnFour_96 ?_
  refine lv_topi (fun v96 e96 => ?_)
  have b96 : kB v96 1 13 := kB_eq e96 (kB_add bfi kc_1 (by decide))
  refine lv_lload hx hb dX6_turnFour_97 (lv_at hl 2 rfl) ?_
  refine lv_lload hx hb dX6_turnFour_99 (lv_at hl 1 rfl) ?_
  refine lv_ladd hx hb dX6_turnFour_101 ?_
  refine lv_topl (fun v101 e101 => ?_)
  refine va_last hx hb hK.1 hP hD hS 1 1 rfl rfl (kB_in b96 (by decide)) dX6_turnFour_102 (fun H locs hP hD hS => ?_)
  have hP : va_P D vwCl [(htr, .inr (6, [.ref hg])), (hg, .inl (cJ, 16, .inr (.inl (vp_updL f89 v96.toNatClampNeg v101))))] H := hP
  have hD : va_D A [(htr, .inr (6, [.ref hg])), (hg, .inl (cJ, 16, .inr (.inl (vp_updL f89 v96.toNatClampNeg v101))))] := hD
  generalize hf102 : vp_updL f89 v96.toNatClampNeg v101 = f102 at hP hD
  refine lv_aload_n hx hb dX6_turnFour_103 rfl (lv_at hl 8 rfl) ?_
  refine va_get (D := D) (ci := 6) (v := .ref hg) (C := RX6) (T := TX6) (N := 1) hx hb hts in_X6 hown hK.1 hP 0 rfl rfl 0 (by decide) (hts _ mk_62) (fun _ h9 => h9) rfl dX6_turnFour_104 ?_
  refine lv_iload_n hx hb dX6_turnFour_107 rfl (lv_at hl 9 rfl) ?_
  refine lv_iconst (v := 2) hx hb dX6_turnFour_108 (by decide) ?_
  refine lv_iload_n hx hb dX6_turnFour_109 rfl (lv_at hl 10 rfl) ?_
  refine lv_imul hx hb dX6_turnFour_110 ?_
  refine lv_topi (fun v110 e110 => ?_)
  have b110 : kB v110 2 2 := kB_eq e110 (kB_mulc kc_2 kc_1 (by decide))
  refine lv_iadd hx hb dX6_turnFour_111 ?_
  refine lv_topi (fun v111 e111 => ?_)
  have b111 : kB v111 2 14 := kB_eq e111 (kB_add bfi b110 (by decide))
  refine lv_lload hx hb dX6_turnFour_112 (lv_at hl 2 rfl) ?_
  refine lv_lload hx hb dX6_turnFour_114 (lv_at hl 1 rfl) ?_
  refine lv_lsub hx hb dX6_turnFour_116 ?_
  refine lv_topl (fun v116 e116 => ?_)
  refine va_last hx hb hK.1 hP hD hS 1 1 rfl rfl (kB_in b111 (by decide)) dX6_turnFour_117 (fun H locs hP hD hS => ?_)
  have hP : va_P D vwCl [(htr, .inr (6, [.ref hg])), (hg, .inl (cJ, 16, .inr (.inl (vp_updL f102 v111.toNatClampNeg v116))))] H := hP
  have hD : va_D A [(htr, .inr (6, [.ref hg])), (hg, .inl (cJ, 16, .inr (.inl (vp_updL f102 v111.toNatClampNeg v116))))] := hD
  generalize hf117 : vp_updL f102 v111.toNatClampNeg v116 = f117 at hP hD
  refine lv_aload_n hx hb dX6_turnFour_118 rfl (lv_at hl 8 rfl) ?_
  refine va_get (D := D) (ci := 6) (v := .ref hg) (C := RX6) (T := TX6) (N := 1) hx hb hts in_X6 hown hK.1 hP 0 rfl rfl 0 (by decide) (hts _ mk_62) (fun _ h9 => h9) rfl dX6_turnFour_119 ?_
  refine lv_iload_n hx hb dX6_turnFour_122 rfl (lv_at hl 9 rfl) ?_
  refine lv_iconst (v := 3) hx hb dX6_turnFour_123 (by decide) ?_
  refine lv_iload_n hx hb dX6_turnFour_124 rfl (lv_at hl 10 rfl) ?_
  refine lv_imul hx hb dX6_turnFour_125 ?_
  refine lv_topi (fun v125 e125 => ?_)
  have b125 : kB v125 3 3 := kB_eq e125 (kB_mulc kc_3 kc_1 (by decide))
  refine lv_iadd hx hb dX6_turnFour_126 ?_
  refine lv_topi (fun v126 e126 => ?_)
  have b126 : kB v126 3 15 := kB_eq e126 (kB_add bfi b125 (by decide))
  refine lv_lload hx hb dX6_turnFour_127 (lv_at hl 3 rfl) ?_
  refine lv_lload hx hb dX6_turnFour_129 (lv_at hl 0 rfl) ?_
  refine lv_lsub hx hb dX6_turnFour_131 ?_
  refine lv_topl (fun v131 e131 => ?_)
  refine va_last hx hb hK.1 hP hD hS 1 1 rfl rfl (kB_in b126 (by decide)) dX6_turnFour_132 (fun H locs hP hD hS => ?_)
  have hP : va_P D vwCl [(htr, .inr (6, [.ref hg])), (hg, .inl (cJ, 16, .inr (.inl (vp_updL f117 v126.toNatClampNeg v131))))] H := hP
  have hD : va_D A [(htr, .inr (6, [.ref hg])), (hg, .inl (cJ, 16, .inr (.inl (vp_updL f117 v126.toNatClampNeg v131))))] := hD
  generalize hf132 : vp_updL f117 v126.toNatClampNeg v131 = f132 at hP hD
  exact W.vret hx hb hr (fun t9 ht9 hW9 => ⟨⟨f132, rfl, trivial, by rw [ht9]; exact hP, hD⟩, hS.F ht9⟩) hS.2.2 dX6_turnFour_133
abbrev kw_X6_turnBack : List Cond := Cond.code yX6_turnBack cX6_turnBack 2 none :: kW
set_option maxHeartbeats 4000000 in
set_option maxRecDepth 100000 in
theorem lp_X6_turnBack_42 {p : Program} {l : Launch} {e : Env} {s : State} {m : MethodId} {args : Array Value} {below : List Frame} {meth : Method} {c : Code} {A : Nat → Prop} (D : va_G) (cI cJ cZ : ClassId) (htr hg : Nat) (g : Nat → Int64) (hx : p.tables.exec = Jvm.exec) (hb : c.code = cX6_turnBack) (hr : meth.sig.returnType = none) (hml : c.maxLocals = 2) (hown : s.vm.findClass RX6 = some m.cls) (hts : ∀ w ∈ kW, w.before args s = true) (hlocks : meth.locks = false) (hK : kK D cI cJ cZ s) (hA : ∀ q : Nat, s.heap.size ≤ q → A q) : ∀ n : Nat, ∀ (x1 : Int32) (g2 : Nat → Int64), (16 - x1.toInt).toNat < n → (kB x1 0 16) → ∀ (H : Heap) (locs : List Loc) (ls : Array Slot), va_P D vwCl [(htr, .inr (6, [.ref hg])), (hg, .inl (cJ, 16, .inr (.inl g2)))] H → va_D A [(htr, .inr (6, [.ref hg])), (hg, .inl (cJ, 16, .inr (.inl g2)))] → va_S A s.heap H locs → lv_has ls 2 [(0, .ref htr), (1, .int x1)] → W p l e (headSpec kw_X6_turnBack ({ frames := 2, cells := 0, slots := 0, locals := 59 })).room s m args below meth c H locs 0 0 (MQ below (va_Qv (fun (u : (Nat → Int64)) => True) (fun (u : (Nat → Int64)) (t : State) => va_P D vwCl [(htr, .inr (6, [.ref hg])), (hg, .inl (cJ, 16, .inr (.inl u)))] t.heap ∧ va_D A [(htr, .inr (6, [.ref hg])), (hg, .inl (cJ, 16, .inr (.inl u)))]) A) args s 0 0 A) (F0 m 42 ls []) := by
  intro n
  induction n with
  | zero => intro x1 g2 hmeas; exact absurd hmeas (Nat.not_lt_zero _)
  | succ n ih =>
    intro x1 g2 hmeas b1 H locs ls hP hD hS hl
    refine lv_iload_n hx hb dX6_turnBack_42 rfl (lv_at hl 1 rfl) ?_
    refine lv_bipush (v := 16) hx hb dX6_turnBack_43 (by decide) ?_
    refine lv_icmp_ge (tgt := 72) hx hb dX6_turnBack_45 (by decide) (fun c45 => ?_) (fun c45 => ?_)
    · have c45y : kB x1 16 16 := kB_le_r kc_16 b1 c45 (by decide)
      exact W.vret hx hb hr (fun t9 ht9 hW9 => ⟨⟨g2, rfl, trivial, by rw [ht9]; exact hP, hD⟩, hS.F ht9⟩) hS.2.2 dX6_turnBack_72
    · have c45n : x1 < 16 := kN_le c45
      have c45nx : kB x1 0 15 := kB_lt_l b1 kc_16 c45n (by decide)
      refine lv_aload_n hx hb dX6_turnBack_48 rfl (lv_at hl 0 rfl) ?_
      refine va_get (D := D) (ci := 6) (v := .ref hg) (C := RX6) (T := TX6) (N := 1) hx hb hts in_X6 hown hK.1 hP 0 rfl rfl 0 (by decide) (hts _ mk_62) (fun _ h9 => h9) rfl dX6_turnBack_49 ?_
      refine lv_iload_n hx hb dX6_turnBack_52 rfl (lv_at hl 1 rfl) ?_
      refine lv_aload_n hx hb dX6_turnBack_53 rfl (lv_at hl 0 rfl) ?_
      refine va_get (D := D) (ci := 6) (v := .ref hg) (C := RX6) (T := TX6) (N := 1) hx hb hts in_X6 hown hK.1 hP 0 rfl rfl 0 (by decide) (hts _ mk_62) (fun _ h9 => h9) rfl dX6_turnBack_54 ?_
      refine lv_iload_n hx hb dX6_turnBack_57 rfl (lv_at hl 1 rfl) ?_
      refine va_lald hx hb hK.1 hP 1 1 rfl rfl (kB_in c45nx (by decide)) dX6_turnBack_58 ?_
      refine lv_topl (fun v58 e58 => ?_)
      refine lv_ldc2 (v := 4) hx hb hown (hts _ mk_70) dX6_turnBack_59 ?_
      refine lv_ladd hx hb dX6_turnBack_62 ?_
      refine lv_topl (fun v62 e62 => ?_)
      refine lv_iconst (v := 3) hx hb dX6_turnBack_63 (by decide) ?_
      refine lv_lshr hx hb dX6_turnBack_64 rfl ?_
      refine lv_topl (fun v64 e64 => ?_)
      refine va_last hx hb hK.1 hP hD hS 1 1 rfl rfl (kB_in c45nx (by decide)) dX6_turnBack_65 (fun H locs hP hD hS => ?_)
      have hP : va_P D vwCl [(htr, .inr (6, [.ref hg])), (hg, .inl (cJ, 16, .inr (.inl (vp_updL g2 x1.toNatClampNeg v64))))] H := hP
      have hD : va_D A [(htr, .inr (6, [.ref hg])), (hg, .inl (cJ, 16, .inr (.inl (vp_updL g2 x1.toNatClampNeg v64))))] := hD
      generalize hf65 : vp_updL g2 x1.toNatClampNeg v64 = f65 at hP hD
      obtain ⟨v66, e66⟩ : ∃ y : Int32, y = x1 + 1 := ⟨_, rfl⟩
      refine lv_iinc (v := v66) (lv' := [(1, .int v66), (0, .ref htr)]) hx hb dX6_turnBack_66 hl (k := 1) rfl (by rw [e66]; rfl) (by decide) rfl (fun ls hl => ?_)
      have b66 : kB v66 1 16 := kB_eq e66 (kB_add c45nx kc_1 (by decide))
      have t66 : v66.toInt = x1.toInt + 1 := by rw [e66]; exact kinc (kB_w c45nx (by decide) (by decide))
      refine lv_goto (tgt := 42) hx hb dX6_turnBack_69 (by decide) ?_
      exact ih v66 f65 (by have := b66.1; have := b66.2; have := c45nx.1; have := c45nx.2; omega) (kB_w b66 (by decide) (by decide)) _ _ ls hP hD hS (lv_sub hl [1, 0] rfl)
set_option maxHeartbeats 4000000 in
set_option maxRecDepth 100000 in
theorem lp_X6_turnBack_21 {p : Program} {l : Launch} {e : Env} {s : State} {m : MethodId} {args : Array Value} {below : List Frame} {meth : Method} {c : Code} {A : Nat → Prop} (D : va_G) (cI cJ cZ : ClassId) (htr hg : Nat) (g : Nat → Int64) (hx : p.tables.exec = Jvm.exec) (hb : c.code = cX6_turnBack) (hr : meth.sig.returnType = none) (hml : c.maxLocals = 2) (hown : s.vm.findClass RX6 = some m.cls) (hts : ∀ w ∈ kW, w.before args s = true) (hlocks : meth.locks = false) (hK : kK D cI cJ cZ s) (hA : ∀ q : Nat, s.heap.size ≤ q → A q) : ∀ n : Nat, ∀ (x1 : Int32) (g2 : Nat → Int64), (4 - x1.toInt).toNat < n → (kB x1 0 4) → ∀ (H : Heap) (locs : List Loc) (ls : Array Slot), va_P D vwCl [(htr, .inr (6, [.ref hg])), (hg, .inl (cJ, 16, .inr (.inl g2)))] H → va_D A [(htr, .inr (6, [.ref hg])), (hg, .inl (cJ, 16, .inr (.inl g2)))] → va_S A s.heap H locs → lv_has ls 2 [(0, .ref htr), (1, .int x1)] → W p l e (headSpec kw_X6_turnBack ({ frames := 2, cells := 0, slots := 0, locals := 59 })).room s m args below meth c H locs 0 0 (MQ below (va_Qv (fun (u : (Nat → Int64)) => True) (fun (u : (Nat → Int64)) (t : State) => va_P D vwCl [(htr, .inr (6, [.ref hg])), (hg, .inl (cJ, 16, .inr (.inl u)))] t.heap ∧ va_D A [(htr, .inr (6, [.ref hg])), (hg, .inl (cJ, 16, .inr (.inl u)))]) A) args s 0 0 A) (F0 m 21 ls []) := by
  intro n
  induction n with
  | zero => intro x1 g2 hmeas; exact absurd hmeas (Nat.not_lt_zero _)
  | succ n ih =>
    intro x1 g2 hmeas b1 H locs ls hP hD hS hl
    refine lv_iload_n hx hb dX6_turnBack_21 rfl (lv_at hl 1 rfl) ?_
    refine lv_iconst (v := 4) hx hb dX6_turnBack_22 (by decide) ?_
    refine lv_icmp_ge (tgt := 40) hx hb dX6_turnBack_23 (by decide) (fun c23 => ?_) (fun c23 => ?_)
    · have c23y : kB x1 4 4 := kB_le_r kc_4 b1 c23 (by decide)
      refine lv_iconst (v := 0) hx hb dX6_turnBack_40 (by decide) ?_
      refine lv_istore_n (lv' := [(1, .int 0), (0, .ref htr)]) hx hb dX6_turnBack_41 rfl hl (by decide) rfl (fun ls hl => ?_)
      exact lp_X6_turnBack_42 D cI cJ cZ htr hg g hx hb hr hml hown hts hlocks hK hA ((16 - (0 : Int32).toInt).toNat + 1) 0 g2 (Nat.lt_succ_self _) (kB_w kc_0 (by decide) (by decide)) _ _ ls hP hD hS (lv_sub hl [1, 0] rfl)
    · have c23n : x1 < 4 := kN_le c23
      have c23nx : kB x1 0 3 := kB_lt_l b1 kc_4 c23n (by decide)
      refine lv_aload_n hx hb dX6_turnBack_26 rfl (lv_at hl 0 rfl) ?_
      refine lv_iconst (v := 4) hx hb dX6_turnBack_27 (by decide) ?_
      refine lv_iload_n hx hb dX6_turnBack_28 rfl (lv_at hl 1 rfl) ?_
      refine lv_imul hx hb dX6_turnBack_29 ?_
      refine lv_topi (fun v29 e29 => ?_)
      have b29 : kB v29 0 12 := kB_eq e29 (kB_cmul kc_4 c23nx (by decide))
      refine lv_iconst (v := 1) hx hb dX6_turnBack_30 (by decide) ?_
      have hPc := hP.sub (ws' := [(htr, .inr (6, [.ref hg])), (hg, .inl (cJ, 16, .inr (.inl g2)))]) [0, 1] rfl
      have hDc := hD.sub (ws' := [(htr, .inr (6, [.ref hg])), (hg, .inl (cJ, 16, .inr (.inl g2)))]) [0, 1] (by decide) rfl
      have hFc := va_free (wc := [(htr, .inr (6, [.ref hg])), (hg, .inl (cJ, 16, .inr (.inl g2)))]) hD hS hA [0, 1] rfl
      refine va_callv (va_runV (As := [.int v29, .int 1]) (rest := []) ⟨hx, hb, hml, hown, hts⟩ (c_X6_turnFour_b l D cI cJ cZ htr hg g2 v29 b29 (H).size) (cwV 2 hts (kg_V mk_71 mk_72 mk_73 mk_65 mk_74) rfl rfl rfl (by decide +kernel) ⟨Nat.le_of_ble_eq_true rfl, Nat.le_of_ble_eq_true rfl⟩) ⟨fun a U g mk q => by obtain ⟨q0, q1, qP, qK, qD⟩ := q; exact ⟨q0, q1, qP, kK.call qK, qD⟩, va_recv hK.1 hPc (ci := 6) (q0 := 0) rfl rfl, fun U hU hW => ⟨rfl, by rw [hU], by rw [hU]; exact hPc, kK.warm hW hK, hDc.weaken (fun _ _ _ _ => trivial)⟩⟩ rfl rfl hl.1 rfl (lv_room (Nat.le_of_ble_eq_true rfl)) dX6_turnBack_31 ⟨Nat.zero_le _, Nat.zero_le _⟩) hS (fun q _ h => hFc q h) hFc (fun u t9 H1 locs ht9 hvm9 hw9 hB9 hz9 hk9 hS => ?_)
      obtain ⟨g2_31, rfl⟩ : ∃ z, z = u := ⟨_, rfl⟩
      obtain ⟨hP1, hD1⟩ := hB9
      rw [ht9] at hP1
      have hP1 : va_P D vwCl [(htr, .inr (6, [.ref hg])), (hg, .inl (cJ, 16, .inr (.inl g2_31)))] H1 := hP1
      obtain ⟨hP, hD⟩ := va_join (wr := []) (w1 := [(htr, .inr (6, [.ref hg])), (hg, .inl (cJ, 16, .inr (.inl g2_31)))]) hP hD [0, 1] [] rfl rfl (by decide) (by decide) hk9 hFc hP1 hD1
      have hP := hP.sub (ws' := [(htr, .inr (6, [.ref hg])), (hg, .inl (cJ, 16, .inr (.inl g2_31)))]) [0, 1] rfl
      have hD := hD.sub (ws' := [(htr, .inr (6, [.ref hg])), (hg, .inl (cJ, 16, .inr (.inl g2_31)))]) [0, 1] (by decide) rfl
      generalize H1 = H at hP hS ⊢
      obtain ⟨v34, e34⟩ : ∃ y : Int32, y = x1 + 1 := ⟨_, rfl⟩
      refine lv_iinc (v := v34) (lv' := [(1, .int v34), (0, .ref htr)]) hx hb dX6_turnBack_34 hl (k := 1) rfl (by rw [e34]; rfl) (by decide) rfl (fun ls hl => ?_)
      have b34 : kB v34 1 4 := kB_eq e34 (kB_add c23nx kc_1 (by decide))
      have t34 : v34.toInt = x1.toInt + 1 := by rw [e34]; exact kinc (kB_w c23nx (by decide) (by decide))
      refine lv_goto (tgt := 21) hx hb dX6_turnBack_37 (by decide) ?_
      exact ih v34 g2_31 (by have := b34.1; have := b34.2; have := c23nx.1; have := c23nx.2; omega) (kB_w b34 (by decide) (by decide)) _ _ ls hP hD hS (lv_sub hl [1, 0] rfl)
set_option maxHeartbeats 4000000 in
set_option maxRecDepth 100000 in
theorem lp_X6_turnBack_2 {p : Program} {l : Launch} {e : Env} {s : State} {m : MethodId} {args : Array Value} {below : List Frame} {meth : Method} {c : Code} {A : Nat → Prop} (D : va_G) (cI cJ cZ : ClassId) (htr hg : Nat) (g : Nat → Int64) (hx : p.tables.exec = Jvm.exec) (hb : c.code = cX6_turnBack) (hr : meth.sig.returnType = none) (hml : c.maxLocals = 2) (hown : s.vm.findClass RX6 = some m.cls) (hts : ∀ w ∈ kW, w.before args s = true) (hlocks : meth.locks = false) (hK : kK D cI cJ cZ s) (hA : ∀ q : Nat, s.heap.size ≤ q → A q) : ∀ n : Nat, ∀ (x1 : Int32) (g2 : Nat → Int64), (4 - x1.toInt).toNat < n → (kB x1 0 4) → ∀ (H : Heap) (locs : List Loc) (ls : Array Slot), va_P D vwCl [(htr, .inr (6, [.ref hg])), (hg, .inl (cJ, 16, .inr (.inl g2)))] H → va_D A [(htr, .inr (6, [.ref hg])), (hg, .inl (cJ, 16, .inr (.inl g2)))] → va_S A s.heap H locs → lv_has ls 2 [(0, .ref htr), (1, .int x1)] → W p l e (headSpec kw_X6_turnBack ({ frames := 2, cells := 0, slots := 0, locals := 59 })).room s m args below meth c H locs 0 0 (MQ below (va_Qv (fun (u : (Nat → Int64)) => True) (fun (u : (Nat → Int64)) (t : State) => va_P D vwCl [(htr, .inr (6, [.ref hg])), (hg, .inl (cJ, 16, .inr (.inl u)))] t.heap ∧ va_D A [(htr, .inr (6, [.ref hg])), (hg, .inl (cJ, 16, .inr (.inl u)))]) A) args s 0 0 A) (F0 m 2 ls []) := by
  intro n
  induction n with
  | zero => intro x1 g2 hmeas; exact absurd hmeas (Nat.not_lt_zero _)
  | succ n ih =>
    intro x1 g2 hmeas b1 H locs ls hP hD hS hl
    refine lv_iload_n hx hb dX6_turnBack_2 rfl (lv_at hl 1 rfl) ?_
    refine lv_iconst (v := 4) hx hb dX6_turnBack_3 (by decide) ?_
    refine lv_icmp_ge (tgt := 19) hx hb dX6_turnBack_4 (by decide) (fun c4 => ?_) (fun c4 => ?_)
    · have c4y : kB x1 4 4 := kB_le_r kc_4 b1 c4 (by decide)
      refine lv_iconst (v := 0) hx hb dX6_turnBack_19 (by decide) ?_
      refine lv_istore_n (lv' := [(1, .int 0), (0, .ref htr)]) hx hb dX6_turnBack_20 rfl hl (by decide) rfl (fun ls hl => ?_)
      exact lp_X6_turnBack_21 D cI cJ cZ htr hg g hx hb hr hml hown hts hlocks hK hA ((4 - (0 : Int32).toInt).toNat + 1) 0 g2 (Nat.lt_succ_self _) (kB_w kc_0 (by decide) (by decide)) _ _ ls hP hD hS (lv_sub hl [1, 0] rfl)
    · have c4n : x1 < 4 := kN_le c4
      have c4nx : kB x1 0 3 := kB_lt_l b1 kc_4 c4n (by decide)
      refine lv_aload_n hx hb dX6_turnBack_7 rfl (lv_at hl 0 rfl) ?_
      refine lv_iload_n hx hb dX6_turnBack_8 rfl (lv_at hl 1 rfl) ?_
      refine lv_iconst (v := 4) hx hb dX6_turnBack_9 (by decide) ?_
      have hPc := hP.sub (ws' := [(htr, .inr (6, [.ref hg])), (hg, .inl (cJ, 16, .inr (.inl g2)))]) [0, 1] rfl
      have hDc := hD.sub (ws' := [(htr, .inr (6, [.ref hg])), (hg, .inl (cJ, 16, .inr (.inl g2)))]) [0, 1] (by decide) rfl
      have hFc := va_free (wc := [(htr, .inr (6, [.ref hg])), (hg, .inl (cJ, 16, .inr (.inl g2)))]) hD hS hA [0, 1] rfl
      refine va_callv (va_runV (As := [.int x1, .int 4]) (rest := []) ⟨hx, hb, hml, hown, hts⟩ (c_X6_turnFour_a l D cI cJ cZ htr hg g2 x1 c4nx (H).size) (cwV 2 hts (kg_V mk_71 mk_72 mk_73 mk_65 mk_74) rfl rfl rfl (by decide +kernel) ⟨Nat.le_of_ble_eq_true rfl, Nat.le_of_ble_eq_true rfl⟩) ⟨fun a U g mk q => by obtain ⟨q0, q1, qP, qK, qD⟩ := q; exact ⟨q0, q1, qP, kK.call qK, qD⟩, va_recv hK.1 hPc (ci := 6) (q0 := 0) rfl rfl, fun U hU hW => ⟨rfl, by rw [hU], by rw [hU]; exact hPc, kK.warm hW hK, hDc.weaken (fun _ _ _ _ => trivial)⟩⟩ rfl rfl hl.1 rfl (lv_room (Nat.le_of_ble_eq_true rfl)) dX6_turnBack_10 ⟨Nat.zero_le _, Nat.zero_le _⟩) hS (fun q _ h => hFc q h) hFc (fun u t9 H1 locs ht9 hvm9 hw9 hB9 hz9 hk9 hS => ?_)
      obtain ⟨g2_10, rfl⟩ : ∃ z, z = u := ⟨_, rfl⟩
      obtain ⟨hP1, hD1⟩ := hB9
      rw [ht9] at hP1
      have hP1 : va_P D vwCl [(htr, .inr (6, [.ref hg])), (hg, .inl (cJ, 16, .inr (.inl g2_10)))] H1 := hP1
      obtain ⟨hP, hD⟩ := va_join (wr := []) (w1 := [(htr, .inr (6, [.ref hg])), (hg, .inl (cJ, 16, .inr (.inl g2_10)))]) hP hD [0, 1] [] rfl rfl (by decide) (by decide) hk9 hFc hP1 hD1
      have hP := hP.sub (ws' := [(htr, .inr (6, [.ref hg])), (hg, .inl (cJ, 16, .inr (.inl g2_10)))]) [0, 1] rfl
      have hD := hD.sub (ws' := [(htr, .inr (6, [.ref hg])), (hg, .inl (cJ, 16, .inr (.inl g2_10)))]) [0, 1] (by decide) rfl
      generalize H1 = H at hP hS ⊢
      obtain ⟨v13, e13⟩ : ∃ y : Int32, y = x1 + 1 := ⟨_, rfl⟩
      refine lv_iinc (v := v13) (lv' := [(1, .int v13), (0, .ref htr)]) hx hb dX6_turnBack_13 hl (k := 1) rfl (by rw [e13]; rfl) (by decide) rfl (fun ls hl => ?_)
      have b13 : kB v13 1 4 := kB_eq e13 (kB_add c4nx kc_1 (by decide))
      have t13 : v13.toInt = x1.toInt + 1 := by rw [e13]; exact kinc (kB_w c4nx (by decide) (by decide))
      refine lv_goto (tgt := 2) hx hb dX6_turnBack_16 (by decide) ?_
      exact ih v13 g2_10 (by have := b13.1; have := b13.2; have := c4nx.1; have := c4nx.2; omega) (kB_w b13 (by decide) (by decide)) _ _ ls hP hD hS (lv_sub hl [1, 0] rfl)
set_option maxHeartbeats 4000000 in
set_option maxRecDepth 100000 in
theorem c_X6_turnBack (l : Launch) (D : va_G) (cI cJ cZ : ClassId) (htr hg : Nat) (g : Nat → Int64) (hpz : Nat) : Met l yX6_turnBack kw_X6_turnBack ({ frames := 2, cells := 0, slots := 0, locals := 59 }) (va_Pc [.ref htr] (fun U => U.heap.size = hpz ∧ va_P D vwCl [(htr, .inr (6, [.ref hg])), (hg, .inl (cJ, 16, .inr (.inl g)))] U.heap ∧ kK D cI cJ cZ U ∧ va_D (fun _ => True) [(htr, .inr (6, [.ref hg])), (hg, .inl (cJ, 16, .inr (.inl g)))])) (va_Qv (fun (u : (Nat → Int64)) => True) (fun (u : (Nat → Int64)) (t : State) => va_P D vwCl [(htr, .inr (6, [.ref hg])), (hg, .inl (cJ, 16, .inr (.inl u)))] t.heap ∧ va_D (va_A [(htr, .inr (6, [.ref hg])), (hg, .inl (cJ, 16, .inr (.inl g)))] hpz) [(htr, .inr (6, [.ref hg])), (hg, .inl (cJ, 16, .inr (.inl u)))]) (va_A [(htr, .inr (6, [.ref hg])), (hg, .inl (cJ, 16, .inr (.inl g)))] hpz)) 0 0 (va_A [(htr, .inr (6, [.ref hg])), (hg, .inl (cJ, 16, .inr (.inl g)))] hpz) := by
  refine Met.ofW (cc := cX6_turnBack) (maxL := 2) (ret := none) (by decide) rfl ?_
  intro p e s m args below meth c s₁ B hml hv
  obtain ⟨rfl, hsz, hP, hK, hD0⟩ := hv
  have hx := B.exec
  have hb := B.bytes
  have hr := B.returns
  have hts := fun (w : Cond) (h : w ∈ kW) => atoms_spec (ws := kw_X6_turnBack) B.pre w (List.mem_cons_of_mem _ h)
  have hown : s.vm.findClass RX6 = some m.cls := findClass_of_methodNamed B.named
  have hlocks := B.notSynchronized
  subst hsz
  have hD := hD0.self (sz := s.heap.size)
  generalize hAe : va_A [(htr, .inr (6, [.ref hg])), (hg, .inl (cJ, 16, .inr (.inl g)))] s.heap.size = A at hD ⊢
  have hA : ∀ q : Nat, s.heap.size ≤ q → A q := fun q h => by rw [← hAe]; exact Or.inr h
  have hS : va_S A s.heap s.heap [] := va_S.rf
  have hP : va_P D vwCl [(htr, .inr (6, [.ref hg])), (hg, .inl (cJ, 16, .inr (.inl g)))] s.heap := hP
  have hl := lv_entry ([.ref htr]) (n := 2) (Nat.le_of_ble_eq_true rfl)
  rw [lg_entry_eq]
  generalize (lg_sl ([.ref htr]) ++ List.replicate (2 - (lg_sl ([.ref htr])).length) Slot.unset).toArray = ls at hl ⊢
  have hl : lv_has ls 2 [(0, .ref htr)] := hl
  refine lv_iconst (v := 0) hx hb dX6_turnBack_0 (by decide) ?_
  refine lv_istore_n (lv' := [(1, .int 0), (0, .ref htr)]) hx hb dX6_turnBack_1 rfl hl (by decide) rfl (fun ls hl => ?_)
  exact lp_X6_turnBack_2 D cI cJ cZ htr hg g hx hb hr hml hown hts hlocks hK hA ((4 - (0 : Int32).toInt).toNat + 1) 0 g (Nat.lt_succ_self _) (kB_w kc_0 (by decide) (by decide)) _ _ ls hP hD hS (lv_sub hl [1, 0] rfl)
abbrev kw_X6_layOut : List Cond := Cond.code yX6_layOut cX6_layOut 6 none :: kW
set_option maxHeartbeats 4000000 in
set_option maxRecDepth 100000 in
theorem lp_X6_layOut_8 {p : Program} {l : Launch} {e : Env} {s : State} {m : MethodId} {args : Array Value} {below : List Frame} {meth : Method} {c : Code} {A : Nat → Prop} (D : va_G) (cI cJ cZ : ClassId) (htr hg hco : Nat) (g : Nat → Int64) (co : Nat → Int32) (fi : Int32) (q : Int32) (bfi : kB fi 0 240) (hx : p.tables.exec = Jvm.exec) (hb : c.code = cX6_layOut) (hr : meth.sig.returnType = none) (hml : c.maxLocals = 6) (hown : s.vm.findClass RX6 = some m.cls) (hts : ∀ w ∈ kW, w.before args s = true) (hlocks : meth.locks = false) (hK : kK D cI cJ cZ s) (hA : ∀ q : Nat, s.heap.size ≤ q → A q) (hT : kT A s s.heap) : ∀ n : Nat, ∀ (x4 : Int32) (x5 : Int32) (g2 : Nat → Int64), (16 - x5.toInt).toNat < n → (kB x5 0 16) → ∀ (H : Heap) (locs : List Loc) (ls : Array Slot), va_P D vwCl [(htr, .inr (6, [.ref hg])), (hg, .inl (cJ, 16, .inr (.inl g2))), (hco, .inl (cI, 256, .inl co))] H → va_D A [(htr, .inr (6, [.ref hg])), (hg, .inl (cJ, 16, .inr (.inl g2))), (hco, .inl (cI, 256, .inl co))] → va_S A s.heap H locs → lv_has ls 6 [(0, .ref htr), (1, .ref hco), (2, .int fi), (3, .int q), (4, .int x4), (5, .int x5)] → W p l e (headSpec kw_X6_layOut ({ frames := 0, cells := 0, slots := 0, locals := 0 })).room s m args below meth c H locs 0 0 (MQ below (va_Qv (fun (u : (Nat → Int64)) => True) (fun (u : (Nat → Int64)) (t : State) => va_P D vwCl [(htr, .inr (6, [.ref hg])), (hg, .inl (cJ, 16, .inr (.inl u))), (hco, .inl (cI, 256, .inl co))] t.heap ∧ va_D A [(htr, .inr (6, [.ref hg])), (hg, .inl (cJ, 16, .inr (.inl u))), (hco, .inl (cI, 256, .inl co))]) A) args s 0 0 A) (F0 m 8 ls []) := by
  intro n
  induction n with
  | zero => intro x4 x5 g2 hmeas; exact absurd hmeas (Nat.not_lt_zero _)
  | succ n ih =>
    intro x4 x5 g2 hmeas b5 H locs ls hP hD hS hl
    refine lv_iload hx hb dX6_layOut_8 (lv_at hl 5 rfl) ?_
    refine lv_bipush (v := 16) hx hb dX6_layOut_10 (by decide) ?_
    refine lv_icmp_ge (tgt := 52) hx hb dX6_layOut_12 (by decide) (fun c12 => ?_) (fun c12 => ?_)
    · have c12y : kB x5 16 16 := kB_le_r kc_16 b5 c12 (by decide)
      exact W.vret hx hb hr (fun t9 ht9 hW9 => ⟨⟨g2, rfl, trivial, by rw [ht9]; exact hP, hD⟩, hS.F ht9⟩) hS.2.2 dX6_layOut_52
    · have c12n : x5 < 16 := kN_le c12
      have c12nx : kB x5 0 15 := kB_lt_l b5 kc_16 c12n (by decide)
      refine lv_aload_n hx hb dX6_layOut_15 rfl (lv_at hl 0 rfl) ?_
      refine va_get (D := D) (ci := 6) (v := .ref hg) (C := RX6) (T := TX6) (N := 1) hx hb hts in_X6 hown hK.1 hP 0 rfl rfl 0 (by decide) (hts _ mk_62) (fun _ h9 => h9) rfl dX6_layOut_16 ?_
      obtain ⟨tb_19, hZ19, hT19⟩ := kT_PLACES hT
      refine va_gets hx hb hZ19 hS hown (hts _ mk_75) (fun _ h9 => h9) dX6_layOut_19 ?_
      refine lv_iload hx hb dX6_layOut_22 (lv_at hl 5 rfl) ?_
      refine va_ti (v := .int (tl_PLACES.getD x5.toNatClampNeg 0)) hx hb hT19 hS (kB_in c12nx (by decide)) rfl dX6_layOut_24 ?_
      refine lv_topi (fun v24 e24 => ?_)
      have b24 : kB v24 0 15 := kB_eq e24 (kt_PLACES _)
      refine lv_aload_n hx hb dX6_layOut_25 rfl (lv_at hl 1 rfl) ?_
      refine lv_iload_n hx hb dX6_layOut_26 rfl (lv_at hl 2 rfl) ?_
      refine lv_iload hx hb dX6_layOut_27 (lv_at hl 5 rfl) ?_
      refine lv_iadd hx hb dX6_layOut_29 ?_
      refine lv_topi (fun v29 e29 => ?_)
      have b29 : kB v29 0 255 := kB_eq e29 (kB_add bfi c12nx (by decide))
      refine va_iald hx hb hK.1 hP 2 0 rfl rfl (kB_in b29 (by decide)) dX6_layOut_30 ?_
      refine lv_topi (fun v30 e30 => ?_)
      refine lv_i2l hx hb dX6_layOut_31 rfl ?_
      refine lv_topl (fun v31 e31 => ?_)
      refine lv_iload hx hb dX6_layOut_32 (lv_at hl 4 rfl) ?_
      refine lv_i2l hx hb dX6_layOut_34 rfl ?_
      refine lv_topl (fun v34 e34 => ?_)
      refine lv_lmul hx hb dX6_layOut_35 ?_
      refine lv_topl (fun v35 e35 => ?_)
      refine va_last hx hb hK.1 hP hD hS 1 1 rfl rfl (kB_in b24 (by decide)) dX6_layOut_36 (fun H locs hP hD hS => ?_)
      have hP : va_P D vwCl [(htr, .inr (6, [.ref hg])), (hg, .inl (cJ, 16, .inr (.inl (vp_updL g2 v24.toNatClampNeg v35)))), (hco, .inl (cI, 256, .inl co))] H := hP
      have hD : va_D A [(htr, .inr (6, [.ref hg])), (hg, .inl (cJ, 16, .inr (.inl (vp_updL g2 v24.toNatClampNeg v35)))), (hco, .inl (cI, 256, .inl co))] := hD
      generalize hf36 : vp_updL g2 v24.toNatClampNeg v35 = f36 at hP hD
      refine lv_iconst (v := 4) hx hb dX6_layOut_37 (by decide) ?_
      refine lv_iload_n hx hb dX6_layOut_38 rfl (lv_at hl 3 rfl) ?_
      refine lv_iadd hx hb dX6_layOut_39 ?_
      refine lv_topi (fun v39 e39 => ?_)
      refine lv_iload_n hx hb dX6_layOut_40 rfl (lv_at hl 3 rfl) ?_
      refine lv_iconst (v := 2) hx hb dX6_layOut_41 (by decide) ?_
      refine lv_idiv hx hb dX6_layOut_42 (kB_ne0 kc_2 (Or.inl (by decide))) ?_
      refine lv_topi (fun v42 e42 => ?_)
      refine lv_iadd hx hb dX6_layOut_43 ?_
      refine lv_topi (fun v43 e43 => ?_)
      refine lv_istore (lv' := [(4, .int v43), (0, .ref htr), (1, .ref hco), (2, .int fi), (3, .int q), (5, .int x5)]) hx hb dX6_layOut_44 hl (by decide) rfl (fun ls hl => ?_)
      obtain ⟨v46, e46⟩ : ∃ y : Int32, y = x5 + 1 := ⟨_, rfl⟩
      refine lv_iinc (v := v46) (lv' := [(5, .int v46), (4, .int v43), (0, .ref htr), (1, .ref hco), (2, .int fi), (3, .int q)]) hx hb dX6_layOut_46 hl (k := 5) rfl (by rw [e46]; rfl) (by decide) rfl (fun ls hl => ?_)
      have b46 : kB v46 1 16 := kB_eq e46 (kB_add c12nx kc_1 (by decide))
      have t46 : v46.toInt = x5.toInt + 1 := by rw [e46]; exact kinc (kB_w c12nx (by decide) (by decide))
      refine lv_goto (tgt := 8) hx hb dX6_layOut_49 (by decide) ?_
      exact ih v43 v46 f36 (by have := b46.1; have := b46.2; have := c12nx.1; have := c12nx.2; omega) (kB_w b46 (by decide) (by decide)) _ _ ls hP hD hS (lv_sub hl [2, 3, 4, 5, 1, 0] rfl)
set_option maxHeartbeats 4000000 in
set_option maxRecDepth 100000 in
theorem c_X6_layOut (l : Launch) (D : va_G) (cI cJ cZ : ClassId) (htr hg hco : Nat) (g : Nat → Int64) (co : Nat → Int32) (fi : Int32) (q : Int32) (bfi : kB fi 0 240) (hpz : Nat) : Met l yX6_layOut kw_X6_layOut ({ frames := 0, cells := 0, slots := 0, locals := 0 }) (va_Pc [.ref htr, .ref hco, .int fi, .int q] (fun U => U.heap.size = hpz ∧ va_P D vwCl [(htr, .inr (6, [.ref hg])), (hg, .inl (cJ, 16, .inr (.inl g))), (hco, .inl (cI, 256, .inl co))] U.heap ∧ kK D cI cJ cZ U ∧ va_D (fun _ => True) [(htr, .inr (6, [.ref hg])), (hg, .inl (cJ, 16, .inr (.inl g))), (hco, .inl (cI, 256, .inl co))] ∧ kT (va_A [(htr, .inr (6, [.ref hg])), (hg, .inl (cJ, 16, .inr (.inl g))), (hco, .inl (cI, 256, .inl co))] hpz) U U.heap)) (va_Qv (fun (u : (Nat → Int64)) => True) (fun (u : (Nat → Int64)) (t : State) => va_P D vwCl [(htr, .inr (6, [.ref hg])), (hg, .inl (cJ, 16, .inr (.inl u))), (hco, .inl (cI, 256, .inl co))] t.heap ∧ va_D (va_A [(htr, .inr (6, [.ref hg])), (hg, .inl (cJ, 16, .inr (.inl g))), (hco, .inl (cI, 256, .inl co))] hpz) [(htr, .inr (6, [.ref hg])), (hg, .inl (cJ, 16, .inr (.inl u))), (hco, .inl (cI, 256, .inl co))]) (va_A [(htr, .inr (6, [.ref hg])), (hg, .inl (cJ, 16, .inr (.inl g))), (hco, .inl (cI, 256, .inl co))] hpz)) 0 0 (va_A [(htr, .inr (6, [.ref hg])), (hg, .inl (cJ, 16, .inr (.inl g))), (hco, .inl (cI, 256, .inl co))] hpz) := by
  refine Met.ofW (cc := cX6_layOut) (maxL := 6) (ret := none) (by decide) rfl ?_
  intro p e s m args below meth c s₁ B hml hv
  obtain ⟨rfl, hsz, hP, hK, hD0, hT⟩ := hv
  have hx := B.exec
  have hb := B.bytes
  have hr := B.returns
  have hts := fun (w : Cond) (h : w ∈ kW) => atoms_spec (ws := kw_X6_layOut) B.pre w (List.mem_cons_of_mem _ h)
  have hown : s.vm.findClass RX6 = some m.cls := findClass_of_methodNamed B.named
  have hlocks := B.notSynchronized
  subst hsz
  have hD := hD0.self (sz := s.heap.size)
  generalize hAe : va_A [(htr, .inr (6, [.ref hg])), (hg, .inl (cJ, 16, .inr (.inl g))), (hco, .inl (cI, 256, .inl co))] s.heap.size = A at hD hT ⊢
  have hA : ∀ q : Nat, s.heap.size ≤ q → A q := fun q h => by rw [← hAe]; exact Or.inr h
  have hS : va_S A s.heap s.heap [] := va_S.rf
  have hP : va_P D vwCl [(htr, .inr (6, [.ref hg])), (hg, .inl (cJ, 16, .inr (.inl g))), (hco, .inl (cI, 256, .inl co))] s.heap := hP
  have hl := lv_entry ([.ref htr, .ref hco, .int fi, .int q]) (n := 6) (Nat.le_of_ble_eq_true rfl)
  rw [lg_entry_eq]
  generalize (lg_sl ([.ref htr, .ref hco, .int fi, .int q]) ++ List.replicate (6 - (lg_sl ([.ref htr, .ref hco, .int fi, .int q])).length) Slot.unset).toArray = ls at hl ⊢
  have hl : lv_has ls 6 [(0, .ref htr), (1, .ref hco), (2, .int fi), (3, .int q)] := hl
  refine lv_iconst (v := 4) hx hb dX6_layOut_0 (by decide) ?_
  refine lv_iload_n hx hb dX6_layOut_1 rfl (lv_at hl 3 rfl) ?_
  refine lv_iadd hx hb dX6_layOut_2 ?_
  refine lv_topi (fun v2 e2 => ?_)
  refine lv_istore (lv' := [(4, .int v2), (0, .ref htr), (1, .ref hco), (2, .int fi), (3, .int q)]) hx hb dX6_layOut_3 hl (by decide) rfl (fun ls hl => ?_)
  refine lv_iconst (v := 0) hx hb dX6_layOut_5 (by decide) ?_
  refine lv_istore (lv' := [(5, .int 0), (4, .int v2), (0, .ref htr), (1, .ref hco), (2, .int fi), (3, .int q)]) hx hb dX6_layOut_6 hl (by decide) rfl (fun ls hl => ?_)
  exact lp_X6_layOut_8 D cI cJ cZ htr hg hco g co fi q bfi hx hb hr hml hown hts hlocks hK hA hT ((16 - (0 : Int32).toInt).toNat + 1) v2 0 g (Nat.lt_succ_self _) (kB_w kc_0 (by decide) (by decide)) _ _ ls hP hD hS (lv_sub hl [2, 3, 4, 5, 1, 0] rfl)
