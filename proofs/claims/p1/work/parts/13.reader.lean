abbrev kw_X0_start : List Cond := Cond.code yX0_start cX0_start 1 none :: kW
set_option maxHeartbeats 4000000 in
set_option maxRecDepth 100000 in
theorem c_X0_start (l : Launch) (D : va_G) (cI cJ cZ : ClassId) (hrd ho hh : Nat) (va : Int32) (rg : Int32) (sh : Int32) (nx : Int32) (sz : Int32) (f : Nat → Int32) (bsz : kB sz 0 600) (hpz : Nat) : Met l yX0_start kw_X0_start ({ frames := 1, cells := 0, slots := 0, locals := 21 }) (va_Pc [.ref hrd] (fun U => U.heap.size = hpz ∧ va_P D vwCl [(hrd, .inr (0, [.ref ho, .int va, .int rg, .int sh, .int nx])), (ho, .inr (3, [.ref hh, .int sz])), (hh, .inl (cI, 600, .inl f))] U.heap ∧ kK D cI cJ cZ U ∧ va_D (fun _ => True) [(hrd, .inr (0, [.ref ho, .int va, .int rg, .int sh, .int nx])), (ho, .inr (3, [.ref hh, .int sz])), (hh, .inl (cI, 600, .inl f))])) (va_Qv (fun (u : Int32) => (u = ((if 0 ≤ (0 : Int32).toInt ∧ (0 : Int32).toInt < sz.toInt then f (0 : Int32).toNatClampNeg else 0) <<< ((8 : Int32) &&& 31)) + (if 0 ≤ (1 : Int32).toInt ∧ (1 : Int32).toInt < sz.toInt then f (1 : Int32).toNatClampNeg else 0))) (fun (u : Int32) (t : State) => va_P D vwCl [(hrd, .inr (0, [.ref ho, .int u, .int 255, .int 0, .int 2])), (ho, .inr (3, [.ref hh, .int sz])), (hh, .inl (cI, 600, .inl f))] t.heap ∧ va_D (va_A [(hrd, .inr (0, [.ref ho, .int va, .int rg, .int sh, .int nx])), (ho, .inr (3, [.ref hh, .int sz])), (hh, .inl (cI, 600, .inl f))] hpz) [(hrd, .inr (0, [.ref ho, .int u, .int 255, .int 0, .int 2])), (ho, .inr (3, [.ref hh, .int sz])), (hh, .inl (cI, 600, .inl f))]) (va_A [(hrd, .inr (0, [.ref ho, .int va, .int rg, .int sh, .int nx])), (ho, .inr (3, [.ref hh, .int sz])), (hh, .inl (cI, 600, .inl f))] hpz)) 0 0 (va_A [(hrd, .inr (0, [.ref ho, .int va, .int rg, .int sh, .int nx])), (ho, .inr (3, [.ref hh, .int sz])), (hh, .inl (cI, 600, .inl f))] hpz) := by
  refine Met.ofW (cc := cX0_start) (maxL := 1) (ret := none) (by decide) rfl ?_
  intro p e s m args below meth c s₁ B hml hv
  obtain ⟨rfl, hsz, hP, hK, hD0⟩ := hv
  have hx := B.exec
  have hb := B.bytes
  have hr := B.returns
  have hts := fun (w : Cond) (h : w ∈ kW) => atoms_spec (ws := kw_X0_start) B.pre w (List.mem_cons_of_mem _ h)
  have hown : s.vm.findClass RX0 = some m.cls := findClass_of_methodNamed B.named
  have hlocks := B.notSynchronized
  subst hsz
  have hD := hD0.self (sz := s.heap.size)
  generalize hAe : va_A [(hrd, .inr (0, [.ref ho, .int va, .int rg, .int sh, .int nx])), (ho, .inr (3, [.ref hh, .int sz])), (hh, .inl (cI, 600, .inl f))] s.heap.size = A at hD ⊢
  have hA : ∀ q : Nat, s.heap.size ≤ q → A q := fun q h => by rw [← hAe]; exact Or.inr h
  have hS : va_S A s.heap s.heap [] := va_S.rf
  have hP : va_P D vwCl [(hrd, .inr (0, [.ref ho, .int va, .int rg, .int sh, .int nx])), (ho, .inr (3, [.ref hh, .int sz])), (hh, .inl (cI, 600, .inl f))] s.heap := hP
  have hl := lv_entry ([.ref hrd]) (n := 1) (Nat.le_of_ble_eq_true rfl)
  rw [lg_entry_eq]
  generalize (lg_sl ([.ref hrd]) ++ List.replicate (1 - (lg_sl ([.ref hrd])).length) Slot.unset).toArray = ls at hl ⊢
  have hl : lv_has ls 1 [(0, .ref hrd)] := hl
  refine lv_aload_n hx hb dX0_start_0 rfl (lv_at hl 0 rfl) ?_
  refine lv_aload_n hx hb dX0_start_1 rfl (lv_at hl 0 rfl) ?_
  refine va_get (D := D) (ci := 0) (v := .ref ho) (C := RX0) (T := TX0) (N := 5) hx hb hts in_X0 hown hK.1 hP 0 rfl rfl 0 (by decide) (hts _ mk_2) (fun _ h9 => h9) rfl dX0_start_2 ?_
  refine lv_iconst (v := 0) hx hb dX0_start_5 (by decide) ?_
  have hPc := hP.sub (ws' := [(ho, .inr (3, [.ref hh, .int sz])), (hh, .inl (cI, 600, .inl f))]) [1, 2] rfl
  have hDc := hD.sub (ws' := [(ho, .inr (3, [.ref hh, .int sz])), (hh, .inl (cI, 600, .inl f))]) [1, 2] (by decide) rfl
  have hFc := va_free (wc := [(ho, .inr (3, [.ref hh, .int sz])), (hh, .inl (cI, 600, .inl f))]) hD hS hA [1, 2] rfl
  refine va_calli (va_runV (As := [.int 0]) (rest := [.ref hrd]) ⟨hx, hb, hml, hown, hts⟩ (c_X3_at l D cI cJ cZ ho hh sz f 0 bsz (s.heap).size) (cwV 1 hts (kg_V mk_3 mk_4 mk_5 mk_6 mk_7) rfl rfl rfl (by decide +kernel) ⟨Nat.le_of_ble_eq_true rfl, Nat.le_of_ble_eq_true rfl⟩) ⟨fun a U g mk q => by obtain ⟨q0, q1, qP, qK, qD⟩ := q; exact ⟨q0, q1, qP, kK.call qK, qD⟩, va_recv hK.1 hPc (ci := 3) (q0 := 0) rfl rfl, fun U hU hW => ⟨rfl, by rw [hU], by rw [hU]; exact hPc, kK.warm hW hK, hDc.weaken (fun _ _ _ _ => trivial)⟩⟩ rfl rfl hl.1 rfl (lv_room (Nat.le_of_ble_eq_true rfl)) dX0_start_6 ⟨Nat.zero_le _, Nat.zero_le _⟩) hS (fun q _ h => hFc q h) hFc (fun r6 u t9 H1 locs ht9 hvm9 hw9 hB9 hz9 hk9 hS => ?_)
  obtain ⟨hP1, hD1⟩ := hB9
  rw [ht9] at hP1
  have hP1 : va_P D vwCl [(ho, .inr (3, [.ref hh, .int sz])), (hh, .inl (cI, 600, .inl f))] H1 := hP1
  obtain ⟨hP, hD⟩ := va_join (wr := [(hrd, .inr (0, [.ref ho, .int va, .int rg, .int sh, .int nx]))]) (w1 := [(ho, .inr (3, [.ref hh, .int sz])), (hh, .inl (cI, 600, .inl f))]) hP hD [1, 2] [0] rfl rfl (by decide) (by decide) hk9 hFc hP1 hD1
  have hP := hP.sub (ws' := [(hrd, .inr (0, [.ref ho, .int va, .int rg, .int sh, .int nx])), (ho, .inr (3, [.ref hh, .int sz])), (hh, .inl (cI, 600, .inl f))]) [0, 1, 2] rfl
  have hD := hD.sub (ws' := [(hrd, .inr (0, [.ref ho, .int va, .int rg, .int sh, .int nx])), (ho, .inr (3, [.ref hh, .int sz])), (hh, .inl (cI, 600, .inl f))]) [0, 1, 2] (by decide) rfl
  generalize H1 = H at hP hS ⊢
  have q6_0 : r6 = if 0 ≤ (0 : Int32).toInt ∧ (0 : Int32).toInt < sz.toInt then f (0 : Int32).toNatClampNeg else 0 := hw9
  refine lv_bipush (v := 8) hx hb dX0_start_9 (by decide) ?_
  refine lv_ishl hx hb dX0_start_11 ?_
  refine lv_topi (fun v11 e11 => ?_)
  refine lv_aload_n hx hb dX0_start_12 rfl (lv_at hl 0 rfl) ?_
  refine va_get (D := D) (ci := 0) (v := .ref ho) (C := RX0) (T := TX0) (N := 5) hx hb hts in_X0 hown hK.1 hP 0 rfl rfl 0 (by decide) (hts _ mk_2) (fun _ h9 => h9) rfl dX0_start_13 ?_
  refine lv_iconst (v := 1) hx hb dX0_start_16 (by decide) ?_
  have hPc := hP.sub (ws' := [(ho, .inr (3, [.ref hh, .int sz])), (hh, .inl (cI, 600, .inl f))]) [1, 2] rfl
  have hDc := hD.sub (ws' := [(ho, .inr (3, [.ref hh, .int sz])), (hh, .inl (cI, 600, .inl f))]) [1, 2] (by decide) rfl
  have hFc := va_free (wc := [(ho, .inr (3, [.ref hh, .int sz])), (hh, .inl (cI, 600, .inl f))]) hD hS hA [1, 2] rfl
  refine va_calli (va_runV (As := [.int 1]) (rest := [.int v11, .ref hrd]) ⟨hx, hb, hml, hown, hts⟩ (c_X3_at l D cI cJ cZ ho hh sz f 1 bsz (H).size) (cwV 1 hts (kg_V mk_3 mk_4 mk_5 mk_6 mk_7) rfl rfl rfl (by decide +kernel) ⟨Nat.le_of_ble_eq_true rfl, Nat.le_of_ble_eq_true rfl⟩) ⟨fun a U g mk q => by obtain ⟨q0, q1, qP, qK, qD⟩ := q; exact ⟨q0, q1, qP, kK.call qK, qD⟩, va_recv hK.1 hPc (ci := 3) (q0 := 0) rfl rfl, fun U hU hW => ⟨rfl, by rw [hU], by rw [hU]; exact hPc, kK.warm hW hK, hDc.weaken (fun _ _ _ _ => trivial)⟩⟩ rfl rfl hl.1 rfl (lv_room (Nat.le_of_ble_eq_true rfl)) dX0_start_17 ⟨Nat.zero_le _, Nat.zero_le _⟩) hS (fun q _ h => hFc q h) hFc (fun r17 u t9 H1 locs ht9 hvm9 hw9 hB9 hz9 hk9 hS => ?_)
  obtain ⟨hP1, hD1⟩ := hB9
  rw [ht9] at hP1
  have hP1 : va_P D vwCl [(ho, .inr (3, [.ref hh, .int sz])), (hh, .inl (cI, 600, .inl f))] H1 := hP1
  obtain ⟨hP, hD⟩ := va_join (wr := [(hrd, .inr (0, [.ref ho, .int va, .int rg, .int sh, .int nx]))]) (w1 := [(ho, .inr (3, [.ref hh, .int sz])), (hh, .inl (cI, 600, .inl f))]) hP hD [1, 2] [0] rfl rfl (by decide) (by decide) hk9 hFc hP1 hD1
  have hP := hP.sub (ws' := [(hrd, .inr (0, [.ref ho, .int va, .int rg, .int sh, .int nx])), (ho, .inr (3, [.ref hh, .int sz])), (hh, .inl (cI, 600, .inl f))]) [0, 1, 2] rfl
  have hD := hD.sub (ws' := [(hrd, .inr (0, [.ref ho, .int va, .int rg, .int sh, .int nx])), (ho, .inr (3, [.ref hh, .int sz])), (hh, .inl (cI, 600, .inl f))]) [0, 1, 2] (by decide) rfl
  generalize H1 = H at hP hS ⊢
  have q17_0 : r17 = if 0 ≤ (1 : Int32).toInt ∧ (1 : Int32).toInt < sz.toInt then f (1 : Int32).toNatClampNeg else 0 := hw9
  refine lv_iadd hx hb dX0_start_20 ?_
  refine lv_topi (fun v20 e20 => ?_)
  refine va_put (D := D) (ci := 0) (v := .int v20) (ty := .int) (C := RX0) (T := TX0) (N := 5) hx hb hts in_X0 tyX0 tyX0_ok nmX0 hown hK.1 hP hD hS 0 rfl rfl 1 (by decide) (hts _ mk_8) (fun _ h9 => h9) rfl (by decide +kernel) rfl rfl (Nat.le_of_ble_eq_true rfl) dX0_start_21 (fun H locs hP hD hS => ?_)
  have hP : va_P D vwCl [(hrd, .inr (0, [.ref ho, .int v20, .int rg, .int sh, .int nx])), (ho, .inr (3, [.ref hh, .int sz])), (hh, .inl (cI, 600, .inl f))] H := hP
  have hD : va_D A [(hrd, .inr (0, [.ref ho, .int v20, .int rg, .int sh, .int nx])), (ho, .inr (3, [.ref hh, .int sz])), (hh, .inl (cI, 600, .inl f))] := hD
  refine lv_aload_n hx hb dX0_start_24 rfl (lv_at hl 0 rfl) ?_
  refine lv_sipush (v := 255) hx hb dX0_start_25 (by decide) ?_
  refine va_put (D := D) (ci := 0) (v := .int 255) (ty := .int) (C := RX0) (T := TX0) (N := 5) hx hb hts in_X0 tyX0 tyX0_ok nmX0 hown hK.1 hP hD hS 0 rfl rfl 2 (by decide) (hts _ mk_9) (fun _ h9 => h9) rfl (by decide +kernel) rfl rfl (Nat.le_of_ble_eq_true rfl) dX0_start_28 (fun H locs hP hD hS => ?_)
  have hP : va_P D vwCl [(hrd, .inr (0, [.ref ho, .int v20, .int 255, .int sh, .int nx])), (ho, .inr (3, [.ref hh, .int sz])), (hh, .inl (cI, 600, .inl f))] H := hP
  have hD : va_D A [(hrd, .inr (0, [.ref ho, .int v20, .int 255, .int sh, .int nx])), (ho, .inr (3, [.ref hh, .int sz])), (hh, .inl (cI, 600, .inl f))] := hD
  refine lv_aload_n hx hb dX0_start_31 rfl (lv_at hl 0 rfl) ?_
  refine lv_iconst (v := 0) hx hb dX0_start_32 (by decide) ?_
  refine va_put (D := D) (ci := 0) (v := .int 0) (ty := .int) (C := RX0) (T := TX0) (N := 5) hx hb hts in_X0 tyX0 tyX0_ok nmX0 hown hK.1 hP hD hS 0 rfl rfl 3 (by decide) (hts _ mk_10) (fun _ h9 => h9) rfl (by decide +kernel) rfl rfl (Nat.le_of_ble_eq_true rfl) dX0_start_33 (fun H locs hP hD hS => ?_)
  have hP : va_P D vwCl [(hrd, .inr (0, [.ref ho, .int v20, .int 255, .int 0, .int nx])), (ho, .inr (3, [.ref hh, .int sz])), (hh, .inl (cI, 600, .inl f))] H := hP
  have hD : va_D A [(hrd, .inr (0, [.ref ho, .int v20, .int 255, .int 0, .int nx])), (ho, .inr (3, [.ref hh, .int sz])), (hh, .inl (cI, 600, .inl f))] := hD
  refine lv_aload_n hx hb dX0_start_36 rfl (lv_at hl 0 rfl) ?_
  refine lv_iconst (v := 2) hx hb dX0_start_37 (by decide) ?_
  refine va_put (D := D) (ci := 0) (v := .int 2) (ty := .int) (C := RX0) (T := TX0) (N := 5) hx hb hts in_X0 tyX0 tyX0_ok nmX0 hown hK.1 hP hD hS 0 rfl rfl 4 (by decide) (hts _ mk_11) (fun _ h9 => h9) rfl (by decide +kernel) rfl rfl (Nat.le_of_ble_eq_true rfl) dX0_start_38 (fun H locs hP hD hS => ?_)
  have hP : va_P D vwCl [(hrd, .inr (0, [.ref ho, .int v20, .int 255, .int 0, .int 2])), (ho, .inr (3, [.ref hh, .int sz])), (hh, .inl (cI, 600, .inl f))] H := hP
  have hD : va_D A [(hrd, .inr (0, [.ref ho, .int v20, .int 255, .int 0, .int 2])), (ho, .inr (3, [.ref hh, .int sz])), (hh, .inl (cI, 600, .inl f))] := hD
  have pf_x : v20 = ((if 0 ≤ (0 : Int32).toInt ∧ (0 : Int32).toInt < sz.toInt then f (0 : Int32).toNatClampNeg else 0) <<< ((8 : Int32) &&& 31)) + (if 0 ≤ (1 : Int32).toInt ∧ (1 : Int32).toInt < sz.toInt then f (1 : Int32).toNatClampNeg else 0) := (by rw [e20, e11, q6_0, q17_0])
  exact W.vret hx hb hr (fun t9 ht9 hW9 => ⟨⟨v20, rfl, pf_x, by rw [ht9]; exact hP, hD⟩, hS.F ht9⟩) hS.2.2 dX0_start_41
abbrev kw_X0_readBit : List Cond := Cond.code yX0_readBit cX0_readBit 5 (some .int) :: kW
set_option maxHeartbeats 4000000 in
set_option maxRecDepth 100000 in
theorem lp_X0_readBit_65 {p : Program} {l : Launch} {e : Env} {s : State} {m : MethodId} {args : Array Value} {below : List Frame} {meth : Method} {c : Code} {A : Nat → Prop} (D : va_G) (cI cJ cZ : ClassId) (hrd ho hh : Nat) (va : Int32) (rg : Int32) (sh : Int32) (nx : Int32) (sz : Int32) (f : Nat → Int32) (pp : Int32) (brg : kB rg 128 255) (bsh : kB sh 0 7) (bp : kB pp 0 255) (bsz : kB sz 0 600) (hx : p.tables.exec = Jvm.exec) (hb : c.code = cX0_readBit) (hr : meth.sig.returnType = (some .int)) (hml : c.maxLocals = 5) (hown : s.vm.findClass RX0 = some m.cls) (hts : ∀ w ∈ kW, w.before args s = true) (hlocks : meth.locks = false) (hK : kK D cI cJ cZ s) (hA : ∀ q : Nat, s.heap.size ≤ q → A q) : ∀ n : Nat, ∀ (x3 : Int32) (x4 : Int32) (va2 : Int32) (rg2 : Int32) (sh2 : Int32) (nx2 : Int32), (7 - x4.toInt).toNat < n → (kB x3 0 1) → (kB x4 0 7) → (kB rg2 1 255) → (kB sh2 0 7) → (pw2 x4.toInt ≤ rg2.toInt) → (kIf (pp.toInt = 128 ∧ 0 ≤ va.toInt ∧ va.toInt ≤ 2000000 ∧ sh.toInt ≤ 6) (rL va.toInt rg.toInt sh.toInt x4.toInt x3.toInt va2.toInt rg2.toInt sh2.toInt)) → ∀ (H : Heap) (locs : List Loc) (ls : Array Slot), va_P D vwCl [(hrd, .inr (0, [.ref ho, .int va2, .int rg2, .int sh2, .int nx2])), (ho, .inr (3, [.ref hh, .int sz])), (hh, .inl (cI, 600, .inl f))] H → va_D A [(hrd, .inr (0, [.ref ho, .int va2, .int rg2, .int sh2, .int nx2])), (ho, .inr (3, [.ref hh, .int sz])), (hh, .inl (cI, 600, .inl f))] → va_S A s.heap H locs → lv_has ls 5 [(0, .ref hrd), (3, .int x3), (4, .int x4)] → W p l e (headSpec kw_X0_readBit ({ frames := 1, cells := 0, slots := 0, locals := 24 })).room s m args below meth c H locs 0 0 (MQ below (va_Qi (fun (r : Int32) (u : Int32 × Int32 × Int32 × Int32) => (kB r 0 1) ∧ (kB u.2.1 128 255) ∧ (kB u.2.2.1 0 7) ∧ (kIf (pp.toInt = 128 ∧ 0 ≤ va.toInt ∧ va.toInt ≤ 2000000 ∧ sh.toInt ≤ 6) (r.toInt = rBt va.toInt rg.toInt ∧ (u.1.toInt, u.2.1.toInt, u.2.2.1.toInt) = rNx va.toInt rg.toInt sh.toInt))) (fun (u : Int32 × Int32 × Int32 × Int32) (t : State) => va_P D vwCl [(hrd, .inr (0, [.ref ho, .int u.1, .int u.2.1, .int u.2.2.1, .int u.2.2.2])), (ho, .inr (3, [.ref hh, .int sz])), (hh, .inl (cI, 600, .inl f))] t.heap ∧ va_D A [(hrd, .inr (0, [.ref ho, .int u.1, .int u.2.1, .int u.2.2.1, .int u.2.2.2])), (ho, .inr (3, [.ref hh, .int sz])), (hh, .inl (cI, 600, .inl f))]) A) args s 0 0 A) (F0 m 65 ls []) := by
  intro n
  induction n with
  | zero => intro x3 x4 va2 rg2 sh2 nx2 hmeas; exact absurd hmeas (Nat.not_lt_zero _)
  | succ n ih =>
    intro x3 x4 va2 rg2 sh2 nx2 hmeas b3 b4 brg2 bsh2 pw hex H locs ls hP hD hS hl
    refine lv_iload hx hb dX0_readBit_65 (lv_at hl 2 rfl) ?_
    refine lv_bipush (v := 7) hx hb dX0_readBit_67 (by decide) ?_
    refine lv_icmp_ge (tgt := 167) hx hb dX0_readBit_69 (by decide) (fun c69 => ?_) (fun c69 => ?_)
    · have c69y : kB x4 7 7 := kB_le_r kc_7 b4 c69 (by decide)
      have K69 : pw2 x4.toInt = 128 := by rw [show x4.toInt = 7 by have := c69y.1; have := b4.2; omega]; decide
      have B69 : kB rg2 128 255 := ⟨by omega, brg2.2⟩
      refine lv_iload_n hx hb dX0_readBit_167 rfl (lv_at hl 1 rfl) ?_
      have pf_ex : kIf (pp.toInt = 128 ∧ 0 ≤ va.toInt ∧ va.toInt ≤ 2000000 ∧ sh.toInt ≤ 6) (x3.toInt = rBt va.toInt rg.toInt ∧ (va2.toInt, rg2.toInt, sh2.toInt) = rNx va.toInt rg.toInt sh.toInt) := (fun h9 => ⟨(hex h9).1, rL_e (hex h9) (by first | exact Or.inl c79y.1 | exact Or.inr (by have := c69y.1; omega))⟩)
      exact W.iret (v := x3) hx hb hr (fun t9 ht9 hW9 => ⟨⟨x3, (va2, rg2, sh2, nx2), rfl, ⟨b3, B69, bsh2, pf_ex⟩, by rw [ht9]; exact hP, hD⟩, hS.F ht9⟩) hS.2.2 dX0_readBit_168
    · have c69n : x4 < 7 := kN_le c69
      have c69nx : kB x4 0 6 := kB_lt_l b4 kc_7 c69n (by decide)
      refine lv_aload_n hx hb dX0_readBit_72 rfl (lv_at hl 0 rfl) ?_
      refine va_get (D := D) (ci := 0) (v := .int rg2) (C := RX0) (T := TX0) (N := 5) hx hb hts in_X0 hown hK.1 hP 0 rfl rfl 2 (by decide) (hts _ mk_9) (fun _ h9 => h9) rfl dX0_readBit_73 ?_
      refine lv_sipush (v := 128) hx hb dX0_readBit_76 (by decide) ?_
      refine lv_icmp_ge (tgt := 167) hx hb dX0_readBit_79 (by decide) (fun c79 => ?_) (fun c79 => ?_)
      · have c79y : kB rg2 128 255 := kB_le_r kc_128 brg2 c79 (by decide)
        refine lv_iload_n hx hb dX0_readBit_167 rfl (lv_at hl 1 rfl) ?_
        have pf_ex : kIf (pp.toInt = 128 ∧ 0 ≤ va.toInt ∧ va.toInt ≤ 2000000 ∧ sh.toInt ≤ 6) (x3.toInt = rBt va.toInt rg.toInt ∧ (va2.toInt, rg2.toInt, sh2.toInt) = rNx va.toInt rg.toInt sh.toInt) := (fun h9 => ⟨(hex h9).1, rL_e (hex h9) (by first | exact Or.inl c79y.1 | exact Or.inr (by have := c69y.1; omega))⟩)
        exact W.iret (v := x3) hx hb hr (fun t9 ht9 hW9 => ⟨⟨x3, (va2, rg2, sh2, nx2), rfl, ⟨b3, c79y, bsh2, pf_ex⟩, by rw [ht9]; exact hP, hD⟩, hS.F ht9⟩) hS.2.2 dX0_readBit_168
      · have c79n : rg2 < 128 := kN_le c79
        have c79nx : kB rg2 1 127 := kB_lt_l brg2 kc_128 c79n (by decide)
        refine lv_aload_n hx hb dX0_readBit_82 rfl (lv_at hl 0 rfl) ?_
        refine lv_dup hx hb dX0_readBit_83 rfl ?_
        refine va_get (D := D) (ci := 0) (v := .int rg2) (C := RX0) (T := TX0) (N := 5) hx hb hts in_X0 hown hK.1 hP 0 rfl rfl 2 (by decide) (hts _ mk_9) (fun _ h9 => h9) rfl dX0_readBit_84 ?_
        refine lv_iconst (v := 1) hx hb dX0_readBit_87 (by decide) ?_
        refine lv_ishl hx hb dX0_readBit_88 ?_
        refine lv_topi (fun v88 e88 => ?_)
        have b88 : kB v88 2 254 := kB_eq e88 (kB_shl 1 (by decide) c79nx (by decide))
        have K88 : v88.toInt = 2 * rg2.toInt := by rw [e88]; exact kdbl (kB_w brg2 (by decide) (by decide))
        refine va_put (D := D) (ci := 0) (v := .int v88) (ty := .int) (C := RX0) (T := TX0) (N := 5) hx hb hts in_X0 tyX0 tyX0_ok nmX0 hown hK.1 hP hD hS 0 rfl rfl 2 (by decide) (hts _ mk_9) (fun _ h9 => h9) rfl (by decide +kernel) rfl rfl (Nat.le_of_ble_eq_true rfl) dX0_readBit_89 (fun H locs hP hD hS => ?_)
        have hP : va_P D vwCl [(hrd, .inr (0, [.ref ho, .int va2, .int v88, .int sh2, .int nx2])), (ho, .inr (3, [.ref hh, .int sz])), (hh, .inl (cI, 600, .inl f))] H := hP
        have hD : va_D A [(hrd, .inr (0, [.ref ho, .int va2, .int v88, .int sh2, .int nx2])), (ho, .inr (3, [.ref hh, .int sz])), (hh, .inl (cI, 600, .inl f))] := hD
        refine lv_aload_n hx hb dX0_readBit_92 rfl (lv_at hl 0 rfl) ?_
        refine lv_aload_n hx hb dX0_readBit_93 rfl (lv_at hl 0 rfl) ?_
        refine va_get (D := D) (ci := 0) (v := .int va2) (C := RX0) (T := TX0) (N := 5) hx hb hts in_X0 hown hK.1 hP 0 rfl rfl 1 (by decide) (hts _ mk_8) (fun _ h9 => h9) rfl dX0_readBit_94 ?_
        refine lv_iconst (v := 1) hx hb dX0_readBit_97 (by decide) ?_
        refine lv_ishl hx hb dX0_readBit_98 ?_
        refine lv_topi (fun v98 e98 => ?_)
        have e98v := e98
        refine lv_ldc (v := 16777216) hx hb hown (hts _ mk_15) dX0_readBit_99 ?_
        refine va_mmin hx hb (by rw [hml]; exact hl.1.symm) hown (hts _ mk_16) (hts _ mk_17) (hts _ mk_18) (hts _ mk_19) (Nat.le_of_ble_eq_true rfl) (Nat.le_of_ble_eq_true rfl) (Nat.zero_le _) (Nat.zero_le _) dX0_readBit_101 ?_
        refine lv_topi (fun v101 e101 => ?_)
        have ka101 := kB_all v98
        have b101 : kB v101 (-2147483648) 16777216 := kB_eq e101 (kB_min ka101 kc_16777216 (by decide))
        refine va_put (D := D) (ci := 0) (v := .int v101) (ty := .int) (C := RX0) (T := TX0) (N := 5) hx hb hts in_X0 tyX0 tyX0_ok nmX0 hown hK.1 hP hD hS 0 rfl rfl 1 (by decide) (hts _ mk_8) (fun _ h9 => h9) rfl (by decide +kernel) rfl rfl (Nat.le_of_ble_eq_true rfl) dX0_readBit_104 (fun H locs hP hD hS => ?_)
        have hP : va_P D vwCl [(hrd, .inr (0, [.ref ho, .int v101, .int v88, .int sh2, .int nx2])), (ho, .inr (3, [.ref hh, .int sz])), (hh, .inl (cI, 600, .inl f))] H := hP
        have hD : va_D A [(hrd, .inr (0, [.ref ho, .int v101, .int v88, .int sh2, .int nx2])), (ho, .inr (3, [.ref hh, .int sz])), (hh, .inl (cI, 600, .inl f))] := hD
        refine lv_aload_n hx hb dX0_readBit_107 rfl (lv_at hl 0 rfl) ?_
        refine lv_dup hx hb dX0_readBit_108 rfl ?_
        refine va_get (D := D) (ci := 0) (v := .int sh2) (C := RX0) (T := TX0) (N := 5) hx hb hts in_X0 hown hK.1 hP 0 rfl rfl 3 (by decide) (hts _ mk_10) (fun _ h9 => h9) rfl dX0_readBit_109 ?_
        refine lv_iconst (v := 1) hx hb dX0_readBit_112 (by decide) ?_
        refine lv_iadd hx hb dX0_readBit_113 ?_
        refine lv_topi (fun v113 e113 => ?_)
        have b113 : kB v113 1 8 := kB_eq e113 (kB_add bsh2 kc_1 (by decide))
        refine va_put (D := D) (ci := 0) (v := .int v113) (ty := .int) (C := RX0) (T := TX0) (N := 5) hx hb hts in_X0 tyX0 tyX0_ok nmX0 hown hK.1 hP hD hS 0 rfl rfl 3 (by decide) (hts _ mk_10) (fun _ h9 => h9) rfl (by decide +kernel) rfl rfl (Nat.le_of_ble_eq_true rfl) dX0_readBit_114 (fun H locs hP hD hS => ?_)
        have hP : va_P D vwCl [(hrd, .inr (0, [.ref ho, .int v101, .int v88, .int v113, .int nx2])), (ho, .inr (3, [.ref hh, .int sz])), (hh, .inl (cI, 600, .inl f))] H := hP
        have hD : va_D A [(hrd, .inr (0, [.ref ho, .int v101, .int v88, .int v113, .int nx2])), (ho, .inr (3, [.ref hh, .int sz])), (hh, .inl (cI, 600, .inl f))] := hD
        have V113 : v113.toInt = sh2.toInt + 1 := by rw [e113]; exact kinc (kB_w bsh2 (by decide) (by decide))
        have R88 : rg2.toInt < 128 := by have := c79nx.2; omega
        have VX : pp.toInt = 128 ∧ 0 ≤ va.toInt ∧ va.toInt ≤ 2000000 ∧ sh.toInt ≤ 6 → 0 ≤ va2.toInt ∧ va2.toInt ≤ 2000000 ∧ sh2.toInt ≤ 6 ∧ v101.toInt = 2 * va2.toInt := fun h9 => by have h8 := rL_v (hex h9) R88 brg.1 h9.2.1; have e98 := kdbl (x := va2) ⟨h8.1, by omega⟩; refine ⟨h8.1, by omega, by omega, ?_⟩; rw [e101, kmin_r (by rw [e98v, e98, show (16777216 : Int32).toInt = 16777216 from by decide]; omega), e98v, e98]
        refine lv_aload_n hx hb dX0_readBit_117 rfl (lv_at hl 0 rfl) ?_
        refine va_get (D := D) (ci := 0) (v := .int v113) (C := RX0) (T := TX0) (N := 5) hx hb hts in_X0 hown hK.1 hP 0 rfl rfl 3 (by decide) (hts _ mk_10) (fun _ h9 => h9) rfl dX0_readBit_118 ?_
        refine lv_bipush (v := 8) hx hb dX0_readBit_121 (by decide) ?_
        refine lv_icmp_ne (tgt := 161) hx hb dX0_readBit_123 (by decide) (fun c123 => ?_) (fun c123 => ?_)
        · have c123x : kB v113 1 7 := kB_nhi b113 c123 kc_8 (by decide)
          obtain ⟨v161, e161⟩ : ∃ y : Int32, y = x4 + 1 := ⟨_, rfl⟩
          refine lv_iinc (v := v161) (lv' := [(4, .int v161), (0, .ref hrd), (3, .int x3)]) hx hb dX0_readBit_161 hl (k := 2) rfl (by rw [e161]; rfl) (by decide) rfl (fun ls hl => ?_)
          have b161 : kB v161 1 7 := kB_eq e161 (kB_add c69nx kc_1 (by decide))
          have t161 : v161.toInt = x4.toInt + 1 := by rw [e161]; exact kinc (kB_w c69nx (by decide) (by decide))
          have K161 : v161.toInt = x4.toInt + 1 := by rw [e161]; exact kinc (kB_w b4 (by decide) (by decide))
          refine lv_goto (tgt := 65) hx hb dX0_readBit_164 (by decide) ?_
          exact ih x3 v161 v101 v88 v113 nx2 (by rw [K161]; have := c69nx.2; omega) b3 (kB_w b161 (by decide) (by decide)) (kB_w b88 (by decide) (by decide)) (kB_w c123x (by decide) (by decide)) (by rw [K161, pw2_s b4.1, K88]; omega) (fun h9 => by have h8 := VX h9; first | (exact rL_s (hex h9) R88 brg.1 brg.2 h8.2.2.2 K88 V113) | (exfalso; have h7 : v113.toInt = 8 := (by rw [c123]; first | done | decide); omega)) _ _ ls hP hD hS (lv_sub hl [1, 2, 0] rfl)
        · have c123x : kB v113 8 8 := kB_eq c123 kc_8
          refine lv_aload_n hx hb dX0_readBit_126 rfl (lv_at hl 0 rfl) ?_
          refine lv_iconst (v := 0) hx hb dX0_readBit_127 (by decide) ?_
          refine va_put (D := D) (ci := 0) (v := .int 0) (ty := .int) (C := RX0) (T := TX0) (N := 5) hx hb hts in_X0 tyX0 tyX0_ok nmX0 hown hK.1 hP hD hS 0 rfl rfl 3 (by decide) (hts _ mk_10) (fun _ h9 => h9) rfl (by decide +kernel) rfl rfl (Nat.le_of_ble_eq_true rfl) dX0_readBit_128 (fun H locs hP hD hS => ?_)
          have hP : va_P D vwCl [(hrd, .inr (0, [.ref ho, .int v101, .int v88, .int 0, .int nx2])), (ho, .inr (3, [.ref hh, .int sz])), (hh, .inl (cI, 600, .inl f))] H := hP
          have hD : va_D A [(hrd, .inr (0, [.ref ho, .int v101, .int v88, .int 0, .int nx2])), (ho, .inr (3, [.ref hh, .int sz])), (hh, .inl (cI, 600, .inl f))] := hD
          refine lv_aload_n hx hb dX0_readBit_131 rfl (lv_at hl 0 rfl) ?_
          refine lv_dup hx hb dX0_readBit_132 rfl ?_
          refine va_get (D := D) (ci := 0) (v := .int v101) (C := RX0) (T := TX0) (N := 5) hx hb hts in_X0 hown hK.1 hP 0 rfl rfl 1 (by decide) (hts _ mk_8) (fun _ h9 => h9) rfl dX0_readBit_133 ?_
          refine lv_aload_n hx hb dX0_readBit_136 rfl (lv_at hl 0 rfl) ?_
          refine va_get (D := D) (ci := 0) (v := .ref ho) (C := RX0) (T := TX0) (N := 5) hx hb hts in_X0 hown hK.1 hP 0 rfl rfl 0 (by decide) (hts _ mk_2) (fun _ h9 => h9) rfl dX0_readBit_137 ?_
          refine lv_aload_n hx hb dX0_readBit_140 rfl (lv_at hl 0 rfl) ?_
          refine va_get (D := D) (ci := 0) (v := .int nx2) (C := RX0) (T := TX0) (N := 5) hx hb hts in_X0 hown hK.1 hP 0 rfl rfl 4 (by decide) (hts _ mk_11) (fun _ h9 => h9) rfl dX0_readBit_141 ?_
          have hPc := hP.sub (ws' := [(ho, .inr (3, [.ref hh, .int sz])), (hh, .inl (cI, 600, .inl f))]) [1, 2] rfl
          have hDc := hD.sub (ws' := [(ho, .inr (3, [.ref hh, .int sz])), (hh, .inl (cI, 600, .inl f))]) [1, 2] (by decide) rfl
          have hFc := va_free (wc := [(ho, .inr (3, [.ref hh, .int sz])), (hh, .inl (cI, 600, .inl f))]) hD hS hA [1, 2] rfl
          refine va_calli (va_runV (As := [.int nx2]) (rest := [.int v101, .ref hrd]) ⟨hx, hb, hml, hown, hts⟩ (c_X3_at l D cI cJ cZ ho hh sz f nx2 bsz (H).size) (cwV 1 hts (kg_V mk_3 mk_4 mk_5 mk_6 mk_7) rfl rfl rfl (by decide +kernel) ⟨Nat.le_of_ble_eq_true rfl, Nat.le_of_ble_eq_true rfl⟩) ⟨fun a U g mk q => by obtain ⟨q0, q1, qP, qK, qD⟩ := q; exact ⟨q0, q1, qP, kK.call qK, qD⟩, va_recv hK.1 hPc (ci := 3) (q0 := 0) rfl rfl, fun U hU hW => ⟨rfl, by rw [hU], by rw [hU]; exact hPc, kK.warm hW hK, hDc.weaken (fun _ _ _ _ => trivial)⟩⟩ rfl rfl hl.1 rfl (lv_room (Nat.le_of_ble_eq_true rfl)) dX0_readBit_144 ⟨Nat.zero_le _, Nat.zero_le _⟩) hS (fun q _ h => hFc q h) hFc (fun r144 u t9 H1 locs ht9 hvm9 hw9 hB9 hz9 hk9 hS => ?_)
          obtain ⟨hP1, hD1⟩ := hB9
          rw [ht9] at hP1
          have hP1 : va_P D vwCl [(ho, .inr (3, [.ref hh, .int sz])), (hh, .inl (cI, 600, .inl f))] H1 := hP1
          obtain ⟨hP, hD⟩ := va_join (wr := [(hrd, .inr (0, [.ref ho, .int v101, .int v88, .int 0, .int nx2]))]) (w1 := [(ho, .inr (3, [.ref hh, .int sz])), (hh, .inl (cI, 600, .inl f))]) hP hD [1, 2] [0] rfl rfl (by decide) (by decide) hk9 hFc hP1 hD1
          have hP := hP.sub (ws' := [(hrd, .inr (0, [.ref ho, .int v101, .int v88, .int 0, .int nx2])), (ho, .inr (3, [.ref hh, .int sz])), (hh, .inl (cI, 600, .inl f))]) [0, 1, 2] rfl
          have hD := hD.sub (ws' := [(hrd, .inr (0, [.ref ho, .int v101, .int v88, .int 0, .int nx2])), (ho, .inr (3, [.ref hh, .int sz])), (hh, .inl (cI, 600, .inl f))]) [0, 1, 2] (by decide) rfl
          generalize H1 = H at hP hS ⊢
          have q144_0 : r144 = if 0 ≤ nx2.toInt ∧ nx2.toInt < sz.toInt then f nx2.toNatClampNeg else 0 := hw9
          refine lv_iadd hx hb dX0_readBit_147 ?_
          refine lv_topi (fun v147 e147 => ?_)
          refine va_put (D := D) (ci := 0) (v := .int v147) (ty := .int) (C := RX0) (T := TX0) (N := 5) hx hb hts in_X0 tyX0 tyX0_ok nmX0 hown hK.1 hP hD hS 0 rfl rfl 1 (by decide) (hts _ mk_8) (fun _ h9 => h9) rfl (by decide +kernel) rfl rfl (Nat.le_of_ble_eq_true rfl) dX0_readBit_148 (fun H locs hP hD hS => ?_)
          have hP : va_P D vwCl [(hrd, .inr (0, [.ref ho, .int v147, .int v88, .int 0, .int nx2])), (ho, .inr (3, [.ref hh, .int sz])), (hh, .inl (cI, 600, .inl f))] H := hP
          have hD : va_D A [(hrd, .inr (0, [.ref ho, .int v147, .int v88, .int 0, .int nx2])), (ho, .inr (3, [.ref hh, .int sz])), (hh, .inl (cI, 600, .inl f))] := hD
          refine lv_aload_n hx hb dX0_readBit_151 rfl (lv_at hl 0 rfl) ?_
          refine lv_dup hx hb dX0_readBit_152 rfl ?_
          refine va_get (D := D) (ci := 0) (v := .int nx2) (C := RX0) (T := TX0) (N := 5) hx hb hts in_X0 hown hK.1 hP 0 rfl rfl 4 (by decide) (hts _ mk_11) (fun _ h9 => h9) rfl dX0_readBit_153 ?_
          refine lv_iconst (v := 1) hx hb dX0_readBit_156 (by decide) ?_
          refine lv_iadd hx hb dX0_readBit_157 ?_
          refine lv_topi (fun v157 e157 => ?_)
          refine va_put (D := D) (ci := 0) (v := .int v157) (ty := .int) (C := RX0) (T := TX0) (N := 5) hx hb hts in_X0 tyX0 tyX0_ok nmX0 hown hK.1 hP hD hS 0 rfl rfl 4 (by decide) (hts _ mk_11) (fun _ h9 => h9) rfl (by decide +kernel) rfl rfl (Nat.le_of_ble_eq_true rfl) dX0_readBit_158 (fun H locs hP hD hS => ?_)
          have hP : va_P D vwCl [(hrd, .inr (0, [.ref ho, .int v147, .int v88, .int 0, .int v157])), (ho, .inr (3, [.ref hh, .int sz])), (hh, .inl (cI, 600, .inl f))] H := hP
          have hD : va_D A [(hrd, .inr (0, [.ref ho, .int v147, .int v88, .int 0, .int v157])), (ho, .inr (3, [.ref hh, .int sz])), (hh, .inl (cI, 600, .inl f))] := hD
          obtain ⟨v161, e161⟩ : ∃ y : Int32, y = x4 + 1 := ⟨_, rfl⟩
          refine lv_iinc (v := v161) (lv' := [(4, .int v161), (0, .ref hrd), (3, .int x3)]) hx hb dX0_readBit_161 hl (k := 2) rfl (by rw [e161]; rfl) (by decide) rfl (fun ls hl => ?_)
          have b161 : kB v161 1 7 := kB_eq e161 (kB_add c69nx kc_1 (by decide))
          have t161 : v161.toInt = x4.toInt + 1 := by rw [e161]; exact kinc (kB_w c69nx (by decide) (by decide))
          have K161 : v161.toInt = x4.toInt + 1 := by rw [e161]; exact kinc (kB_w b4 (by decide) (by decide))
          refine lv_goto (tgt := 65) hx hb dX0_readBit_164 (by decide) ?_
          exact ih x3 v161 v147 v88 0 v157 (by rw [K161]; have := c69nx.2; omega) b3 (kB_w b161 (by decide) (by decide)) (kB_w b88 (by decide) (by decide)) (kB_w kc_0 (by decide) (by decide)) (by rw [K161, pw2_s b4.1, K88]; omega) (fun h9 => by have h8 := VX h9; first | (exact rL_s (hex h9) R88 brg.1 brg.2 h8.2.2.2 K88 V113) | (exfalso; have h7 : v113.toInt = 8 := (by rw [c123]; first | done | decide); omega)) _ _ ls hP hD hS (lv_sub hl [1, 2, 0] rfl)
set_option maxHeartbeats 4000000 in
set_option maxRecDepth 100000 in
theorem c_X0_readBit (l : Launch) (D : va_G) (cI cJ cZ : ClassId) (hrd ho hh : Nat) (va : Int32) (rg : Int32) (sh : Int32) (nx : Int32) (sz : Int32) (f : Nat → Int32) (pp : Int32) (brg : kB rg 128 255) (bsh : kB sh 0 7) (bp : kB pp 0 255) (bsz : kB sz 0 600) (hpz : Nat) : Met l yX0_readBit kw_X0_readBit ({ frames := 1, cells := 0, slots := 0, locals := 24 }) (va_Pc [.ref hrd, .int pp] (fun U => U.heap.size = hpz ∧ va_P D vwCl [(hrd, .inr (0, [.ref ho, .int va, .int rg, .int sh, .int nx])), (ho, .inr (3, [.ref hh, .int sz])), (hh, .inl (cI, 600, .inl f))] U.heap ∧ kK D cI cJ cZ U ∧ va_D (fun _ => True) [(hrd, .inr (0, [.ref ho, .int va, .int rg, .int sh, .int nx])), (ho, .inr (3, [.ref hh, .int sz])), (hh, .inl (cI, 600, .inl f))])) (va_Qi (fun (r : Int32) (u : Int32 × Int32 × Int32 × Int32) => (kB r 0 1) ∧ (kB u.2.1 128 255) ∧ (kB u.2.2.1 0 7) ∧ (kIf (pp.toInt = 128 ∧ 0 ≤ va.toInt ∧ va.toInt ≤ 2000000 ∧ sh.toInt ≤ 6) (r.toInt = rBt va.toInt rg.toInt ∧ (u.1.toInt, u.2.1.toInt, u.2.2.1.toInt) = rNx va.toInt rg.toInt sh.toInt))) (fun (u : Int32 × Int32 × Int32 × Int32) (t : State) => va_P D vwCl [(hrd, .inr (0, [.ref ho, .int u.1, .int u.2.1, .int u.2.2.1, .int u.2.2.2])), (ho, .inr (3, [.ref hh, .int sz])), (hh, .inl (cI, 600, .inl f))] t.heap ∧ va_D (va_A [(hrd, .inr (0, [.ref ho, .int va, .int rg, .int sh, .int nx])), (ho, .inr (3, [.ref hh, .int sz])), (hh, .inl (cI, 600, .inl f))] hpz) [(hrd, .inr (0, [.ref ho, .int u.1, .int u.2.1, .int u.2.2.1, .int u.2.2.2])), (ho, .inr (3, [.ref hh, .int sz])), (hh, .inl (cI, 600, .inl f))]) (va_A [(hrd, .inr (0, [.ref ho, .int va, .int rg, .int sh, .int nx])), (ho, .inr (3, [.ref hh, .int sz])), (hh, .inl (cI, 600, .inl f))] hpz)) 0 0 (va_A [(hrd, .inr (0, [.ref ho, .int va, .int rg, .int sh, .int nx])), (ho, .inr (3, [.ref hh, .int sz])), (hh, .inl (cI, 600, .inl f))] hpz) := by
  refine Met.ofW (cc := cX0_readBit) (maxL := 5) (ret := (some .int)) (by decide) rfl ?_
  intro p e s m args below meth c s₁ B hml hv
  obtain ⟨rfl, hsz, hP, hK, hD0⟩ := hv
  have hx := B.exec
  have hb := B.bytes
  have hr := B.returns
  have hts := fun (w : Cond) (h : w ∈ kW) => atoms_spec (ws := kw_X0_readBit) B.pre w (List.mem_cons_of_mem _ h)
  have hown : s.vm.findClass RX0 = some m.cls := findClass_of_methodNamed B.named
  have hlocks := B.notSynchronized
  subst hsz
  have hD := hD0.self (sz := s.heap.size)
  generalize hAe : va_A [(hrd, .inr (0, [.ref ho, .int va, .int rg, .int sh, .int nx])), (ho, .inr (3, [.ref hh, .int sz])), (hh, .inl (cI, 600, .inl f))] s.heap.size = A at hD ⊢
  have hA : ∀ q : Nat, s.heap.size ≤ q → A q := fun q h => by rw [← hAe]; exact Or.inr h
  have hS : va_S A s.heap s.heap [] := va_S.rf
  have hP : va_P D vwCl [(hrd, .inr (0, [.ref ho, .int va, .int rg, .int sh, .int nx])), (ho, .inr (3, [.ref hh, .int sz])), (hh, .inl (cI, 600, .inl f))] s.heap := hP
  have hl := lv_entry ([.ref hrd, .int pp]) (n := 5) (Nat.le_of_ble_eq_true rfl)
  rw [lg_entry_eq]
  generalize (lg_sl ([.ref hrd, .int pp]) ++ List.replicate (5 - (lg_sl ([.ref hrd, .int pp])).length) Slot.unset).toArray = ls at hl ⊢
  have hl : lv_has ls 5 [(0, .ref hrd), (1, .int pp)] := hl
  refine lv_aload_n hx hb dX0_readBit_0 rfl (lv_at hl 0 rfl) ?_
  refine va_get (D := D) (ci := 0) (v := .int rg) (C := RX0) (T := TX0) (N := 5) hx hb hts in_X0 hown hK.1 hP 0 rfl rfl 2 (by decide) (hts _ mk_9) (fun _ h9 => h9) rfl dX0_readBit_1 ?_
  refine lv_iload_n hx hb dX0_readBit_4 rfl (lv_at hl 1 rfl) ?_
  have hPc := hP.sub (ws' := []) [] rfl
  have hDc := hD.sub (ws' := []) [] (by decide) rfl
  have hFc := va_free (wc := []) hD hS hA [] rfl
  refine va_calli (va_runSN (As := [.int rg, .int pp]) (rest := []) ⟨hx, hb, hml, hown, hts⟩ (c_X7_splitOf l D cI cJ cZ rg pp brg bp (s.heap).size) (⟨va_cnB 2 hts (kg_N mk_12) rfl rfl rfl (hK.2 (.methodLinkNest RX0 32 yX7_splitOf "KeyFrames") (by decide +kernel)) (hts _ mk_13) (by decide +kernel) ⟨Nat.le_of_ble_eq_true rfl, Nat.le_of_ble_eq_true rfl⟩, (hts _ mk_14), trivial⟩) ⟨fun a U g mk q => by obtain ⟨q0, q1, qP, qK, qD⟩ := q; exact ⟨q0, q1, qP, kK.call qK, qD⟩, fun U hU hW => ⟨rfl, by rw [hU], by rw [hU]; exact hPc, kK.warm hW hK, hDc.weaken (fun _ _ _ _ => trivial)⟩⟩ rfl rfl hl.1 rfl (lv_room (Nat.le_of_ble_eq_true rfl)) dX0_readBit_5 ⟨Nat.zero_le _, Nat.zero_le _⟩) hS (fun q _ h => hFc q h) hFc (fun r5 u t9 H1 locs ht9 hvm9 hw9 hB9 hz9 hk9 hS => ?_)
  obtain ⟨hP1, hD1⟩ := hB9
  rw [ht9] at hP1
  have hP1 : va_P D vwCl [] H1 := hP1
  obtain ⟨hP, hD⟩ := va_join (wr := [(hrd, .inr (0, [.ref ho, .int va, .int rg, .int sh, .int nx])), (ho, .inr (3, [.ref hh, .int sz])), (hh, .inl (cI, 600, .inl f))]) (w1 := []) hP hD [] [0, 1, 2] rfl rfl (by decide) (by decide) hk9 hFc hP1 hD1
  have hP := hP.sub (ws' := [(hrd, .inr (0, [.ref ho, .int va, .int rg, .int sh, .int nx])), (ho, .inr (3, [.ref hh, .int sz])), (hh, .inl (cI, 600, .inl f))]) [0, 1, 2] rfl
  have hD := hD.sub (ws' := [(hrd, .inr (0, [.ref ho, .int va, .int rg, .int sh, .int nx])), (ho, .inr (3, [.ref hh, .int sz])), (hh, .inl (cI, 600, .inl f))]) [0, 1, 2] (by decide) rfl
  generalize H1 = H at hP hS ⊢
  obtain ⟨q5_0, q5_1, q5_2⟩ := hw9
  have q5_0 : r5.toInt = 1 + (rg.toInt - 1) * pp.toInt / 256 := q5_0
  have q5_1 : r5.toInt < rg.toInt := q5_1
  have q5_2 : kB r5 1 254 := q5_2
  refine lv_istore_n (lv' := [(2, .int r5), (0, .ref hrd), (1, .int pp)]) hx hb dX0_readBit_8 rfl hl (by decide) rfl (fun ls hl => ?_)
  refine lv_aload_n hx hb dX0_readBit_9 rfl (lv_at hl 1 rfl) ?_
  refine va_get (D := D) (ci := 0) (v := .int va) (C := RX0) (T := TX0) (N := 5) hx hb hts in_X0 hown hK.1 hP 0 rfl rfl 1 (by decide) (hts _ mk_8) (fun _ h9 => h9) rfl dX0_readBit_10 ?_
  refine lv_iload_n hx hb dX0_readBit_13 rfl (lv_at hl 0 rfl) ?_
  refine lv_bipush (v := 8) hx hb dX0_readBit_14 (by decide) ?_
  refine lv_ishl hx hb dX0_readBit_16 ?_
  refine lv_topi (fun v16 e16 => ?_)
  have b16 : kB v16 256 65024 := kB_eq e16 (kB_shl 8 (by decide) q5_2 (by decide))
  have V16 : v16.toInt = 256 * r5.toInt := by rw [e16]; exact kshl8 (kB_w q5_2 (by decide) (by decide))
  refine lv_icmp_lt (tgt := 24) hx hb dX0_readBit_17 (by decide) (fun c17 => ?_) (fun c17 => ?_)
  · have c17a := kB_all va
    have c17x : kB va (-2147483648) 65023 := kB_lt_l c17a b16 c17 (by decide)
    have U17 : va.toInt < 256 * r5.toInt := by have := Int32.lt_iff_toInt_lt.mp c17; omega
    refine lv_iconst (v := 0) hx hb dX0_readBit_24 (by decide) ?_
    refine lv_istore_n (lv' := [(3, .int 0), (2, .int r5), (0, .ref hrd), (1, .int pp)]) hx hb dX0_readBit_25 rfl hl (by decide) rfl (fun ls hl => ?_)
    refine lv_iload_n hx hb dX0_readBit_26 rfl (lv_at hl 0 rfl) ?_
    refine lv_iconst (v := 1) hx hb dX0_readBit_27 (by decide) ?_
    refine lv_icmp_ne (tgt := 57) hx hb dX0_readBit_28 (by decide) (fun c28 => ?_) (fun c28 => ?_)
    · refine lv_aload_n hx hb dX0_readBit_57 rfl (lv_at hl 2 rfl) ?_
      refine lv_iload_n hx hb dX0_readBit_58 rfl (lv_at hl 1 rfl) ?_
      refine va_put (D := D) (ci := 0) (v := .int r5) (ty := .int) (C := RX0) (T := TX0) (N := 5) hx hb hts in_X0 tyX0 tyX0_ok nmX0 hown hK.1 hP hD hS 0 rfl rfl 2 (by decide) (hts _ mk_9) (fun _ h9 => h9) rfl (by decide +kernel) rfl rfl (Nat.le_of_ble_eq_true rfl) dX0_readBit_59 (fun H locs hP hD hS => ?_)
      have hP : va_P D vwCl [(hrd, .inr (0, [.ref ho, .int va, .int r5, .int sh, .int nx])), (ho, .inr (3, [.ref hh, .int sz])), (hh, .inl (cI, 600, .inl f))] H := hP
      have hD : va_D A [(hrd, .inr (0, [.ref ho, .int va, .int r5, .int sh, .int nx])), (ho, .inr (3, [.ref hh, .int sz])), (hh, .inl (cI, 600, .inl f))] := hD
      have BRG : kB r5 1 254 := q5_2
      have EX : kIf (pp.toInt = 128 ∧ 0 ≤ va.toInt ∧ va.toInt ≤ 2000000 ∧ sh.toInt ≤ 6) (r5.toInt = rSp rg.toInt) := fun h9 => by rw [q5_0, h9.1]; rfl
      have HX : pp.toInt = 128 ∧ 0 ≤ va.toInt ∧ va.toInt ≤ 2000000 ∧ sh.toInt ≤ 6 → rL va.toInt rg.toInt sh.toInt (0 : Int32).toInt (0 : Int32).toInt va.toInt r5.toInt sh.toInt := fun h9 => by rw [show (0 : Int32).toInt = 0 from by decide]; exact rL_0 U17 (EX h9)
      refine lv_iconst (v := 0) hx hb dX0_readBit_62 (by decide) ?_
      refine lv_istore (lv' := [(4, .int 0), (3, .int 0), (2, .int r5), (0, .ref hrd), (1, .int pp)]) hx hb dX0_readBit_63 hl (by decide) rfl (fun ls hl => ?_)
      exact lp_X0_readBit_65 D cI cJ cZ hrd ho hh va rg sh nx sz f pp brg bsh bp bsz hx hb hr hml hown hts hlocks hK hA ((7 - (0 : Int32).toInt).toNat + 1) 0 0 va r5 sh nx (Nat.lt_succ_self _) (kB_w kc_0 (by decide) (by decide)) (kB_w kc_0 (by decide) (by decide)) (kB_w q5_2 (by decide) (by decide)) bsh (by rw [show (0 : Int32).toInt = 0 from by decide, pw2_0]; exact BRG.1) HX _ _ ls hP hD hS (lv_sub hl [3, 1, 0] rfl)
    · exact absurd c28 (by decide)
  · have c17n : v16 ≤ va := kN_lt c17
    have c17nb := kB_all va
    have c17ny : kB va 256 2147483647 := kB_le_r b16 c17nb c17n (by decide)
    have U17 : 256 * r5.toInt ≤ va.toInt := by have := Int32.le_iff_toInt_le.mp c17n; omega
    refine lv_iconst (v := 1) hx hb dX0_readBit_20 (by decide) ?_
    refine lv_goto (tgt := 25) hx hb dX0_readBit_21 (by decide) ?_
    refine lv_istore_n (lv' := [(3, .int 1), (2, .int r5), (0, .ref hrd), (1, .int pp)]) hx hb dX0_readBit_25 rfl hl (by decide) rfl (fun ls hl => ?_)
    refine lv_iload_n hx hb dX0_readBit_26 rfl (lv_at hl 0 rfl) ?_
    refine lv_iconst (v := 1) hx hb dX0_readBit_27 (by decide) ?_
    refine lv_icmp_ne (tgt := 57) hx hb dX0_readBit_28 (by decide) (fun c28 => ?_) (fun c28 => ?_)
    · exact absurd rfl c28
    · refine lv_aload_n hx hb dX0_readBit_31 rfl (lv_at hl 2 rfl) ?_
      refine lv_dup hx hb dX0_readBit_32 rfl ?_
      refine va_get (D := D) (ci := 0) (v := .int rg) (C := RX0) (T := TX0) (N := 5) hx hb hts in_X0 hown hK.1 hP 0 rfl rfl 2 (by decide) (hts _ mk_9) (fun _ h9 => h9) rfl dX0_readBit_33 ?_
      refine lv_iload_n hx hb dX0_readBit_36 rfl (lv_at hl 1 rfl) ?_
      refine lv_isub hx hb dX0_readBit_37 ?_
      refine lv_topi (fun v37 e37 => ?_)
      have b37 : kB v37 (-126) 254 := kB_eq e37 (kB_sub brg q5_2 (by decide))
      have B37 : kB v37 1 254 := (by have h1 := q5_2.1; have h2 := q5_1; have := brg.2; have h3 := kI_sub (x := rg) (y := r5) (by have := q5_2.2; have := brg.1; omega) (by omega); exact ⟨by rw [e37, h3]; omega, by rw [e37, h3]; omega⟩)
      refine va_put (D := D) (ci := 0) (v := .int v37) (ty := .int) (C := RX0) (T := TX0) (N := 5) hx hb hts in_X0 tyX0 tyX0_ok nmX0 hown hK.1 hP hD hS 0 rfl rfl 2 (by decide) (hts _ mk_9) (fun _ h9 => h9) rfl (by decide +kernel) rfl rfl (Nat.le_of_ble_eq_true rfl) dX0_readBit_38 (fun H locs hP hD hS => ?_)
      have hP : va_P D vwCl [(hrd, .inr (0, [.ref ho, .int va, .int v37, .int sh, .int nx])), (ho, .inr (3, [.ref hh, .int sz])), (hh, .inl (cI, 600, .inl f))] H := hP
      have hD : va_D A [(hrd, .inr (0, [.ref ho, .int va, .int v37, .int sh, .int nx])), (ho, .inr (3, [.ref hh, .int sz])), (hh, .inl (cI, 600, .inl f))] := hD
      refine lv_aload_n hx hb dX0_readBit_41 rfl (lv_at hl 2 rfl) ?_
      refine lv_dup hx hb dX0_readBit_42 rfl ?_
      refine va_get (D := D) (ci := 0) (v := .int va) (C := RX0) (T := TX0) (N := 5) hx hb hts in_X0 hown hK.1 hP 0 rfl rfl 1 (by decide) (hts _ mk_8) (fun _ h9 => h9) rfl dX0_readBit_43 ?_
      refine lv_iload_n hx hb dX0_readBit_46 rfl (lv_at hl 1 rfl) ?_
      refine lv_bipush (v := 8) hx hb dX0_readBit_47 (by decide) ?_
      refine lv_ishl hx hb dX0_readBit_49 ?_
      refine lv_topi (fun v49 e49 => ?_)
      have b49 : kB v49 256 65024 := kB_eq e49 (kB_shl 8 (by decide) q5_2 (by decide))
      refine lv_isub hx hb dX0_readBit_50 ?_
      refine lv_topi (fun v50 e50 => ?_)
      have b50 : kB v50 (-64768) 2147483391 := kB_eq e50 (kB_sub c17ny b49 (by decide))
      have V49 : v49.toInt = 256 * r5.toInt := by rw [e49]; exact kshl8 (kB_w q5_2 (by decide) (by decide))
      have V50 : 0 ≤ va.toInt → v50.toInt = va.toInt - 256 * r5.toInt := fun h9 => by rw [e50, kI_sub (by rw [V49]; omega) (by rw [V49]; have := kB_all va; have := q5_2.1; omega), V49]
      have X37 : v37.toInt = rg.toInt - r5.toInt := by rw [e37, kI_sub (by have := q5_2.2; have := brg.1; omega) (by have := q5_2.1; have := brg.2; omega)]
      refine va_put (D := D) (ci := 0) (v := .int v50) (ty := .int) (C := RX0) (T := TX0) (N := 5) hx hb hts in_X0 tyX0 tyX0_ok nmX0 hown hK.1 hP hD hS 0 rfl rfl 1 (by decide) (hts _ mk_8) (fun _ h9 => h9) rfl (by decide +kernel) rfl rfl (Nat.le_of_ble_eq_true rfl) dX0_readBit_51 (fun H locs hP hD hS => ?_)
      have hP : va_P D vwCl [(hrd, .inr (0, [.ref ho, .int v50, .int v37, .int sh, .int nx])), (ho, .inr (3, [.ref hh, .int sz])), (hh, .inl (cI, 600, .inl f))] H := hP
      have hD : va_D A [(hrd, .inr (0, [.ref ho, .int v50, .int v37, .int sh, .int nx])), (ho, .inr (3, [.ref hh, .int sz])), (hh, .inl (cI, 600, .inl f))] := hD
      refine lv_goto (tgt := 62) hx hb dX0_readBit_54 (by decide) ?_
      have BRG : kB v37 1 254 := B37
      have EX : kIf (pp.toInt = 128 ∧ 0 ≤ va.toInt ∧ va.toInt ≤ 2000000 ∧ sh.toInt ≤ 6) (r5.toInt = rSp rg.toInt) := fun h9 => by rw [q5_0, h9.1]; rfl
      have HX : pp.toInt = 128 ∧ 0 ≤ va.toInt ∧ va.toInt ≤ 2000000 ∧ sh.toInt ≤ 6 → rL va.toInt rg.toInt sh.toInt (0 : Int32).toInt (1 : Int32).toInt v50.toInt v37.toInt sh.toInt := fun h9 => by rw [show (0 : Int32).toInt = 0 from by decide, show (1 : Int32).toInt = 1 from by decide]; exact rL_1 U17 (EX h9) (V50 h9.2.1) X37
      refine lv_iconst (v := 0) hx hb dX0_readBit_62 (by decide) ?_
      refine lv_istore (lv' := [(4, .int 0), (3, .int 1), (2, .int r5), (0, .ref hrd), (1, .int pp)]) hx hb dX0_readBit_63 hl (by decide) rfl (fun ls hl => ?_)
      exact lp_X0_readBit_65 D cI cJ cZ hrd ho hh va rg sh nx sz f pp brg bsh bp bsz hx hb hr hml hown hts hlocks hK hA ((7 - (0 : Int32).toInt).toNat + 1) 1 0 v50 v37 sh nx (Nat.lt_succ_self _) (kB_w kc_1 (by decide) (by decide)) (kB_w kc_0 (by decide) (by decide)) (kB_w B37 (by decide) (by decide)) bsh (by rw [show (0 : Int32).toInt = 0 from by decide, pw2_0]; exact BRG.1) HX _ _ ls hP hD hS (lv_sub hl [3, 1, 0] rfl)
abbrev kw_X0_readBits : List Cond := Cond.code yX0_readBits cX0_readBits 5 (some .int) :: kW
set_option maxHeartbeats 4000000 in
set_option maxRecDepth 100000 in
theorem lp_X0_readBits_5 {p : Program} {l : Launch} {e : Env} {s : State} {m : MethodId} {args : Array Value} {below : List Frame} {meth : Method} {c : Code} {A : Nat → Prop} (D : va_G) (cI cJ cZ : ClassId) (hrd ho hh : Nat) (va : Int32) (rg : Int32) (sh : Int32) (nx : Int32) (sz : Int32) (f : Nat → Int32) (pp : Int32) (mn : Int32) (brg : kB rg 128 255) (bsh : kB sh 0 7) (bp : kB pp 0 255) (bsz : kB sz 0 600) (bmn : kB mn 0 32) (hx : p.tables.exec = Jvm.exec) (hb : c.code = cX0_readBits) (hr : meth.sig.returnType = (some .int)) (hml : c.maxLocals = 5) (hown : s.vm.findClass RX0 = some m.cls) (hts : ∀ w ∈ kW, w.before args s = true) (hlocks : meth.locks = false) (hK : kK D cI cJ cZ s) (hA : ∀ q : Nat, s.heap.size ≤ q → A q) : ∀ n : Nat, ∀ (x3 : Int32) (x4 : Int32) (va2 : Int32) (rg2 : Int32) (sh2 : Int32) (nx2 : Int32), (32 - x4.toInt).toNat < n → (kB x4 0 32) → (x4.toInt ≤ mn.toInt) → (kB rg2 128 255) → (kB sh2 0 7) → (x4.toInt ≤ 16 → 0 ≤ x3.toInt ∧ x3.toInt < pw2 x4.toInt) → (kIf (pp.toInt = 128 ∧ mn.toInt = 2 ∧ 0 ≤ va.toInt ∧ va.toInt ≤ 500000 ∧ sh.toInt ≤ 4) (rM va.toInt rg.toInt sh.toInt x4.toInt x3.toInt va2.toInt rg2.toInt sh2.toInt)) → ∀ (H : Heap) (locs : List Loc) (ls : Array Slot), va_P D vwCl [(hrd, .inr (0, [.ref ho, .int va2, .int rg2, .int sh2, .int nx2])), (ho, .inr (3, [.ref hh, .int sz])), (hh, .inl (cI, 600, .inl f))] H → va_D A [(hrd, .inr (0, [.ref ho, .int va2, .int rg2, .int sh2, .int nx2])), (ho, .inr (3, [.ref hh, .int sz])), (hh, .inl (cI, 600, .inl f))] → va_S A s.heap H locs → lv_has ls 5 [(0, .ref hrd), (1, .int pp), (2, .int mn), (3, .int x3), (4, .int x4)] → W p l e (headSpec kw_X0_readBits ({ frames := 2, cells := 0, slots := 0, locals := 48 })).room s m args below meth c H locs 0 0 (MQ below (va_Qi (fun (r : Int32) (u : Int32 × Int32 × Int32 × Int32) => (kB u.2.1 128 255) ∧ (kB u.2.2.1 0 7) ∧ (mn.toInt ≤ 16 → 0 ≤ r.toInt ∧ r.toInt < pw2 mn.toInt) ∧ (kIf (pp.toInt = 128 ∧ mn.toInt = 2 ∧ 0 ≤ va.toInt ∧ va.toInt ≤ 500000 ∧ sh.toInt ≤ 4) ((r.toInt, u.1.toInt, u.2.1.toInt, u.2.2.1.toInt) = rI 2 (0, va.toInt, rg.toInt, sh.toInt)))) (fun (u : Int32 × Int32 × Int32 × Int32) (t : State) => va_P D vwCl [(hrd, .inr (0, [.ref ho, .int u.1, .int u.2.1, .int u.2.2.1, .int u.2.2.2])), (ho, .inr (3, [.ref hh, .int sz])), (hh, .inl (cI, 600, .inl f))] t.heap ∧ va_D A [(hrd, .inr (0, [.ref ho, .int u.1, .int u.2.1, .int u.2.2.1, .int u.2.2.2])), (ho, .inr (3, [.ref hh, .int sz])), (hh, .inl (cI, 600, .inl f))]) A) args s 0 0 A) (F0 m 5 ls []) := by
  intro n
  induction n with
  | zero => intro x3 x4 va2 rg2 sh2 nx2 hmeas; exact absurd hmeas (Nat.not_lt_zero _)
  | succ n ih =>
    intro x3 x4 va2 rg2 sh2 nx2 hmeas b4 l4 brg2 bsh2 hn hex H locs ls hP hD hS hl
    refine lv_iload hx hb dX0_readBits_5 (lv_at hl 4 rfl) ?_
    refine lv_iload_n hx hb dX0_readBits_7 rfl (lv_at hl 2 rfl) ?_
    refine lv_icmp_ge (tgt := 27) hx hb dX0_readBits_8 (by decide) (fun c8 => ?_) (fun c8 => ?_)
    · have K8 : x4.toInt = mn.toInt := by have := Int32.le_iff_toInt_le.mp c8; omega
      refine lv_iload_n hx hb dX0_readBits_27 rfl (lv_at hl 3 rfl) ?_
      have pf_n : mn.toInt ≤ 16 → 0 ≤ x3.toInt ∧ x3.toInt < pw2 mn.toInt := (fun h => by have e : x4.toInt = mn.toInt := K8; rw [← e] at h ⊢; exact hn h)
      have pf_ex : kIf (pp.toInt = 128 ∧ mn.toInt = 2 ∧ 0 ≤ va.toInt ∧ va.toInt ≤ 500000 ∧ sh.toInt ≤ 4) ((x3.toInt, va2.toInt, rg2.toInt, sh2.toInt) = rI 2 (0, va.toInt, rg.toInt, sh.toInt)) := (fun h9 => rM_e (hex h9) (by rw [K8]; exact h9.2.1))
      exact W.iret (v := x3) hx hb hr (fun t9 ht9 hW9 => ⟨⟨x3, (va2, rg2, sh2, nx2), rfl, ⟨brg2, bsh2, pf_n, pf_ex⟩, by rw [ht9]; exact hP, hD⟩, hS.F ht9⟩) hS.2.2 dX0_readBits_28
    · have c8n : x4 < mn := kN_le c8
      have c8nx : kB x4 0 31 := kB_lt_l b4 bmn c8n (by decide)
      have c8ny : kB mn 1 32 := kB_lt_r b4 bmn c8n (by decide)
      refine lv_iload_n hx hb dX0_readBits_11 rfl (lv_at hl 3 rfl) ?_
      refine lv_iconst (v := 1) hx hb dX0_readBits_12 (by decide) ?_
      refine lv_ishl hx hb dX0_readBits_13 ?_
      refine lv_topi (fun v13 e13 => ?_)
      refine lv_aload_n hx hb dX0_readBits_14 rfl (lv_at hl 0 rfl) ?_
      refine lv_iload_n hx hb dX0_readBits_15 rfl (lv_at hl 1 rfl) ?_
      have hPc := hP.sub (ws' := [(hrd, .inr (0, [.ref ho, .int va2, .int rg2, .int sh2, .int nx2])), (ho, .inr (3, [.ref hh, .int sz])), (hh, .inl (cI, 600, .inl f))]) [0, 1, 2] rfl
      have hDc := hD.sub (ws' := [(hrd, .inr (0, [.ref ho, .int va2, .int rg2, .int sh2, .int nx2])), (ho, .inr (3, [.ref hh, .int sz])), (hh, .inl (cI, 600, .inl f))]) [0, 1, 2] (by decide) rfl
      have hFc := va_free (wc := [(hrd, .inr (0, [.ref ho, .int va2, .int rg2, .int sh2, .int nx2])), (ho, .inr (3, [.ref hh, .int sz])), (hh, .inl (cI, 600, .inl f))]) hD hS hA [0, 1, 2] rfl
      refine va_calli (va_runV (As := [.int pp]) (rest := [.int v13]) ⟨hx, hb, hml, hown, hts⟩ (c_X0_readBit l D cI cJ cZ hrd ho hh va2 rg2 sh2 nx2 sz f pp brg2 bsh2 bp bsz (H).size) (cwV 1 hts (kg_V mk_20 mk_21 mk_22 mk_23 mk_24) rfl rfl rfl (by decide +kernel) ⟨Nat.le_of_ble_eq_true rfl, Nat.le_of_ble_eq_true rfl⟩) ⟨fun a U g mk q => by obtain ⟨q0, q1, qP, qK, qD⟩ := q; exact ⟨q0, q1, qP, kK.call qK, qD⟩, va_recv hK.1 hPc (ci := 0) (q0 := 0) rfl rfl, fun U hU hW => ⟨rfl, by rw [hU], by rw [hU]; exact hPc, kK.warm hW hK, hDc.weaken (fun _ _ _ _ => trivial)⟩⟩ rfl rfl hl.1 rfl (lv_room (Nat.le_of_ble_eq_true rfl)) dX0_readBits_16 ⟨Nat.zero_le _, Nat.zero_le _⟩) hS (fun q _ h => hFc q h) hFc (fun r16 u t9 H1 locs ht9 hvm9 hw9 hB9 hz9 hk9 hS => ?_)
      obtain ⟨va2_16, rg2_16, sh2_16, nx2_16⟩ := u
      obtain ⟨hP1, hD1⟩ := hB9
      rw [ht9] at hP1
      have hP1 : va_P D vwCl [(hrd, .inr (0, [.ref ho, .int va2_16, .int rg2_16, .int sh2_16, .int nx2_16])), (ho, .inr (3, [.ref hh, .int sz])), (hh, .inl (cI, 600, .inl f))] H1 := hP1
      obtain ⟨hP, hD⟩ := va_join (wr := []) (w1 := [(hrd, .inr (0, [.ref ho, .int va2_16, .int rg2_16, .int sh2_16, .int nx2_16])), (ho, .inr (3, [.ref hh, .int sz])), (hh, .inl (cI, 600, .inl f))]) hP hD [0, 1, 2] [] rfl rfl (by decide) (by decide) hk9 hFc hP1 hD1
      have hP := hP.sub (ws' := [(hrd, .inr (0, [.ref ho, .int va2_16, .int rg2_16, .int sh2_16, .int nx2_16])), (ho, .inr (3, [.ref hh, .int sz])), (hh, .inl (cI, 600, .inl f))]) [0, 1, 2] rfl
      have hD := hD.sub (ws' := [(hrd, .inr (0, [.ref ho, .int va2_16, .int rg2_16, .int sh2_16, .int nx2_16])), (ho, .inr (3, [.ref hh, .int sz])), (hh, .inl (cI, 600, .inl f))]) [0, 1, 2] (by decide) rfl
      generalize H1 = H at hP hS ⊢
      obtain ⟨q16_0, q16_1, q16_2, q16_3⟩ := hw9
      have q16_0 : kB r16 0 1 := q16_0
      have q16_1 : kB rg2_16 128 255 := q16_1
      have q16_2 : kB sh2_16 0 7 := q16_2
      have q16_3 : kIf (pp.toInt = 128 ∧ 0 ≤ va2.toInt ∧ va2.toInt ≤ 2000000 ∧ sh2.toInt ≤ 6) (r16.toInt = rBt va2.toInt rg2.toInt ∧ (va2_16.toInt, rg2_16.toInt, sh2_16.toInt) = rNx va2.toInt rg2.toInt sh2.toInt) := q16_3
      refine lv_ior hx hb dX0_readBits_19 ?_
      refine lv_topi (fun v19 e19 => ?_)
      refine lv_istore_n (lv' := [(3, .int v19), (0, .ref hrd), (1, .int pp), (2, .int mn), (4, .int x4)]) hx hb dX0_readBits_20 rfl hl (by decide) rfl (fun ls hl => ?_)
      obtain ⟨v21, e21⟩ : ∃ y : Int32, y = x4 + 1 := ⟨_, rfl⟩
      refine lv_iinc (v := v21) (lv' := [(4, .int v21), (3, .int v19), (0, .ref hrd), (1, .int pp), (2, .int mn)]) hx hb dX0_readBits_21 hl (k := 4) rfl (by rw [e21]; rfl) (by decide) rfl (fun ls hl => ?_)
      have b21 : kB v21 1 32 := kB_eq e21 (kB_add c8nx kc_1 (by decide))
      have t21 : v21.toInt = x4.toInt + 1 := by rw [e21]; exact kinc (kB_w c8nx (by decide) (by decide))
      have K21 : v21.toInt = x4.toInt + 1 := by rw [e21]; exact kinc (kB_w b4 (by decide) (by decide))
      refine lv_goto (tgt := 5) hx hb dX0_readBits_24 (by decide) ?_
      exact ih v19 v21 va2_16 rg2_16 sh2_16 nx2_16 (by rw [K21]; have := c8nx.2; omega) (kB_w b21 (by decide) (by decide)) (by rw [K21]; have := Int32.lt_iff_toInt_lt.mp c8n; omega) q16_1 q16_2 (fun h => by rw [K21] at h ⊢; obtain ⟨h1, h2⟩ := hn (by omega); have h3 := pw2_mono (i := x4.toInt) (j := 15) (by omega); rw [show pw2 15 = 32768 from by decide] at h3; have h4 := kor1 (n := x3) (b := r16) ⟨h1, by omega⟩ q16_0; rw [← e13, ← e19] at h4; rw [pw2_s b4.1, h4]; have := q16_0.1; have := q16_0.2; omega) (fun h9 => by have h6 : x4.toInt ≤ 1 := by { have h8 := Int32.lt_iff_toInt_lt.mp c8n; omega }; have h5 := (hex h9).2 h6; have h4 := q16_3 ⟨h9.1, h5.1, by omega, by omega⟩; exact rM_s (hex h9) b4.1 h6 brg2.1 h4.1 h4.2 K21 (by have h4 := kor1 (n := x3) (b := r16) ⟨h5.2.2.2.1, by omega⟩ q16_0; rw [← e13, ← e19] at h4; exact h4)) _ _ ls hP hD hS (lv_sub hl [2, 3, 4, 1, 0] rfl)
set_option maxHeartbeats 4000000 in
set_option maxRecDepth 100000 in
theorem c_X0_readBits (l : Launch) (D : va_G) (cI cJ cZ : ClassId) (hrd ho hh : Nat) (va : Int32) (rg : Int32) (sh : Int32) (nx : Int32) (sz : Int32) (f : Nat → Int32) (pp : Int32) (mn : Int32) (brg : kB rg 128 255) (bsh : kB sh 0 7) (bp : kB pp 0 255) (bsz : kB sz 0 600) (bmn : kB mn 0 32) (hpz : Nat) : Met l yX0_readBits kw_X0_readBits ({ frames := 2, cells := 0, slots := 0, locals := 48 }) (va_Pc [.ref hrd, .int pp, .int mn] (fun U => U.heap.size = hpz ∧ va_P D vwCl [(hrd, .inr (0, [.ref ho, .int va, .int rg, .int sh, .int nx])), (ho, .inr (3, [.ref hh, .int sz])), (hh, .inl (cI, 600, .inl f))] U.heap ∧ kK D cI cJ cZ U ∧ va_D (fun _ => True) [(hrd, .inr (0, [.ref ho, .int va, .int rg, .int sh, .int nx])), (ho, .inr (3, [.ref hh, .int sz])), (hh, .inl (cI, 600, .inl f))])) (va_Qi (fun (r : Int32) (u : Int32 × Int32 × Int32 × Int32) => (kB u.2.1 128 255) ∧ (kB u.2.2.1 0 7) ∧ (mn.toInt ≤ 16 → 0 ≤ r.toInt ∧ r.toInt < pw2 mn.toInt) ∧ (kIf (pp.toInt = 128 ∧ mn.toInt = 2 ∧ 0 ≤ va.toInt ∧ va.toInt ≤ 500000 ∧ sh.toInt ≤ 4) ((r.toInt, u.1.toInt, u.2.1.toInt, u.2.2.1.toInt) = rI 2 (0, va.toInt, rg.toInt, sh.toInt)))) (fun (u : Int32 × Int32 × Int32 × Int32) (t : State) => va_P D vwCl [(hrd, .inr (0, [.ref ho, .int u.1, .int u.2.1, .int u.2.2.1, .int u.2.2.2])), (ho, .inr (3, [.ref hh, .int sz])), (hh, .inl (cI, 600, .inl f))] t.heap ∧ va_D (va_A [(hrd, .inr (0, [.ref ho, .int va, .int rg, .int sh, .int nx])), (ho, .inr (3, [.ref hh, .int sz])), (hh, .inl (cI, 600, .inl f))] hpz) [(hrd, .inr (0, [.ref ho, .int u.1, .int u.2.1, .int u.2.2.1, .int u.2.2.2])), (ho, .inr (3, [.ref hh, .int sz])), (hh, .inl (cI, 600, .inl f))]) (va_A [(hrd, .inr (0, [.ref ho, .int va, .int rg, .int sh, .int nx])), (ho, .inr (3, [.ref hh, .int sz])), (hh, .inl (cI, 600, .inl f))] hpz)) 0 0 (va_A [(hrd, .inr (0, [.ref ho, .int va, .int rg, .int sh, .int nx])), (ho, .inr (3, [.ref hh, .int sz])), (hh, .inl (cI, 600, .inl f))] hpz) := by
  refine Met.ofW (cc := cX0_readBits) (maxL := 5) (ret := (some .int)) (by decide) rfl ?_
  intro p e s m args below meth c s₁ B hml hv
  obtain ⟨rfl, hsz, hP, hK, hD0⟩ := hv
  have hx := B.exec
  have hb := B.bytes
  have hr := B.returns
  have hts := fun (w : Cond) (h : w ∈ kW) => atoms_spec (ws := kw_X0_readBits) B.pre w (List.mem_cons_of_mem _ h)
  have hown : s.vm.findClass RX0 = some m.cls := findClass_of_methodNamed B.named
  have hlocks := B.notSynchronized
  subst hsz
  have hD := hD0.self (sz := s.heap.size)
  generalize hAe : va_A [(hrd, .inr (0, [.ref ho, .int va, .int rg, .int sh, .int nx])), (ho, .inr (3, [.ref hh, .int sz])), (hh, .inl (cI, 600, .inl f))] s.heap.size = A at hD ⊢
  have hA : ∀ q : Nat, s.heap.size ≤ q → A q := fun q h => by rw [← hAe]; exact Or.inr h
  have hS : va_S A s.heap s.heap [] := va_S.rf
  have hP : va_P D vwCl [(hrd, .inr (0, [.ref ho, .int va, .int rg, .int sh, .int nx])), (ho, .inr (3, [.ref hh, .int sz])), (hh, .inl (cI, 600, .inl f))] s.heap := hP
  have hl := lv_entry ([.ref hrd, .int pp, .int mn]) (n := 5) (Nat.le_of_ble_eq_true rfl)
  rw [lg_entry_eq]
  generalize (lg_sl ([.ref hrd, .int pp, .int mn]) ++ List.replicate (5 - (lg_sl ([.ref hrd, .int pp, .int mn])).length) Slot.unset).toArray = ls at hl ⊢
  have hl : lv_has ls 5 [(0, .ref hrd), (1, .int pp), (2, .int mn)] := hl
  refine lv_iconst (v := 0) hx hb dX0_readBits_0 (by decide) ?_
  refine lv_istore_n (lv' := [(3, .int 0), (0, .ref hrd), (1, .int pp), (2, .int mn)]) hx hb dX0_readBits_1 rfl hl (by decide) rfl (fun ls hl => ?_)
  refine lv_iconst (v := 0) hx hb dX0_readBits_2 (by decide) ?_
  refine lv_istore (lv' := [(4, .int 0), (3, .int 0), (0, .ref hrd), (1, .int pp), (2, .int mn)]) hx hb dX0_readBits_3 hl (by decide) rfl (fun ls hl => ?_)
  exact lp_X0_readBits_5 D cI cJ cZ hrd ho hh va rg sh nx sz f pp mn brg bsh bp bsz bmn hx hb hr hml hown hts hlocks hK hA ((32 - (0 : Int32).toInt).toNat + 1) 0 0 va rg sh nx (Nat.lt_succ_self _) (kB_w kc_0 (by decide) (by decide)) (by rw [show (0 : Int32).toInt = 0 from by decide]; exact bmn.1) brg bsh (fun _ => by rw [show (0 : Int32).toInt = 0 from by decide, pw2_0]; decide) (fun h9 => by rw [show (0 : Int32).toInt = 0 from by decide]; exact rM_0 h9.2.2.1 h9.2.2.2.1 h9.2.2.2.2) _ _ ls hP hD hS (lv_sub hl [2, 3, 4, 1, 0] rfl)
abbrev kw_X0_readNumber : List Cond := Cond.code yX0_readNumber cX0_readNumber 2 (some .int) :: kW
set_option maxHeartbeats 4000000 in
set_option maxRecDepth 100000 in
theorem c_X0_readNumber (l : Launch) (D : va_G) (cI cJ cZ : ClassId) (hrd ho hh : Nat) (va : Int32) (rg : Int32) (sh : Int32) (nx : Int32) (sz : Int32) (f : Nat → Int32) (mn : Int32) (brg : kB rg 128 255) (bsh : kB sh 0 7) (bsz : kB sz 0 600) (bmn : kB mn 0 16) (hpz : Nat) : Met l yX0_readNumber kw_X0_readNumber ({ frames := 3, cells := 0, slots := 0, locals := 72 }) (va_Pc [.ref hrd, .int mn] (fun U => U.heap.size = hpz ∧ va_P D vwCl [(hrd, .inr (0, [.ref ho, .int va, .int rg, .int sh, .int nx])), (ho, .inr (3, [.ref hh, .int sz])), (hh, .inl (cI, 600, .inl f))] U.heap ∧ kK D cI cJ cZ U ∧ va_D (fun _ => True) [(hrd, .inr (0, [.ref ho, .int va, .int rg, .int sh, .int nx])), (ho, .inr (3, [.ref hh, .int sz])), (hh, .inl (cI, 600, .inl f))])) (va_Qi (fun (r : Int32) (u : Int32 × Int32 × Int32 × Int32) => (kB u.2.1 128 255) ∧ (kB u.2.2.1 0 7) ∧ (0 ≤ r.toInt ∧ r.toInt < pw2 mn.toInt) ∧ (kIf (mn.toInt = 2 ∧ 0 ≤ va.toInt ∧ va.toInt ≤ 500000 ∧ sh.toInt ≤ 4) ((r.toInt, u.1.toInt, u.2.1.toInt, u.2.2.1.toInt) = rI 2 (0, va.toInt, rg.toInt, sh.toInt)))) (fun (u : Int32 × Int32 × Int32 × Int32) (t : State) => va_P D vwCl [(hrd, .inr (0, [.ref ho, .int u.1, .int u.2.1, .int u.2.2.1, .int u.2.2.2])), (ho, .inr (3, [.ref hh, .int sz])), (hh, .inl (cI, 600, .inl f))] t.heap ∧ va_D (va_A [(hrd, .inr (0, [.ref ho, .int va, .int rg, .int sh, .int nx])), (ho, .inr (3, [.ref hh, .int sz])), (hh, .inl (cI, 600, .inl f))] hpz) [(hrd, .inr (0, [.ref ho, .int u.1, .int u.2.1, .int u.2.2.1, .int u.2.2.2])), (ho, .inr (3, [.ref hh, .int sz])), (hh, .inl (cI, 600, .inl f))]) (va_A [(hrd, .inr (0, [.ref ho, .int va, .int rg, .int sh, .int nx])), (ho, .inr (3, [.ref hh, .int sz])), (hh, .inl (cI, 600, .inl f))] hpz)) 0 0 (va_A [(hrd, .inr (0, [.ref ho, .int va, .int rg, .int sh, .int nx])), (ho, .inr (3, [.ref hh, .int sz])), (hh, .inl (cI, 600, .inl f))] hpz) := by
  refine Met.ofW (cc := cX0_readNumber) (maxL := 2) (ret := (some .int)) (by decide) rfl ?_
  intro p e s m args below meth c s₁ B hml hv
  obtain ⟨rfl, hsz, hP, hK, hD0⟩ := hv
  have hx := B.exec
  have hb := B.bytes
  have hr := B.returns
  have hts := fun (w : Cond) (h : w ∈ kW) => atoms_spec (ws := kw_X0_readNumber) B.pre w (List.mem_cons_of_mem _ h)
  have hown : s.vm.findClass RX0 = some m.cls := findClass_of_methodNamed B.named
  have hlocks := B.notSynchronized
  subst hsz
  have hD := hD0.self (sz := s.heap.size)
  generalize hAe : va_A [(hrd, .inr (0, [.ref ho, .int va, .int rg, .int sh, .int nx])), (ho, .inr (3, [.ref hh, .int sz])), (hh, .inl (cI, 600, .inl f))] s.heap.size = A at hD ⊢
  have hA : ∀ q : Nat, s.heap.size ≤ q → A q := fun q h => by rw [← hAe]; exact Or.inr h
  have hS : va_S A s.heap s.heap [] := va_S.rf
  have hP : va_P D vwCl [(hrd, .inr (0, [.ref ho, .int va, .int rg, .int sh, .int nx])), (ho, .inr (3, [.ref hh, .int sz])), (hh, .inl (cI, 600, .inl f))] s.heap := hP
  have hl := lv_entry ([.ref hrd, .int mn]) (n := 2) (Nat.le_of_ble_eq_true rfl)
  rw [lg_entry_eq]
  generalize (lg_sl ([.ref hrd, .int mn]) ++ List.replicate (2 - (lg_sl ([.ref hrd, .int mn])).length) Slot.unset).toArray = ls at hl ⊢
  have hl : lv_has ls 2 [(0, .ref hrd), (1, .int mn)] := hl
  refine lv_aload_n hx hb dX0_readNumber_0 rfl (lv_at hl 0 rfl) ?_
  refine lv_sipush (v := 128) hx hb dX0_readNumber_1 (by decide) ?_
  refine lv_iload_n hx hb dX0_readNumber_4 rfl (lv_at hl 1 rfl) ?_
  have hPc := hP.sub (ws' := [(hrd, .inr (0, [.ref ho, .int va, .int rg, .int sh, .int nx])), (ho, .inr (3, [.ref hh, .int sz])), (hh, .inl (cI, 600, .inl f))]) [0, 1, 2] rfl
  have hDc := hD.sub (ws' := [(hrd, .inr (0, [.ref ho, .int va, .int rg, .int sh, .int nx])), (ho, .inr (3, [.ref hh, .int sz])), (hh, .inl (cI, 600, .inl f))]) [0, 1, 2] (by decide) rfl
  have hFc := va_free (wc := [(hrd, .inr (0, [.ref ho, .int va, .int rg, .int sh, .int nx])), (ho, .inr (3, [.ref hh, .int sz])), (hh, .inl (cI, 600, .inl f))]) hD hS hA [0, 1, 2] rfl
  refine va_calli (va_runV (As := [.int 128, .int mn]) (rest := []) ⟨hx, hb, hml, hown, hts⟩ (c_X0_readBits l D cI cJ cZ hrd ho hh va rg sh nx sz f 128 mn brg bsh (kB_w kc_128 (by decide) (by decide)) bsz (kB_w bmn (by decide) (by decide)) (s.heap).size) (cwV 2 hts (kg_V mk_25 mk_26 mk_27 mk_23 mk_28) rfl rfl rfl (by decide +kernel) ⟨Nat.le_of_ble_eq_true rfl, Nat.le_of_ble_eq_true rfl⟩) ⟨fun a U g mk q => by obtain ⟨q0, q1, qP, qK, qD⟩ := q; exact ⟨q0, q1, qP, kK.call qK, qD⟩, va_recv hK.1 hPc (ci := 0) (q0 := 0) rfl rfl, fun U hU hW => ⟨rfl, by rw [hU], by rw [hU]; exact hPc, kK.warm hW hK, hDc.weaken (fun _ _ _ _ => trivial)⟩⟩ rfl rfl hl.1 rfl (lv_room (Nat.le_of_ble_eq_true rfl)) dX0_readNumber_5 ⟨Nat.zero_le _, Nat.zero_le _⟩) hS (fun q _ h => hFc q h) hFc (fun r5 u t9 H1 locs ht9 hvm9 hw9 hB9 hz9 hk9 hS => ?_)
  obtain ⟨va2_5, rg2_5, sh2_5, nx2_5⟩ := u
  obtain ⟨hP1, hD1⟩ := hB9
  rw [ht9] at hP1
  have hP1 : va_P D vwCl [(hrd, .inr (0, [.ref ho, .int va2_5, .int rg2_5, .int sh2_5, .int nx2_5])), (ho, .inr (3, [.ref hh, .int sz])), (hh, .inl (cI, 600, .inl f))] H1 := hP1
  obtain ⟨hP, hD⟩ := va_join (wr := []) (w1 := [(hrd, .inr (0, [.ref ho, .int va2_5, .int rg2_5, .int sh2_5, .int nx2_5])), (ho, .inr (3, [.ref hh, .int sz])), (hh, .inl (cI, 600, .inl f))]) hP hD [0, 1, 2] [] rfl rfl (by decide) (by decide) hk9 hFc hP1 hD1
  have hP := hP.sub (ws' := [(hrd, .inr (0, [.ref ho, .int va2_5, .int rg2_5, .int sh2_5, .int nx2_5])), (ho, .inr (3, [.ref hh, .int sz])), (hh, .inl (cI, 600, .inl f))]) [0, 1, 2] rfl
  have hD := hD.sub (ws' := [(hrd, .inr (0, [.ref ho, .int va2_5, .int rg2_5, .int sh2_5, .int nx2_5])), (ho, .inr (3, [.ref hh, .int sz])), (hh, .inl (cI, 600, .inl f))]) [0, 1, 2] (by decide) rfl
  generalize H1 = H at hP hS ⊢
  obtain ⟨q5_0, q5_1, q5_2, q5_3⟩ := hw9
  have q5_0 : kB rg2_5 128 255 := q5_0
  have q5_1 : kB sh2_5 0 7 := q5_1
  have q5_2 : mn.toInt ≤ 16 → 0 ≤ r5.toInt ∧ r5.toInt < pw2 mn.toInt := q5_2
  have q5_3 : kIf ((128 : Int32).toInt = 128 ∧ mn.toInt = 2 ∧ 0 ≤ va.toInt ∧ va.toInt ≤ 500000 ∧ sh.toInt ≤ 4) ((r5.toInt, va2_5.toInt, rg2_5.toInt, sh2_5.toInt) = rI 2 (0, va.toInt, rg.toInt, sh.toInt)) := q5_3
  have pf_n : 0 ≤ r5.toInt ∧ r5.toInt < pw2 mn.toInt := (q5_2 bmn.2)
  have pf_ex : kIf (mn.toInt = 2 ∧ 0 ≤ va.toInt ∧ va.toInt ≤ 500000 ∧ sh.toInt ≤ 4) ((r5.toInt, va2_5.toInt, rg2_5.toInt, sh2_5.toInt) = rI 2 (0, va.toInt, rg.toInt, sh.toInt)) := (fun h9 => q5_3 ⟨by decide, h9⟩)
  exact W.iret (v := r5) hx hb hr (fun t9 ht9 hW9 => ⟨⟨r5, (va2_5, rg2_5, sh2_5, nx2_5), rfl, ⟨q5_0, q5_1, pf_n, pf_ex⟩, by rw [ht9]; exact hP, hD⟩, hS.F ht9⟩) hS.2.2 dX0_readNumber_8
abbrev kw_X0_octetsBeyond : List Cond := Cond.code yX0_octetsBeyond cX0_octetsBeyond 1 (some .int) :: kW
set_option maxHeartbeats 4000000 in
set_option maxRecDepth 100000 in
theorem c_X0_octetsBeyond (l : Launch) (D : va_G) (cI cJ cZ : ClassId) (hrd ho hh : Nat) (va : Int32) (rg : Int32) (sh : Int32) (nx : Int32) (sz : Int32) (f : Nat → Int32) (hpz : Nat) : Met l yX0_octetsBeyond kw_X0_octetsBeyond ({ frames := 1, cells := 0, slots := 0, locals := 24 }) (va_Pc [.ref hrd] (fun U => U.heap.size = hpz ∧ va_P D vwCl [(hrd, .inr (0, [.ref ho, .int va, .int rg, .int sh, .int nx])), (ho, .inr (3, [.ref hh, .int sz])), (hh, .inl (cI, 600, .inl f))] U.heap ∧ kK D cI cJ cZ U ∧ va_D (fun _ => True) [(hrd, .inr (0, [.ref ho, .int va, .int rg, .int sh, .int nx])), (ho, .inr (3, [.ref hh, .int sz])), (hh, .inl (cI, 600, .inl f))])) (va_Qi (fun (r : Int32) (u : Unit) => True) (fun (u : Unit) (t : State) => va_P D vwCl [(hrd, .inr (0, [.ref ho, .int va, .int rg, .int sh, .int nx])), (ho, .inr (3, [.ref hh, .int sz])), (hh, .inl (cI, 600, .inl f))] t.heap ∧ va_D (va_A [(hrd, .inr (0, [.ref ho, .int va, .int rg, .int sh, .int nx])), (ho, .inr (3, [.ref hh, .int sz])), (hh, .inl (cI, 600, .inl f))] hpz) [(hrd, .inr (0, [.ref ho, .int va, .int rg, .int sh, .int nx])), (ho, .inr (3, [.ref hh, .int sz])), (hh, .inl (cI, 600, .inl f))]) (va_A [(hrd, .inr (0, [.ref ho, .int va, .int rg, .int sh, .int nx])), (ho, .inr (3, [.ref hh, .int sz])), (hh, .inl (cI, 600, .inl f))] hpz)) 0 0 (va_A [(hrd, .inr (0, [.ref ho, .int va, .int rg, .int sh, .int nx])), (ho, .inr (3, [.ref hh, .int sz])), (hh, .inl (cI, 600, .inl f))] hpz) := by
  refine Met.ofW (cc := cX0_octetsBeyond) (maxL := 1) (ret := (some .int)) (by decide) rfl ?_
  intro p e s m args below meth c s₁ B hml hv
  obtain ⟨rfl, hsz, hP, hK, hD0⟩ := hv
  have hx := B.exec
  have hb := B.bytes
  have hr := B.returns
  have hts := fun (w : Cond) (h : w ∈ kW) => atoms_spec (ws := kw_X0_octetsBeyond) B.pre w (List.mem_cons_of_mem _ h)
  have hown : s.vm.findClass RX0 = some m.cls := findClass_of_methodNamed B.named
  have hlocks := B.notSynchronized
  subst hsz
  have hD := hD0.self (sz := s.heap.size)
  generalize hAe : va_A [(hrd, .inr (0, [.ref ho, .int va, .int rg, .int sh, .int nx])), (ho, .inr (3, [.ref hh, .int sz])), (hh, .inl (cI, 600, .inl f))] s.heap.size = A at hD ⊢
  have hA : ∀ q : Nat, s.heap.size ≤ q → A q := fun q h => by rw [← hAe]; exact Or.inr h
  have hS : va_S A s.heap s.heap [] := va_S.rf
  have hP : va_P D vwCl [(hrd, .inr (0, [.ref ho, .int va, .int rg, .int sh, .int nx])), (ho, .inr (3, [.ref hh, .int sz])), (hh, .inl (cI, 600, .inl f))] s.heap := hP
  have hl := lv_entry ([.ref hrd]) (n := 1) (Nat.le_of_ble_eq_true rfl)
  rw [lg_entry_eq]
  generalize (lg_sl ([.ref hrd]) ++ List.replicate (1 - (lg_sl ([.ref hrd])).length) Slot.unset).toArray = ls at hl ⊢
  have hl : lv_has ls 1 [(0, .ref hrd)] := hl
  refine lv_iconst (v := 0) hx hb dX0_octetsBeyond_0 (by decide) ?_
  refine lv_aload_n hx hb dX0_octetsBeyond_1 rfl (lv_at hl 0 rfl) ?_
  refine va_get (D := D) (ci := 0) (v := .int nx) (C := RX0) (T := TX0) (N := 5) hx hb hts in_X0 hown hK.1 hP 0 rfl rfl 4 (by decide) (hts _ mk_11) (fun _ h9 => h9) rfl dX0_octetsBeyond_2 ?_
  refine lv_aload_n hx hb dX0_octetsBeyond_5 rfl (lv_at hl 0 rfl) ?_
  refine va_get (D := D) (ci := 0) (v := .ref ho) (C := RX0) (T := TX0) (N := 5) hx hb hts in_X0 hown hK.1 hP 0 rfl rfl 0 (by decide) (hts _ mk_2) (fun _ h9 => h9) rfl dX0_octetsBeyond_6 ?_
  have hPc := hP.sub (ws' := [(ho, .inr (3, [.ref hh, .int sz])), (hh, .inl (cI, 600, .inl f))]) [1, 2] rfl
  have hDc := hD.sub (ws' := [(ho, .inr (3, [.ref hh, .int sz])), (hh, .inl (cI, 600, .inl f))]) [1, 2] (by decide) rfl
  have hFc := va_free (wc := [(ho, .inr (3, [.ref hh, .int sz])), (hh, .inl (cI, 600, .inl f))]) hD hS hA [1, 2] rfl
  refine va_calli (va_runV (As := []) (rest := [.int nx, .int 0]) ⟨hx, hb, hml, hown, hts⟩ (c_X3_size l D cI cJ cZ ho hh sz f (s.heap).size) (cwV 0 hts (kg_V mk_29 mk_30 mk_31 mk_6 mk_32) rfl rfl rfl (by decide +kernel) ⟨Nat.le_of_ble_eq_true rfl, Nat.le_of_ble_eq_true rfl⟩) ⟨fun a U g mk q => by obtain ⟨q0, q1, qP, qK, qD⟩ := q; exact ⟨q0, q1, qP, kK.call qK, qD⟩, va_recv hK.1 hPc (ci := 3) (q0 := 0) rfl rfl, fun U hU hW => ⟨rfl, by rw [hU], by rw [hU]; exact hPc, kK.warm hW hK, hDc.weaken (fun _ _ _ _ => trivial)⟩⟩ rfl rfl hl.1 rfl (lv_room (Nat.le_of_ble_eq_true rfl)) dX0_octetsBeyond_9 ⟨Nat.zero_le _, Nat.zero_le _⟩) hS (fun q _ h => hFc q h) hFc (fun r9 u t9 H1 locs ht9 hvm9 hw9 hB9 hz9 hk9 hS => ?_)
  obtain ⟨hP1, hD1⟩ := hB9
  rw [ht9] at hP1
  have hP1 : va_P D vwCl [(ho, .inr (3, [.ref hh, .int sz])), (hh, .inl (cI, 600, .inl f))] H1 := hP1
  obtain ⟨hP, hD⟩ := va_join (wr := [(hrd, .inr (0, [.ref ho, .int va, .int rg, .int sh, .int nx]))]) (w1 := [(ho, .inr (3, [.ref hh, .int sz])), (hh, .inl (cI, 600, .inl f))]) hP hD [1, 2] [0] rfl rfl (by decide) (by decide) hk9 hFc hP1 hD1
  have hP := hP.sub (ws' := [(hrd, .inr (0, [.ref ho, .int va, .int rg, .int sh, .int nx])), (ho, .inr (3, [.ref hh, .int sz])), (hh, .inl (cI, 600, .inl f))]) [0, 1, 2] rfl
  have hD := hD.sub (ws' := [(hrd, .inr (0, [.ref ho, .int va, .int rg, .int sh, .int nx])), (ho, .inr (3, [.ref hh, .int sz])), (hh, .inl (cI, 600, .inl f))]) [0, 1, 2] (by decide) rfl
  generalize H1 = H at hP hS ⊢
  have q9_0 : r9 = sz := hw9
  refine lv_isub hx hb dX0_octetsBeyond_12 ?_
  refine lv_topi (fun v12 e12 => ?_)
  refine va_mmax hx hb (by rw [hml]; exact hl.1.symm) hown (hts _ mk_33) (hts _ mk_34) (hts _ mk_18) (hts _ mk_35) (Nat.le_of_ble_eq_true rfl) (Nat.le_of_ble_eq_true rfl) (Nat.zero_le _) (Nat.zero_le _) dX0_octetsBeyond_13 ?_
  refine lv_topi (fun v13 e13 => ?_)
  have kb13 := kB_all v12
  have b13 : kB v13 0 2147483647 := kB_eq e13 (kB_max kc_0 kb13 (by decide))
  exact W.iret (v := v13) hx hb hr (fun t9 ht9 hW9 => ⟨⟨v13, (), rfl, trivial, by rw [ht9]; exact hP, hD⟩, hS.F ht9⟩) hS.2.2 dX0_octetsBeyond_16
