abbrev kw_X2_readProbabilities : List Cond := Cond.code yX2_readProbabilities cX2_readProbabilities 4 (some .int) :: kW
set_option maxHeartbeats 4000000 in
set_option maxRecDepth 100000 in
theorem lp_X2_readProbabilities_4 {p : Program} {l : Launch} {e : Env} {s : State} {m : MethodId} {args : Array Value} {below : List Frame} {meth : Method} {c : Code} {A : Nat → Prop} (D : va_G) (cI cJ cZ : ClassId) (ht hpr hrd ho hh : Nat) (va : Int32) (rg : Int32) (sh : Int32) (nx : Int32) (sz : Int32) (f : Nat → Int32) (pr : Nat → Int32) (brg : kB rg 128 255) (bsh : kB sh 0 7) (bsz : kB sz 0 600) (apr : kA pr 0 255) (hx : p.tables.exec = Jvm.exec) (hb : c.code = cX2_readProbabilities) (hr : meth.sig.returnType = (some .int)) (hml : c.maxLocals = 4) (hown : s.vm.findClass RX2 = some m.cls) (hts : ∀ w ∈ kW, w.before args s = true) (hlocks : meth.locks = false) (hK : kK D cI cJ cZ s) (hA : ∀ q : Nat, s.heap.size ≤ q → A q) : ∀ n : Nat, ∀ (x2 : Int32) (x3 : Int32) (va2 : Int32) (rg2 : Int32) (sh2 : Int32) (nx2 : Int32) (pr2 : Nat → Int32), (264 - x3.toInt).toNat < n → (kB x3 0 264) → (kB rg2 128 255) → (kB sh2 0 7) → (kA pr2 0 255) → ∀ (H : Heap) (locs : List Loc) (ls : Array Slot), va_P D vwCl [(ht, .inr (2, [.ref hpr])), (hpr, .inl (cI, 264, .inl pr2)), (hrd, .inr (0, [.ref ho, .int va2, .int rg2, .int sh2, .int nx2])), (ho, .inr (3, [.ref hh, .int sz])), (hh, .inl (cI, 600, .inl f))] H → va_D A [(ht, .inr (2, [.ref hpr])), (hpr, .inl (cI, 264, .inl pr2)), (hrd, .inr (0, [.ref ho, .int va2, .int rg2, .int sh2, .int nx2])), (ho, .inr (3, [.ref hh, .int sz])), (hh, .inl (cI, 600, .inl f))] → va_S A s.heap H locs → lv_has ls 4 [(0, .ref ht), (1, .ref hrd), (2, .int x2), (3, .int x3)] → W p l e (headSpec kw_X2_readProbabilities ({ frames := 4, cells := 0, slots := 0, locals := 93 })).room s m args below meth c H locs 0 0 (MQ below (va_Qi (fun (r : Int32) (u : Int32 × Int32 × Int32 × Int32 × (Nat → Int32)) => (kB u.2.1 128 255) ∧ (kB u.2.2.1 0 7) ∧ (kA u.2.2.2.2 0 255)) (fun (u : Int32 × Int32 × Int32 × Int32 × (Nat → Int32)) (t : State) => va_P D vwCl [(ht, .inr (2, [.ref hpr])), (hpr, .inl (cI, 264, .inl u.2.2.2.2)), (hrd, .inr (0, [.ref ho, .int u.1, .int u.2.1, .int u.2.2.1, .int u.2.2.2.1])), (ho, .inr (3, [.ref hh, .int sz])), (hh, .inl (cI, 600, .inl f))] t.heap ∧ va_D A [(ht, .inr (2, [.ref hpr])), (hpr, .inl (cI, 264, .inl u.2.2.2.2)), (hrd, .inr (0, [.ref ho, .int u.1, .int u.2.1, .int u.2.2.1, .int u.2.2.2.1])), (ho, .inr (3, [.ref hh, .int sz])), (hh, .inl (cI, 600, .inl f))]) A) args s 0 0 A) (F0 m 4 ls []) := by
  intro n
  induction n with
  | zero => intro x2 x3 va2 rg2 sh2 nx2 pr2 hmeas; exact absurd hmeas (Nat.not_lt_zero _)
  | succ n ih =>
    intro x2 x3 va2 rg2 sh2 nx2 pr2 hmeas b3 brg2 bsh2 apr2 H locs ls hP hD hS hl
    refine lv_iload_n hx hb dX2_readProbabilities_4 rfl (lv_at hl 3 rfl) ?_
    refine lv_sipush (v := 264) hx hb dX2_readProbabilities_5 (by decide) ?_
    refine lv_icmp_ge (tgt := 56) hx hb dX2_readProbabilities_8 (by decide) (fun c8 => ?_) (fun c8 => ?_)
    · have c8y : kB x3 264 264 := kB_le_r kc_264 b3 c8 (by decide)
      refine lv_iload_n hx hb dX2_readProbabilities_56 rfl (lv_at hl 2 rfl) ?_
      exact W.iret (v := x2) hx hb hr (fun t9 ht9 hW9 => ⟨⟨x2, (va2, rg2, sh2, nx2, pr2), rfl, ⟨brg2, bsh2, apr2⟩, by rw [ht9]; exact hP, hD⟩, hS.F ht9⟩) hS.2.2 dX2_readProbabilities_57
    · have c8n : x3 < 264 := kN_le c8
      have c8nx : kB x3 0 263 := kB_lt_l b3 kc_264 c8n (by decide)
      refine lv_aload_n hx hb dX2_readProbabilities_11 rfl (lv_at hl 0 rfl) ?_
      refine va_get (D := D) (ci := 2) (v := .ref hpr) (C := RX2) (T := TX2) (N := 1) hx hb hts in_X2 hown hK.1 hP 0 rfl rfl 0 (by decide) (hts _ mk_36) (fun _ h9 => h9) rfl dX2_readProbabilities_12 ?_
      refine lv_iload_n hx hb dX2_readProbabilities_15 rfl (lv_at hl 3 rfl) ?_
      refine lv_sipush (v := 128) hx hb dX2_readProbabilities_16 (by decide) ?_
      refine va_iast hx hb hK.1 hP hD hS 1 0 rfl rfl (kB_in c8nx (by decide)) dX2_readProbabilities_19 (fun H locs hP hD hS => ?_)
      have hP : va_P D vwCl [(ht, .inr (2, [.ref hpr])), (hpr, .inl (cI, 264, .inl (upd pr2 x3.toNatClampNeg 128))), (hrd, .inr (0, [.ref ho, .int va2, .int rg2, .int sh2, .int nx2])), (ho, .inr (3, [.ref hh, .int sz])), (hh, .inl (cI, 600, .inl f))] H := hP
      have hD : va_D A [(ht, .inr (2, [.ref hpr])), (hpr, .inl (cI, 264, .inl (upd pr2 x3.toNatClampNeg 128))), (hrd, .inr (0, [.ref ho, .int va2, .int rg2, .int sh2, .int nx2])), (ho, .inr (3, [.ref hh, .int sz])), (hh, .inl (cI, 600, .inl f))] := hD
      generalize hf19 : upd pr2 x3.toNatClampNeg 128 = f19 at hP hD
      have a19 : kA f19 0 255 := hf19 ▸ kA_up apr2 (kB_w kc_128 (by decide) (by decide))
      refine lv_aload_n hx hb dX2_readProbabilities_20 rfl (lv_at hl 1 rfl) ?_
      refine lv_sipush (v := 250) hx hb dX2_readProbabilities_21 (by decide) ?_
      have hPc := hP.sub (ws' := [(hrd, .inr (0, [.ref ho, .int va2, .int rg2, .int sh2, .int nx2])), (ho, .inr (3, [.ref hh, .int sz])), (hh, .inl (cI, 600, .inl f))]) [2, 3, 4] rfl
      have hDc := hD.sub (ws' := [(hrd, .inr (0, [.ref ho, .int va2, .int rg2, .int sh2, .int nx2])), (ho, .inr (3, [.ref hh, .int sz])), (hh, .inl (cI, 600, .inl f))]) [2, 3, 4] (by decide) rfl
      have hFc := va_free (wc := [(hrd, .inr (0, [.ref ho, .int va2, .int rg2, .int sh2, .int nx2])), (ho, .inr (3, [.ref hh, .int sz])), (hh, .inl (cI, 600, .inl f))]) hD hS hA [2, 3, 4] rfl
      refine va_calli (va_runV (As := [.int 250]) (rest := []) ⟨hx, hb, hml, hown, hts⟩ (c_X0_readBit l D cI cJ cZ hrd ho hh va2 rg2 sh2 nx2 sz f 250 brg2 bsh2 (kB_w kc_250 (by decide) (by decide)) bsz (H).size) (cwV 1 hts (kg_V mk_37 mk_21 mk_22 mk_23 mk_24) rfl rfl rfl (by decide +kernel) ⟨Nat.le_of_ble_eq_true rfl, Nat.le_of_ble_eq_true rfl⟩) ⟨fun a U g mk q => by obtain ⟨q0, q1, qP, qK, qD⟩ := q; exact ⟨q0, q1, qP, kK.call qK, qD⟩, va_recv hK.1 hPc (ci := 0) (q0 := 0) rfl rfl, fun U hU hW => ⟨rfl, by rw [hU], by rw [hU]; exact hPc, kK.warm hW hK, hDc.weaken (fun _ _ _ _ => trivial)⟩⟩ rfl rfl hl.1 rfl (lv_room (Nat.le_of_ble_eq_true rfl)) dX2_readProbabilities_24 ⟨Nat.zero_le _, Nat.zero_le _⟩) hS (fun q _ h => hFc q h) hFc (fun r24 u t9 H1 locs ht9 hvm9 hw9 hB9 hz9 hk9 hS => ?_)
      obtain ⟨va2_24, rg2_24, sh2_24, nx2_24⟩ := u
      obtain ⟨hP1, hD1⟩ := hB9
      rw [ht9] at hP1
      have hP1 : va_P D vwCl [(hrd, .inr (0, [.ref ho, .int va2_24, .int rg2_24, .int sh2_24, .int nx2_24])), (ho, .inr (3, [.ref hh, .int sz])), (hh, .inl (cI, 600, .inl f))] H1 := hP1
      obtain ⟨hP, hD⟩ := va_join (wr := [(ht, .inr (2, [.ref hpr])), (hpr, .inl (cI, 264, .inl f19))]) (w1 := [(hrd, .inr (0, [.ref ho, .int va2_24, .int rg2_24, .int sh2_24, .int nx2_24])), (ho, .inr (3, [.ref hh, .int sz])), (hh, .inl (cI, 600, .inl f))]) hP hD [2, 3, 4] [0, 1] rfl rfl (by decide) (by decide) hk9 hFc hP1 hD1
      have hP := hP.sub (ws' := [(ht, .inr (2, [.ref hpr])), (hpr, .inl (cI, 264, .inl f19)), (hrd, .inr (0, [.ref ho, .int va2_24, .int rg2_24, .int sh2_24, .int nx2_24])), (ho, .inr (3, [.ref hh, .int sz])), (hh, .inl (cI, 600, .inl f))]) [0, 1, 2, 3, 4] rfl
      have hD := hD.sub (ws' := [(ht, .inr (2, [.ref hpr])), (hpr, .inl (cI, 264, .inl f19)), (hrd, .inr (0, [.ref ho, .int va2_24, .int rg2_24, .int sh2_24, .int nx2_24])), (ho, .inr (3, [.ref hh, .int sz])), (hh, .inl (cI, 600, .inl f))]) [0, 1, 2, 3, 4] (by decide) rfl
      generalize H1 = H at hP hS ⊢
      obtain ⟨q24_0, q24_1, q24_2, q24_3⟩ := hw9
      have q24_0 : kB r24 0 1 := q24_0
      have q24_1 : kB rg2_24 128 255 := q24_1
      have q24_2 : kB sh2_24 0 7 := q24_2
      have q24_3 : kIf ((250 : Int32).toInt = 128 ∧ 0 ≤ va2.toInt ∧ va2.toInt ≤ 2000000 ∧ sh2.toInt ≤ 6) (r24.toInt = rBt va2.toInt rg2.toInt ∧ (va2_24.toInt, rg2_24.toInt, sh2_24.toInt) = rNx va2.toInt rg2.toInt sh2.toInt) := q24_3
      refine lv_iconst (v := 1) hx hb dX2_readProbabilities_27 (by decide) ?_
      refine lv_icmp_ne (tgt := 50) hx hb dX2_readProbabilities_28 (by decide) (fun c28 => ?_) (fun c28 => ?_)
      · have c28x : kB r24 0 0 := kB_nhi q24_0 c28 kc_1 (by decide)
        obtain ⟨v50, e50⟩ : ∃ y : Int32, y = x3 + 1 := ⟨_, rfl⟩
        refine lv_iinc (v := v50) (lv' := [(3, .int v50), (0, .ref ht), (1, .ref hrd), (2, .int x2)]) hx hb dX2_readProbabilities_50 hl (k := 3) rfl (by rw [e50]; rfl) (by decide) rfl (fun ls hl => ?_)
        have b50 : kB v50 1 264 := kB_eq e50 (kB_add c8nx kc_1 (by decide))
        have t50 : v50.toInt = x3.toInt + 1 := by rw [e50]; exact kinc (kB_w c8nx (by decide) (by decide))
        refine lv_goto (tgt := 4) hx hb dX2_readProbabilities_53 (by decide) ?_
        exact ih x2 v50 va2_24 rg2_24 sh2_24 nx2_24 f19 (by have := b50.1; have := b50.2; have := q24_1.1; have := q24_1.2; have := q24_2.1; have := q24_2.2; have := c8nx.1; have := c8nx.2; have := brg2.1; have := brg2.2; have := bsh2.1; have := bsh2.2; omega) (kB_w b50 (by decide) (by decide)) q24_1 q24_2 a19 _ _ ls hP hD hS (lv_sub hl [1, 2, 3, 0] rfl)
      · have c28x : kB r24 1 1 := kB_eq c28 kc_1
        refine lv_aload_n hx hb dX2_readProbabilities_31 rfl (lv_at hl 0 rfl) ?_
        refine va_get (D := D) (ci := 2) (v := .ref hpr) (C := RX2) (T := TX2) (N := 1) hx hb hts in_X2 hown hK.1 hP 0 rfl rfl 0 (by decide) (hts _ mk_36) (fun _ h9 => h9) rfl dX2_readProbabilities_32 ?_
        refine lv_iload_n hx hb dX2_readProbabilities_35 rfl (lv_at hl 3 rfl) ?_
        refine lv_iconst (v := 1) hx hb dX2_readProbabilities_36 (by decide) ?_
        refine lv_aload_n hx hb dX2_readProbabilities_37 rfl (lv_at hl 1 rfl) ?_
        refine lv_bipush (v := 8) hx hb dX2_readProbabilities_38 (by decide) ?_
        have hPc := hP.sub (ws' := [(hrd, .inr (0, [.ref ho, .int va2_24, .int rg2_24, .int sh2_24, .int nx2_24])), (ho, .inr (3, [.ref hh, .int sz])), (hh, .inl (cI, 600, .inl f))]) [2, 3, 4] rfl
        have hDc := hD.sub (ws' := [(hrd, .inr (0, [.ref ho, .int va2_24, .int rg2_24, .int sh2_24, .int nx2_24])), (ho, .inr (3, [.ref hh, .int sz])), (hh, .inl (cI, 600, .inl f))]) [2, 3, 4] (by decide) rfl
        have hFc := va_free (wc := [(hrd, .inr (0, [.ref ho, .int va2_24, .int rg2_24, .int sh2_24, .int nx2_24])), (ho, .inr (3, [.ref hh, .int sz])), (hh, .inl (cI, 600, .inl f))]) hD hS hA [2, 3, 4] rfl
        refine va_calli (va_runV (As := [.int 8]) (rest := [.int 1, .int x3, .ref hpr]) ⟨hx, hb, hml, hown, hts⟩ (c_X0_readNumber l D cI cJ cZ hrd ho hh va2_24 rg2_24 sh2_24 nx2_24 sz f 8 q24_1 q24_2 bsz (kB_w kc_8 (by decide) (by decide)) (H).size) (cwV 1 hts (kg_V mk_38 mk_39 mk_40 mk_23 mk_41) rfl rfl rfl (by decide +kernel) ⟨Nat.le_of_ble_eq_true rfl, Nat.le_of_ble_eq_true rfl⟩) ⟨fun a U g mk q => by obtain ⟨q0, q1, qP, qK, qD⟩ := q; exact ⟨q0, q1, qP, kK.call qK, qD⟩, va_recv hK.1 hPc (ci := 0) (q0 := 0) rfl rfl, fun U hU hW => ⟨rfl, by rw [hU], by rw [hU]; exact hPc, kK.warm hW hK, hDc.weaken (fun _ _ _ _ => trivial)⟩⟩ rfl rfl hl.1 rfl (lv_room (Nat.le_of_ble_eq_true rfl)) dX2_readProbabilities_40 ⟨Nat.zero_le _, Nat.zero_le _⟩) hS (fun q _ h => hFc q h) hFc (fun r40 u t9 H1 locs ht9 hvm9 hw9 hB9 hz9 hk9 hS => ?_)
        obtain ⟨va2_40, rg2_40, sh2_40, nx2_40⟩ := u
        obtain ⟨hP1, hD1⟩ := hB9
        rw [ht9] at hP1
        have hP1 : va_P D vwCl [(hrd, .inr (0, [.ref ho, .int va2_40, .int rg2_40, .int sh2_40, .int nx2_40])), (ho, .inr (3, [.ref hh, .int sz])), (hh, .inl (cI, 600, .inl f))] H1 := hP1
        obtain ⟨hP, hD⟩ := va_join (wr := [(ht, .inr (2, [.ref hpr])), (hpr, .inl (cI, 264, .inl f19))]) (w1 := [(hrd, .inr (0, [.ref ho, .int va2_40, .int rg2_40, .int sh2_40, .int nx2_40])), (ho, .inr (3, [.ref hh, .int sz])), (hh, .inl (cI, 600, .inl f))]) hP hD [2, 3, 4] [0, 1] rfl rfl (by decide) (by decide) hk9 hFc hP1 hD1
        have hP := hP.sub (ws' := [(ht, .inr (2, [.ref hpr])), (hpr, .inl (cI, 264, .inl f19)), (hrd, .inr (0, [.ref ho, .int va2_40, .int rg2_40, .int sh2_40, .int nx2_40])), (ho, .inr (3, [.ref hh, .int sz])), (hh, .inl (cI, 600, .inl f))]) [0, 1, 2, 3, 4] rfl
        have hD := hD.sub (ws' := [(ht, .inr (2, [.ref hpr])), (hpr, .inl (cI, 264, .inl f19)), (hrd, .inr (0, [.ref ho, .int va2_40, .int rg2_40, .int sh2_40, .int nx2_40])), (ho, .inr (3, [.ref hh, .int sz])), (hh, .inl (cI, 600, .inl f))]) [0, 1, 2, 3, 4] (by decide) rfl
        generalize H1 = H at hP hS ⊢
        obtain ⟨q40_0, q40_1, q40_2, q40_3⟩ := hw9
        have q40_0 : kB rg2_40 128 255 := q40_0
        have q40_1 : kB sh2_40 0 7 := q40_1
        have q40_2 : 0 ≤ r40.toInt ∧ r40.toInt < pw2 (8 : Int32).toInt := q40_2
        have q40_3 : kIf ((8 : Int32).toInt = 2 ∧ 0 ≤ va2_24.toInt ∧ va2_24.toInt ≤ 500000 ∧ sh2_24.toInt ≤ 4) ((r40.toInt, va2_40.toInt, rg2_40.toInt, sh2_40.toInt) = rI 2 (0, va2_24.toInt, rg2_24.toInt, sh2_24.toInt)) := q40_3
        have B40 : kB r40 0 255 := kn_w q40_2 (k := 256) (by decide) (by decide)
        refine va_mmax hx hb (by rw [hml]; exact hl.1.symm) hown (hts _ mk_42) (hts _ mk_34) (hts _ mk_18) (hts _ mk_35) (Nat.le_of_ble_eq_true rfl) (Nat.le_of_ble_eq_true rfl) (Nat.zero_le _) (Nat.zero_le _) dX2_readProbabilities_43 ?_
        refine lv_topi (fun v43 e43 => ?_)
        have b43 : kB v43 1 255 := kB_eq e43 (kB_max kc_1 B40 (by decide))
        refine va_iast hx hb hK.1 hP hD hS 1 0 rfl rfl (kB_in c8nx (by decide)) dX2_readProbabilities_46 (fun H locs hP hD hS => ?_)
        have hP : va_P D vwCl [(ht, .inr (2, [.ref hpr])), (hpr, .inl (cI, 264, .inl (upd f19 x3.toNatClampNeg v43))), (hrd, .inr (0, [.ref ho, .int va2_40, .int rg2_40, .int sh2_40, .int nx2_40])), (ho, .inr (3, [.ref hh, .int sz])), (hh, .inl (cI, 600, .inl f))] H := hP
        have hD : va_D A [(ht, .inr (2, [.ref hpr])), (hpr, .inl (cI, 264, .inl (upd f19 x3.toNatClampNeg v43))), (hrd, .inr (0, [.ref ho, .int va2_40, .int rg2_40, .int sh2_40, .int nx2_40])), (ho, .inr (3, [.ref hh, .int sz])), (hh, .inl (cI, 600, .inl f))] := hD
        generalize hf46 : upd f19 x3.toNatClampNeg v43 = f46 at hP hD
        have a46 : kA f46 0 255 := hf46 ▸ kA_up a19 (kB_w b43 (by decide) (by decide))
        obtain ⟨v47, e47⟩ : ∃ y : Int32, y = x2 + 1 := ⟨_, rfl⟩
        refine lv_iinc (v := v47) (lv' := [(2, .int v47), (0, .ref ht), (1, .ref hrd), (3, .int x3)]) hx hb dX2_readProbabilities_47 hl (k := 2) rfl (by rw [e47]; rfl) (by decide) rfl (fun ls hl => ?_)
        obtain ⟨v50, e50⟩ : ∃ y : Int32, y = x3 + 1 := ⟨_, rfl⟩
        refine lv_iinc (v := v50) (lv' := [(3, .int v50), (2, .int v47), (0, .ref ht), (1, .ref hrd)]) hx hb dX2_readProbabilities_50 hl (k := 3) rfl (by rw [e50]; rfl) (by decide) rfl (fun ls hl => ?_)
        have b50 : kB v50 1 264 := kB_eq e50 (kB_add c8nx kc_1 (by decide))
        have t50 : v50.toInt = x3.toInt + 1 := by rw [e50]; exact kinc (kB_w c8nx (by decide) (by decide))
        refine lv_goto (tgt := 4) hx hb dX2_readProbabilities_53 (by decide) ?_
        exact ih v47 v50 va2_40 rg2_40 sh2_40 nx2_40 f46 (by have := b50.1; have := b50.2; have := q40_0.1; have := q40_0.2; have := q40_1.1; have := q40_1.2; have := c8nx.1; have := c8nx.2; have := brg2.1; have := brg2.2; have := bsh2.1; have := bsh2.2; omega) (kB_w b50 (by decide) (by decide)) q40_0 q40_1 a46 _ _ ls hP hD hS (lv_sub hl [2, 3, 1, 0] rfl)
set_option maxHeartbeats 4000000 in
set_option maxRecDepth 100000 in
theorem c_X2_readProbabilities (l : Launch) (D : va_G) (cI cJ cZ : ClassId) (ht hpr hrd ho hh : Nat) (va : Int32) (rg : Int32) (sh : Int32) (nx : Int32) (sz : Int32) (f : Nat → Int32) (pr : Nat → Int32) (brg : kB rg 128 255) (bsh : kB sh 0 7) (bsz : kB sz 0 600) (apr : kA pr 0 255) (hpz : Nat) : Met l yX2_readProbabilities kw_X2_readProbabilities ({ frames := 4, cells := 0, slots := 0, locals := 93 }) (va_Pc [.ref ht, .ref hrd] (fun U => U.heap.size = hpz ∧ va_P D vwCl [(ht, .inr (2, [.ref hpr])), (hpr, .inl (cI, 264, .inl pr)), (hrd, .inr (0, [.ref ho, .int va, .int rg, .int sh, .int nx])), (ho, .inr (3, [.ref hh, .int sz])), (hh, .inl (cI, 600, .inl f))] U.heap ∧ kK D cI cJ cZ U ∧ va_D (fun _ => True) [(ht, .inr (2, [.ref hpr])), (hpr, .inl (cI, 264, .inl pr)), (hrd, .inr (0, [.ref ho, .int va, .int rg, .int sh, .int nx])), (ho, .inr (3, [.ref hh, .int sz])), (hh, .inl (cI, 600, .inl f))])) (va_Qi (fun (r : Int32) (u : Int32 × Int32 × Int32 × Int32 × (Nat → Int32)) => (kB u.2.1 128 255) ∧ (kB u.2.2.1 0 7) ∧ (kA u.2.2.2.2 0 255)) (fun (u : Int32 × Int32 × Int32 × Int32 × (Nat → Int32)) (t : State) => va_P D vwCl [(ht, .inr (2, [.ref hpr])), (hpr, .inl (cI, 264, .inl u.2.2.2.2)), (hrd, .inr (0, [.ref ho, .int u.1, .int u.2.1, .int u.2.2.1, .int u.2.2.2.1])), (ho, .inr (3, [.ref hh, .int sz])), (hh, .inl (cI, 600, .inl f))] t.heap ∧ va_D (va_A [(ht, .inr (2, [.ref hpr])), (hpr, .inl (cI, 264, .inl pr)), (hrd, .inr (0, [.ref ho, .int va, .int rg, .int sh, .int nx])), (ho, .inr (3, [.ref hh, .int sz])), (hh, .inl (cI, 600, .inl f))] hpz) [(ht, .inr (2, [.ref hpr])), (hpr, .inl (cI, 264, .inl u.2.2.2.2)), (hrd, .inr (0, [.ref ho, .int u.1, .int u.2.1, .int u.2.2.1, .int u.2.2.2.1])), (ho, .inr (3, [.ref hh, .int sz])), (hh, .inl (cI, 600, .inl f))]) (va_A [(ht, .inr (2, [.ref hpr])), (hpr, .inl (cI, 264, .inl pr)), (hrd, .inr (0, [.ref ho, .int va, .int rg, .int sh, .int nx])), (ho, .inr (3, [.ref hh, .int sz])), (hh, .inl (cI, 600, .inl f))] hpz)) 0 0 (va_A [(ht, .inr (2, [.ref hpr])), (hpr, .inl (cI, 264, .inl pr)), (hrd, .inr (0, [.ref ho, .int va, .int rg, .int sh, .int nx])), (ho, .inr (3, [.ref hh, .int sz])), (hh, .inl (cI, 600, .inl f))] hpz) := by
  refine Met.ofW (cc := cX2_readProbabilities) (maxL := 4) (ret := (some .int)) (by decide) rfl ?_
  intro p e s m args below meth c s₁ B hml hv
  obtain ⟨rfl, hsz, hP, hK, hD0⟩ := hv
  have hx := B.exec
  have hb := B.bytes
  have hr := B.returns
  have hts := fun (w : Cond) (h : w ∈ kW) => atoms_spec (ws := kw_X2_readProbabilities) B.pre w (List.mem_cons_of_mem _ h)
  have hown : s.vm.findClass RX2 = some m.cls := findClass_of_methodNamed B.named
  have hlocks := B.notSynchronized
  subst hsz
  have hD := hD0.self (sz := s.heap.size)
  generalize hAe : va_A [(ht, .inr (2, [.ref hpr])), (hpr, .inl (cI, 264, .inl pr)), (hrd, .inr (0, [.ref ho, .int va, .int rg, .int sh, .int nx])), (ho, .inr (3, [.ref hh, .int sz])), (hh, .inl (cI, 600, .inl f))] s.heap.size = A at hD ⊢
  have hA : ∀ q : Nat, s.heap.size ≤ q → A q := fun q h => by rw [← hAe]; exact Or.inr h
  have hS : va_S A s.heap s.heap [] := va_S.rf
  have hP : va_P D vwCl [(ht, .inr (2, [.ref hpr])), (hpr, .inl (cI, 264, .inl pr)), (hrd, .inr (0, [.ref ho, .int va, .int rg, .int sh, .int nx])), (ho, .inr (3, [.ref hh, .int sz])), (hh, .inl (cI, 600, .inl f))] s.heap := hP
  have hl := lv_entry ([.ref ht, .ref hrd]) (n := 4) (Nat.le_of_ble_eq_true rfl)
  rw [lg_entry_eq]
  generalize (lg_sl ([.ref ht, .ref hrd]) ++ List.replicate (4 - (lg_sl ([.ref ht, .ref hrd])).length) Slot.unset).toArray = ls at hl ⊢
  have hl : lv_has ls 4 [(0, .ref ht), (1, .ref hrd)] := hl
  refine lv_iconst (v := 0) hx hb dX2_readProbabilities_0 (by decide) ?_
  refine lv_istore_n (lv' := [(2, .int 0), (0, .ref ht), (1, .ref hrd)]) hx hb dX2_readProbabilities_1 rfl hl (by decide) rfl (fun ls hl => ?_)
  refine lv_iconst (v := 0) hx hb dX2_readProbabilities_2 (by decide) ?_
  refine lv_istore_n (lv' := [(3, .int 0), (2, .int 0), (0, .ref ht), (1, .ref hrd)]) hx hb dX2_readProbabilities_3 rfl hl (by decide) rfl (fun ls hl => ?_)
  exact lp_X2_readProbabilities_4 D cI cJ cZ ht hpr hrd ho hh va rg sh nx sz f pr brg bsh bsz apr hx hb hr hml hown hts hlocks hK hA ((264 - (0 : Int32).toInt).toNat + 1) 0 0 va rg sh nx pr (Nat.lt_succ_self _) (kB_w kc_0 (by decide) (by decide)) brg bsh apr _ _ ls hP hD hS (lv_sub hl [2, 3, 1, 0] rfl)
abbrev kw_X2_readSizeClass : List Cond := Cond.code yX2_readSizeClass cX2_readSizeClass 3 (some .int) :: kW
set_option maxHeartbeats 4000000 in
set_option maxRecDepth 100000 in
theorem c_X2_readSizeClass (l : Launch) (D : va_G) (cI cJ cZ : ClassId) (ht hpr hrd ho hh : Nat) (va : Int32) (rg : Int32) (sh : Int32) (nx : Int32) (sz : Int32) (f : Nat → Int32) (pr : Nat → Int32) (nd : Int32) (brg : kB rg 128 255) (bsh : kB sh 0 7) (bsz : kB sz 0 600) (apr : kA pr 0 255) (bnd : kB nd 0 253) (hpz : Nat) : Met l yX2_readSizeClass kw_X2_readSizeClass ({ frames := 2, cells := 0, slots := 0, locals := 48 }) (va_Pc [.ref ht, .ref hrd, .int nd] (fun U => U.heap.size = hpz ∧ va_P D vwCl [(ht, .inr (2, [.ref hpr])), (hpr, .inl (cI, 264, .inl pr)), (hrd, .inr (0, [.ref ho, .int va, .int rg, .int sh, .int nx])), (ho, .inr (3, [.ref hh, .int sz])), (hh, .inl (cI, 600, .inl f))] U.heap ∧ kK D cI cJ cZ U ∧ va_D (fun _ => True) [(ht, .inr (2, [.ref hpr])), (hpr, .inl (cI, 264, .inl pr)), (hrd, .inr (0, [.ref ho, .int va, .int rg, .int sh, .int nx])), (ho, .inr (3, [.ref hh, .int sz])), (hh, .inl (cI, 600, .inl f))])) (va_Qi (fun (r : Int32) (u : Int32 × Int32 × Int32 × Int32) => (kB u.2.1 128 255) ∧ (kB u.2.2.1 0 7) ∧ (kB r 0 5)) (fun (u : Int32 × Int32 × Int32 × Int32) (t : State) => va_P D vwCl [(ht, .inr (2, [.ref hpr])), (hpr, .inl (cI, 264, .inl pr)), (hrd, .inr (0, [.ref ho, .int u.1, .int u.2.1, .int u.2.2.1, .int u.2.2.2])), (ho, .inr (3, [.ref hh, .int sz])), (hh, .inl (cI, 600, .inl f))] t.heap ∧ va_D (va_A [(ht, .inr (2, [.ref hpr])), (hpr, .inl (cI, 264, .inl pr)), (hrd, .inr (0, [.ref ho, .int va, .int rg, .int sh, .int nx])), (ho, .inr (3, [.ref hh, .int sz])), (hh, .inl (cI, 600, .inl f))] hpz) [(ht, .inr (2, [.ref hpr])), (hpr, .inl (cI, 264, .inl pr)), (hrd, .inr (0, [.ref ho, .int u.1, .int u.2.1, .int u.2.2.1, .int u.2.2.2])), (ho, .inr (3, [.ref hh, .int sz])), (hh, .inl (cI, 600, .inl f))]) (va_A [(ht, .inr (2, [.ref hpr])), (hpr, .inl (cI, 264, .inl pr)), (hrd, .inr (0, [.ref ho, .int va, .int rg, .int sh, .int nx])), (ho, .inr (3, [.ref hh, .int sz])), (hh, .inl (cI, 600, .inl f))] hpz)) 0 0 (va_A [(ht, .inr (2, [.ref hpr])), (hpr, .inl (cI, 264, .inl pr)), (hrd, .inr (0, [.ref ho, .int va, .int rg, .int sh, .int nx])), (ho, .inr (3, [.ref hh, .int sz])), (hh, .inl (cI, 600, .inl f))] hpz) := by
  refine Met.ofW (cc := cX2_readSizeClass) (maxL := 3) (ret := (some .int)) (by decide) rfl ?_
  intro p e s m args below meth c s₁ B hml hv
  obtain ⟨rfl, hsz, hP, hK, hD0⟩ := hv
  have hx := B.exec
  have hb := B.bytes
  have hr := B.returns
  have hts := fun (w : Cond) (h : w ∈ kW) => atoms_spec (ws := kw_X2_readSizeClass) B.pre w (List.mem_cons_of_mem _ h)
  have hown : s.vm.findClass RX2 = some m.cls := findClass_of_methodNamed B.named
  have hlocks := B.notSynchronized
  subst hsz
  have hD := hD0.self (sz := s.heap.size)
  generalize hAe : va_A [(ht, .inr (2, [.ref hpr])), (hpr, .inl (cI, 264, .inl pr)), (hrd, .inr (0, [.ref ho, .int va, .int rg, .int sh, .int nx])), (ho, .inr (3, [.ref hh, .int sz])), (hh, .inl (cI, 600, .inl f))] s.heap.size = A at hD ⊢
  have hA : ∀ q : Nat, s.heap.size ≤ q → A q := fun q h => by rw [← hAe]; exact Or.inr h
  have hS : va_S A s.heap s.heap [] := va_S.rf
  have hP : va_P D vwCl [(ht, .inr (2, [.ref hpr])), (hpr, .inl (cI, 264, .inl pr)), (hrd, .inr (0, [.ref ho, .int va, .int rg, .int sh, .int nx])), (ho, .inr (3, [.ref hh, .int sz])), (hh, .inl (cI, 600, .inl f))] s.heap := hP
  have hl := lv_entry ([.ref ht, .ref hrd, .int nd]) (n := 3) (Nat.le_of_ble_eq_true rfl)
  rw [lg_entry_eq]
  generalize (lg_sl ([.ref ht, .ref hrd, .int nd]) ++ List.replicate (3 - (lg_sl ([.ref ht, .ref hrd, .int nd])).length) Slot.unset).toArray = ls at hl ⊢
  have hl : lv_has ls 3 [(0, .ref ht), (1, .ref hrd), (2, .int nd)] := hl
  refine lv_aload_n hx hb dX2_readSizeClass_0 rfl (lv_at hl 1 rfl) ?_
  refine lv_aload_n hx hb dX2_readSizeClass_1 rfl (lv_at hl 0 rfl) ?_
  refine va_get (D := D) (ci := 2) (v := .ref hpr) (C := RX2) (T := TX2) (N := 1) hx hb hts in_X2 hown hK.1 hP 0 rfl rfl 0 (by decide) (hts _ mk_36) (fun _ h9 => h9) rfl dX2_readSizeClass_2 ?_
  refine lv_iload_n hx hb dX2_readSizeClass_5 rfl (lv_at hl 2 rfl) ?_
  refine lv_bipush (v := 6) hx hb dX2_readSizeClass_6 (by decide) ?_
  refine lv_iadd hx hb dX2_readSizeClass_8 ?_
  refine lv_topi (fun v8 e8 => ?_)
  have b8 : kB v8 6 259 := kB_eq e8 (kB_add bnd kc_6 (by decide))
  refine va_iald hx hb hK.1 hP 1 0 rfl rfl (kB_in b8 (by decide)) dX2_readSizeClass_9 ?_
  refine lv_topi (fun v9 e9 => ?_)
  have b9 : kB v9 0 255 := kB_eq e9 (apr _)
  have hPc := hP.sub (ws' := [(hrd, .inr (0, [.ref ho, .int va, .int rg, .int sh, .int nx])), (ho, .inr (3, [.ref hh, .int sz])), (hh, .inl (cI, 600, .inl f))]) [2, 3, 4] rfl
  have hDc := hD.sub (ws' := [(hrd, .inr (0, [.ref ho, .int va, .int rg, .int sh, .int nx])), (ho, .inr (3, [.ref hh, .int sz])), (hh, .inl (cI, 600, .inl f))]) [2, 3, 4] (by decide) rfl
  have hFc := va_free (wc := [(hrd, .inr (0, [.ref ho, .int va, .int rg, .int sh, .int nx])), (ho, .inr (3, [.ref hh, .int sz])), (hh, .inl (cI, 600, .inl f))]) hD hS hA [2, 3, 4] rfl
  refine va_calli (va_runV (As := [.int v9]) (rest := []) ⟨hx, hb, hml, hown, hts⟩ (c_X0_readBit l D cI cJ cZ hrd ho hh va rg sh nx sz f v9 brg bsh b9 bsz (s.heap).size) (cwV 1 hts (kg_V mk_37 mk_21 mk_22 mk_23 mk_24) rfl rfl rfl (by decide +kernel) ⟨Nat.le_of_ble_eq_true rfl, Nat.le_of_ble_eq_true rfl⟩) ⟨fun a U g mk q => by obtain ⟨q0, q1, qP, qK, qD⟩ := q; exact ⟨q0, q1, qP, kK.call qK, qD⟩, va_recv hK.1 hPc (ci := 0) (q0 := 0) rfl rfl, fun U hU hW => ⟨rfl, by rw [hU], by rw [hU]; exact hPc, kK.warm hW hK, hDc.weaken (fun _ _ _ _ => trivial)⟩⟩ rfl rfl hl.1 rfl (lv_room (Nat.le_of_ble_eq_true rfl)) dX2_readSizeClass_10 ⟨Nat.zero_le _, Nat.zero_le _⟩) hS (fun q _ h => hFc q h) hFc (fun r10 u t9 H1 locs ht9 hvm9 hw9 hB9 hz9 hk9 hS => ?_)
  obtain ⟨va2_10, rg2_10, sh2_10, nx2_10⟩ := u
  obtain ⟨hP1, hD1⟩ := hB9
  rw [ht9] at hP1
  have hP1 : va_P D vwCl [(hrd, .inr (0, [.ref ho, .int va2_10, .int rg2_10, .int sh2_10, .int nx2_10])), (ho, .inr (3, [.ref hh, .int sz])), (hh, .inl (cI, 600, .inl f))] H1 := hP1
  obtain ⟨hP, hD⟩ := va_join (wr := [(ht, .inr (2, [.ref hpr])), (hpr, .inl (cI, 264, .inl pr))]) (w1 := [(hrd, .inr (0, [.ref ho, .int va2_10, .int rg2_10, .int sh2_10, .int nx2_10])), (ho, .inr (3, [.ref hh, .int sz])), (hh, .inl (cI, 600, .inl f))]) hP hD [2, 3, 4] [0, 1] rfl rfl (by decide) (by decide) hk9 hFc hP1 hD1
  have hP := hP.sub (ws' := [(ht, .inr (2, [.ref hpr])), (hpr, .inl (cI, 264, .inl pr)), (hrd, .inr (0, [.ref ho, .int va2_10, .int rg2_10, .int sh2_10, .int nx2_10])), (ho, .inr (3, [.ref hh, .int sz])), (hh, .inl (cI, 600, .inl f))]) [0, 1, 2, 3, 4] rfl
  have hD := hD.sub (ws' := [(ht, .inr (2, [.ref hpr])), (hpr, .inl (cI, 264, .inl pr)), (hrd, .inr (0, [.ref ho, .int va2_10, .int rg2_10, .int sh2_10, .int nx2_10])), (ho, .inr (3, [.ref hh, .int sz])), (hh, .inl (cI, 600, .inl f))]) [0, 1, 2, 3, 4] (by decide) rfl
  generalize H1 = H at hP hS ⊢
  obtain ⟨q10_0, q10_1, q10_2, q10_3⟩ := hw9
  have q10_0 : kB r10 0 1 := q10_0
  have q10_1 : kB rg2_10 128 255 := q10_1
  have q10_2 : kB sh2_10 0 7 := q10_2
  have q10_3 : kIf (v9.toInt = 128 ∧ 0 ≤ va.toInt ∧ va.toInt ≤ 2000000 ∧ sh.toInt ≤ 6) (r10.toInt = rBt va.toInt rg.toInt ∧ (va2_10.toInt, rg2_10.toInt, sh2_10.toInt) = rNx va.toInt rg.toInt sh.toInt) := q10_3
  refine lv_if_ne (tgt := 30) hx hb dX2_readSizeClass_13 (by decide) (fun c13 => ?_) (fun c13 => ?_)
  · have c13x : kB r10 1 1 := kB_nlo q10_0 c13 kc_0 (by decide)
    refine lv_aload_n hx hb dX2_readSizeClass_30 rfl (lv_at hl 1 rfl) ?_
    refine lv_aload_n hx hb dX2_readSizeClass_31 rfl (lv_at hl 0 rfl) ?_
    refine va_get (D := D) (ci := 2) (v := .ref hpr) (C := RX2) (T := TX2) (N := 1) hx hb hts in_X2 hown hK.1 hP 0 rfl rfl 0 (by decide) (hts _ mk_36) (fun _ h9 => h9) rfl dX2_readSizeClass_32 ?_
    refine lv_iload_n hx hb dX2_readSizeClass_35 rfl (lv_at hl 2 rfl) ?_
    refine lv_bipush (v := 8) hx hb dX2_readSizeClass_36 (by decide) ?_
    refine lv_iadd hx hb dX2_readSizeClass_38 ?_
    refine lv_topi (fun v38 e38 => ?_)
    have b38 : kB v38 8 261 := kB_eq e38 (kB_add bnd kc_8 (by decide))
    refine va_iald hx hb hK.1 hP 1 0 rfl rfl (kB_in b38 (by decide)) dX2_readSizeClass_39 ?_
    refine lv_topi (fun v39 e39 => ?_)
    have b39 : kB v39 0 255 := kB_eq e39 (apr _)
    have hPc := hP.sub (ws' := [(hrd, .inr (0, [.ref ho, .int va2_10, .int rg2_10, .int sh2_10, .int nx2_10])), (ho, .inr (3, [.ref hh, .int sz])), (hh, .inl (cI, 600, .inl f))]) [2, 3, 4] rfl
    have hDc := hD.sub (ws' := [(hrd, .inr (0, [.ref ho, .int va2_10, .int rg2_10, .int sh2_10, .int nx2_10])), (ho, .inr (3, [.ref hh, .int sz])), (hh, .inl (cI, 600, .inl f))]) [2, 3, 4] (by decide) rfl
    have hFc := va_free (wc := [(hrd, .inr (0, [.ref ho, .int va2_10, .int rg2_10, .int sh2_10, .int nx2_10])), (ho, .inr (3, [.ref hh, .int sz])), (hh, .inl (cI, 600, .inl f))]) hD hS hA [2, 3, 4] rfl
    refine va_calli (va_runV (As := [.int v39]) (rest := []) ⟨hx, hb, hml, hown, hts⟩ (c_X0_readBit l D cI cJ cZ hrd ho hh va2_10 rg2_10 sh2_10 nx2_10 sz f v39 q10_1 q10_2 b39 bsz (H).size) (cwV 1 hts (kg_V mk_37 mk_21 mk_22 mk_23 mk_24) rfl rfl rfl (by decide +kernel) ⟨Nat.le_of_ble_eq_true rfl, Nat.le_of_ble_eq_true rfl⟩) ⟨fun a U g mk q => by obtain ⟨q0, q1, qP, qK, qD⟩ := q; exact ⟨q0, q1, qP, kK.call qK, qD⟩, va_recv hK.1 hPc (ci := 0) (q0 := 0) rfl rfl, fun U hU hW => ⟨rfl, by rw [hU], by rw [hU]; exact hPc, kK.warm hW hK, hDc.weaken (fun _ _ _ _ => trivial)⟩⟩ rfl rfl hl.1 rfl (lv_room (Nat.le_of_ble_eq_true rfl)) dX2_readSizeClass_40 ⟨Nat.zero_le _, Nat.zero_le _⟩) hS (fun q _ h => hFc q h) hFc (fun r40 u t9 H1 locs ht9 hvm9 hw9 hB9 hz9 hk9 hS => ?_)
    obtain ⟨va2_40, rg2_40, sh2_40, nx2_40⟩ := u
    obtain ⟨hP1, hD1⟩ := hB9
    rw [ht9] at hP1
    have hP1 : va_P D vwCl [(hrd, .inr (0, [.ref ho, .int va2_40, .int rg2_40, .int sh2_40, .int nx2_40])), (ho, .inr (3, [.ref hh, .int sz])), (hh, .inl (cI, 600, .inl f))] H1 := hP1
    obtain ⟨hP, hD⟩ := va_join (wr := [(ht, .inr (2, [.ref hpr])), (hpr, .inl (cI, 264, .inl pr))]) (w1 := [(hrd, .inr (0, [.ref ho, .int va2_40, .int rg2_40, .int sh2_40, .int nx2_40])), (ho, .inr (3, [.ref hh, .int sz])), (hh, .inl (cI, 600, .inl f))]) hP hD [2, 3, 4] [0, 1] rfl rfl (by decide) (by decide) hk9 hFc hP1 hD1
    have hP := hP.sub (ws' := [(ht, .inr (2, [.ref hpr])), (hpr, .inl (cI, 264, .inl pr)), (hrd, .inr (0, [.ref ho, .int va2_40, .int rg2_40, .int sh2_40, .int nx2_40])), (ho, .inr (3, [.ref hh, .int sz])), (hh, .inl (cI, 600, .inl f))]) [0, 1, 2, 3, 4] rfl
    have hD := hD.sub (ws' := [(ht, .inr (2, [.ref hpr])), (hpr, .inl (cI, 264, .inl pr)), (hrd, .inr (0, [.ref ho, .int va2_40, .int rg2_40, .int sh2_40, .int nx2_40])), (ho, .inr (3, [.ref hh, .int sz])), (hh, .inl (cI, 600, .inl f))]) [0, 1, 2, 3, 4] (by decide) rfl
    generalize H1 = H at hP hS ⊢
    obtain ⟨q40_0, q40_1, q40_2, q40_3⟩ := hw9
    have q40_0 : kB r40 0 1 := q40_0
    have q40_1 : kB rg2_40 128 255 := q40_1
    have q40_2 : kB sh2_40 0 7 := q40_2
    have q40_3 : kIf (v39.toInt = 128 ∧ 0 ≤ va2_10.toInt ∧ va2_10.toInt ≤ 2000000 ∧ sh2_10.toInt ≤ 6) (r40.toInt = rBt va2_10.toInt rg2_10.toInt ∧ (va2_40.toInt, rg2_40.toInt, sh2_40.toInt) = rNx va2_10.toInt rg2_10.toInt sh2_10.toInt) := q40_3
    refine lv_if_ne (tgt := 62) hx hb dX2_readSizeClass_43 (by decide) (fun c43 => ?_) (fun c43 => ?_)
    · have c43x : kB r40 1 1 := kB_nlo q40_0 c43 kc_0 (by decide)
      refine lv_iconst (v := 4) hx hb dX2_readSizeClass_62 (by decide) ?_
      refine lv_aload_n hx hb dX2_readSizeClass_63 rfl (lv_at hl 1 rfl) ?_
      refine lv_aload_n hx hb dX2_readSizeClass_64 rfl (lv_at hl 0 rfl) ?_
      refine va_get (D := D) (ci := 2) (v := .ref hpr) (C := RX2) (T := TX2) (N := 1) hx hb hts in_X2 hown hK.1 hP 0 rfl rfl 0 (by decide) (hts _ mk_36) (fun _ h9 => h9) rfl dX2_readSizeClass_65 ?_
      refine lv_iload_n hx hb dX2_readSizeClass_68 rfl (lv_at hl 2 rfl) ?_
      refine lv_bipush (v := 10) hx hb dX2_readSizeClass_69 (by decide) ?_
      refine lv_iadd hx hb dX2_readSizeClass_71 ?_
      refine lv_topi (fun v71 e71 => ?_)
      have b71 : kB v71 10 263 := kB_eq e71 (kB_add bnd kc_10 (by decide))
      refine va_iald hx hb hK.1 hP 1 0 rfl rfl (kB_in b71 (by decide)) dX2_readSizeClass_72 ?_
      refine lv_topi (fun v72 e72 => ?_)
      have b72 : kB v72 0 255 := kB_eq e72 (apr _)
      have hPc := hP.sub (ws' := [(hrd, .inr (0, [.ref ho, .int va2_40, .int rg2_40, .int sh2_40, .int nx2_40])), (ho, .inr (3, [.ref hh, .int sz])), (hh, .inl (cI, 600, .inl f))]) [2, 3, 4] rfl
      have hDc := hD.sub (ws' := [(hrd, .inr (0, [.ref ho, .int va2_40, .int rg2_40, .int sh2_40, .int nx2_40])), (ho, .inr (3, [.ref hh, .int sz])), (hh, .inl (cI, 600, .inl f))]) [2, 3, 4] (by decide) rfl
      have hFc := va_free (wc := [(hrd, .inr (0, [.ref ho, .int va2_40, .int rg2_40, .int sh2_40, .int nx2_40])), (ho, .inr (3, [.ref hh, .int sz])), (hh, .inl (cI, 600, .inl f))]) hD hS hA [2, 3, 4] rfl
      refine va_calli (va_runV (As := [.int v72]) (rest := [.int 4]) ⟨hx, hb, hml, hown, hts⟩ (c_X0_readBit l D cI cJ cZ hrd ho hh va2_40 rg2_40 sh2_40 nx2_40 sz f v72 q40_1 q40_2 b72 bsz (H).size) (cwV 1 hts (kg_V mk_37 mk_21 mk_22 mk_23 mk_24) rfl rfl rfl (by decide +kernel) ⟨Nat.le_of_ble_eq_true rfl, Nat.le_of_ble_eq_true rfl⟩) ⟨fun a U g mk q => by obtain ⟨q0, q1, qP, qK, qD⟩ := q; exact ⟨q0, q1, qP, kK.call qK, qD⟩, va_recv hK.1 hPc (ci := 0) (q0 := 0) rfl rfl, fun U hU hW => ⟨rfl, by rw [hU], by rw [hU]; exact hPc, kK.warm hW hK, hDc.weaken (fun _ _ _ _ => trivial)⟩⟩ rfl rfl hl.1 rfl (lv_room (Nat.le_of_ble_eq_true rfl)) dX2_readSizeClass_73 ⟨Nat.zero_le _, Nat.zero_le _⟩) hS (fun q _ h => hFc q h) hFc (fun r73 u t9 H1 locs ht9 hvm9 hw9 hB9 hz9 hk9 hS => ?_)
      obtain ⟨va2_73, rg2_73, sh2_73, nx2_73⟩ := u
      obtain ⟨hP1, hD1⟩ := hB9
      rw [ht9] at hP1
      have hP1 : va_P D vwCl [(hrd, .inr (0, [.ref ho, .int va2_73, .int rg2_73, .int sh2_73, .int nx2_73])), (ho, .inr (3, [.ref hh, .int sz])), (hh, .inl (cI, 600, .inl f))] H1 := hP1
      obtain ⟨hP, hD⟩ := va_join (wr := [(ht, .inr (2, [.ref hpr])), (hpr, .inl (cI, 264, .inl pr))]) (w1 := [(hrd, .inr (0, [.ref ho, .int va2_73, .int rg2_73, .int sh2_73, .int nx2_73])), (ho, .inr (3, [.ref hh, .int sz])), (hh, .inl (cI, 600, .inl f))]) hP hD [2, 3, 4] [0, 1] rfl rfl (by decide) (by decide) hk9 hFc hP1 hD1
      have hP := hP.sub (ws' := [(ht, .inr (2, [.ref hpr])), (hpr, .inl (cI, 264, .inl pr)), (hrd, .inr (0, [.ref ho, .int va2_73, .int rg2_73, .int sh2_73, .int nx2_73])), (ho, .inr (3, [.ref hh, .int sz])), (hh, .inl (cI, 600, .inl f))]) [0, 1, 2, 3, 4] rfl
      have hD := hD.sub (ws' := [(ht, .inr (2, [.ref hpr])), (hpr, .inl (cI, 264, .inl pr)), (hrd, .inr (0, [.ref ho, .int va2_73, .int rg2_73, .int sh2_73, .int nx2_73])), (ho, .inr (3, [.ref hh, .int sz])), (hh, .inl (cI, 600, .inl f))]) [0, 1, 2, 3, 4] (by decide) rfl
      generalize H1 = H at hP hS ⊢
      obtain ⟨q73_0, q73_1, q73_2, q73_3⟩ := hw9
      have q73_0 : kB r73 0 1 := q73_0
      have q73_1 : kB rg2_73 128 255 := q73_1
      have q73_2 : kB sh2_73 0 7 := q73_2
      have q73_3 : kIf (v72.toInt = 128 ∧ 0 ≤ va2_40.toInt ∧ va2_40.toInt ≤ 2000000 ∧ sh2_40.toInt ≤ 6) (r73.toInt = rBt va2_40.toInt rg2_40.toInt ∧ (va2_73.toInt, rg2_73.toInt, sh2_73.toInt) = rNx va2_40.toInt rg2_40.toInt sh2_40.toInt) := q73_3
      refine lv_iadd hx hb dX2_readSizeClass_76 ?_
      refine lv_topi (fun v76 e76 => ?_)
      have b76 : kB v76 4 5 := kB_eq e76 (kB_add kc_4 q73_0 (by decide))
      have pf_r : kB v76 0 5 := (kB_w b76 (by decide) (by decide))
      exact W.iret (v := v76) hx hb hr (fun t9 ht9 hW9 => ⟨⟨v76, (va2_73, rg2_73, sh2_73, nx2_73), rfl, ⟨q73_1, q73_2, pf_r⟩, by rw [ht9]; exact hP, hD⟩, hS.F ht9⟩) hS.2.2 dX2_readSizeClass_77
    · have c43x : kB r40 0 0 := kB_eq c43 kc_0
      refine lv_iconst (v := 2) hx hb dX2_readSizeClass_46 (by decide) ?_
      refine lv_aload_n hx hb dX2_readSizeClass_47 rfl (lv_at hl 1 rfl) ?_
      refine lv_aload_n hx hb dX2_readSizeClass_48 rfl (lv_at hl 0 rfl) ?_
      refine va_get (D := D) (ci := 2) (v := .ref hpr) (C := RX2) (T := TX2) (N := 1) hx hb hts in_X2 hown hK.1 hP 0 rfl rfl 0 (by decide) (hts _ mk_36) (fun _ h9 => h9) rfl dX2_readSizeClass_49 ?_
      refine lv_iload_n hx hb dX2_readSizeClass_52 rfl (lv_at hl 2 rfl) ?_
      refine lv_bipush (v := 9) hx hb dX2_readSizeClass_53 (by decide) ?_
      refine lv_iadd hx hb dX2_readSizeClass_55 ?_
      refine lv_topi (fun v55 e55 => ?_)
      have b55 : kB v55 9 262 := kB_eq e55 (kB_add bnd kc_9 (by decide))
      refine va_iald hx hb hK.1 hP 1 0 rfl rfl (kB_in b55 (by decide)) dX2_readSizeClass_56 ?_
      refine lv_topi (fun v56 e56 => ?_)
      have b56 : kB v56 0 255 := kB_eq e56 (apr _)
      have hPc := hP.sub (ws' := [(hrd, .inr (0, [.ref ho, .int va2_40, .int rg2_40, .int sh2_40, .int nx2_40])), (ho, .inr (3, [.ref hh, .int sz])), (hh, .inl (cI, 600, .inl f))]) [2, 3, 4] rfl
      have hDc := hD.sub (ws' := [(hrd, .inr (0, [.ref ho, .int va2_40, .int rg2_40, .int sh2_40, .int nx2_40])), (ho, .inr (3, [.ref hh, .int sz])), (hh, .inl (cI, 600, .inl f))]) [2, 3, 4] (by decide) rfl
      have hFc := va_free (wc := [(hrd, .inr (0, [.ref ho, .int va2_40, .int rg2_40, .int sh2_40, .int nx2_40])), (ho, .inr (3, [.ref hh, .int sz])), (hh, .inl (cI, 600, .inl f))]) hD hS hA [2, 3, 4] rfl
      refine va_calli (va_runV (As := [.int v56]) (rest := [.int 2]) ⟨hx, hb, hml, hown, hts⟩ (c_X0_readBit l D cI cJ cZ hrd ho hh va2_40 rg2_40 sh2_40 nx2_40 sz f v56 q40_1 q40_2 b56 bsz (H).size) (cwV 1 hts (kg_V mk_37 mk_21 mk_22 mk_23 mk_24) rfl rfl rfl (by decide +kernel) ⟨Nat.le_of_ble_eq_true rfl, Nat.le_of_ble_eq_true rfl⟩) ⟨fun a U g mk q => by obtain ⟨q0, q1, qP, qK, qD⟩ := q; exact ⟨q0, q1, qP, kK.call qK, qD⟩, va_recv hK.1 hPc (ci := 0) (q0 := 0) rfl rfl, fun U hU hW => ⟨rfl, by rw [hU], by rw [hU]; exact hPc, kK.warm hW hK, hDc.weaken (fun _ _ _ _ => trivial)⟩⟩ rfl rfl hl.1 rfl (lv_room (Nat.le_of_ble_eq_true rfl)) dX2_readSizeClass_57 ⟨Nat.zero_le _, Nat.zero_le _⟩) hS (fun q _ h => hFc q h) hFc (fun r57 u t9 H1 locs ht9 hvm9 hw9 hB9 hz9 hk9 hS => ?_)
      obtain ⟨va2_57, rg2_57, sh2_57, nx2_57⟩ := u
      obtain ⟨hP1, hD1⟩ := hB9
      rw [ht9] at hP1
      have hP1 : va_P D vwCl [(hrd, .inr (0, [.ref ho, .int va2_57, .int rg2_57, .int sh2_57, .int nx2_57])), (ho, .inr (3, [.ref hh, .int sz])), (hh, .inl (cI, 600, .inl f))] H1 := hP1
      obtain ⟨hP, hD⟩ := va_join (wr := [(ht, .inr (2, [.ref hpr])), (hpr, .inl (cI, 264, .inl pr))]) (w1 := [(hrd, .inr (0, [.ref ho, .int va2_57, .int rg2_57, .int sh2_57, .int nx2_57])), (ho, .inr (3, [.ref hh, .int sz])), (hh, .inl (cI, 600, .inl f))]) hP hD [2, 3, 4] [0, 1] rfl rfl (by decide) (by decide) hk9 hFc hP1 hD1
      have hP := hP.sub (ws' := [(ht, .inr (2, [.ref hpr])), (hpr, .inl (cI, 264, .inl pr)), (hrd, .inr (0, [.ref ho, .int va2_57, .int rg2_57, .int sh2_57, .int nx2_57])), (ho, .inr (3, [.ref hh, .int sz])), (hh, .inl (cI, 600, .inl f))]) [0, 1, 2, 3, 4] rfl
      have hD := hD.sub (ws' := [(ht, .inr (2, [.ref hpr])), (hpr, .inl (cI, 264, .inl pr)), (hrd, .inr (0, [.ref ho, .int va2_57, .int rg2_57, .int sh2_57, .int nx2_57])), (ho, .inr (3, [.ref hh, .int sz])), (hh, .inl (cI, 600, .inl f))]) [0, 1, 2, 3, 4] (by decide) rfl
      generalize H1 = H at hP hS ⊢
      obtain ⟨q57_0, q57_1, q57_2, q57_3⟩ := hw9
      have q57_0 : kB r57 0 1 := q57_0
      have q57_1 : kB rg2_57 128 255 := q57_1
      have q57_2 : kB sh2_57 0 7 := q57_2
      have q57_3 : kIf (v56.toInt = 128 ∧ 0 ≤ va2_40.toInt ∧ va2_40.toInt ≤ 2000000 ∧ sh2_40.toInt ≤ 6) (r57.toInt = rBt va2_40.toInt rg2_40.toInt ∧ (va2_57.toInt, rg2_57.toInt, sh2_57.toInt) = rNx va2_40.toInt rg2_40.toInt sh2_40.toInt) := q57_3
      refine lv_iadd hx hb dX2_readSizeClass_60 ?_
      refine lv_topi (fun v60 e60 => ?_)
      have b60 : kB v60 2 3 := kB_eq e60 (kB_add kc_2 q57_0 (by decide))
      have pf_r : kB v60 0 5 := (kB_w b60 (by decide) (by decide))
      exact W.iret (v := v60) hx hb hr (fun t9 ht9 hW9 => ⟨⟨v60, (va2_57, rg2_57, sh2_57, nx2_57), rfl, ⟨q57_1, q57_2, pf_r⟩, by rw [ht9]; exact hP, hD⟩, hS.F ht9⟩) hS.2.2 dX2_readSizeClass_61
  · have c13x : kB r10 0 0 := kB_eq c13 kc_0
    refine lv_aload_n hx hb dX2_readSizeClass_16 rfl (lv_at hl 1 rfl) ?_
    refine lv_aload_n hx hb dX2_readSizeClass_17 rfl (lv_at hl 0 rfl) ?_
    refine va_get (D := D) (ci := 2) (v := .ref hpr) (C := RX2) (T := TX2) (N := 1) hx hb hts in_X2 hown hK.1 hP 0 rfl rfl 0 (by decide) (hts _ mk_36) (fun _ h9 => h9) rfl dX2_readSizeClass_18 ?_
    refine lv_iload_n hx hb dX2_readSizeClass_21 rfl (lv_at hl 2 rfl) ?_
    refine lv_bipush (v := 7) hx hb dX2_readSizeClass_22 (by decide) ?_
    refine lv_iadd hx hb dX2_readSizeClass_24 ?_
    refine lv_topi (fun v24 e24 => ?_)
    have b24 : kB v24 7 260 := kB_eq e24 (kB_add bnd kc_7 (by decide))
    refine va_iald hx hb hK.1 hP 1 0 rfl rfl (kB_in b24 (by decide)) dX2_readSizeClass_25 ?_
    refine lv_topi (fun v25 e25 => ?_)
    have b25 : kB v25 0 255 := kB_eq e25 (apr _)
    have hPc := hP.sub (ws' := [(hrd, .inr (0, [.ref ho, .int va2_10, .int rg2_10, .int sh2_10, .int nx2_10])), (ho, .inr (3, [.ref hh, .int sz])), (hh, .inl (cI, 600, .inl f))]) [2, 3, 4] rfl
    have hDc := hD.sub (ws' := [(hrd, .inr (0, [.ref ho, .int va2_10, .int rg2_10, .int sh2_10, .int nx2_10])), (ho, .inr (3, [.ref hh, .int sz])), (hh, .inl (cI, 600, .inl f))]) [2, 3, 4] (by decide) rfl
    have hFc := va_free (wc := [(hrd, .inr (0, [.ref ho, .int va2_10, .int rg2_10, .int sh2_10, .int nx2_10])), (ho, .inr (3, [.ref hh, .int sz])), (hh, .inl (cI, 600, .inl f))]) hD hS hA [2, 3, 4] rfl
    refine va_calli (va_runV (As := [.int v25]) (rest := []) ⟨hx, hb, hml, hown, hts⟩ (c_X0_readBit l D cI cJ cZ hrd ho hh va2_10 rg2_10 sh2_10 nx2_10 sz f v25 q10_1 q10_2 b25 bsz (H).size) (cwV 1 hts (kg_V mk_37 mk_21 mk_22 mk_23 mk_24) rfl rfl rfl (by decide +kernel) ⟨Nat.le_of_ble_eq_true rfl, Nat.le_of_ble_eq_true rfl⟩) ⟨fun a U g mk q => by obtain ⟨q0, q1, qP, qK, qD⟩ := q; exact ⟨q0, q1, qP, kK.call qK, qD⟩, va_recv hK.1 hPc (ci := 0) (q0 := 0) rfl rfl, fun U hU hW => ⟨rfl, by rw [hU], by rw [hU]; exact hPc, kK.warm hW hK, hDc.weaken (fun _ _ _ _ => trivial)⟩⟩ rfl rfl hl.1 rfl (lv_room (Nat.le_of_ble_eq_true rfl)) dX2_readSizeClass_26 ⟨Nat.zero_le _, Nat.zero_le _⟩) hS (fun q _ h => hFc q h) hFc (fun r26 u t9 H1 locs ht9 hvm9 hw9 hB9 hz9 hk9 hS => ?_)
    obtain ⟨va2_26, rg2_26, sh2_26, nx2_26⟩ := u
    obtain ⟨hP1, hD1⟩ := hB9
    rw [ht9] at hP1
    have hP1 : va_P D vwCl [(hrd, .inr (0, [.ref ho, .int va2_26, .int rg2_26, .int sh2_26, .int nx2_26])), (ho, .inr (3, [.ref hh, .int sz])), (hh, .inl (cI, 600, .inl f))] H1 := hP1
    obtain ⟨hP, hD⟩ := va_join (wr := [(ht, .inr (2, [.ref hpr])), (hpr, .inl (cI, 264, .inl pr))]) (w1 := [(hrd, .inr (0, [.ref ho, .int va2_26, .int rg2_26, .int sh2_26, .int nx2_26])), (ho, .inr (3, [.ref hh, .int sz])), (hh, .inl (cI, 600, .inl f))]) hP hD [2, 3, 4] [0, 1] rfl rfl (by decide) (by decide) hk9 hFc hP1 hD1
    have hP := hP.sub (ws' := [(ht, .inr (2, [.ref hpr])), (hpr, .inl (cI, 264, .inl pr)), (hrd, .inr (0, [.ref ho, .int va2_26, .int rg2_26, .int sh2_26, .int nx2_26])), (ho, .inr (3, [.ref hh, .int sz])), (hh, .inl (cI, 600, .inl f))]) [0, 1, 2, 3, 4] rfl
    have hD := hD.sub (ws' := [(ht, .inr (2, [.ref hpr])), (hpr, .inl (cI, 264, .inl pr)), (hrd, .inr (0, [.ref ho, .int va2_26, .int rg2_26, .int sh2_26, .int nx2_26])), (ho, .inr (3, [.ref hh, .int sz])), (hh, .inl (cI, 600, .inl f))]) [0, 1, 2, 3, 4] (by decide) rfl
    generalize H1 = H at hP hS ⊢
    obtain ⟨q26_0, q26_1, q26_2, q26_3⟩ := hw9
    have q26_0 : kB r26 0 1 := q26_0
    have q26_1 : kB rg2_26 128 255 := q26_1
    have q26_2 : kB sh2_26 0 7 := q26_2
    have q26_3 : kIf (v25.toInt = 128 ∧ 0 ≤ va2_10.toInt ∧ va2_10.toInt ≤ 2000000 ∧ sh2_10.toInt ≤ 6) (r26.toInt = rBt va2_10.toInt rg2_10.toInt ∧ (va2_26.toInt, rg2_26.toInt, sh2_26.toInt) = rNx va2_10.toInt rg2_10.toInt sh2_10.toInt) := q26_3
    have pf_r : kB r26 0 5 := (kB_w q26_0 (by decide) (by decide))
    exact W.iret (v := r26) hx hb hr (fun t9 ht9 hW9 => ⟨⟨r26, (va2_26, rg2_26, sh2_26, nx2_26), rfl, ⟨q26_1, q26_2, pf_r⟩, by rw [ht9]; exact hP, hD⟩, hS.F ht9⟩) hS.2.2 dX2_readSizeClass_29
abbrev kw_X2_readLargeSize : List Cond := Cond.code yX2_readLargeSize cX2_readLargeSize 4 (some .int) :: kW
set_option maxHeartbeats 4000000 in
set_option maxRecDepth 100000 in
theorem lp_X2_readLargeSize_8 {p : Program} {l : Launch} {e : Env} {s : State} {m : MethodId} {args : Array Value} {below : List Frame} {meth : Method} {c : Code} {A : Nat → Prop} (D : va_G) (cI cJ cZ : ClassId) (hrd ho hh : Nat) (va : Int32) (rg : Int32) (sh : Int32) (nx : Int32) (sz : Int32) (f : Nat → Int32) (sc : Int32) (brg : kB rg 128 255) (bsh : kB sh 0 7) (bsz : kB sz 0 600) (bsc : kB sc 0 5) (hx : p.tables.exec = Jvm.exec) (hb : c.code = cX2_readLargeSize) (hr : meth.sig.returnType = (some .int)) (hml : c.maxLocals = 4) (hown : s.vm.findClass RX2 = some m.cls) (hts : ∀ w ∈ kW, w.before args s = true) (hlocks : meth.locks = false) (hK : kK D cI cJ cZ s) (hA : ∀ q : Nat, s.heap.size ≤ q → A q) (hT : kT A s s.heap) : ∀ n : Nat, ∀ (x2 : Int32) (x3 : Int32) (va2 : Int32) (rg2 : Int32) (sh2 : Int32) (nx2 : Int32), (26 - x3.toInt).toNat < n → (kB x3 0 26) → (kB rg2 128 255) → (kB sh2 0 7) → (0 ≤ x2.toInt ∧ x2.toInt < pw2 x3.toInt) → ∀ (H : Heap) (locs : List Loc) (ls : Array Slot), va_P D vwCl [(hrd, .inr (0, [.ref ho, .int va2, .int rg2, .int sh2, .int nx2])), (ho, .inr (3, [.ref hh, .int sz])), (hh, .inl (cI, 600, .inl f))] H → va_D A [(hrd, .inr (0, [.ref ho, .int va2, .int rg2, .int sh2, .int nx2])), (ho, .inr (3, [.ref hh, .int sz])), (hh, .inl (cI, 600, .inl f))] → va_S A s.heap H locs → lv_has ls 4 [(0, .ref hrd), (1, .int sc), (2, .int x2), (3, .int x3)] → W p l e (headSpec kw_X2_readLargeSize ({ frames := 2, cells := 0, slots := 0, locals := 48 })).room s m args below meth c H locs 0 0 (MQ below (va_Qi (fun (r : Int32) (u : Int32 × Int32 × Int32 × Int32) => (kB u.2.1 128 255) ∧ (kB u.2.2.1 0 7) ∧ (kB r 0 70000000)) (fun (u : Int32 × Int32 × Int32 × Int32) (t : State) => va_P D vwCl [(hrd, .inr (0, [.ref ho, .int u.1, .int u.2.1, .int u.2.2.1, .int u.2.2.2])), (ho, .inr (3, [.ref hh, .int sz])), (hh, .inl (cI, 600, .inl f))] t.heap ∧ va_D A [(hrd, .inr (0, [.ref ho, .int u.1, .int u.2.1, .int u.2.2.1, .int u.2.2.2])), (ho, .inr (3, [.ref hh, .int sz])), (hh, .inl (cI, 600, .inl f))]) A) args s 0 0 A) (F0 m 8 ls []) := by
  intro n
  induction n with
  | zero => intro x2 x3 va2 rg2 sh2 nx2 hmeas; exact absurd hmeas (Nat.not_lt_zero _)
  | succ n ih =>
    intro x2 x3 va2 rg2 sh2 nx2 hmeas b3 brg2 bsh2 hn H locs ls hP hD hS hl
    refine lv_iload_n hx hb dX2_readLargeSize_8 rfl (lv_at hl 3 rfl) ?_
    obtain ⟨tb_9, hZ9, hT9⟩ := kT_EXTRA_FROM hT
    refine va_gets hx hb hZ9 hS hown (hts _ mk_43) (fun _ h9 => h9) dX2_readLargeSize_9 ?_
    refine lv_iload_n hx hb dX2_readLargeSize_12 rfl (lv_at hl 1 rfl) ?_
    refine lv_iconst (v := 1) hx hb dX2_readLargeSize_13 (by decide) ?_
    refine lv_iadd hx hb dX2_readLargeSize_14 ?_
    refine lv_topi (fun v14 e14 => ?_)
    have b14 : kB v14 1 6 := kB_eq e14 (kB_add bsc kc_1 (by decide))
    refine va_ti (v := .int (tl_EXTRA_FROM.getD v14.toNatClampNeg 0)) hx hb hT9 hS (kB_in b14 (by decide)) rfl dX2_readLargeSize_15 ?_
    refine lv_topi (fun v15 e15 => ?_)
    have b15 : kB v15 0 26 := kB_eq e15 (kt_EXTRA_FROM _)
    refine lv_icmp_ge (tgt := 39) hx hb dX2_readLargeSize_16 (by decide) (fun c16 => ?_) (fun c16 => ?_)
    · have B2 : kB x2 0 67108863 := ⟨hn.1, by have h3 := pw2_mono (i := x3.toInt) (j := 26) b3.2; rw [show pw2 26 = 67108864 from by decide] at h3; have := hn.2; omega⟩
      obtain ⟨tb_39, hZ39, hT39⟩ := kT_LEAST hT
      refine va_gets hx hb hZ39 hS hown (hts _ mk_44) (fun _ h9 => h9) dX2_readLargeSize_39 ?_
      refine lv_iload_n hx hb dX2_readLargeSize_42 rfl (lv_at hl 1 rfl) ?_
      refine va_ti (v := .int (tl_LEAST.getD sc.toNatClampNeg 0)) hx hb hT39 hS (kB_in bsc (by decide)) rfl dX2_readLargeSize_43 ?_
      refine lv_topi (fun v43 e43 => ?_)
      have b43 : kB v43 0 67 := kB_eq e43 (kt_LEAST _)
      refine lv_iload_n hx hb dX2_readLargeSize_44 rfl (lv_at hl 2 rfl) ?_
      refine lv_iadd hx hb dX2_readLargeSize_45 ?_
      refine lv_topi (fun v45 e45 => ?_)
      have b45 : kB v45 0 67108930 := kB_eq e45 (kB_add b43 B2 (by decide))
      have pf_r : kB v45 0 70000000 := (kB_w b45 (by decide) (by decide))
      exact W.iret (v := v45) hx hb hr (fun t9 ht9 hW9 => ⟨⟨v45, (va2, rg2, sh2, nx2), rfl, ⟨brg2, bsh2, pf_r⟩, by rw [ht9]; exact hP, hD⟩, hS.F ht9⟩) hS.2.2 dX2_readLargeSize_46
    · have c16n : x3 < v15 := kN_le c16
      have c16nx : kB x3 0 25 := kB_lt_l b3 b15 c16n (by decide)
      have c16ny : kB v15 1 26 := kB_lt_r b3 b15 c16n (by decide)
      refine lv_iload_n hx hb dX2_readLargeSize_19 rfl (lv_at hl 2 rfl) ?_
      refine lv_iconst (v := 1) hx hb dX2_readLargeSize_20 (by decide) ?_
      refine lv_ishl hx hb dX2_readLargeSize_21 ?_
      refine lv_topi (fun v21 e21 => ?_)
      refine lv_aload_n hx hb dX2_readLargeSize_22 rfl (lv_at hl 0 rfl) ?_
      obtain ⟨tb_23, hZ23, hT23⟩ := kT_EXTRA hT
      refine va_gets hx hb hZ23 hS hown (hts _ mk_45) (fun _ h9 => h9) dX2_readLargeSize_23 ?_
      refine lv_iload_n hx hb dX2_readLargeSize_26 rfl (lv_at hl 3 rfl) ?_
      refine va_ti (v := .int (tl_EXTRA.getD x3.toNatClampNeg 0)) hx hb hT23 hS (kB_in c16nx (by decide)) rfl dX2_readLargeSize_27 ?_
      refine lv_topi (fun v27 e27 => ?_)
      have b27 : kB v27 0 254 := kB_eq e27 (kt_EXTRA _)
      have hPc := hP.sub (ws' := [(hrd, .inr (0, [.ref ho, .int va2, .int rg2, .int sh2, .int nx2])), (ho, .inr (3, [.ref hh, .int sz])), (hh, .inl (cI, 600, .inl f))]) [0, 1, 2] rfl
      have hDc := hD.sub (ws' := [(hrd, .inr (0, [.ref ho, .int va2, .int rg2, .int sh2, .int nx2])), (ho, .inr (3, [.ref hh, .int sz])), (hh, .inl (cI, 600, .inl f))]) [0, 1, 2] (by decide) rfl
      have hFc := va_free (wc := [(hrd, .inr (0, [.ref ho, .int va2, .int rg2, .int sh2, .int nx2])), (ho, .inr (3, [.ref hh, .int sz])), (hh, .inl (cI, 600, .inl f))]) hD hS hA [0, 1, 2] rfl
      refine va_calli (va_runV (As := [.int v27]) (rest := [.int v21]) ⟨hx, hb, hml, hown, hts⟩ (c_X0_readBit l D cI cJ cZ hrd ho hh va2 rg2 sh2 nx2 sz f v27 brg2 bsh2 (kB_w b27 (by decide) (by decide)) bsz (H).size) (cwV 1 hts (kg_V mk_37 mk_21 mk_22 mk_23 mk_24) rfl rfl rfl (by decide +kernel) ⟨Nat.le_of_ble_eq_true rfl, Nat.le_of_ble_eq_true rfl⟩) ⟨fun a U g mk q => by obtain ⟨q0, q1, qP, qK, qD⟩ := q; exact ⟨q0, q1, qP, kK.call qK, qD⟩, va_recv hK.1 hPc (ci := 0) (q0 := 0) rfl rfl, fun U hU hW => ⟨rfl, by rw [hU], by rw [hU]; exact hPc, kK.warm hW hK, hDc.weaken (fun _ _ _ _ => trivial)⟩⟩ rfl rfl hl.1 rfl (lv_room (Nat.le_of_ble_eq_true rfl)) dX2_readLargeSize_28 ⟨Nat.zero_le _, Nat.zero_le _⟩) hS (fun q _ h => hFc q h) hFc (fun r28 u t9 H1 locs ht9 hvm9 hw9 hB9 hz9 hk9 hS => ?_)
      obtain ⟨va2_28, rg2_28, sh2_28, nx2_28⟩ := u
      obtain ⟨hP1, hD1⟩ := hB9
      rw [ht9] at hP1
      have hP1 : va_P D vwCl [(hrd, .inr (0, [.ref ho, .int va2_28, .int rg2_28, .int sh2_28, .int nx2_28])), (ho, .inr (3, [.ref hh, .int sz])), (hh, .inl (cI, 600, .inl f))] H1 := hP1
      obtain ⟨hP, hD⟩ := va_join (wr := []) (w1 := [(hrd, .inr (0, [.ref ho, .int va2_28, .int rg2_28, .int sh2_28, .int nx2_28])), (ho, .inr (3, [.ref hh, .int sz])), (hh, .inl (cI, 600, .inl f))]) hP hD [0, 1, 2] [] rfl rfl (by decide) (by decide) hk9 hFc hP1 hD1
      have hP := hP.sub (ws' := [(hrd, .inr (0, [.ref ho, .int va2_28, .int rg2_28, .int sh2_28, .int nx2_28])), (ho, .inr (3, [.ref hh, .int sz])), (hh, .inl (cI, 600, .inl f))]) [0, 1, 2] rfl
      have hD := hD.sub (ws' := [(hrd, .inr (0, [.ref ho, .int va2_28, .int rg2_28, .int sh2_28, .int nx2_28])), (ho, .inr (3, [.ref hh, .int sz])), (hh, .inl (cI, 600, .inl f))]) [0, 1, 2] (by decide) rfl
      generalize H1 = H at hP hS ⊢
      obtain ⟨q28_0, q28_1, q28_2, q28_3⟩ := hw9
      have q28_0 : kB r28 0 1 := q28_0
      have q28_1 : kB rg2_28 128 255 := q28_1
      have q28_2 : kB sh2_28 0 7 := q28_2
      have q28_3 : kIf (v27.toInt = 128 ∧ 0 ≤ va2.toInt ∧ va2.toInt ≤ 2000000 ∧ sh2.toInt ≤ 6) (r28.toInt = rBt va2.toInt rg2.toInt ∧ (va2_28.toInt, rg2_28.toInt, sh2_28.toInt) = rNx va2.toInt rg2.toInt sh2.toInt) := q28_3
      refine lv_ior hx hb dX2_readLargeSize_31 ?_
      refine lv_topi (fun v31 e31 => ?_)
      refine lv_istore_n (lv' := [(2, .int v31), (0, .ref hrd), (1, .int sc), (3, .int x3)]) hx hb dX2_readLargeSize_32 rfl hl (by decide) rfl (fun ls hl => ?_)
      obtain ⟨v33, e33⟩ : ∃ y : Int32, y = x3 + 1 := ⟨_, rfl⟩
      refine lv_iinc (v := v33) (lv' := [(3, .int v33), (2, .int v31), (0, .ref hrd), (1, .int sc)]) hx hb dX2_readLargeSize_33 hl (k := 3) rfl (by rw [e33]; rfl) (by decide) rfl (fun ls hl => ?_)
      have b33 : kB v33 1 26 := kB_eq e33 (kB_add c16nx kc_1 (by decide))
      have t33 : v33.toInt = x3.toInt + 1 := by rw [e33]; exact kinc (kB_w c16nx (by decide) (by decide))
      refine lv_goto (tgt := 8) hx hb dX2_readLargeSize_36 (by decide) ?_
      exact ih v31 v33 va2_28 rg2_28 sh2_28 nx2_28 (by have := b33.1; have := b33.2; have := q28_1.1; have := q28_1.2; have := q28_2.1; have := q28_2.2; have := c16nx.1; have := c16nx.2; have := brg2.1; have := brg2.2; have := bsh2.1; have := bsh2.2; omega) (kB_w b33 (by decide) (by decide)) q28_1 q28_2 (by rw [t33, pw2_s b3.1]; have h3 := pw2_mono (i := x3.toInt) (j := 25) (by have := c16nx.2; omega); rw [show pw2 25 = 33554432 from by decide] at h3; have h4 := kor1 (n := x2) (b := r28) ⟨hn.1, by have := hn.2; omega⟩ q28_0; rw [← e21, ← e31] at h4; rw [h4]; have := q28_0.1; have := q28_0.2; have := hn.1; have := hn.2; omega) _ _ ls hP hD hS (lv_sub hl [2, 3, 1, 0] rfl)
set_option maxHeartbeats 4000000 in
set_option maxRecDepth 100000 in
theorem c_X2_readLargeSize (l : Launch) (D : va_G) (cI cJ cZ : ClassId) (hrd ho hh : Nat) (va : Int32) (rg : Int32) (sh : Int32) (nx : Int32) (sz : Int32) (f : Nat → Int32) (sc : Int32) (brg : kB rg 128 255) (bsh : kB sh 0 7) (bsz : kB sz 0 600) (bsc : kB sc 0 5) (hpz : Nat) : Met l yX2_readLargeSize kw_X2_readLargeSize ({ frames := 2, cells := 0, slots := 0, locals := 48 }) (va_Pc [.ref hrd, .int sc] (fun U => U.heap.size = hpz ∧ va_P D vwCl [(hrd, .inr (0, [.ref ho, .int va, .int rg, .int sh, .int nx])), (ho, .inr (3, [.ref hh, .int sz])), (hh, .inl (cI, 600, .inl f))] U.heap ∧ kK D cI cJ cZ U ∧ va_D (fun _ => True) [(hrd, .inr (0, [.ref ho, .int va, .int rg, .int sh, .int nx])), (ho, .inr (3, [.ref hh, .int sz])), (hh, .inl (cI, 600, .inl f))] ∧ kT (va_A [(hrd, .inr (0, [.ref ho, .int va, .int rg, .int sh, .int nx])), (ho, .inr (3, [.ref hh, .int sz])), (hh, .inl (cI, 600, .inl f))] hpz) U U.heap)) (va_Qi (fun (r : Int32) (u : Int32 × Int32 × Int32 × Int32) => (kB u.2.1 128 255) ∧ (kB u.2.2.1 0 7) ∧ (kB r 0 70000000)) (fun (u : Int32 × Int32 × Int32 × Int32) (t : State) => va_P D vwCl [(hrd, .inr (0, [.ref ho, .int u.1, .int u.2.1, .int u.2.2.1, .int u.2.2.2])), (ho, .inr (3, [.ref hh, .int sz])), (hh, .inl (cI, 600, .inl f))] t.heap ∧ va_D (va_A [(hrd, .inr (0, [.ref ho, .int va, .int rg, .int sh, .int nx])), (ho, .inr (3, [.ref hh, .int sz])), (hh, .inl (cI, 600, .inl f))] hpz) [(hrd, .inr (0, [.ref ho, .int u.1, .int u.2.1, .int u.2.2.1, .int u.2.2.2])), (ho, .inr (3, [.ref hh, .int sz])), (hh, .inl (cI, 600, .inl f))]) (va_A [(hrd, .inr (0, [.ref ho, .int va, .int rg, .int sh, .int nx])), (ho, .inr (3, [.ref hh, .int sz])), (hh, .inl (cI, 600, .inl f))] hpz)) 0 0 (va_A [(hrd, .inr (0, [.ref ho, .int va, .int rg, .int sh, .int nx])), (ho, .inr (3, [.ref hh, .int sz])), (hh, .inl (cI, 600, .inl f))] hpz) := by
  refine Met.ofW (cc := cX2_readLargeSize) (maxL := 4) (ret := (some .int)) (by decide) rfl ?_
  intro p e s m args below meth c s₁ B hml hv
  obtain ⟨rfl, hsz, hP, hK, hD0, hT⟩ := hv
  have hx := B.exec
  have hb := B.bytes
  have hr := B.returns
  have hts := fun (w : Cond) (h : w ∈ kW) => atoms_spec (ws := kw_X2_readLargeSize) B.pre w (List.mem_cons_of_mem _ h)
  have hown : s.vm.findClass RX2 = some m.cls := findClass_of_methodNamed B.named
  have hlocks := B.notSynchronized
  subst hsz
  have hD := hD0.self (sz := s.heap.size)
  generalize hAe : va_A [(hrd, .inr (0, [.ref ho, .int va, .int rg, .int sh, .int nx])), (ho, .inr (3, [.ref hh, .int sz])), (hh, .inl (cI, 600, .inl f))] s.heap.size = A at hD hT ⊢
  have hA : ∀ q : Nat, s.heap.size ≤ q → A q := fun q h => by rw [← hAe]; exact Or.inr h
  have hS : va_S A s.heap s.heap [] := va_S.rf
  have hP : va_P D vwCl [(hrd, .inr (0, [.ref ho, .int va, .int rg, .int sh, .int nx])), (ho, .inr (3, [.ref hh, .int sz])), (hh, .inl (cI, 600, .inl f))] s.heap := hP
  have hl := lv_entry ([.ref hrd, .int sc]) (n := 4) (Nat.le_of_ble_eq_true rfl)
  rw [lg_entry_eq]
  generalize (lg_sl ([.ref hrd, .int sc]) ++ List.replicate (4 - (lg_sl ([.ref hrd, .int sc])).length) Slot.unset).toArray = ls at hl ⊢
  have hl : lv_has ls 4 [(0, .ref hrd), (1, .int sc)] := hl
  refine lv_iconst (v := 0) hx hb dX2_readLargeSize_0 (by decide) ?_
  refine lv_istore_n (lv' := [(2, .int 0), (0, .ref hrd), (1, .int sc)]) hx hb dX2_readLargeSize_1 rfl hl (by decide) rfl (fun ls hl => ?_)
  obtain ⟨tb_2, hZ2, hT2⟩ := kT_EXTRA_FROM hT
  refine va_gets hx hb hZ2 hS hown (hts _ mk_43) (fun _ h9 => h9) dX2_readLargeSize_2 ?_
  refine lv_iload_n hx hb dX2_readLargeSize_5 rfl (lv_at hl 2 rfl) ?_
  refine va_ti (v := .int (tl_EXTRA_FROM.getD sc.toNatClampNeg 0)) hx hb hT2 hS (kB_in bsc (by decide)) rfl dX2_readLargeSize_6 ?_
  refine lv_topi (fun v6 e6 => ?_)
  have b6 : kB v6 0 26 := kB_eq e6 (kt_EXTRA_FROM _)
  refine lv_istore_n (lv' := [(3, .int v6), (2, .int 0), (0, .ref hrd), (1, .int sc)]) hx hb dX2_readLargeSize_7 rfl hl (by decide) rfl (fun ls hl => ?_)
  exact lp_X2_readLargeSize_8 D cI cJ cZ hrd ho hh va rg sh nx sz f sc brg bsh bsz bsc hx hb hr hml hown hts hlocks hK hA hT ((26 - v6.toInt).toNat + 1) 0 v6 va rg sh nx (Nat.lt_succ_self _) b6 brg bsh (by rw [show (0 : Int32).toInt = 0 from by decide]; exact ⟨by decide, pw2_pos _⟩) _ _ ls hP hD hS (lv_sub hl [2, 3, 1, 0] rfl)
abbrev kw_X2_readSize : List Cond := Cond.code yX2_readSize cX2_readSize 3 (some .int) :: kW
set_option maxHeartbeats 4000000 in
set_option maxRecDepth 100000 in
theorem c_X2_readSize (l : Launch) (D : va_G) (cI cJ cZ : ClassId) (ht hpr hrd ho hh : Nat) (va : Int32) (rg : Int32) (sh : Int32) (nx : Int32) (sz : Int32) (f : Nat → Int32) (pr : Nat → Int32) (nd : Int32) (brg : kB rg 128 255) (bsh : kB sh 0 7) (bsz : kB sz 0 600) (apr : kA pr 0 255) (bnd : kB nd 0 253) (hpz : Nat) : Met l yX2_readSize kw_X2_readSize ({ frames := 3, cells := 0, slots := 0, locals := 71 }) (va_Pc [.ref ht, .ref hrd, .int nd] (fun U => U.heap.size = hpz ∧ va_P D vwCl [(ht, .inr (2, [.ref hpr])), (hpr, .inl (cI, 264, .inl pr)), (hrd, .inr (0, [.ref ho, .int va, .int rg, .int sh, .int nx])), (ho, .inr (3, [.ref hh, .int sz])), (hh, .inl (cI, 600, .inl f))] U.heap ∧ kK D cI cJ cZ U ∧ va_D (fun _ => True) [(ht, .inr (2, [.ref hpr])), (hpr, .inl (cI, 264, .inl pr)), (hrd, .inr (0, [.ref ho, .int va, .int rg, .int sh, .int nx])), (ho, .inr (3, [.ref hh, .int sz])), (hh, .inl (cI, 600, .inl f))] ∧ kT (va_A [(ht, .inr (2, [.ref hpr])), (hpr, .inl (cI, 264, .inl pr)), (hrd, .inr (0, [.ref ho, .int va, .int rg, .int sh, .int nx])), (ho, .inr (3, [.ref hh, .int sz])), (hh, .inl (cI, 600, .inl f))] hpz) U U.heap)) (va_Qi (fun (r : Int32) (u : Int32 × Int32 × Int32 × Int32) => (kB u.2.1 128 255) ∧ (kB u.2.2.1 0 7) ∧ (kB r 0 70000000)) (fun (u : Int32 × Int32 × Int32 × Int32) (t : State) => va_P D vwCl [(ht, .inr (2, [.ref hpr])), (hpr, .inl (cI, 264, .inl pr)), (hrd, .inr (0, [.ref ho, .int u.1, .int u.2.1, .int u.2.2.1, .int u.2.2.2])), (ho, .inr (3, [.ref hh, .int sz])), (hh, .inl (cI, 600, .inl f))] t.heap ∧ va_D (va_A [(ht, .inr (2, [.ref hpr])), (hpr, .inl (cI, 264, .inl pr)), (hrd, .inr (0, [.ref ho, .int va, .int rg, .int sh, .int nx])), (ho, .inr (3, [.ref hh, .int sz])), (hh, .inl (cI, 600, .inl f))] hpz) [(ht, .inr (2, [.ref hpr])), (hpr, .inl (cI, 264, .inl pr)), (hrd, .inr (0, [.ref ho, .int u.1, .int u.2.1, .int u.2.2.1, .int u.2.2.2])), (ho, .inr (3, [.ref hh, .int sz])), (hh, .inl (cI, 600, .inl f))]) (va_A [(ht, .inr (2, [.ref hpr])), (hpr, .inl (cI, 264, .inl pr)), (hrd, .inr (0, [.ref ho, .int va, .int rg, .int sh, .int nx])), (ho, .inr (3, [.ref hh, .int sz])), (hh, .inl (cI, 600, .inl f))] hpz)) 0 0 (va_A [(ht, .inr (2, [.ref hpr])), (hpr, .inl (cI, 264, .inl pr)), (hrd, .inr (0, [.ref ho, .int va, .int rg, .int sh, .int nx])), (ho, .inr (3, [.ref hh, .int sz])), (hh, .inl (cI, 600, .inl f))] hpz) := by
  refine Met.ofW (cc := cX2_readSize) (maxL := 3) (ret := (some .int)) (by decide) rfl ?_
  intro p e s m args below meth c s₁ B hml hv
  obtain ⟨rfl, hsz, hP, hK, hD0, hT⟩ := hv
  have hx := B.exec
  have hb := B.bytes
  have hr := B.returns
  have hts := fun (w : Cond) (h : w ∈ kW) => atoms_spec (ws := kw_X2_readSize) B.pre w (List.mem_cons_of_mem _ h)
  have hown : s.vm.findClass RX2 = some m.cls := findClass_of_methodNamed B.named
  have hlocks := B.notSynchronized
  subst hsz
  have hD := hD0.self (sz := s.heap.size)
  generalize hAe : va_A [(ht, .inr (2, [.ref hpr])), (hpr, .inl (cI, 264, .inl pr)), (hrd, .inr (0, [.ref ho, .int va, .int rg, .int sh, .int nx])), (ho, .inr (3, [.ref hh, .int sz])), (hh, .inl (cI, 600, .inl f))] s.heap.size = A at hD hT ⊢
  have hA : ∀ q : Nat, s.heap.size ≤ q → A q := fun q h => by rw [← hAe]; exact Or.inr h
  have hS : va_S A s.heap s.heap [] := va_S.rf
  have hP : va_P D vwCl [(ht, .inr (2, [.ref hpr])), (hpr, .inl (cI, 264, .inl pr)), (hrd, .inr (0, [.ref ho, .int va, .int rg, .int sh, .int nx])), (ho, .inr (3, [.ref hh, .int sz])), (hh, .inl (cI, 600, .inl f))] s.heap := hP
  have hl := lv_entry ([.ref ht, .ref hrd, .int nd]) (n := 3) (Nat.le_of_ble_eq_true rfl)
  rw [lg_entry_eq]
  generalize (lg_sl ([.ref ht, .ref hrd, .int nd]) ++ List.replicate (3 - (lg_sl ([.ref ht, .ref hrd, .int nd])).length) Slot.unset).toArray = ls at hl ⊢
  have hl : lv_has ls 3 [(0, .ref ht), (1, .ref hrd), (2, .int nd)] := hl
  refine lv_aload_n hx hb dX2_readSize_0 rfl (lv_at hl 1 rfl) ?_
  refine lv_aload_n hx hb dX2_readSize_1 rfl (lv_at hl 0 rfl) ?_
  refine va_get (D := D) (ci := 2) (v := .ref hpr) (C := RX2) (T := TX2) (N := 1) hx hb hts in_X2 hown hK.1 hP 0 rfl rfl 0 (by decide) (hts _ mk_36) (fun _ h9 => h9) rfl dX2_readSize_2 ?_
  refine lv_iload_n hx hb dX2_readSize_5 rfl (lv_at hl 2 rfl) ?_
  refine lv_iconst (v := 2) hx hb dX2_readSize_6 (by decide) ?_
  refine lv_iadd hx hb dX2_readSize_7 ?_
  refine lv_topi (fun v7 e7 => ?_)
  have b7 : kB v7 2 255 := kB_eq e7 (kB_add bnd kc_2 (by decide))
  refine va_iald hx hb hK.1 hP 1 0 rfl rfl (kB_in b7 (by decide)) dX2_readSize_8 ?_
  refine lv_topi (fun v8 e8 => ?_)
  have b8 : kB v8 0 255 := kB_eq e8 (apr _)
  have hPc := hP.sub (ws' := [(hrd, .inr (0, [.ref ho, .int va, .int rg, .int sh, .int nx])), (ho, .inr (3, [.ref hh, .int sz])), (hh, .inl (cI, 600, .inl f))]) [2, 3, 4] rfl
  have hDc := hD.sub (ws' := [(hrd, .inr (0, [.ref ho, .int va, .int rg, .int sh, .int nx])), (ho, .inr (3, [.ref hh, .int sz])), (hh, .inl (cI, 600, .inl f))]) [2, 3, 4] (by decide) rfl
  have hFc := va_free (wc := [(hrd, .inr (0, [.ref ho, .int va, .int rg, .int sh, .int nx])), (ho, .inr (3, [.ref hh, .int sz])), (hh, .inl (cI, 600, .inl f))]) hD hS hA [2, 3, 4] rfl
  refine va_calli (va_runV (As := [.int v8]) (rest := []) ⟨hx, hb, hml, hown, hts⟩ (c_X0_readBit l D cI cJ cZ hrd ho hh va rg sh nx sz f v8 brg bsh b8 bsz (s.heap).size) (cwV 1 hts (kg_V mk_37 mk_21 mk_22 mk_23 mk_24) rfl rfl rfl (by decide +kernel) ⟨Nat.le_of_ble_eq_true rfl, Nat.le_of_ble_eq_true rfl⟩) ⟨fun a U g mk q => by obtain ⟨q0, q1, qP, qK, qD⟩ := q; exact ⟨q0, q1, qP, kK.call qK, qD⟩, va_recv hK.1 hPc (ci := 0) (q0 := 0) rfl rfl, fun U hU hW => ⟨rfl, by rw [hU], by rw [hU]; exact hPc, kK.warm hW hK, hDc.weaken (fun _ _ _ _ => trivial)⟩⟩ rfl rfl hl.1 rfl (lv_room (Nat.le_of_ble_eq_true rfl)) dX2_readSize_9 ⟨Nat.zero_le _, Nat.zero_le _⟩) hS (fun q _ h => hFc q h) hFc (fun r9 u t9 H1 locs ht9 hvm9 hw9 hB9 hz9 hk9 hS => ?_)
  obtain ⟨va2_9, rg2_9, sh2_9, nx2_9⟩ := u
  obtain ⟨hP1, hD1⟩ := hB9
  rw [ht9] at hP1
  have hP1 : va_P D vwCl [(hrd, .inr (0, [.ref ho, .int va2_9, .int rg2_9, .int sh2_9, .int nx2_9])), (ho, .inr (3, [.ref hh, .int sz])), (hh, .inl (cI, 600, .inl f))] H1 := hP1
  obtain ⟨hP, hD⟩ := va_join (wr := [(ht, .inr (2, [.ref hpr])), (hpr, .inl (cI, 264, .inl pr))]) (w1 := [(hrd, .inr (0, [.ref ho, .int va2_9, .int rg2_9, .int sh2_9, .int nx2_9])), (ho, .inr (3, [.ref hh, .int sz])), (hh, .inl (cI, 600, .inl f))]) hP hD [2, 3, 4] [0, 1] rfl rfl (by decide) (by decide) hk9 hFc hP1 hD1
  have hP := hP.sub (ws' := [(ht, .inr (2, [.ref hpr])), (hpr, .inl (cI, 264, .inl pr)), (hrd, .inr (0, [.ref ho, .int va2_9, .int rg2_9, .int sh2_9, .int nx2_9])), (ho, .inr (3, [.ref hh, .int sz])), (hh, .inl (cI, 600, .inl f))]) [0, 1, 2, 3, 4] rfl
  have hD := hD.sub (ws' := [(ht, .inr (2, [.ref hpr])), (hpr, .inl (cI, 264, .inl pr)), (hrd, .inr (0, [.ref ho, .int va2_9, .int rg2_9, .int sh2_9, .int nx2_9])), (ho, .inr (3, [.ref hh, .int sz])), (hh, .inl (cI, 600, .inl f))]) [0, 1, 2, 3, 4] (by decide) rfl
  generalize H1 = H at hP hS ⊢
  obtain ⟨q9_0, q9_1, q9_2, q9_3⟩ := hw9
  have q9_0 : kB r9 0 1 := q9_0
  have q9_1 : kB rg2_9 128 255 := q9_1
  have q9_2 : kB sh2_9 0 7 := q9_2
  have q9_3 : kIf (v8.toInt = 128 ∧ 0 ≤ va.toInt ∧ va.toInt ≤ 2000000 ∧ sh.toInt ≤ 6) (r9.toInt = rBt va.toInt rg.toInt ∧ (va2_9.toInt, rg2_9.toInt, sh2_9.toInt) = rNx va.toInt rg.toInt sh.toInt) := q9_3
  refine lv_if_ne (tgt := 17) hx hb dX2_readSize_12 (by decide) (fun c12 => ?_) (fun c12 => ?_)
  · have c12x : kB r9 1 1 := kB_nlo q9_0 c12 kc_0 (by decide)
    refine lv_aload_n hx hb dX2_readSize_17 rfl (lv_at hl 1 rfl) ?_
    refine lv_aload_n hx hb dX2_readSize_18 rfl (lv_at hl 0 rfl) ?_
    refine va_get (D := D) (ci := 2) (v := .ref hpr) (C := RX2) (T := TX2) (N := 1) hx hb hts in_X2 hown hK.1 hP 0 rfl rfl 0 (by decide) (hts _ mk_36) (fun _ h9 => h9) rfl dX2_readSize_19 ?_
    refine lv_iload_n hx hb dX2_readSize_22 rfl (lv_at hl 2 rfl) ?_
    refine lv_iconst (v := 3) hx hb dX2_readSize_23 (by decide) ?_
    refine lv_iadd hx hb dX2_readSize_24 ?_
    refine lv_topi (fun v24 e24 => ?_)
    have b24 : kB v24 3 256 := kB_eq e24 (kB_add bnd kc_3 (by decide))
    refine va_iald hx hb hK.1 hP 1 0 rfl rfl (kB_in b24 (by decide)) dX2_readSize_25 ?_
    refine lv_topi (fun v25 e25 => ?_)
    have b25 : kB v25 0 255 := kB_eq e25 (apr _)
    have hPc := hP.sub (ws' := [(hrd, .inr (0, [.ref ho, .int va2_9, .int rg2_9, .int sh2_9, .int nx2_9])), (ho, .inr (3, [.ref hh, .int sz])), (hh, .inl (cI, 600, .inl f))]) [2, 3, 4] rfl
    have hDc := hD.sub (ws' := [(hrd, .inr (0, [.ref ho, .int va2_9, .int rg2_9, .int sh2_9, .int nx2_9])), (ho, .inr (3, [.ref hh, .int sz])), (hh, .inl (cI, 600, .inl f))]) [2, 3, 4] (by decide) rfl
    have hFc := va_free (wc := [(hrd, .inr (0, [.ref ho, .int va2_9, .int rg2_9, .int sh2_9, .int nx2_9])), (ho, .inr (3, [.ref hh, .int sz])), (hh, .inl (cI, 600, .inl f))]) hD hS hA [2, 3, 4] rfl
    refine va_calli (va_runV (As := [.int v25]) (rest := []) ⟨hx, hb, hml, hown, hts⟩ (c_X0_readBit l D cI cJ cZ hrd ho hh va2_9 rg2_9 sh2_9 nx2_9 sz f v25 q9_1 q9_2 b25 bsz (H).size) (cwV 1 hts (kg_V mk_37 mk_21 mk_22 mk_23 mk_24) rfl rfl rfl (by decide +kernel) ⟨Nat.le_of_ble_eq_true rfl, Nat.le_of_ble_eq_true rfl⟩) ⟨fun a U g mk q => by obtain ⟨q0, q1, qP, qK, qD⟩ := q; exact ⟨q0, q1, qP, kK.call qK, qD⟩, va_recv hK.1 hPc (ci := 0) (q0 := 0) rfl rfl, fun U hU hW => ⟨rfl, by rw [hU], by rw [hU]; exact hPc, kK.warm hW hK, hDc.weaken (fun _ _ _ _ => trivial)⟩⟩ rfl rfl hl.1 rfl (lv_room (Nat.le_of_ble_eq_true rfl)) dX2_readSize_26 ⟨Nat.zero_le _, Nat.zero_le _⟩) hS (fun q _ h => hFc q h) hFc (fun r26 u t9 H1 locs ht9 hvm9 hw9 hB9 hz9 hk9 hS => ?_)
    obtain ⟨va2_26, rg2_26, sh2_26, nx2_26⟩ := u
    obtain ⟨hP1, hD1⟩ := hB9
    rw [ht9] at hP1
    have hP1 : va_P D vwCl [(hrd, .inr (0, [.ref ho, .int va2_26, .int rg2_26, .int sh2_26, .int nx2_26])), (ho, .inr (3, [.ref hh, .int sz])), (hh, .inl (cI, 600, .inl f))] H1 := hP1
    obtain ⟨hP, hD⟩ := va_join (wr := [(ht, .inr (2, [.ref hpr])), (hpr, .inl (cI, 264, .inl pr))]) (w1 := [(hrd, .inr (0, [.ref ho, .int va2_26, .int rg2_26, .int sh2_26, .int nx2_26])), (ho, .inr (3, [.ref hh, .int sz])), (hh, .inl (cI, 600, .inl f))]) hP hD [2, 3, 4] [0, 1] rfl rfl (by decide) (by decide) hk9 hFc hP1 hD1
    have hP := hP.sub (ws' := [(ht, .inr (2, [.ref hpr])), (hpr, .inl (cI, 264, .inl pr)), (hrd, .inr (0, [.ref ho, .int va2_26, .int rg2_26, .int sh2_26, .int nx2_26])), (ho, .inr (3, [.ref hh, .int sz])), (hh, .inl (cI, 600, .inl f))]) [0, 1, 2, 3, 4] rfl
    have hD := hD.sub (ws' := [(ht, .inr (2, [.ref hpr])), (hpr, .inl (cI, 264, .inl pr)), (hrd, .inr (0, [.ref ho, .int va2_26, .int rg2_26, .int sh2_26, .int nx2_26])), (ho, .inr (3, [.ref hh, .int sz])), (hh, .inl (cI, 600, .inl f))]) [0, 1, 2, 3, 4] (by decide) rfl
    generalize H1 = H at hP hS ⊢
    obtain ⟨q26_0, q26_1, q26_2, q26_3⟩ := hw9
    have q26_0 : kB r26 0 1 := q26_0
    have q26_1 : kB rg2_26 128 255 := q26_1
    have q26_2 : kB sh2_26 0 7 := q26_2
    have q26_3 : kIf (v25.toInt = 128 ∧ 0 ≤ va2_9.toInt ∧ va2_9.toInt ≤ 2000000 ∧ sh2_9.toInt ≤ 6) (r26.toInt = rBt va2_9.toInt rg2_9.toInt ∧ (va2_26.toInt, rg2_26.toInt, sh2_26.toInt) = rNx va2_9.toInt rg2_9.toInt sh2_9.toInt) := q26_3
    refine lv_iconst (v := 1) hx hb dX2_readSize_29 (by decide) ?_
    refine lv_icmp_ne (tgt := 44) hx hb dX2_readSize_30 (by decide) (fun c30 => ?_) (fun c30 => ?_)
    · have c30x : kB r26 0 0 := kB_nhi q26_0 c30 kc_1 (by decide)
      refine lv_aload_n hx hb dX2_readSize_44 rfl (lv_at hl 1 rfl) ?_
      refine lv_aload_n hx hb dX2_readSize_45 rfl (lv_at hl 0 rfl) ?_
      refine va_get (D := D) (ci := 2) (v := .ref hpr) (C := RX2) (T := TX2) (N := 1) hx hb hts in_X2 hown hK.1 hP 0 rfl rfl 0 (by decide) (hts _ mk_36) (fun _ h9 => h9) rfl dX2_readSize_46 ?_
      refine lv_iload_n hx hb dX2_readSize_49 rfl (lv_at hl 2 rfl) ?_
      refine lv_iconst (v := 4) hx hb dX2_readSize_50 (by decide) ?_
      refine lv_iadd hx hb dX2_readSize_51 ?_
      refine lv_topi (fun v51 e51 => ?_)
      have b51 : kB v51 4 257 := kB_eq e51 (kB_add bnd kc_4 (by decide))
      refine va_iald hx hb hK.1 hP 1 0 rfl rfl (kB_in b51 (by decide)) dX2_readSize_52 ?_
      refine lv_topi (fun v52 e52 => ?_)
      have b52 : kB v52 0 255 := kB_eq e52 (apr _)
      have hPc := hP.sub (ws' := [(hrd, .inr (0, [.ref ho, .int va2_26, .int rg2_26, .int sh2_26, .int nx2_26])), (ho, .inr (3, [.ref hh, .int sz])), (hh, .inl (cI, 600, .inl f))]) [2, 3, 4] rfl
      have hDc := hD.sub (ws' := [(hrd, .inr (0, [.ref ho, .int va2_26, .int rg2_26, .int sh2_26, .int nx2_26])), (ho, .inr (3, [.ref hh, .int sz])), (hh, .inl (cI, 600, .inl f))]) [2, 3, 4] (by decide) rfl
      have hFc := va_free (wc := [(hrd, .inr (0, [.ref ho, .int va2_26, .int rg2_26, .int sh2_26, .int nx2_26])), (ho, .inr (3, [.ref hh, .int sz])), (hh, .inl (cI, 600, .inl f))]) hD hS hA [2, 3, 4] rfl
      refine va_calli (va_runV (As := [.int v52]) (rest := []) ⟨hx, hb, hml, hown, hts⟩ (c_X0_readBit l D cI cJ cZ hrd ho hh va2_26 rg2_26 sh2_26 nx2_26 sz f v52 q26_1 q26_2 b52 bsz (H).size) (cwV 1 hts (kg_V mk_37 mk_21 mk_22 mk_23 mk_24) rfl rfl rfl (by decide +kernel) ⟨Nat.le_of_ble_eq_true rfl, Nat.le_of_ble_eq_true rfl⟩) ⟨fun a U g mk q => by obtain ⟨q0, q1, qP, qK, qD⟩ := q; exact ⟨q0, q1, qP, kK.call qK, qD⟩, va_recv hK.1 hPc (ci := 0) (q0 := 0) rfl rfl, fun U hU hW => ⟨rfl, by rw [hU], by rw [hU]; exact hPc, kK.warm hW hK, hDc.weaken (fun _ _ _ _ => trivial)⟩⟩ rfl rfl hl.1 rfl (lv_room (Nat.le_of_ble_eq_true rfl)) dX2_readSize_53 ⟨Nat.zero_le _, Nat.zero_le _⟩) hS (fun q _ h => hFc q h) hFc (fun r53 u t9 H1 locs ht9 hvm9 hw9 hB9 hz9 hk9 hS => ?_)
      obtain ⟨va2_53, rg2_53, sh2_53, nx2_53⟩ := u
      obtain ⟨hP1, hD1⟩ := hB9
      rw [ht9] at hP1
      have hP1 : va_P D vwCl [(hrd, .inr (0, [.ref ho, .int va2_53, .int rg2_53, .int sh2_53, .int nx2_53])), (ho, .inr (3, [.ref hh, .int sz])), (hh, .inl (cI, 600, .inl f))] H1 := hP1
      obtain ⟨hP, hD⟩ := va_join (wr := [(ht, .inr (2, [.ref hpr])), (hpr, .inl (cI, 264, .inl pr))]) (w1 := [(hrd, .inr (0, [.ref ho, .int va2_53, .int rg2_53, .int sh2_53, .int nx2_53])), (ho, .inr (3, [.ref hh, .int sz])), (hh, .inl (cI, 600, .inl f))]) hP hD [2, 3, 4] [0, 1] rfl rfl (by decide) (by decide) hk9 hFc hP1 hD1
      have hP := hP.sub (ws' := [(ht, .inr (2, [.ref hpr])), (hpr, .inl (cI, 264, .inl pr)), (hrd, .inr (0, [.ref ho, .int va2_53, .int rg2_53, .int sh2_53, .int nx2_53])), (ho, .inr (3, [.ref hh, .int sz])), (hh, .inl (cI, 600, .inl f))]) [0, 1, 2, 3, 4] rfl
      have hD := hD.sub (ws' := [(ht, .inr (2, [.ref hpr])), (hpr, .inl (cI, 264, .inl pr)), (hrd, .inr (0, [.ref ho, .int va2_53, .int rg2_53, .int sh2_53, .int nx2_53])), (ho, .inr (3, [.ref hh, .int sz])), (hh, .inl (cI, 600, .inl f))]) [0, 1, 2, 3, 4] (by decide) rfl
      generalize H1 = H at hP hS ⊢
      obtain ⟨q53_0, q53_1, q53_2, q53_3⟩ := hw9
      have q53_0 : kB r53 0 1 := q53_0
      have q53_1 : kB rg2_53 128 255 := q53_1
      have q53_2 : kB sh2_53 0 7 := q53_2
      have q53_3 : kIf (v52.toInt = 128 ∧ 0 ≤ va2_26.toInt ∧ va2_26.toInt ≤ 2000000 ∧ sh2_26.toInt ≤ 6) (r53.toInt = rBt va2_26.toInt rg2_26.toInt ∧ (va2_53.toInt, rg2_53.toInt, sh2_53.toInt) = rNx va2_26.toInt rg2_26.toInt sh2_26.toInt) := q53_3
      refine lv_if_ne (tgt := 61) hx hb dX2_readSize_56 (by decide) (fun c56 => ?_) (fun c56 => ?_)
      · have c56x : kB r53 1 1 := kB_nlo q53_0 c56 kc_0 (by decide)
        refine lv_iconst (v := 3) hx hb dX2_readSize_61 (by decide) ?_
        refine lv_aload_n hx hb dX2_readSize_62 rfl (lv_at hl 1 rfl) ?_
        refine lv_aload_n hx hb dX2_readSize_63 rfl (lv_at hl 0 rfl) ?_
        refine va_get (D := D) (ci := 2) (v := .ref hpr) (C := RX2) (T := TX2) (N := 1) hx hb hts in_X2 hown hK.1 hP 0 rfl rfl 0 (by decide) (hts _ mk_36) (fun _ h9 => h9) rfl dX2_readSize_64 ?_
        refine lv_iload_n hx hb dX2_readSize_67 rfl (lv_at hl 2 rfl) ?_
        refine lv_iconst (v := 5) hx hb dX2_readSize_68 (by decide) ?_
        refine lv_iadd hx hb dX2_readSize_69 ?_
        refine lv_topi (fun v69 e69 => ?_)
        have b69 : kB v69 5 258 := kB_eq e69 (kB_add bnd kc_5 (by decide))
        refine va_iald hx hb hK.1 hP 1 0 rfl rfl (kB_in b69 (by decide)) dX2_readSize_70 ?_
        refine lv_topi (fun v70 e70 => ?_)
        have b70 : kB v70 0 255 := kB_eq e70 (apr _)
        have hPc := hP.sub (ws' := [(hrd, .inr (0, [.ref ho, .int va2_53, .int rg2_53, .int sh2_53, .int nx2_53])), (ho, .inr (3, [.ref hh, .int sz])), (hh, .inl (cI, 600, .inl f))]) [2, 3, 4] rfl
        have hDc := hD.sub (ws' := [(hrd, .inr (0, [.ref ho, .int va2_53, .int rg2_53, .int sh2_53, .int nx2_53])), (ho, .inr (3, [.ref hh, .int sz])), (hh, .inl (cI, 600, .inl f))]) [2, 3, 4] (by decide) rfl
        have hFc := va_free (wc := [(hrd, .inr (0, [.ref ho, .int va2_53, .int rg2_53, .int sh2_53, .int nx2_53])), (ho, .inr (3, [.ref hh, .int sz])), (hh, .inl (cI, 600, .inl f))]) hD hS hA [2, 3, 4] rfl
        refine va_calli (va_runV (As := [.int v70]) (rest := [.int 3]) ⟨hx, hb, hml, hown, hts⟩ (c_X0_readBit l D cI cJ cZ hrd ho hh va2_53 rg2_53 sh2_53 nx2_53 sz f v70 q53_1 q53_2 b70 bsz (H).size) (cwV 1 hts (kg_V mk_37 mk_21 mk_22 mk_23 mk_24) rfl rfl rfl (by decide +kernel) ⟨Nat.le_of_ble_eq_true rfl, Nat.le_of_ble_eq_true rfl⟩) ⟨fun a U g mk q => by obtain ⟨q0, q1, qP, qK, qD⟩ := q; exact ⟨q0, q1, qP, kK.call qK, qD⟩, va_recv hK.1 hPc (ci := 0) (q0 := 0) rfl rfl, fun U hU hW => ⟨rfl, by rw [hU], by rw [hU]; exact hPc, kK.warm hW hK, hDc.weaken (fun _ _ _ _ => trivial)⟩⟩ rfl rfl hl.1 rfl (lv_room (Nat.le_of_ble_eq_true rfl)) dX2_readSize_71 ⟨Nat.zero_le _, Nat.zero_le _⟩) hS (fun q _ h => hFc q h) hFc (fun r71 u t9 H1 locs ht9 hvm9 hw9 hB9 hz9 hk9 hS => ?_)
        obtain ⟨va2_71, rg2_71, sh2_71, nx2_71⟩ := u
        obtain ⟨hP1, hD1⟩ := hB9
        rw [ht9] at hP1
        have hP1 : va_P D vwCl [(hrd, .inr (0, [.ref ho, .int va2_71, .int rg2_71, .int sh2_71, .int nx2_71])), (ho, .inr (3, [.ref hh, .int sz])), (hh, .inl (cI, 600, .inl f))] H1 := hP1
        obtain ⟨hP, hD⟩ := va_join (wr := [(ht, .inr (2, [.ref hpr])), (hpr, .inl (cI, 264, .inl pr))]) (w1 := [(hrd, .inr (0, [.ref ho, .int va2_71, .int rg2_71, .int sh2_71, .int nx2_71])), (ho, .inr (3, [.ref hh, .int sz])), (hh, .inl (cI, 600, .inl f))]) hP hD [2, 3, 4] [0, 1] rfl rfl (by decide) (by decide) hk9 hFc hP1 hD1
        have hP := hP.sub (ws' := [(ht, .inr (2, [.ref hpr])), (hpr, .inl (cI, 264, .inl pr)), (hrd, .inr (0, [.ref ho, .int va2_71, .int rg2_71, .int sh2_71, .int nx2_71])), (ho, .inr (3, [.ref hh, .int sz])), (hh, .inl (cI, 600, .inl f))]) [0, 1, 2, 3, 4] rfl
        have hD := hD.sub (ws' := [(ht, .inr (2, [.ref hpr])), (hpr, .inl (cI, 264, .inl pr)), (hrd, .inr (0, [.ref ho, .int va2_71, .int rg2_71, .int sh2_71, .int nx2_71])), (ho, .inr (3, [.ref hh, .int sz])), (hh, .inl (cI, 600, .inl f))]) [0, 1, 2, 3, 4] (by decide) rfl
        generalize H1 = H at hP hS ⊢
        obtain ⟨q71_0, q71_1, q71_2, q71_3⟩ := hw9
        have q71_0 : kB r71 0 1 := q71_0
        have q71_1 : kB rg2_71 128 255 := q71_1
        have q71_2 : kB sh2_71 0 7 := q71_2
        have q71_3 : kIf (v70.toInt = 128 ∧ 0 ≤ va2_53.toInt ∧ va2_53.toInt ≤ 2000000 ∧ sh2_53.toInt ≤ 6) (r71.toInt = rBt va2_53.toInt rg2_53.toInt ∧ (va2_71.toInt, rg2_71.toInt, sh2_71.toInt) = rNx va2_53.toInt rg2_53.toInt sh2_53.toInt) := q71_3
        refine lv_iadd hx hb dX2_readSize_74 ?_
        refine lv_topi (fun v74 e74 => ?_)
        have b74 : kB v74 3 4 := kB_eq e74 (kB_add kc_3 q71_0 (by decide))
        have pf_r : kB v74 0 70000000 := (kB_w b74 (by decide) (by decide))
        exact W.iret (v := v74) hx hb hr (fun t9 ht9 hW9 => ⟨⟨v74, (va2_71, rg2_71, sh2_71, nx2_71), rfl, ⟨q71_1, q71_2, pf_r⟩, by rw [ht9]; exact hP, hD⟩, hS.F ht9⟩) hS.2.2 dX2_readSize_75
      · have c56x : kB r53 0 0 := kB_eq c56 kc_0
        refine lv_iconst (v := 2) hx hb dX2_readSize_59 (by decide) ?_
        have pf_r : kB (2 : Int32) 0 70000000 := (kB_w kc_2 (by decide) (by decide))
        exact W.iret (v := 2) hx hb hr (fun t9 ht9 hW9 => ⟨⟨2, (va2_53, rg2_53, sh2_53, nx2_53), rfl, ⟨q53_1, q53_2, pf_r⟩, by rw [ht9]; exact hP, hD⟩, hS.F ht9⟩) hS.2.2 dX2_readSize_60
    · have c30x : kB r26 1 1 := kB_eq c30 kc_1
      refine lv_aload_n hx hb dX2_readSize_33 rfl (lv_at hl 1 rfl) ?_
      refine lv_aload_n hx hb dX2_readSize_34 rfl (lv_at hl 0 rfl) ?_
      refine lv_aload_n hx hb dX2_readSize_35 rfl (lv_at hl 1 rfl) ?_
      refine lv_iload_n hx hb dX2_readSize_36 rfl (lv_at hl 2 rfl) ?_
      have hPc := hP.sub (ws' := [(ht, .inr (2, [.ref hpr])), (hpr, .inl (cI, 264, .inl pr)), (hrd, .inr (0, [.ref ho, .int va2_26, .int rg2_26, .int sh2_26, .int nx2_26])), (ho, .inr (3, [.ref hh, .int sz])), (hh, .inl (cI, 600, .inl f))]) [0, 1, 2, 3, 4] rfl
      have hDc := hD.sub (ws' := [(ht, .inr (2, [.ref hpr])), (hpr, .inl (cI, 264, .inl pr)), (hrd, .inr (0, [.ref ho, .int va2_26, .int rg2_26, .int sh2_26, .int nx2_26])), (ho, .inr (3, [.ref hh, .int sz])), (hh, .inl (cI, 600, .inl f))]) [0, 1, 2, 3, 4] (by decide) rfl
      have hFc := va_free (wc := [(ht, .inr (2, [.ref hpr])), (hpr, .inl (cI, 264, .inl pr)), (hrd, .inr (0, [.ref ho, .int va2_26, .int rg2_26, .int sh2_26, .int nx2_26])), (ho, .inr (3, [.ref hh, .int sz])), (hh, .inl (cI, 600, .inl f))]) hD hS hA [0, 1, 2, 3, 4] rfl
      refine va_calli (va_runV (As := [.ref hrd, .int nd]) (rest := [.ref hrd]) ⟨hx, hb, hml, hown, hts⟩ (c_X2_readSizeClass l D cI cJ cZ ht hpr hrd ho hh va2_26 rg2_26 sh2_26 nx2_26 sz f pr nd q26_1 q26_2 bsz apr bnd (H).size) (cwV 2 hts (kg_V mk_46 mk_47 mk_48 mk_49 mk_50) rfl rfl rfl (by decide +kernel) ⟨Nat.le_of_ble_eq_true rfl, Nat.le_of_ble_eq_true rfl⟩) ⟨fun a U g mk q => by obtain ⟨q0, q1, qP, qK, qD⟩ := q; exact ⟨q0, q1, qP, kK.call qK, qD⟩, va_recv hK.1 hPc (ci := 2) (q0 := 0) rfl rfl, fun U hU hW => ⟨rfl, by rw [hU], by rw [hU]; exact hPc, kK.warm hW hK, hDc.weaken (fun _ _ _ _ => trivial)⟩⟩ rfl rfl hl.1 rfl (lv_room (Nat.le_of_ble_eq_true rfl)) dX2_readSize_37 ⟨Nat.zero_le _, Nat.zero_le _⟩) hS (fun q _ h => hFc q h) hFc (fun r37 u t9 H1 locs ht9 hvm9 hw9 hB9 hz9 hk9 hS => ?_)
      obtain ⟨va2_37, rg2_37, sh2_37, nx2_37⟩ := u
      obtain ⟨hP1, hD1⟩ := hB9
      rw [ht9] at hP1
      have hP1 : va_P D vwCl [(ht, .inr (2, [.ref hpr])), (hpr, .inl (cI, 264, .inl pr)), (hrd, .inr (0, [.ref ho, .int va2_37, .int rg2_37, .int sh2_37, .int nx2_37])), (ho, .inr (3, [.ref hh, .int sz])), (hh, .inl (cI, 600, .inl f))] H1 := hP1
      obtain ⟨hP, hD⟩ := va_join (wr := []) (w1 := [(ht, .inr (2, [.ref hpr])), (hpr, .inl (cI, 264, .inl pr)), (hrd, .inr (0, [.ref ho, .int va2_37, .int rg2_37, .int sh2_37, .int nx2_37])), (ho, .inr (3, [.ref hh, .int sz])), (hh, .inl (cI, 600, .inl f))]) hP hD [0, 1, 2, 3, 4] [] rfl rfl (by decide) (by decide) hk9 hFc hP1 hD1
      have hP := hP.sub (ws' := [(ht, .inr (2, [.ref hpr])), (hpr, .inl (cI, 264, .inl pr)), (hrd, .inr (0, [.ref ho, .int va2_37, .int rg2_37, .int sh2_37, .int nx2_37])), (ho, .inr (3, [.ref hh, .int sz])), (hh, .inl (cI, 600, .inl f))]) [0, 1, 2, 3, 4] rfl
      have hD := hD.sub (ws' := [(ht, .inr (2, [.ref hpr])), (hpr, .inl (cI, 264, .inl pr)), (hrd, .inr (0, [.ref ho, .int va2_37, .int rg2_37, .int sh2_37, .int nx2_37])), (ho, .inr (3, [.ref hh, .int sz])), (hh, .inl (cI, 600, .inl f))]) [0, 1, 2, 3, 4] (by decide) rfl
      generalize H1 = H at hP hS ⊢
      obtain ⟨q37_0, q37_1, q37_2⟩ := hw9
      have q37_0 : kB rg2_37 128 255 := q37_0
      have q37_1 : kB sh2_37 0 7 := q37_1
      have q37_2 : kB r37 0 5 := q37_2
      have hPc := hP.sub (ws' := [(hrd, .inr (0, [.ref ho, .int va2_37, .int rg2_37, .int sh2_37, .int nx2_37])), (ho, .inr (3, [.ref hh, .int sz])), (hh, .inl (cI, 600, .inl f))]) [2, 3, 4] rfl
      have hDc := hD.sub (ws' := [(hrd, .inr (0, [.ref ho, .int va2_37, .int rg2_37, .int sh2_37, .int nx2_37])), (ho, .inr (3, [.ref hh, .int sz])), (hh, .inl (cI, 600, .inl f))]) [2, 3, 4] (by decide) rfl
      have hFc := va_free (wc := [(hrd, .inr (0, [.ref ho, .int va2_37, .int rg2_37, .int sh2_37, .int nx2_37])), (ho, .inr (3, [.ref hh, .int sz])), (hh, .inl (cI, 600, .inl f))]) hD hS hA [2, 3, 4] rfl
      refine va_calli (va_runS (As := [.ref hrd, .int r37]) (rest := []) ⟨hx, hb, hml, hown, hts⟩ (c_X2_readLargeSize l D cI cJ cZ hrd ho hh va2_37 rg2_37 sh2_37 nx2_37 sz f r37 q37_0 q37_1 bsz q37_2 (H).size) (cwS 2 hts (kg_S mk_51 mk_52 mk_49 mk_53) rfl rfl rfl (by decide +kernel) ⟨Nat.le_of_ble_eq_true rfl, Nat.le_of_ble_eq_true rfl⟩) ⟨fun a U g mk q => by obtain ⟨q0, q1, qP, qK, qD, qT⟩ := q; exact ⟨q0, q1, qP, kK.call qK, qD, kT.call qT⟩, fun U hU hW => ⟨rfl, by rw [hU], by rw [hU]; exact hPc, kK.warm hW hK, hDc.weaken (fun _ _ _ _ => trivial), by rw [hU]; exact kT.at hT hS hFc hW⟩⟩ rfl rfl hl.1 rfl (lv_room (Nat.le_of_ble_eq_true rfl)) dX2_readSize_40 ⟨Nat.zero_le _, Nat.zero_le _⟩) hS (fun q _ h => hFc q h) hFc (fun r40 u t9 H1 locs ht9 hvm9 hw9 hB9 hz9 hk9 hS => ?_)
      obtain ⟨va2_40, rg2_40, sh2_40, nx2_40⟩ := u
      obtain ⟨hP1, hD1⟩ := hB9
      rw [ht9] at hP1
      have hP1 : va_P D vwCl [(hrd, .inr (0, [.ref ho, .int va2_40, .int rg2_40, .int sh2_40, .int nx2_40])), (ho, .inr (3, [.ref hh, .int sz])), (hh, .inl (cI, 600, .inl f))] H1 := hP1
      obtain ⟨hP, hD⟩ := va_join (wr := [(ht, .inr (2, [.ref hpr])), (hpr, .inl (cI, 264, .inl pr))]) (w1 := [(hrd, .inr (0, [.ref ho, .int va2_40, .int rg2_40, .int sh2_40, .int nx2_40])), (ho, .inr (3, [.ref hh, .int sz])), (hh, .inl (cI, 600, .inl f))]) hP hD [2, 3, 4] [0, 1] rfl rfl (by decide) (by decide) hk9 hFc hP1 hD1
      have hP := hP.sub (ws' := [(ht, .inr (2, [.ref hpr])), (hpr, .inl (cI, 264, .inl pr)), (hrd, .inr (0, [.ref ho, .int va2_40, .int rg2_40, .int sh2_40, .int nx2_40])), (ho, .inr (3, [.ref hh, .int sz])), (hh, .inl (cI, 600, .inl f))]) [0, 1, 2, 3, 4] rfl
      have hD := hD.sub (ws' := [(ht, .inr (2, [.ref hpr])), (hpr, .inl (cI, 264, .inl pr)), (hrd, .inr (0, [.ref ho, .int va2_40, .int rg2_40, .int sh2_40, .int nx2_40])), (ho, .inr (3, [.ref hh, .int sz])), (hh, .inl (cI, 600, .inl f))]) [0, 1, 2, 3, 4] (by decide) rfl
      generalize H1 = H at hP hS ⊢
      obtain ⟨q40_0, q40_1, q40_2⟩ := hw9
      have q40_0 : kB rg2_40 128 255 := q40_0
      have q40_1 : kB sh2_40 0 7 := q40_1
      have q40_2 : kB r40 0 70000000 := q40_2
      exact W.iret (v := r40) hx hb hr (fun t9 ht9 hW9 => ⟨⟨r40, (va2_40, rg2_40, sh2_40, nx2_40), rfl, ⟨q40_0, q40_1, q40_2⟩, by rw [ht9]; exact hP, hD⟩, hS.F ht9⟩) hS.2.2 dX2_readSize_43
  · have c12x : kB r9 0 0 := kB_eq c12 kc_0
    refine lv_iconst (v := 1) hx hb dX2_readSize_15 (by decide) ?_
    have pf_r : kB (1 : Int32) 0 70000000 := (kB_w kc_1 (by decide) (by decide))
    exact W.iret (v := 1) hx hb hr (fun t9 ht9 hW9 => ⟨⟨1, (va2_9, rg2_9, sh2_9, nx2_9), rfl, ⟨q9_1, q9_2, pf_r⟩, by rw [ht9]; exact hP, hD⟩, hS.F ht9⟩) hS.2.2 dX2_readSize_16
abbrev kw_X2_readBlock : List Cond := Cond.code yX2_readBlock cX2_readBlock 10 (some .int) :: kW
set_option maxHeartbeats 4000000 in
set_option maxRecDepth 100000 in
theorem lp_X2_readBlock_9 {p : Program} {l : Launch} {e : Env} {s : State} {m : MethodId} {args : Array Value} {below : List Frame} {meth : Method} {c : Code} {A : Nat → Prop} (D : va_G) (cI cJ cZ : ClassId) (ht hpr hrd ho hh hco : Nat) (va : Int32) (rg : Int32) (sh : Int32) (nx : Int32) (sz : Int32) (f : Nat → Int32) (pr : Nat → Int32) (fc : Int32) (fi : Int32) (co : Nat → Int32) (brg : kB rg 128 255) (bsh : kB sh 0 7) (bsz : kB sz 0 600) (apr : kA pr 0 255) (bfc : kB fc 0 2) (bfi : kB fi 0 240) (hx : p.tables.exec = Jvm.exec) (hb : c.code = cX2_readBlock) (hr : meth.sig.returnType = (some .int)) (hml : c.maxLocals = 10) (hown : s.vm.findClass RX2 = some m.cls) (hts : ∀ w ∈ kW, w.before args s = true) (hlocks : meth.locks = false) (hK : kK D cI cJ cZ s) (hA : ∀ q : Nat, s.heap.size ≤ q → A q) (hT : kT A s s.heap) : ∀ n : Nat, ∀ (x5 : Int32) (x6 : Int32) (x7 : Int32) (va2 : Int32) (rg2 : Int32) (sh2 : Int32) (nx2 : Int32) (co2 : Nat → Int32), (16 - x7.toInt).toNat < n → (kB x5 0 2) → (kB x7 0 16) → (kB rg2 128 255) → (kB sh2 0 7) → ∀ (H : Heap) (locs : List Loc) (ls : Array Slot), va_P D vwCl [(ht, .inr (2, [.ref hpr])), (hpr, .inl (cI, 264, .inl pr)), (hrd, .inr (0, [.ref ho, .int va2, .int rg2, .int sh2, .int nx2])), (ho, .inr (3, [.ref hh, .int sz])), (hh, .inl (cI, 600, .inl f)), (hco, .inl (cI, 256, .inl co2))] H → va_D A [(ht, .inr (2, [.ref hpr])), (hpr, .inl (cI, 264, .inl pr)), (hrd, .inr (0, [.ref ho, .int va2, .int rg2, .int sh2, .int nx2])), (ho, .inr (3, [.ref hh, .int sz])), (hh, .inl (cI, 600, .inl f)), (hco, .inl (cI, 256, .inl co2))] → va_S A s.heap H locs → lv_has ls 10 [(0, .ref ht), (1, .ref hrd), (3, .ref hco), (4, .int fi), (5, .int x5), (6, .int x6), (7, .int x7)] → W p l e (headSpec kw_X2_readBlock ({ frames := 4, cells := 0, slots := 0, locals := 93 })).room s m args below meth c H locs 0 0 (MQ below (va_Qi (fun (r : Int32) (u : Int32 × Int32 × Int32 × Int32 × (Nat → Int32)) => (kB u.2.1 128 255) ∧ (kB u.2.2.1 0 7) ∧ (kB r 0 16)) (fun (u : Int32 × Int32 × Int32 × Int32 × (Nat → Int32)) (t : State) => va_P D vwCl [(ht, .inr (2, [.ref hpr])), (hpr, .inl (cI, 264, .inl pr)), (hrd, .inr (0, [.ref ho, .int u.1, .int u.2.1, .int u.2.2.1, .int u.2.2.2.1])), (ho, .inr (3, [.ref hh, .int sz])), (hh, .inl (cI, 600, .inl f)), (hco, .inl (cI, 256, .inl u.2.2.2.2))] t.heap ∧ va_D A [(ht, .inr (2, [.ref hpr])), (hpr, .inl (cI, 264, .inl pr)), (hrd, .inr (0, [.ref ho, .int u.1, .int u.2.1, .int u.2.2.1, .int u.2.2.2.1])), (ho, .inr (3, [.ref hh, .int sz])), (hh, .inl (cI, 600, .inl f)), (hco, .inl (cI, 256, .inl u.2.2.2.2))]) A) args s 0 0 A) (F0 m 9 ls []) := by
  intro n
  induction n with
  | zero => intro x5 x6 x7 va2 rg2 sh2 nx2 co2 hmeas; exact absurd hmeas (Nat.not_lt_zero _)
  | succ n ih =>
    intro x5 x6 x7 va2 rg2 sh2 nx2 co2 hmeas b5 b7 brg2 bsh2 H locs ls hP hD hS hl
    refine lv_iload hx hb dX2_readBlock_9 (lv_at hl 6 rfl) ?_
    refine lv_bipush (v := 16) hx hb dX2_readBlock_11 (by decide) ?_
    refine lv_icmp_ge (tgt := 140) hx hb dX2_readBlock_13 (by decide) (fun c13 => ?_) (fun c13 => ?_)
    · have c13y : kB x7 16 16 := kB_le_r kc_16 b7 c13 (by decide)
      refine lv_bipush (v := 16) hx hb dX2_readBlock_140 (by decide) ?_
      have pf_r : kB (16 : Int32) 0 16 := (kB_w kc_16 (by decide) (by decide))
      exact W.iret (v := 16) hx hb hr (fun t9 ht9 hW9 => ⟨⟨16, (va2, rg2, sh2, nx2, co2), rfl, ⟨brg2, bsh2, pf_r⟩, by rw [ht9]; exact hP, hD⟩, hS.F ht9⟩) hS.2.2 dX2_readBlock_142
    · have c13n : x7 < 16 := kN_le c13
      have c13nx : kB x7 0 15 := kB_lt_l b7 kc_16 c13n (by decide)
      obtain ⟨tb_16, hZ16, hT16⟩ := kT_BANDS hT
      refine va_gets hx hb hZ16 hS hown (hts _ mk_54) (fun _ h9 => h9) dX2_readBlock_16 ?_
      refine lv_iload hx hb dX2_readBlock_19 (lv_at hl 6 rfl) ?_
      refine va_ti (v := .int (tl_BANDS.getD x7.toNatClampNeg 0)) hx hb hT16 hS (kB_in c13nx (by decide)) rfl dX2_readBlock_21 ?_
      refine lv_topi (fun v21 e21 => ?_)
      have b21 : kB v21 0 7 := kB_eq e21 (kt_BANDS _)
      refine lv_iconst (v := 3) hx hb dX2_readBlock_22 (by decide) ?_
      refine lv_imul hx hb dX2_readBlock_23 ?_
      refine lv_topi (fun v23 e23 => ?_)
      have b23 : kB v23 0 21 := kB_eq e23 (kB_mulc b21 kc_3 (by decide))
      refine lv_iload hx hb dX2_readBlock_24 (lv_at hl 4 rfl) ?_
      refine lv_iadd hx hb dX2_readBlock_26 ?_
      refine lv_topi (fun v26 e26 => ?_)
      have b26 : kB v26 0 23 := kB_eq e26 (kB_add b23 b5 (by decide))
      refine lv_bipush (v := 11) hx hb dX2_readBlock_27 (by decide) ?_
      refine lv_imul hx hb dX2_readBlock_29 ?_
      refine lv_topi (fun v29 e29 => ?_)
      have b29 : kB v29 0 253 := kB_eq e29 (kB_mulc b26 kc_11 (by decide))
      refine lv_istore (lv' := [(8, .int v29), (0, .ref ht), (1, .ref hrd), (3, .ref hco), (4, .int fi), (5, .int x5), (6, .int x6), (7, .int x7)]) hx hb dX2_readBlock_30 hl (by decide) rfl (fun ls hl => ?_)
      refine lv_iload hx hb dX2_readBlock_32 (lv_at hl 6 rfl) ?_
      refine lv_if_eq (tgt := 54) hx hb dX2_readBlock_34 (by decide) (fun c34 => ?_) (fun c34 => ?_)
      · have c34x : kB x6 0 0 := kB_eq c34 kc_0
        refine lv_aload_n hx hb dX2_readBlock_54 rfl (lv_at hl 2 rfl) ?_
        refine lv_aload_n hx hb dX2_readBlock_55 rfl (lv_at hl 1 rfl) ?_
        refine va_get (D := D) (ci := 2) (v := .ref hpr) (C := RX2) (T := TX2) (N := 1) hx hb hts in_X2 hown hK.1 hP 0 rfl rfl 0 (by decide) (hts _ mk_36) (fun _ h9 => h9) rfl dX2_readBlock_56 ?_
        refine lv_iload hx hb dX2_readBlock_59 (lv_at hl 0 rfl) ?_
        refine lv_iconst (v := 1) hx hb dX2_readBlock_61 (by decide) ?_
        refine lv_iadd hx hb dX2_readBlock_62 ?_
        refine lv_topi (fun v62 e62 => ?_)
        have b62 : kB v62 1 254 := kB_eq e62 (kB_add b29 kc_1 (by decide))
        refine va_iald hx hb hK.1 hP 1 0 rfl rfl (kB_in b62 (by decide)) dX2_readBlock_63 ?_
        refine lv_topi (fun v63 e63 => ?_)
        have b63 : kB v63 0 255 := kB_eq e63 (apr _)
        have hPc := hP.sub (ws' := [(hrd, .inr (0, [.ref ho, .int va2, .int rg2, .int sh2, .int nx2])), (ho, .inr (3, [.ref hh, .int sz])), (hh, .inl (cI, 600, .inl f))]) [2, 3, 4] rfl
        have hDc := hD.sub (ws' := [(hrd, .inr (0, [.ref ho, .int va2, .int rg2, .int sh2, .int nx2])), (ho, .inr (3, [.ref hh, .int sz])), (hh, .inl (cI, 600, .inl f))]) [2, 3, 4] (by decide) rfl
        have hFc := va_free (wc := [(hrd, .inr (0, [.ref ho, .int va2, .int rg2, .int sh2, .int nx2])), (ho, .inr (3, [.ref hh, .int sz])), (hh, .inl (cI, 600, .inl f))]) hD hS hA [2, 3, 4] rfl
        refine va_calli (va_runV (As := [.int v63]) (rest := []) ⟨hx, hb, hml, hown, hts⟩ (c_X0_readBit l D cI cJ cZ hrd ho hh va2 rg2 sh2 nx2 sz f v63 brg2 bsh2 b63 bsz (H).size) (cwV 1 hts (kg_V mk_37 mk_21 mk_22 mk_23 mk_24) rfl rfl rfl (by decide +kernel) ⟨Nat.le_of_ble_eq_true rfl, Nat.le_of_ble_eq_true rfl⟩) ⟨fun a U g mk q => by obtain ⟨q0, q1, qP, qK, qD⟩ := q; exact ⟨q0, q1, qP, kK.call qK, qD⟩, va_recv hK.1 hPc (ci := 0) (q0 := 0) rfl rfl, fun U hU hW => ⟨rfl, by rw [hU], by rw [hU]; exact hPc, kK.warm hW hK, hDc.weaken (fun _ _ _ _ => trivial)⟩⟩ rfl rfl hl.1 rfl (lv_room (Nat.le_of_ble_eq_true rfl)) dX2_readBlock_64 ⟨Nat.zero_le _, Nat.zero_le _⟩) hS (fun q _ h => hFc q h) hFc (fun r64 u t9 H1 locs ht9 hvm9 hw9 hB9 hz9 hk9 hS => ?_)
        obtain ⟨va2_64, rg2_64, sh2_64, nx2_64⟩ := u
        obtain ⟨hP1, hD1⟩ := hB9
        rw [ht9] at hP1
        have hP1 : va_P D vwCl [(hrd, .inr (0, [.ref ho, .int va2_64, .int rg2_64, .int sh2_64, .int nx2_64])), (ho, .inr (3, [.ref hh, .int sz])), (hh, .inl (cI, 600, .inl f))] H1 := hP1
        obtain ⟨hP, hD⟩ := va_join (wr := [(ht, .inr (2, [.ref hpr])), (hpr, .inl (cI, 264, .inl pr)), (hco, .inl (cI, 256, .inl co2))]) (w1 := [(hrd, .inr (0, [.ref ho, .int va2_64, .int rg2_64, .int sh2_64, .int nx2_64])), (ho, .inr (3, [.ref hh, .int sz])), (hh, .inl (cI, 600, .inl f))]) hP hD [2, 3, 4] [0, 1, 5] rfl rfl (by decide) (by decide) hk9 hFc hP1 hD1
        have hP := hP.sub (ws' := [(ht, .inr (2, [.ref hpr])), (hpr, .inl (cI, 264, .inl pr)), (hrd, .inr (0, [.ref ho, .int va2_64, .int rg2_64, .int sh2_64, .int nx2_64])), (ho, .inr (3, [.ref hh, .int sz])), (hh, .inl (cI, 600, .inl f)), (hco, .inl (cI, 256, .inl co2))]) [0, 1, 3, 4, 5, 2] rfl
        have hD := hD.sub (ws' := [(ht, .inr (2, [.ref hpr])), (hpr, .inl (cI, 264, .inl pr)), (hrd, .inr (0, [.ref ho, .int va2_64, .int rg2_64, .int sh2_64, .int nx2_64])), (ho, .inr (3, [.ref hh, .int sz])), (hh, .inl (cI, 600, .inl f)), (hco, .inl (cI, 256, .inl co2))]) [0, 1, 3, 4, 5, 2] (by decide) rfl
        generalize H1 = H at hP hS ⊢
        obtain ⟨q64_0, q64_1, q64_2, q64_3⟩ := hw9
        have q64_0 : kB r64 0 1 := q64_0
        have q64_1 : kB rg2_64 128 255 := q64_1
        have q64_2 : kB sh2_64 0 7 := q64_2
        have q64_3 : kIf (v63.toInt = 128 ∧ 0 ≤ va2.toInt ∧ va2.toInt ≤ 2000000 ∧ sh2.toInt ≤ 6) (r64.toInt = rBt va2.toInt rg2.toInt ∧ (va2_64.toInt, rg2_64.toInt, sh2_64.toInt) = rNx va2.toInt rg2.toInt sh2.toInt) := q64_3
        refine lv_if_ne (tgt := 74) hx hb dX2_readBlock_67 (by decide) (fun c67 => ?_) (fun c67 => ?_)
        · have c67x : kB r64 1 1 := kB_nlo q64_0 c67 kc_0 (by decide)
          refine lv_aload_n hx hb dX2_readBlock_74 rfl (lv_at hl 1 rfl) ?_
          refine lv_aload_n hx hb dX2_readBlock_75 rfl (lv_at hl 2 rfl) ?_
          refine lv_iload hx hb dX2_readBlock_76 (lv_at hl 0 rfl) ?_
          have hPc := hP.sub (ws' := [(ht, .inr (2, [.ref hpr])), (hpr, .inl (cI, 264, .inl pr)), (hrd, .inr (0, [.ref ho, .int va2_64, .int rg2_64, .int sh2_64, .int nx2_64])), (ho, .inr (3, [.ref hh, .int sz])), (hh, .inl (cI, 600, .inl f))]) [0, 1, 2, 3, 4] rfl
          have hDc := hD.sub (ws' := [(ht, .inr (2, [.ref hpr])), (hpr, .inl (cI, 264, .inl pr)), (hrd, .inr (0, [.ref ho, .int va2_64, .int rg2_64, .int sh2_64, .int nx2_64])), (ho, .inr (3, [.ref hh, .int sz])), (hh, .inl (cI, 600, .inl f))]) [0, 1, 2, 3, 4] (by decide) rfl
          have hFc := va_free (wc := [(ht, .inr (2, [.ref hpr])), (hpr, .inl (cI, 264, .inl pr)), (hrd, .inr (0, [.ref ho, .int va2_64, .int rg2_64, .int sh2_64, .int nx2_64])), (ho, .inr (3, [.ref hh, .int sz])), (hh, .inl (cI, 600, .inl f))]) hD hS hA [0, 1, 2, 3, 4] rfl
          refine va_calli (va_runV (As := [.ref hrd, .int v29]) (rest := []) ⟨hx, hb, hml, hown, hts⟩ (c_X2_readSize l D cI cJ cZ ht hpr hrd ho hh va2_64 rg2_64 sh2_64 nx2_64 sz f pr v29 q64_1 q64_2 bsz apr b29 (H).size) (cwV 2 hts (kg_V mk_55 mk_56 mk_57 mk_49 mk_58) rfl rfl rfl (by decide +kernel) ⟨Nat.le_of_ble_eq_true rfl, Nat.le_of_ble_eq_true rfl⟩) ⟨fun a U g mk q => by obtain ⟨q0, q1, qP, qK, qD, qT⟩ := q; exact ⟨q0, q1, qP, kK.call qK, qD, kT.call qT⟩, va_recv hK.1 hPc (ci := 2) (q0 := 0) rfl rfl, fun U hU hW => ⟨rfl, by rw [hU], by rw [hU]; exact hPc, kK.warm hW hK, hDc.weaken (fun _ _ _ _ => trivial), by rw [hU]; exact kT.at hT hS hFc hW⟩⟩ rfl rfl hl.1 rfl (lv_room (Nat.le_of_ble_eq_true rfl)) dX2_readBlock_78 ⟨Nat.zero_le _, Nat.zero_le _⟩) hS (fun q _ h => hFc q h) hFc (fun r78 u t9 H1 locs ht9 hvm9 hw9 hB9 hz9 hk9 hS => ?_)
          obtain ⟨va2_78, rg2_78, sh2_78, nx2_78⟩ := u
          obtain ⟨hP1, hD1⟩ := hB9
          rw [ht9] at hP1
          have hP1 : va_P D vwCl [(ht, .inr (2, [.ref hpr])), (hpr, .inl (cI, 264, .inl pr)), (hrd, .inr (0, [.ref ho, .int va2_78, .int rg2_78, .int sh2_78, .int nx2_78])), (ho, .inr (3, [.ref hh, .int sz])), (hh, .inl (cI, 600, .inl f))] H1 := hP1
          obtain ⟨hP, hD⟩ := va_join (wr := [(hco, .inl (cI, 256, .inl co2))]) (w1 := [(ht, .inr (2, [.ref hpr])), (hpr, .inl (cI, 264, .inl pr)), (hrd, .inr (0, [.ref ho, .int va2_78, .int rg2_78, .int sh2_78, .int nx2_78])), (ho, .inr (3, [.ref hh, .int sz])), (hh, .inl (cI, 600, .inl f))]) hP hD [0, 1, 2, 3, 4] [5] rfl rfl (by decide) (by decide) hk9 hFc hP1 hD1
          have hP := hP.sub (ws' := [(ht, .inr (2, [.ref hpr])), (hpr, .inl (cI, 264, .inl pr)), (hrd, .inr (0, [.ref ho, .int va2_78, .int rg2_78, .int sh2_78, .int nx2_78])), (ho, .inr (3, [.ref hh, .int sz])), (hh, .inl (cI, 600, .inl f)), (hco, .inl (cI, 256, .inl co2))]) [1, 2, 3, 4, 5, 0] rfl
          have hD := hD.sub (ws' := [(ht, .inr (2, [.ref hpr])), (hpr, .inl (cI, 264, .inl pr)), (hrd, .inr (0, [.ref ho, .int va2_78, .int rg2_78, .int sh2_78, .int nx2_78])), (ho, .inr (3, [.ref hh, .int sz])), (hh, .inl (cI, 600, .inl f)), (hco, .inl (cI, 256, .inl co2))]) [1, 2, 3, 4, 5, 0] (by decide) rfl
          generalize H1 = H at hP hS ⊢
          obtain ⟨q78_0, q78_1, q78_2⟩ := hw9
          have q78_0 : kB rg2_78 128 255 := q78_0
          have q78_1 : kB sh2_78 0 7 := q78_1
          have q78_2 : kB r78 0 70000000 := q78_2
          refine lv_istore (lv' := [(9, .int r78), (8, .int v29), (0, .ref ht), (1, .ref hrd), (3, .ref hco), (4, .int fi), (5, .int x5), (6, .int x6), (7, .int x7)]) hx hb dX2_readBlock_81 hl (by decide) rfl (fun ls hl => ?_)
          refine lv_iload hx hb dX2_readBlock_83 (lv_at hl 0 rfl) ?_
          refine lv_if_le (tgt := 114) hx hb dX2_readBlock_85 (by decide) (fun c85 => ?_) (fun c85 => ?_)
          · have c85x : kB r78 0 0 := kB_le_l q78_2 kc_0 c85 (by decide)
            refine lv_iload hx hb dX2_readBlock_114 (lv_at hl 0 rfl) ?_
            refine lv_iconst (v := 2) hx hb dX2_readBlock_116 (by decide) ?_
            refine va_mmin hx hb (by rw [hml]; exact hl.1.symm) hown (hts _ mk_59) (hts _ mk_17) (hts _ mk_18) (hts _ mk_19) (Nat.le_of_ble_eq_true rfl) (Nat.le_of_ble_eq_true rfl) (Nat.zero_le _) (Nat.zero_le _) dX2_readBlock_117 ?_
            refine lv_topi (fun v117 e117 => ?_)
            have b117 : kB v117 0 0 := kB_eq e117 (kB_min c85x kc_2 (by decide))
            refine lv_istore (lv' := [(5, .int v117), (9, .int r78), (8, .int v29), (0, .ref ht), (1, .ref hrd), (3, .ref hco), (4, .int fi), (6, .int x6), (7, .int x7)]) hx hb dX2_readBlock_120 hl (by decide) rfl (fun ls hl => ?_)
            refine lv_iload hx hb dX2_readBlock_122 (lv_at hl 1 rfl) ?_
            refine lv_if_eq (tgt := 131) hx hb dX2_readBlock_124 (by decide) (fun c124 => ?_) (fun c124 => ?_)
            · refine lv_iconst (v := 0) hx hb dX2_readBlock_131 (by decide) ?_
              refine lv_istore (lv' := [(6, .int 0), (5, .int v117), (9, .int r78), (8, .int v29), (0, .ref ht), (1, .ref hrd), (3, .ref hco), (4, .int fi), (7, .int x7)]) hx hb dX2_readBlock_132 hl (by decide) rfl (fun ls hl => ?_)
              obtain ⟨v134, e134⟩ : ∃ y : Int32, y = x7 + 1 := ⟨_, rfl⟩
              refine lv_iinc (v := v134) (lv' := [(7, .int v134), (6, .int 0), (5, .int v117), (9, .int r78), (8, .int v29), (0, .ref ht), (1, .ref hrd), (3, .ref hco), (4, .int fi)]) hx hb dX2_readBlock_134 hl (k := 8) rfl (by rw [e134]; rfl) (by decide) rfl (fun ls hl => ?_)
              have b134 : kB v134 1 16 := kB_eq e134 (kB_add c13nx kc_1 (by decide))
              have t134 : v134.toInt = x7.toInt + 1 := by rw [e134]; exact kinc (kB_w c13nx (by decide) (by decide))
              refine lv_goto (tgt := 9) hx hb dX2_readBlock_137 (by decide) ?_
              exact ih v117 0 v134 va2_78 rg2_78 sh2_78 nx2_78 co2 (by have := b117.1; have := b117.2; have := b134.1; have := b134.2; have := q78_0.1; have := q78_0.2; have := q78_1.1; have := q78_1.2; have := b5.1; have := b5.2; have := c34x.1; have := c34x.2; have := c13nx.1; have := c13nx.2; have := brg2.1; have := brg2.2; have := bsh2.1; have := bsh2.2; omega) (kB_w b117 (by decide) (by decide)) (kB_w b134 (by decide) (by decide)) q78_0 q78_1 _ _ ls hP hD hS (lv_sub hl [5, 6, 7, 8, 2, 1, 0] rfl)
            · have c124x : kB r78 1 0 := kB_nlo c85x c124 kc_0 (by decide)
              exact absurd (Int.le_trans c124x.1 c124x.2) (by decide)
          · have c85n : 0 < r78 := kN_le c85
            have c85ny : kB r78 1 70000000 := kB_lt_r kc_0 q78_2 c85n (by decide)
            refine lv_aload_n hx hb dX2_readBlock_88 rfl (lv_at hl 4 rfl) ?_
            refine lv_iload hx hb dX2_readBlock_89 (lv_at hl 5 rfl) ?_
            refine lv_iload hx hb dX2_readBlock_91 (lv_at hl 8 rfl) ?_
            refine lv_iadd hx hb dX2_readBlock_93 ?_
            refine lv_topi (fun v93 e93 => ?_)
            have b93 : kB v93 0 255 := kB_eq e93 (kB_add bfi c13nx (by decide))
            refine lv_aload_n hx hb dX2_readBlock_94 rfl (lv_at hl 3 rfl) ?_
            refine lv_sipush (v := 128) hx hb dX2_readBlock_95 (by decide) ?_
            have hPc := hP.sub (ws' := [(hrd, .inr (0, [.ref ho, .int va2_78, .int rg2_78, .int sh2_78, .int nx2_78])), (ho, .inr (3, [.ref hh, .int sz])), (hh, .inl (cI, 600, .inl f))]) [2, 3, 4] rfl
            have hDc := hD.sub (ws' := [(hrd, .inr (0, [.ref ho, .int va2_78, .int rg2_78, .int sh2_78, .int nx2_78])), (ho, .inr (3, [.ref hh, .int sz])), (hh, .inl (cI, 600, .inl f))]) [2, 3, 4] (by decide) rfl
            have hFc := va_free (wc := [(hrd, .inr (0, [.ref ho, .int va2_78, .int rg2_78, .int sh2_78, .int nx2_78])), (ho, .inr (3, [.ref hh, .int sz])), (hh, .inl (cI, 600, .inl f))]) hD hS hA [2, 3, 4] rfl
            refine va_calli (va_runV (As := [.int 128]) (rest := [.int v93, .ref hco]) ⟨hx, hb, hml, hown, hts⟩ (c_X0_readBit l D cI cJ cZ hrd ho hh va2_78 rg2_78 sh2_78 nx2_78 sz f 128 q78_0 q78_1 (kB_w kc_128 (by decide) (by decide)) bsz (H).size) (cwV 1 hts (kg_V mk_37 mk_21 mk_22 mk_23 mk_24) rfl rfl rfl (by decide +kernel) ⟨Nat.le_of_ble_eq_true rfl, Nat.le_of_ble_eq_true rfl⟩) ⟨fun a U g mk q => by obtain ⟨q0, q1, qP, qK, qD⟩ := q; exact ⟨q0, q1, qP, kK.call qK, qD⟩, va_recv hK.1 hPc (ci := 0) (q0 := 0) rfl rfl, fun U hU hW => ⟨rfl, by rw [hU], by rw [hU]; exact hPc, kK.warm hW hK, hDc.weaken (fun _ _ _ _ => trivial)⟩⟩ rfl rfl hl.1 rfl (lv_room (Nat.le_of_ble_eq_true rfl)) dX2_readBlock_98 ⟨Nat.zero_le _, Nat.zero_le _⟩) hS (fun q _ h => hFc q h) hFc (fun r98 u t9 H1 locs ht9 hvm9 hw9 hB9 hz9 hk9 hS => ?_)
            obtain ⟨va2_98, rg2_98, sh2_98, nx2_98⟩ := u
            obtain ⟨hP1, hD1⟩ := hB9
            rw [ht9] at hP1
            have hP1 : va_P D vwCl [(hrd, .inr (0, [.ref ho, .int va2_98, .int rg2_98, .int sh2_98, .int nx2_98])), (ho, .inr (3, [.ref hh, .int sz])), (hh, .inl (cI, 600, .inl f))] H1 := hP1
            obtain ⟨hP, hD⟩ := va_join (wr := [(ht, .inr (2, [.ref hpr])), (hpr, .inl (cI, 264, .inl pr)), (hco, .inl (cI, 256, .inl co2))]) (w1 := [(hrd, .inr (0, [.ref ho, .int va2_98, .int rg2_98, .int sh2_98, .int nx2_98])), (ho, .inr (3, [.ref hh, .int sz])), (hh, .inl (cI, 600, .inl f))]) hP hD [2, 3, 4] [0, 1, 5] rfl rfl (by decide) (by decide) hk9 hFc hP1 hD1
            have hP := hP.sub (ws' := [(ht, .inr (2, [.ref hpr])), (hpr, .inl (cI, 264, .inl pr)), (hrd, .inr (0, [.ref ho, .int va2_98, .int rg2_98, .int sh2_98, .int nx2_98])), (ho, .inr (3, [.ref hh, .int sz])), (hh, .inl (cI, 600, .inl f)), (hco, .inl (cI, 256, .inl co2))]) [0, 1, 3, 4, 5, 2] rfl
            have hD := hD.sub (ws' := [(ht, .inr (2, [.ref hpr])), (hpr, .inl (cI, 264, .inl pr)), (hrd, .inr (0, [.ref ho, .int va2_98, .int rg2_98, .int sh2_98, .int nx2_98])), (ho, .inr (3, [.ref hh, .int sz])), (hh, .inl (cI, 600, .inl f)), (hco, .inl (cI, 256, .inl co2))]) [0, 1, 3, 4, 5, 2] (by decide) rfl
            generalize H1 = H at hP hS ⊢
            obtain ⟨q98_0, q98_1, q98_2, q98_3⟩ := hw9
            have q98_0 : kB r98 0 1 := q98_0
            have q98_1 : kB rg2_98 128 255 := q98_1
            have q98_2 : kB sh2_98 0 7 := q98_2
            have q98_3 : kIf ((128 : Int32).toInt = 128 ∧ 0 ≤ va2_78.toInt ∧ va2_78.toInt ≤ 2000000 ∧ sh2_78.toInt ≤ 6) (r98.toInt = rBt va2_78.toInt rg2_78.toInt ∧ (va2_98.toInt, rg2_98.toInt, sh2_98.toInt) = rNx va2_78.toInt rg2_78.toInt sh2_78.toInt) := q98_3
            refine lv_iconst (v := 1) hx hb dX2_readBlock_101 (by decide) ?_
            refine lv_icmp_ne (tgt := 111) hx hb dX2_readBlock_102 (by decide) (fun c102 => ?_) (fun c102 => ?_)
            · have c102x : kB r98 0 0 := kB_nhi q98_0 c102 kc_1 (by decide)
              refine lv_iload hx hb dX2_readBlock_111 (lv_at hl 0 rfl) ?_
              refine va_iast hx hb hK.1 hP hD hS 5 0 rfl rfl (kB_in b93 (by decide)) dX2_readBlock_113 (fun H locs hP hD hS => ?_)
              have hP : va_P D vwCl [(ht, .inr (2, [.ref hpr])), (hpr, .inl (cI, 264, .inl pr)), (hrd, .inr (0, [.ref ho, .int va2_98, .int rg2_98, .int sh2_98, .int nx2_98])), (ho, .inr (3, [.ref hh, .int sz])), (hh, .inl (cI, 600, .inl f)), (hco, .inl (cI, 256, .inl (upd co2 v93.toNatClampNeg r78)))] H := hP
              have hD : va_D A [(ht, .inr (2, [.ref hpr])), (hpr, .inl (cI, 264, .inl pr)), (hrd, .inr (0, [.ref ho, .int va2_98, .int rg2_98, .int sh2_98, .int nx2_98])), (ho, .inr (3, [.ref hh, .int sz])), (hh, .inl (cI, 600, .inl f)), (hco, .inl (cI, 256, .inl (upd co2 v93.toNatClampNeg r78)))] := hD
              generalize hf113 : upd co2 v93.toNatClampNeg r78 = f113 at hP hD
              refine lv_iload hx hb dX2_readBlock_114 (lv_at hl 0 rfl) ?_
              refine lv_iconst (v := 2) hx hb dX2_readBlock_116 (by decide) ?_
              refine va_mmin hx hb (by rw [hml]; exact hl.1.symm) hown (hts _ mk_59) (hts _ mk_17) (hts _ mk_18) (hts _ mk_19) (Nat.le_of_ble_eq_true rfl) (Nat.le_of_ble_eq_true rfl) (Nat.zero_le _) (Nat.zero_le _) dX2_readBlock_117 ?_
              refine lv_topi (fun v117 e117 => ?_)
              have b117 : kB v117 1 2 := kB_eq e117 (kB_min c85ny kc_2 (by decide))
              refine lv_istore (lv' := [(5, .int v117), (9, .int r78), (8, .int v29), (0, .ref ht), (1, .ref hrd), (3, .ref hco), (4, .int fi), (6, .int x6), (7, .int x7)]) hx hb dX2_readBlock_120 hl (by decide) rfl (fun ls hl => ?_)
              refine lv_iload hx hb dX2_readBlock_122 (lv_at hl 1 rfl) ?_
              refine lv_if_eq (tgt := 131) hx hb dX2_readBlock_124 (by decide) (fun c124 => ?_) (fun c124 => ?_)
              · have c124x : kB r78 0 0 := kB_eq c124 kc_0
                exact absurd (Int.le_trans c85ny.1 c124x.2) (by decide)
              · refine lv_iconst (v := 1) hx hb dX2_readBlock_127 (by decide) ?_
                refine lv_goto (tgt := 132) hx hb dX2_readBlock_128 (by decide) ?_
                refine lv_istore (lv' := [(6, .int 1), (5, .int v117), (9, .int r78), (8, .int v29), (0, .ref ht), (1, .ref hrd), (3, .ref hco), (4, .int fi), (7, .int x7)]) hx hb dX2_readBlock_132 hl (by decide) rfl (fun ls hl => ?_)
                obtain ⟨v134, e134⟩ : ∃ y : Int32, y = x7 + 1 := ⟨_, rfl⟩
                refine lv_iinc (v := v134) (lv' := [(7, .int v134), (6, .int 1), (5, .int v117), (9, .int r78), (8, .int v29), (0, .ref ht), (1, .ref hrd), (3, .ref hco), (4, .int fi)]) hx hb dX2_readBlock_134 hl (k := 8) rfl (by rw [e134]; rfl) (by decide) rfl (fun ls hl => ?_)
                have b134 : kB v134 1 16 := kB_eq e134 (kB_add c13nx kc_1 (by decide))
                have t134 : v134.toInt = x7.toInt + 1 := by rw [e134]; exact kinc (kB_w c13nx (by decide) (by decide))
                refine lv_goto (tgt := 9) hx hb dX2_readBlock_137 (by decide) ?_
                exact ih v117 1 v134 va2_98 rg2_98 sh2_98 nx2_98 f113 (by have := b117.1; have := b117.2; have := b134.1; have := b134.2; have := q98_1.1; have := q98_1.2; have := q98_2.1; have := q98_2.2; have := b5.1; have := b5.2; have := c34x.1; have := c34x.2; have := c13nx.1; have := c13nx.2; have := brg2.1; have := brg2.2; have := bsh2.1; have := bsh2.2; omega) (kB_w b117 (by decide) (by decide)) (kB_w b134 (by decide) (by decide)) q98_1 q98_2 _ _ ls hP hD hS (lv_sub hl [5, 6, 7, 8, 2, 1, 0] rfl)
            · have c102x : kB r98 1 1 := kB_eq c102 kc_1
              refine lv_iload hx hb dX2_readBlock_105 (lv_at hl 0 rfl) ?_
              refine lv_ineg hx hb dX2_readBlock_107 ?_
              refine lv_topi (fun v107 e107 => ?_)
              have b107 : kB v107 (-70000000) (-1) := kB_eq e107 (kB_neg c85ny (by decide))
              refine lv_goto (tgt := 113) hx hb dX2_readBlock_108 (by decide) ?_
              refine va_iast hx hb hK.1 hP hD hS 5 0 rfl rfl (kB_in b93 (by decide)) dX2_readBlock_113 (fun H locs hP hD hS => ?_)
              have hP : va_P D vwCl [(ht, .inr (2, [.ref hpr])), (hpr, .inl (cI, 264, .inl pr)), (hrd, .inr (0, [.ref ho, .int va2_98, .int rg2_98, .int sh2_98, .int nx2_98])), (ho, .inr (3, [.ref hh, .int sz])), (hh, .inl (cI, 600, .inl f)), (hco, .inl (cI, 256, .inl (upd co2 v93.toNatClampNeg v107)))] H := hP
              have hD : va_D A [(ht, .inr (2, [.ref hpr])), (hpr, .inl (cI, 264, .inl pr)), (hrd, .inr (0, [.ref ho, .int va2_98, .int rg2_98, .int sh2_98, .int nx2_98])), (ho, .inr (3, [.ref hh, .int sz])), (hh, .inl (cI, 600, .inl f)), (hco, .inl (cI, 256, .inl (upd co2 v93.toNatClampNeg v107)))] := hD
              generalize hf113 : upd co2 v93.toNatClampNeg v107 = f113 at hP hD
              refine lv_iload hx hb dX2_readBlock_114 (lv_at hl 0 rfl) ?_
              refine lv_iconst (v := 2) hx hb dX2_readBlock_116 (by decide) ?_
              refine va_mmin hx hb (by rw [hml]; exact hl.1.symm) hown (hts _ mk_59) (hts _ mk_17) (hts _ mk_18) (hts _ mk_19) (Nat.le_of_ble_eq_true rfl) (Nat.le_of_ble_eq_true rfl) (Nat.zero_le _) (Nat.zero_le _) dX2_readBlock_117 ?_
              refine lv_topi (fun v117 e117 => ?_)
              have b117 : kB v117 1 2 := kB_eq e117 (kB_min c85ny kc_2 (by decide))
              refine lv_istore (lv' := [(5, .int v117), (9, .int r78), (8, .int v29), (0, .ref ht), (1, .ref hrd), (3, .ref hco), (4, .int fi), (6, .int x6), (7, .int x7)]) hx hb dX2_readBlock_120 hl (by decide) rfl (fun ls hl => ?_)
              refine lv_iload hx hb dX2_readBlock_122 (lv_at hl 1 rfl) ?_
              refine lv_if_eq (tgt := 131) hx hb dX2_readBlock_124 (by decide) (fun c124 => ?_) (fun c124 => ?_)
              · have c124x : kB r78 0 0 := kB_eq c124 kc_0
                exact absurd (Int.le_trans c85ny.1 c124x.2) (by decide)
              · refine lv_iconst (v := 1) hx hb dX2_readBlock_127 (by decide) ?_
                refine lv_goto (tgt := 132) hx hb dX2_readBlock_128 (by decide) ?_
                refine lv_istore (lv' := [(6, .int 1), (5, .int v117), (9, .int r78), (8, .int v29), (0, .ref ht), (1, .ref hrd), (3, .ref hco), (4, .int fi), (7, .int x7)]) hx hb dX2_readBlock_132 hl (by decide) rfl (fun ls hl => ?_)
                obtain ⟨v134, e134⟩ : ∃ y : Int32, y = x7 + 1 := ⟨_, rfl⟩
                refine lv_iinc (v := v134) (lv' := [(7, .int v134), (6, .int 1), (5, .int v117), (9, .int r78), (8, .int v29), (0, .ref ht), (1, .ref hrd), (3, .ref hco), (4, .int fi)]) hx hb dX2_readBlock_134 hl (k := 8) rfl (by rw [e134]; rfl) (by decide) rfl (fun ls hl => ?_)
                have b134 : kB v134 1 16 := kB_eq e134 (kB_add c13nx kc_1 (by decide))
                have t134 : v134.toInt = x7.toInt + 1 := by rw [e134]; exact kinc (kB_w c13nx (by decide) (by decide))
                refine lv_goto (tgt := 9) hx hb dX2_readBlock_137 (by decide) ?_
                exact ih v117 1 v134 va2_98 rg2_98 sh2_98 nx2_98 f113 (by have := b117.1; have := b117.2; have := b134.1; have := b134.2; have := q98_1.1; have := q98_1.2; have := q98_2.1; have := q98_2.2; have := b5.1; have := b5.2; have := c34x.1; have := c34x.2; have := c13nx.1; have := c13nx.2; have := brg2.1; have := brg2.2; have := bsh2.1; have := bsh2.2; omega) (kB_w b117 (by decide) (by decide)) (kB_w b134 (by decide) (by decide)) q98_1 q98_2 _ _ ls hP hD hS (lv_sub hl [5, 6, 7, 8, 2, 1, 0] rfl)
        · have c67x : kB r64 0 0 := kB_eq c67 kc_0
          refine lv_iconst (v := 0) hx hb dX2_readBlock_70 (by decide) ?_
          refine lv_goto (tgt := 81) hx hb dX2_readBlock_71 (by decide) ?_
          refine lv_istore (lv' := [(9, .int 0), (8, .int v29), (0, .ref ht), (1, .ref hrd), (3, .ref hco), (4, .int fi), (5, .int x5), (6, .int x6), (7, .int x7)]) hx hb dX2_readBlock_81 hl (by decide) rfl (fun ls hl => ?_)
          refine lv_iload hx hb dX2_readBlock_83 (lv_at hl 0 rfl) ?_
          refine lv_if_le (tgt := 114) hx hb dX2_readBlock_85 (by decide) (fun c85 => ?_) (fun c85 => ?_)
          · refine lv_iload hx hb dX2_readBlock_114 (lv_at hl 0 rfl) ?_
            refine lv_iconst (v := 2) hx hb dX2_readBlock_116 (by decide) ?_
            refine va_mmin hx hb (by rw [hml]; exact hl.1.symm) hown (hts _ mk_59) (hts _ mk_17) (hts _ mk_18) (hts _ mk_19) (Nat.le_of_ble_eq_true rfl) (Nat.le_of_ble_eq_true rfl) (Nat.zero_le _) (Nat.zero_le _) dX2_readBlock_117 ?_
            refine lv_topi (fun v117 e117 => ?_)
            have b117 : kB v117 0 0 := kB_eq e117 (kB_min kc_0 kc_2 (by decide))
            refine lv_istore (lv' := [(5, .int v117), (9, .int 0), (8, .int v29), (0, .ref ht), (1, .ref hrd), (3, .ref hco), (4, .int fi), (6, .int x6), (7, .int x7)]) hx hb dX2_readBlock_120 hl (by decide) rfl (fun ls hl => ?_)
            refine lv_iload hx hb dX2_readBlock_122 (lv_at hl 1 rfl) ?_
            refine lv_if_eq (tgt := 131) hx hb dX2_readBlock_124 (by decide) (fun c124 => ?_) (fun c124 => ?_)
            · refine lv_iconst (v := 0) hx hb dX2_readBlock_131 (by decide) ?_
              refine lv_istore (lv' := [(6, .int 0), (5, .int v117), (9, .int 0), (8, .int v29), (0, .ref ht), (1, .ref hrd), (3, .ref hco), (4, .int fi), (7, .int x7)]) hx hb dX2_readBlock_132 hl (by decide) rfl (fun ls hl => ?_)
              obtain ⟨v134, e134⟩ : ∃ y : Int32, y = x7 + 1 := ⟨_, rfl⟩
              refine lv_iinc (v := v134) (lv' := [(7, .int v134), (6, .int 0), (5, .int v117), (9, .int 0), (8, .int v29), (0, .ref ht), (1, .ref hrd), (3, .ref hco), (4, .int fi)]) hx hb dX2_readBlock_134 hl (k := 8) rfl (by rw [e134]; rfl) (by decide) rfl (fun ls hl => ?_)
              have b134 : kB v134 1 16 := kB_eq e134 (kB_add c13nx kc_1 (by decide))
              have t134 : v134.toInt = x7.toInt + 1 := by rw [e134]; exact kinc (kB_w c13nx (by decide) (by decide))
              refine lv_goto (tgt := 9) hx hb dX2_readBlock_137 (by decide) ?_
              exact ih v117 0 v134 va2_64 rg2_64 sh2_64 nx2_64 co2 (by have := b117.1; have := b117.2; have := b134.1; have := b134.2; have := q64_1.1; have := q64_1.2; have := q64_2.1; have := q64_2.2; have := b5.1; have := b5.2; have := c34x.1; have := c34x.2; have := c13nx.1; have := c13nx.2; have := brg2.1; have := brg2.2; have := bsh2.1; have := bsh2.2; omega) (kB_w b117 (by decide) (by decide)) (kB_w b134 (by decide) (by decide)) q64_1 q64_2 _ _ ls hP hD hS (lv_sub hl [5, 6, 7, 8, 2, 1, 0] rfl)
            · exact absurd (by decide) c124
          · exact absurd (by decide) c85
      · refine lv_aload_n hx hb dX2_readBlock_37 rfl (lv_at hl 2 rfl) ?_
        refine lv_aload_n hx hb dX2_readBlock_38 rfl (lv_at hl 1 rfl) ?_
        refine va_get (D := D) (ci := 2) (v := .ref hpr) (C := RX2) (T := TX2) (N := 1) hx hb hts in_X2 hown hK.1 hP 0 rfl rfl 0 (by decide) (hts _ mk_36) (fun _ h9 => h9) rfl dX2_readBlock_39 ?_
        refine lv_iload hx hb dX2_readBlock_42 (lv_at hl 0 rfl) ?_
        refine va_iald hx hb hK.1 hP 1 0 rfl rfl (kB_in b29 (by decide)) dX2_readBlock_44 ?_
        refine lv_topi (fun v44 e44 => ?_)
        have b44 : kB v44 0 255 := kB_eq e44 (apr _)
        have hPc := hP.sub (ws' := [(hrd, .inr (0, [.ref ho, .int va2, .int rg2, .int sh2, .int nx2])), (ho, .inr (3, [.ref hh, .int sz])), (hh, .inl (cI, 600, .inl f))]) [2, 3, 4] rfl
        have hDc := hD.sub (ws' := [(hrd, .inr (0, [.ref ho, .int va2, .int rg2, .int sh2, .int nx2])), (ho, .inr (3, [.ref hh, .int sz])), (hh, .inl (cI, 600, .inl f))]) [2, 3, 4] (by decide) rfl
        have hFc := va_free (wc := [(hrd, .inr (0, [.ref ho, .int va2, .int rg2, .int sh2, .int nx2])), (ho, .inr (3, [.ref hh, .int sz])), (hh, .inl (cI, 600, .inl f))]) hD hS hA [2, 3, 4] rfl
        refine va_calli (va_runV (As := [.int v44]) (rest := []) ⟨hx, hb, hml, hown, hts⟩ (c_X0_readBit l D cI cJ cZ hrd ho hh va2 rg2 sh2 nx2 sz f v44 brg2 bsh2 b44 bsz (H).size) (cwV 1 hts (kg_V mk_37 mk_21 mk_22 mk_23 mk_24) rfl rfl rfl (by decide +kernel) ⟨Nat.le_of_ble_eq_true rfl, Nat.le_of_ble_eq_true rfl⟩) ⟨fun a U g mk q => by obtain ⟨q0, q1, qP, qK, qD⟩ := q; exact ⟨q0, q1, qP, kK.call qK, qD⟩, va_recv hK.1 hPc (ci := 0) (q0 := 0) rfl rfl, fun U hU hW => ⟨rfl, by rw [hU], by rw [hU]; exact hPc, kK.warm hW hK, hDc.weaken (fun _ _ _ _ => trivial)⟩⟩ rfl rfl hl.1 rfl (lv_room (Nat.le_of_ble_eq_true rfl)) dX2_readBlock_45 ⟨Nat.zero_le _, Nat.zero_le _⟩) hS (fun q _ h => hFc q h) hFc (fun r45 u t9 H1 locs ht9 hvm9 hw9 hB9 hz9 hk9 hS => ?_)
        obtain ⟨va2_45, rg2_45, sh2_45, nx2_45⟩ := u
        obtain ⟨hP1, hD1⟩ := hB9
        rw [ht9] at hP1
        have hP1 : va_P D vwCl [(hrd, .inr (0, [.ref ho, .int va2_45, .int rg2_45, .int sh2_45, .int nx2_45])), (ho, .inr (3, [.ref hh, .int sz])), (hh, .inl (cI, 600, .inl f))] H1 := hP1
        obtain ⟨hP, hD⟩ := va_join (wr := [(ht, .inr (2, [.ref hpr])), (hpr, .inl (cI, 264, .inl pr)), (hco, .inl (cI, 256, .inl co2))]) (w1 := [(hrd, .inr (0, [.ref ho, .int va2_45, .int rg2_45, .int sh2_45, .int nx2_45])), (ho, .inr (3, [.ref hh, .int sz])), (hh, .inl (cI, 600, .inl f))]) hP hD [2, 3, 4] [0, 1, 5] rfl rfl (by decide) (by decide) hk9 hFc hP1 hD1
        have hP := hP.sub (ws' := [(ht, .inr (2, [.ref hpr])), (hpr, .inl (cI, 264, .inl pr)), (hrd, .inr (0, [.ref ho, .int va2_45, .int rg2_45, .int sh2_45, .int nx2_45])), (ho, .inr (3, [.ref hh, .int sz])), (hh, .inl (cI, 600, .inl f)), (hco, .inl (cI, 256, .inl co2))]) [0, 1, 3, 4, 5, 2] rfl
        have hD := hD.sub (ws' := [(ht, .inr (2, [.ref hpr])), (hpr, .inl (cI, 264, .inl pr)), (hrd, .inr (0, [.ref ho, .int va2_45, .int rg2_45, .int sh2_45, .int nx2_45])), (ho, .inr (3, [.ref hh, .int sz])), (hh, .inl (cI, 600, .inl f)), (hco, .inl (cI, 256, .inl co2))]) [0, 1, 3, 4, 5, 2] (by decide) rfl
        generalize H1 = H at hP hS ⊢
        obtain ⟨q45_0, q45_1, q45_2, q45_3⟩ := hw9
        have q45_0 : kB r45 0 1 := q45_0
        have q45_1 : kB rg2_45 128 255 := q45_1
        have q45_2 : kB sh2_45 0 7 := q45_2
        have q45_3 : kIf (v44.toInt = 128 ∧ 0 ≤ va2.toInt ∧ va2.toInt ≤ 2000000 ∧ sh2.toInt ≤ 6) (r45.toInt = rBt va2.toInt rg2.toInt ∧ (va2_45.toInt, rg2_45.toInt, sh2_45.toInt) = rNx va2.toInt rg2.toInt sh2.toInt) := q45_3
        refine lv_if_ne (tgt := 54) hx hb dX2_readBlock_48 (by decide) (fun c48 => ?_) (fun c48 => ?_)
        · have c48x : kB r45 1 1 := kB_nlo q45_0 c48 kc_0 (by decide)
          refine lv_aload_n hx hb dX2_readBlock_54 rfl (lv_at hl 2 rfl) ?_
          refine lv_aload_n hx hb dX2_readBlock_55 rfl (lv_at hl 1 rfl) ?_
          refine va_get (D := D) (ci := 2) (v := .ref hpr) (C := RX2) (T := TX2) (N := 1) hx hb hts in_X2 hown hK.1 hP 0 rfl rfl 0 (by decide) (hts _ mk_36) (fun _ h9 => h9) rfl dX2_readBlock_56 ?_
          refine lv_iload hx hb dX2_readBlock_59 (lv_at hl 0 rfl) ?_
          refine lv_iconst (v := 1) hx hb dX2_readBlock_61 (by decide) ?_
          refine lv_iadd hx hb dX2_readBlock_62 ?_
          refine lv_topi (fun v62 e62 => ?_)
          have b62 : kB v62 1 254 := kB_eq e62 (kB_add b29 kc_1 (by decide))
          refine va_iald hx hb hK.1 hP 1 0 rfl rfl (kB_in b62 (by decide)) dX2_readBlock_63 ?_
          refine lv_topi (fun v63 e63 => ?_)
          have b63 : kB v63 0 255 := kB_eq e63 (apr _)
          have hPc := hP.sub (ws' := [(hrd, .inr (0, [.ref ho, .int va2_45, .int rg2_45, .int sh2_45, .int nx2_45])), (ho, .inr (3, [.ref hh, .int sz])), (hh, .inl (cI, 600, .inl f))]) [2, 3, 4] rfl
          have hDc := hD.sub (ws' := [(hrd, .inr (0, [.ref ho, .int va2_45, .int rg2_45, .int sh2_45, .int nx2_45])), (ho, .inr (3, [.ref hh, .int sz])), (hh, .inl (cI, 600, .inl f))]) [2, 3, 4] (by decide) rfl
          have hFc := va_free (wc := [(hrd, .inr (0, [.ref ho, .int va2_45, .int rg2_45, .int sh2_45, .int nx2_45])), (ho, .inr (3, [.ref hh, .int sz])), (hh, .inl (cI, 600, .inl f))]) hD hS hA [2, 3, 4] rfl
          refine va_calli (va_runV (As := [.int v63]) (rest := []) ⟨hx, hb, hml, hown, hts⟩ (c_X0_readBit l D cI cJ cZ hrd ho hh va2_45 rg2_45 sh2_45 nx2_45 sz f v63 q45_1 q45_2 b63 bsz (H).size) (cwV 1 hts (kg_V mk_37 mk_21 mk_22 mk_23 mk_24) rfl rfl rfl (by decide +kernel) ⟨Nat.le_of_ble_eq_true rfl, Nat.le_of_ble_eq_true rfl⟩) ⟨fun a U g mk q => by obtain ⟨q0, q1, qP, qK, qD⟩ := q; exact ⟨q0, q1, qP, kK.call qK, qD⟩, va_recv hK.1 hPc (ci := 0) (q0 := 0) rfl rfl, fun U hU hW => ⟨rfl, by rw [hU], by rw [hU]; exact hPc, kK.warm hW hK, hDc.weaken (fun _ _ _ _ => trivial)⟩⟩ rfl rfl hl.1 rfl (lv_room (Nat.le_of_ble_eq_true rfl)) dX2_readBlock_64 ⟨Nat.zero_le _, Nat.zero_le _⟩) hS (fun q _ h => hFc q h) hFc (fun r64 u t9 H1 locs ht9 hvm9 hw9 hB9 hz9 hk9 hS => ?_)
          obtain ⟨va2_64, rg2_64, sh2_64, nx2_64⟩ := u
          obtain ⟨hP1, hD1⟩ := hB9
          rw [ht9] at hP1
          have hP1 : va_P D vwCl [(hrd, .inr (0, [.ref ho, .int va2_64, .int rg2_64, .int sh2_64, .int nx2_64])), (ho, .inr (3, [.ref hh, .int sz])), (hh, .inl (cI, 600, .inl f))] H1 := hP1
          obtain ⟨hP, hD⟩ := va_join (wr := [(ht, .inr (2, [.ref hpr])), (hpr, .inl (cI, 264, .inl pr)), (hco, .inl (cI, 256, .inl co2))]) (w1 := [(hrd, .inr (0, [.ref ho, .int va2_64, .int rg2_64, .int sh2_64, .int nx2_64])), (ho, .inr (3, [.ref hh, .int sz])), (hh, .inl (cI, 600, .inl f))]) hP hD [2, 3, 4] [0, 1, 5] rfl rfl (by decide) (by decide) hk9 hFc hP1 hD1
          have hP := hP.sub (ws' := [(ht, .inr (2, [.ref hpr])), (hpr, .inl (cI, 264, .inl pr)), (hrd, .inr (0, [.ref ho, .int va2_64, .int rg2_64, .int sh2_64, .int nx2_64])), (ho, .inr (3, [.ref hh, .int sz])), (hh, .inl (cI, 600, .inl f)), (hco, .inl (cI, 256, .inl co2))]) [0, 1, 3, 4, 5, 2] rfl
          have hD := hD.sub (ws' := [(ht, .inr (2, [.ref hpr])), (hpr, .inl (cI, 264, .inl pr)), (hrd, .inr (0, [.ref ho, .int va2_64, .int rg2_64, .int sh2_64, .int nx2_64])), (ho, .inr (3, [.ref hh, .int sz])), (hh, .inl (cI, 600, .inl f)), (hco, .inl (cI, 256, .inl co2))]) [0, 1, 3, 4, 5, 2] (by decide) rfl
          generalize H1 = H at hP hS ⊢
          obtain ⟨q64_0, q64_1, q64_2, q64_3⟩ := hw9
          have q64_0 : kB r64 0 1 := q64_0
          have q64_1 : kB rg2_64 128 255 := q64_1
          have q64_2 : kB sh2_64 0 7 := q64_2
          have q64_3 : kIf (v63.toInt = 128 ∧ 0 ≤ va2_45.toInt ∧ va2_45.toInt ≤ 2000000 ∧ sh2_45.toInt ≤ 6) (r64.toInt = rBt va2_45.toInt rg2_45.toInt ∧ (va2_64.toInt, rg2_64.toInt, sh2_64.toInt) = rNx va2_45.toInt rg2_45.toInt sh2_45.toInt) := q64_3
          refine lv_if_ne (tgt := 74) hx hb dX2_readBlock_67 (by decide) (fun c67 => ?_) (fun c67 => ?_)
          · have c67x : kB r64 1 1 := kB_nlo q64_0 c67 kc_0 (by decide)
            refine lv_aload_n hx hb dX2_readBlock_74 rfl (lv_at hl 1 rfl) ?_
            refine lv_aload_n hx hb dX2_readBlock_75 rfl (lv_at hl 2 rfl) ?_
            refine lv_iload hx hb dX2_readBlock_76 (lv_at hl 0 rfl) ?_
            have hPc := hP.sub (ws' := [(ht, .inr (2, [.ref hpr])), (hpr, .inl (cI, 264, .inl pr)), (hrd, .inr (0, [.ref ho, .int va2_64, .int rg2_64, .int sh2_64, .int nx2_64])), (ho, .inr (3, [.ref hh, .int sz])), (hh, .inl (cI, 600, .inl f))]) [0, 1, 2, 3, 4] rfl
            have hDc := hD.sub (ws' := [(ht, .inr (2, [.ref hpr])), (hpr, .inl (cI, 264, .inl pr)), (hrd, .inr (0, [.ref ho, .int va2_64, .int rg2_64, .int sh2_64, .int nx2_64])), (ho, .inr (3, [.ref hh, .int sz])), (hh, .inl (cI, 600, .inl f))]) [0, 1, 2, 3, 4] (by decide) rfl
            have hFc := va_free (wc := [(ht, .inr (2, [.ref hpr])), (hpr, .inl (cI, 264, .inl pr)), (hrd, .inr (0, [.ref ho, .int va2_64, .int rg2_64, .int sh2_64, .int nx2_64])), (ho, .inr (3, [.ref hh, .int sz])), (hh, .inl (cI, 600, .inl f))]) hD hS hA [0, 1, 2, 3, 4] rfl
            refine va_calli (va_runV (As := [.ref hrd, .int v29]) (rest := []) ⟨hx, hb, hml, hown, hts⟩ (c_X2_readSize l D cI cJ cZ ht hpr hrd ho hh va2_64 rg2_64 sh2_64 nx2_64 sz f pr v29 q64_1 q64_2 bsz apr b29 (H).size) (cwV 2 hts (kg_V mk_55 mk_56 mk_57 mk_49 mk_58) rfl rfl rfl (by decide +kernel) ⟨Nat.le_of_ble_eq_true rfl, Nat.le_of_ble_eq_true rfl⟩) ⟨fun a U g mk q => by obtain ⟨q0, q1, qP, qK, qD, qT⟩ := q; exact ⟨q0, q1, qP, kK.call qK, qD, kT.call qT⟩, va_recv hK.1 hPc (ci := 2) (q0 := 0) rfl rfl, fun U hU hW => ⟨rfl, by rw [hU], by rw [hU]; exact hPc, kK.warm hW hK, hDc.weaken (fun _ _ _ _ => trivial), by rw [hU]; exact kT.at hT hS hFc hW⟩⟩ rfl rfl hl.1 rfl (lv_room (Nat.le_of_ble_eq_true rfl)) dX2_readBlock_78 ⟨Nat.zero_le _, Nat.zero_le _⟩) hS (fun q _ h => hFc q h) hFc (fun r78 u t9 H1 locs ht9 hvm9 hw9 hB9 hz9 hk9 hS => ?_)
            obtain ⟨va2_78, rg2_78, sh2_78, nx2_78⟩ := u
            obtain ⟨hP1, hD1⟩ := hB9
            rw [ht9] at hP1
            have hP1 : va_P D vwCl [(ht, .inr (2, [.ref hpr])), (hpr, .inl (cI, 264, .inl pr)), (hrd, .inr (0, [.ref ho, .int va2_78, .int rg2_78, .int sh2_78, .int nx2_78])), (ho, .inr (3, [.ref hh, .int sz])), (hh, .inl (cI, 600, .inl f))] H1 := hP1
            obtain ⟨hP, hD⟩ := va_join (wr := [(hco, .inl (cI, 256, .inl co2))]) (w1 := [(ht, .inr (2, [.ref hpr])), (hpr, .inl (cI, 264, .inl pr)), (hrd, .inr (0, [.ref ho, .int va2_78, .int rg2_78, .int sh2_78, .int nx2_78])), (ho, .inr (3, [.ref hh, .int sz])), (hh, .inl (cI, 600, .inl f))]) hP hD [0, 1, 2, 3, 4] [5] rfl rfl (by decide) (by decide) hk9 hFc hP1 hD1
            have hP := hP.sub (ws' := [(ht, .inr (2, [.ref hpr])), (hpr, .inl (cI, 264, .inl pr)), (hrd, .inr (0, [.ref ho, .int va2_78, .int rg2_78, .int sh2_78, .int nx2_78])), (ho, .inr (3, [.ref hh, .int sz])), (hh, .inl (cI, 600, .inl f)), (hco, .inl (cI, 256, .inl co2))]) [1, 2, 3, 4, 5, 0] rfl
            have hD := hD.sub (ws' := [(ht, .inr (2, [.ref hpr])), (hpr, .inl (cI, 264, .inl pr)), (hrd, .inr (0, [.ref ho, .int va2_78, .int rg2_78, .int sh2_78, .int nx2_78])), (ho, .inr (3, [.ref hh, .int sz])), (hh, .inl (cI, 600, .inl f)), (hco, .inl (cI, 256, .inl co2))]) [1, 2, 3, 4, 5, 0] (by decide) rfl
            generalize H1 = H at hP hS ⊢
            obtain ⟨q78_0, q78_1, q78_2⟩ := hw9
            have q78_0 : kB rg2_78 128 255 := q78_0
            have q78_1 : kB sh2_78 0 7 := q78_1
            have q78_2 : kB r78 0 70000000 := q78_2
            refine lv_istore (lv' := [(9, .int r78), (8, .int v29), (0, .ref ht), (1, .ref hrd), (3, .ref hco), (4, .int fi), (5, .int x5), (6, .int x6), (7, .int x7)]) hx hb dX2_readBlock_81 hl (by decide) rfl (fun ls hl => ?_)
            refine lv_iload hx hb dX2_readBlock_83 (lv_at hl 0 rfl) ?_
            refine lv_if_le (tgt := 114) hx hb dX2_readBlock_85 (by decide) (fun c85 => ?_) (fun c85 => ?_)
            · have c85x : kB r78 0 0 := kB_le_l q78_2 kc_0 c85 (by decide)
              refine lv_iload hx hb dX2_readBlock_114 (lv_at hl 0 rfl) ?_
              refine lv_iconst (v := 2) hx hb dX2_readBlock_116 (by decide) ?_
              refine va_mmin hx hb (by rw [hml]; exact hl.1.symm) hown (hts _ mk_59) (hts _ mk_17) (hts _ mk_18) (hts _ mk_19) (Nat.le_of_ble_eq_true rfl) (Nat.le_of_ble_eq_true rfl) (Nat.zero_le _) (Nat.zero_le _) dX2_readBlock_117 ?_
              refine lv_topi (fun v117 e117 => ?_)
              have b117 : kB v117 0 0 := kB_eq e117 (kB_min c85x kc_2 (by decide))
              refine lv_istore (lv' := [(5, .int v117), (9, .int r78), (8, .int v29), (0, .ref ht), (1, .ref hrd), (3, .ref hco), (4, .int fi), (6, .int x6), (7, .int x7)]) hx hb dX2_readBlock_120 hl (by decide) rfl (fun ls hl => ?_)
              refine lv_iload hx hb dX2_readBlock_122 (lv_at hl 1 rfl) ?_
              refine lv_if_eq (tgt := 131) hx hb dX2_readBlock_124 (by decide) (fun c124 => ?_) (fun c124 => ?_)
              · refine lv_iconst (v := 0) hx hb dX2_readBlock_131 (by decide) ?_
                refine lv_istore (lv' := [(6, .int 0), (5, .int v117), (9, .int r78), (8, .int v29), (0, .ref ht), (1, .ref hrd), (3, .ref hco), (4, .int fi), (7, .int x7)]) hx hb dX2_readBlock_132 hl (by decide) rfl (fun ls hl => ?_)
                obtain ⟨v134, e134⟩ : ∃ y : Int32, y = x7 + 1 := ⟨_, rfl⟩
                refine lv_iinc (v := v134) (lv' := [(7, .int v134), (6, .int 0), (5, .int v117), (9, .int r78), (8, .int v29), (0, .ref ht), (1, .ref hrd), (3, .ref hco), (4, .int fi)]) hx hb dX2_readBlock_134 hl (k := 8) rfl (by rw [e134]; rfl) (by decide) rfl (fun ls hl => ?_)
                have b134 : kB v134 1 16 := kB_eq e134 (kB_add c13nx kc_1 (by decide))
                have t134 : v134.toInt = x7.toInt + 1 := by rw [e134]; exact kinc (kB_w c13nx (by decide) (by decide))
                refine lv_goto (tgt := 9) hx hb dX2_readBlock_137 (by decide) ?_
                exact ih v117 0 v134 va2_78 rg2_78 sh2_78 nx2_78 co2 (by have := b117.1; have := b117.2; have := b134.1; have := b134.2; have := q78_0.1; have := q78_0.2; have := q78_1.1; have := q78_1.2; have := b5.1; have := b5.2; have := c13nx.1; have := c13nx.2; have := brg2.1; have := brg2.2; have := bsh2.1; have := bsh2.2; omega) (kB_w b117 (by decide) (by decide)) (kB_w b134 (by decide) (by decide)) q78_0 q78_1 _ _ ls hP hD hS (lv_sub hl [5, 6, 7, 8, 2, 1, 0] rfl)
              · have c124x : kB r78 1 0 := kB_nlo c85x c124 kc_0 (by decide)
                exact absurd (Int.le_trans c124x.1 c124x.2) (by decide)
            · have c85n : 0 < r78 := kN_le c85
              have c85ny : kB r78 1 70000000 := kB_lt_r kc_0 q78_2 c85n (by decide)
              refine lv_aload_n hx hb dX2_readBlock_88 rfl (lv_at hl 4 rfl) ?_
              refine lv_iload hx hb dX2_readBlock_89 (lv_at hl 5 rfl) ?_
              refine lv_iload hx hb dX2_readBlock_91 (lv_at hl 8 rfl) ?_
              refine lv_iadd hx hb dX2_readBlock_93 ?_
              refine lv_topi (fun v93 e93 => ?_)
              have b93 : kB v93 0 255 := kB_eq e93 (kB_add bfi c13nx (by decide))
              refine lv_aload_n hx hb dX2_readBlock_94 rfl (lv_at hl 3 rfl) ?_
              refine lv_sipush (v := 128) hx hb dX2_readBlock_95 (by decide) ?_
              have hPc := hP.sub (ws' := [(hrd, .inr (0, [.ref ho, .int va2_78, .int rg2_78, .int sh2_78, .int nx2_78])), (ho, .inr (3, [.ref hh, .int sz])), (hh, .inl (cI, 600, .inl f))]) [2, 3, 4] rfl
              have hDc := hD.sub (ws' := [(hrd, .inr (0, [.ref ho, .int va2_78, .int rg2_78, .int sh2_78, .int nx2_78])), (ho, .inr (3, [.ref hh, .int sz])), (hh, .inl (cI, 600, .inl f))]) [2, 3, 4] (by decide) rfl
              have hFc := va_free (wc := [(hrd, .inr (0, [.ref ho, .int va2_78, .int rg2_78, .int sh2_78, .int nx2_78])), (ho, .inr (3, [.ref hh, .int sz])), (hh, .inl (cI, 600, .inl f))]) hD hS hA [2, 3, 4] rfl
              refine va_calli (va_runV (As := [.int 128]) (rest := [.int v93, .ref hco]) ⟨hx, hb, hml, hown, hts⟩ (c_X0_readBit l D cI cJ cZ hrd ho hh va2_78 rg2_78 sh2_78 nx2_78 sz f 128 q78_0 q78_1 (kB_w kc_128 (by decide) (by decide)) bsz (H).size) (cwV 1 hts (kg_V mk_37 mk_21 mk_22 mk_23 mk_24) rfl rfl rfl (by decide +kernel) ⟨Nat.le_of_ble_eq_true rfl, Nat.le_of_ble_eq_true rfl⟩) ⟨fun a U g mk q => by obtain ⟨q0, q1, qP, qK, qD⟩ := q; exact ⟨q0, q1, qP, kK.call qK, qD⟩, va_recv hK.1 hPc (ci := 0) (q0 := 0) rfl rfl, fun U hU hW => ⟨rfl, by rw [hU], by rw [hU]; exact hPc, kK.warm hW hK, hDc.weaken (fun _ _ _ _ => trivial)⟩⟩ rfl rfl hl.1 rfl (lv_room (Nat.le_of_ble_eq_true rfl)) dX2_readBlock_98 ⟨Nat.zero_le _, Nat.zero_le _⟩) hS (fun q _ h => hFc q h) hFc (fun r98 u t9 H1 locs ht9 hvm9 hw9 hB9 hz9 hk9 hS => ?_)
              obtain ⟨va2_98, rg2_98, sh2_98, nx2_98⟩ := u
              obtain ⟨hP1, hD1⟩ := hB9
              rw [ht9] at hP1
              have hP1 : va_P D vwCl [(hrd, .inr (0, [.ref ho, .int va2_98, .int rg2_98, .int sh2_98, .int nx2_98])), (ho, .inr (3, [.ref hh, .int sz])), (hh, .inl (cI, 600, .inl f))] H1 := hP1
              obtain ⟨hP, hD⟩ := va_join (wr := [(ht, .inr (2, [.ref hpr])), (hpr, .inl (cI, 264, .inl pr)), (hco, .inl (cI, 256, .inl co2))]) (w1 := [(hrd, .inr (0, [.ref ho, .int va2_98, .int rg2_98, .int sh2_98, .int nx2_98])), (ho, .inr (3, [.ref hh, .int sz])), (hh, .inl (cI, 600, .inl f))]) hP hD [2, 3, 4] [0, 1, 5] rfl rfl (by decide) (by decide) hk9 hFc hP1 hD1
              have hP := hP.sub (ws' := [(ht, .inr (2, [.ref hpr])), (hpr, .inl (cI, 264, .inl pr)), (hrd, .inr (0, [.ref ho, .int va2_98, .int rg2_98, .int sh2_98, .int nx2_98])), (ho, .inr (3, [.ref hh, .int sz])), (hh, .inl (cI, 600, .inl f)), (hco, .inl (cI, 256, .inl co2))]) [0, 1, 3, 4, 5, 2] rfl
              have hD := hD.sub (ws' := [(ht, .inr (2, [.ref hpr])), (hpr, .inl (cI, 264, .inl pr)), (hrd, .inr (0, [.ref ho, .int va2_98, .int rg2_98, .int sh2_98, .int nx2_98])), (ho, .inr (3, [.ref hh, .int sz])), (hh, .inl (cI, 600, .inl f)), (hco, .inl (cI, 256, .inl co2))]) [0, 1, 3, 4, 5, 2] (by decide) rfl
              generalize H1 = H at hP hS ⊢
              obtain ⟨q98_0, q98_1, q98_2, q98_3⟩ := hw9
              have q98_0 : kB r98 0 1 := q98_0
              have q98_1 : kB rg2_98 128 255 := q98_1
              have q98_2 : kB sh2_98 0 7 := q98_2
              have q98_3 : kIf ((128 : Int32).toInt = 128 ∧ 0 ≤ va2_78.toInt ∧ va2_78.toInt ≤ 2000000 ∧ sh2_78.toInt ≤ 6) (r98.toInt = rBt va2_78.toInt rg2_78.toInt ∧ (va2_98.toInt, rg2_98.toInt, sh2_98.toInt) = rNx va2_78.toInt rg2_78.toInt sh2_78.toInt) := q98_3
              refine lv_iconst (v := 1) hx hb dX2_readBlock_101 (by decide) ?_
              refine lv_icmp_ne (tgt := 111) hx hb dX2_readBlock_102 (by decide) (fun c102 => ?_) (fun c102 => ?_)
              · have c102x : kB r98 0 0 := kB_nhi q98_0 c102 kc_1 (by decide)
                refine lv_iload hx hb dX2_readBlock_111 (lv_at hl 0 rfl) ?_
                refine va_iast hx hb hK.1 hP hD hS 5 0 rfl rfl (kB_in b93 (by decide)) dX2_readBlock_113 (fun H locs hP hD hS => ?_)
                have hP : va_P D vwCl [(ht, .inr (2, [.ref hpr])), (hpr, .inl (cI, 264, .inl pr)), (hrd, .inr (0, [.ref ho, .int va2_98, .int rg2_98, .int sh2_98, .int nx2_98])), (ho, .inr (3, [.ref hh, .int sz])), (hh, .inl (cI, 600, .inl f)), (hco, .inl (cI, 256, .inl (upd co2 v93.toNatClampNeg r78)))] H := hP
                have hD : va_D A [(ht, .inr (2, [.ref hpr])), (hpr, .inl (cI, 264, .inl pr)), (hrd, .inr (0, [.ref ho, .int va2_98, .int rg2_98, .int sh2_98, .int nx2_98])), (ho, .inr (3, [.ref hh, .int sz])), (hh, .inl (cI, 600, .inl f)), (hco, .inl (cI, 256, .inl (upd co2 v93.toNatClampNeg r78)))] := hD
                generalize hf113 : upd co2 v93.toNatClampNeg r78 = f113 at hP hD
                refine lv_iload hx hb dX2_readBlock_114 (lv_at hl 0 rfl) ?_
                refine lv_iconst (v := 2) hx hb dX2_readBlock_116 (by decide) ?_
                refine va_mmin hx hb (by rw [hml]; exact hl.1.symm) hown (hts _ mk_59) (hts _ mk_17) (hts _ mk_18) (hts _ mk_19) (Nat.le_of_ble_eq_true rfl) (Nat.le_of_ble_eq_true rfl) (Nat.zero_le _) (Nat.zero_le _) dX2_readBlock_117 ?_
                refine lv_topi (fun v117 e117 => ?_)
                have b117 : kB v117 1 2 := kB_eq e117 (kB_min c85ny kc_2 (by decide))
                refine lv_istore (lv' := [(5, .int v117), (9, .int r78), (8, .int v29), (0, .ref ht), (1, .ref hrd), (3, .ref hco), (4, .int fi), (6, .int x6), (7, .int x7)]) hx hb dX2_readBlock_120 hl (by decide) rfl (fun ls hl => ?_)
                refine lv_iload hx hb dX2_readBlock_122 (lv_at hl 1 rfl) ?_
                refine lv_if_eq (tgt := 131) hx hb dX2_readBlock_124 (by decide) (fun c124 => ?_) (fun c124 => ?_)
                · have c124x : kB r78 0 0 := kB_eq c124 kc_0
                  exact absurd (Int.le_trans c85ny.1 c124x.2) (by decide)
                · refine lv_iconst (v := 1) hx hb dX2_readBlock_127 (by decide) ?_
                  refine lv_goto (tgt := 132) hx hb dX2_readBlock_128 (by decide) ?_
                  refine lv_istore (lv' := [(6, .int 1), (5, .int v117), (9, .int r78), (8, .int v29), (0, .ref ht), (1, .ref hrd), (3, .ref hco), (4, .int fi), (7, .int x7)]) hx hb dX2_readBlock_132 hl (by decide) rfl (fun ls hl => ?_)
                  obtain ⟨v134, e134⟩ : ∃ y : Int32, y = x7 + 1 := ⟨_, rfl⟩
                  refine lv_iinc (v := v134) (lv' := [(7, .int v134), (6, .int 1), (5, .int v117), (9, .int r78), (8, .int v29), (0, .ref ht), (1, .ref hrd), (3, .ref hco), (4, .int fi)]) hx hb dX2_readBlock_134 hl (k := 8) rfl (by rw [e134]; rfl) (by decide) rfl (fun ls hl => ?_)
                  have b134 : kB v134 1 16 := kB_eq e134 (kB_add c13nx kc_1 (by decide))
                  have t134 : v134.toInt = x7.toInt + 1 := by rw [e134]; exact kinc (kB_w c13nx (by decide) (by decide))
                  refine lv_goto (tgt := 9) hx hb dX2_readBlock_137 (by decide) ?_
                  exact ih v117 1 v134 va2_98 rg2_98 sh2_98 nx2_98 f113 (by have := b117.1; have := b117.2; have := b134.1; have := b134.2; have := q98_1.1; have := q98_1.2; have := q98_2.1; have := q98_2.2; have := b5.1; have := b5.2; have := c13nx.1; have := c13nx.2; have := brg2.1; have := brg2.2; have := bsh2.1; have := bsh2.2; omega) (kB_w b117 (by decide) (by decide)) (kB_w b134 (by decide) (by decide)) q98_1 q98_2 _ _ ls hP hD hS (lv_sub hl [5, 6, 7, 8, 2, 1, 0] rfl)
              · have c102x : kB r98 1 1 := kB_eq c102 kc_1
                refine lv_iload hx hb dX2_readBlock_105 (lv_at hl 0 rfl) ?_
                refine lv_ineg hx hb dX2_readBlock_107 ?_
                refine lv_topi (fun v107 e107 => ?_)
                have b107 : kB v107 (-70000000) (-1) := kB_eq e107 (kB_neg c85ny (by decide))
                refine lv_goto (tgt := 113) hx hb dX2_readBlock_108 (by decide) ?_
                refine va_iast hx hb hK.1 hP hD hS 5 0 rfl rfl (kB_in b93 (by decide)) dX2_readBlock_113 (fun H locs hP hD hS => ?_)
                have hP : va_P D vwCl [(ht, .inr (2, [.ref hpr])), (hpr, .inl (cI, 264, .inl pr)), (hrd, .inr (0, [.ref ho, .int va2_98, .int rg2_98, .int sh2_98, .int nx2_98])), (ho, .inr (3, [.ref hh, .int sz])), (hh, .inl (cI, 600, .inl f)), (hco, .inl (cI, 256, .inl (upd co2 v93.toNatClampNeg v107)))] H := hP
                have hD : va_D A [(ht, .inr (2, [.ref hpr])), (hpr, .inl (cI, 264, .inl pr)), (hrd, .inr (0, [.ref ho, .int va2_98, .int rg2_98, .int sh2_98, .int nx2_98])), (ho, .inr (3, [.ref hh, .int sz])), (hh, .inl (cI, 600, .inl f)), (hco, .inl (cI, 256, .inl (upd co2 v93.toNatClampNeg v107)))] := hD
                generalize hf113 : upd co2 v93.toNatClampNeg v107 = f113 at hP hD
                refine lv_iload hx hb dX2_readBlock_114 (lv_at hl 0 rfl) ?_
                refine lv_iconst (v := 2) hx hb dX2_readBlock_116 (by decide) ?_
                refine va_mmin hx hb (by rw [hml]; exact hl.1.symm) hown (hts _ mk_59) (hts _ mk_17) (hts _ mk_18) (hts _ mk_19) (Nat.le_of_ble_eq_true rfl) (Nat.le_of_ble_eq_true rfl) (Nat.zero_le _) (Nat.zero_le _) dX2_readBlock_117 ?_
                refine lv_topi (fun v117 e117 => ?_)
                have b117 : kB v117 1 2 := kB_eq e117 (kB_min c85ny kc_2 (by decide))
                refine lv_istore (lv' := [(5, .int v117), (9, .int r78), (8, .int v29), (0, .ref ht), (1, .ref hrd), (3, .ref hco), (4, .int fi), (6, .int x6), (7, .int x7)]) hx hb dX2_readBlock_120 hl (by decide) rfl (fun ls hl => ?_)
                refine lv_iload hx hb dX2_readBlock_122 (lv_at hl 1 rfl) ?_
                refine lv_if_eq (tgt := 131) hx hb dX2_readBlock_124 (by decide) (fun c124 => ?_) (fun c124 => ?_)
                · have c124x : kB r78 0 0 := kB_eq c124 kc_0
                  exact absurd (Int.le_trans c85ny.1 c124x.2) (by decide)
                · refine lv_iconst (v := 1) hx hb dX2_readBlock_127 (by decide) ?_
                  refine lv_goto (tgt := 132) hx hb dX2_readBlock_128 (by decide) ?_
                  refine lv_istore (lv' := [(6, .int 1), (5, .int v117), (9, .int r78), (8, .int v29), (0, .ref ht), (1, .ref hrd), (3, .ref hco), (4, .int fi), (7, .int x7)]) hx hb dX2_readBlock_132 hl (by decide) rfl (fun ls hl => ?_)
                  obtain ⟨v134, e134⟩ : ∃ y : Int32, y = x7 + 1 := ⟨_, rfl⟩
                  refine lv_iinc (v := v134) (lv' := [(7, .int v134), (6, .int 1), (5, .int v117), (9, .int r78), (8, .int v29), (0, .ref ht), (1, .ref hrd), (3, .ref hco), (4, .int fi)]) hx hb dX2_readBlock_134 hl (k := 8) rfl (by rw [e134]; rfl) (by decide) rfl (fun ls hl => ?_)
                  have b134 : kB v134 1 16 := kB_eq e134 (kB_add c13nx kc_1 (by decide))
                  have t134 : v134.toInt = x7.toInt + 1 := by rw [e134]; exact kinc (kB_w c13nx (by decide) (by decide))
                  refine lv_goto (tgt := 9) hx hb dX2_readBlock_137 (by decide) ?_
                  exact ih v117 1 v134 va2_98 rg2_98 sh2_98 nx2_98 f113 (by have := b117.1; have := b117.2; have := b134.1; have := b134.2; have := q98_1.1; have := q98_1.2; have := q98_2.1; have := q98_2.2; have := b5.1; have := b5.2; have := c13nx.1; have := c13nx.2; have := brg2.1; have := brg2.2; have := bsh2.1; have := bsh2.2; omega) (kB_w b117 (by decide) (by decide)) (kB_w b134 (by decide) (by decide)) q98_1 q98_2 _ _ ls hP hD hS (lv_sub hl [5, 6, 7, 8, 2, 1, 0] rfl)
          · have c67x : kB r64 0 0 := kB_eq c67 kc_0
            refine lv_iconst (v := 0) hx hb dX2_readBlock_70 (by decide) ?_
            refine lv_goto (tgt := 81) hx hb dX2_readBlock_71 (by decide) ?_
            refine lv_istore (lv' := [(9, .int 0), (8, .int v29), (0, .ref ht), (1, .ref hrd), (3, .ref hco), (4, .int fi), (5, .int x5), (6, .int x6), (7, .int x7)]) hx hb dX2_readBlock_81 hl (by decide) rfl (fun ls hl => ?_)
            refine lv_iload hx hb dX2_readBlock_83 (lv_at hl 0 rfl) ?_
            refine lv_if_le (tgt := 114) hx hb dX2_readBlock_85 (by decide) (fun c85 => ?_) (fun c85 => ?_)
            · refine lv_iload hx hb dX2_readBlock_114 (lv_at hl 0 rfl) ?_
              refine lv_iconst (v := 2) hx hb dX2_readBlock_116 (by decide) ?_
              refine va_mmin hx hb (by rw [hml]; exact hl.1.symm) hown (hts _ mk_59) (hts _ mk_17) (hts _ mk_18) (hts _ mk_19) (Nat.le_of_ble_eq_true rfl) (Nat.le_of_ble_eq_true rfl) (Nat.zero_le _) (Nat.zero_le _) dX2_readBlock_117 ?_
              refine lv_topi (fun v117 e117 => ?_)
              have b117 : kB v117 0 0 := kB_eq e117 (kB_min kc_0 kc_2 (by decide))
              refine lv_istore (lv' := [(5, .int v117), (9, .int 0), (8, .int v29), (0, .ref ht), (1, .ref hrd), (3, .ref hco), (4, .int fi), (6, .int x6), (7, .int x7)]) hx hb dX2_readBlock_120 hl (by decide) rfl (fun ls hl => ?_)
              refine lv_iload hx hb dX2_readBlock_122 (lv_at hl 1 rfl) ?_
              refine lv_if_eq (tgt := 131) hx hb dX2_readBlock_124 (by decide) (fun c124 => ?_) (fun c124 => ?_)
              · refine lv_iconst (v := 0) hx hb dX2_readBlock_131 (by decide) ?_
                refine lv_istore (lv' := [(6, .int 0), (5, .int v117), (9, .int 0), (8, .int v29), (0, .ref ht), (1, .ref hrd), (3, .ref hco), (4, .int fi), (7, .int x7)]) hx hb dX2_readBlock_132 hl (by decide) rfl (fun ls hl => ?_)
                obtain ⟨v134, e134⟩ : ∃ y : Int32, y = x7 + 1 := ⟨_, rfl⟩
                refine lv_iinc (v := v134) (lv' := [(7, .int v134), (6, .int 0), (5, .int v117), (9, .int 0), (8, .int v29), (0, .ref ht), (1, .ref hrd), (3, .ref hco), (4, .int fi)]) hx hb dX2_readBlock_134 hl (k := 8) rfl (by rw [e134]; rfl) (by decide) rfl (fun ls hl => ?_)
                have b134 : kB v134 1 16 := kB_eq e134 (kB_add c13nx kc_1 (by decide))
                have t134 : v134.toInt = x7.toInt + 1 := by rw [e134]; exact kinc (kB_w c13nx (by decide) (by decide))
                refine lv_goto (tgt := 9) hx hb dX2_readBlock_137 (by decide) ?_
                exact ih v117 0 v134 va2_64 rg2_64 sh2_64 nx2_64 co2 (by have := b117.1; have := b117.2; have := b134.1; have := b134.2; have := q64_1.1; have := q64_1.2; have := q64_2.1; have := q64_2.2; have := b5.1; have := b5.2; have := c13nx.1; have := c13nx.2; have := brg2.1; have := brg2.2; have := bsh2.1; have := bsh2.2; omega) (kB_w b117 (by decide) (by decide)) (kB_w b134 (by decide) (by decide)) q64_1 q64_2 _ _ ls hP hD hS (lv_sub hl [5, 6, 7, 8, 2, 1, 0] rfl)
              · exact absurd (by decide) c124
            · exact absurd (by decide) c85
        · have c48x : kB r45 0 0 := kB_eq c48 kc_0
          refine lv_iload hx hb dX2_readBlock_51 (lv_at hl 7 rfl) ?_
          have pf_r : kB x7 0 16 := (kB_w c13nx (by decide) (by decide))
          exact W.iret (v := x7) hx hb hr (fun t9 ht9 hW9 => ⟨⟨x7, (va2_45, rg2_45, sh2_45, nx2_45, co2), rfl, ⟨q45_1, q45_2, pf_r⟩, by rw [ht9]; exact hP, hD⟩, hS.F ht9⟩) hS.2.2 dX2_readBlock_53
set_option maxHeartbeats 4000000 in
set_option maxRecDepth 100000 in
theorem c_X2_readBlock (l : Launch) (D : va_G) (cI cJ cZ : ClassId) (ht hpr hrd ho hh hco : Nat) (va : Int32) (rg : Int32) (sh : Int32) (nx : Int32) (sz : Int32) (f : Nat → Int32) (pr : Nat → Int32) (fc : Int32) (fi : Int32) (co : Nat → Int32) (brg : kB rg 128 255) (bsh : kB sh 0 7) (bsz : kB sz 0 600) (apr : kA pr 0 255) (bfc : kB fc 0 2) (bfi : kB fi 0 240) (hpz : Nat) : Met l yX2_readBlock kw_X2_readBlock ({ frames := 4, cells := 0, slots := 0, locals := 93 }) (va_Pc [.ref ht, .ref hrd, .int fc, .ref hco, .int fi] (fun U => U.heap.size = hpz ∧ va_P D vwCl [(ht, .inr (2, [.ref hpr])), (hpr, .inl (cI, 264, .inl pr)), (hrd, .inr (0, [.ref ho, .int va, .int rg, .int sh, .int nx])), (ho, .inr (3, [.ref hh, .int sz])), (hh, .inl (cI, 600, .inl f)), (hco, .inl (cI, 256, .inl co))] U.heap ∧ kK D cI cJ cZ U ∧ va_D (fun _ => True) [(ht, .inr (2, [.ref hpr])), (hpr, .inl (cI, 264, .inl pr)), (hrd, .inr (0, [.ref ho, .int va, .int rg, .int sh, .int nx])), (ho, .inr (3, [.ref hh, .int sz])), (hh, .inl (cI, 600, .inl f)), (hco, .inl (cI, 256, .inl co))] ∧ kT (va_A [(ht, .inr (2, [.ref hpr])), (hpr, .inl (cI, 264, .inl pr)), (hrd, .inr (0, [.ref ho, .int va, .int rg, .int sh, .int nx])), (ho, .inr (3, [.ref hh, .int sz])), (hh, .inl (cI, 600, .inl f)), (hco, .inl (cI, 256, .inl co))] hpz) U U.heap)) (va_Qi (fun (r : Int32) (u : Int32 × Int32 × Int32 × Int32 × (Nat → Int32)) => (kB u.2.1 128 255) ∧ (kB u.2.2.1 0 7) ∧ (kB r 0 16)) (fun (u : Int32 × Int32 × Int32 × Int32 × (Nat → Int32)) (t : State) => va_P D vwCl [(ht, .inr (2, [.ref hpr])), (hpr, .inl (cI, 264, .inl pr)), (hrd, .inr (0, [.ref ho, .int u.1, .int u.2.1, .int u.2.2.1, .int u.2.2.2.1])), (ho, .inr (3, [.ref hh, .int sz])), (hh, .inl (cI, 600, .inl f)), (hco, .inl (cI, 256, .inl u.2.2.2.2))] t.heap ∧ va_D (va_A [(ht, .inr (2, [.ref hpr])), (hpr, .inl (cI, 264, .inl pr)), (hrd, .inr (0, [.ref ho, .int va, .int rg, .int sh, .int nx])), (ho, .inr (3, [.ref hh, .int sz])), (hh, .inl (cI, 600, .inl f)), (hco, .inl (cI, 256, .inl co))] hpz) [(ht, .inr (2, [.ref hpr])), (hpr, .inl (cI, 264, .inl pr)), (hrd, .inr (0, [.ref ho, .int u.1, .int u.2.1, .int u.2.2.1, .int u.2.2.2.1])), (ho, .inr (3, [.ref hh, .int sz])), (hh, .inl (cI, 600, .inl f)), (hco, .inl (cI, 256, .inl u.2.2.2.2))]) (va_A [(ht, .inr (2, [.ref hpr])), (hpr, .inl (cI, 264, .inl pr)), (hrd, .inr (0, [.ref ho, .int va, .int rg, .int sh, .int nx])), (ho, .inr (3, [.ref hh, .int sz])), (hh, .inl (cI, 600, .inl f)), (hco, .inl (cI, 256, .inl co))] hpz)) 0 0 (va_A [(ht, .inr (2, [.ref hpr])), (hpr, .inl (cI, 264, .inl pr)), (hrd, .inr (0, [.ref ho, .int va, .int rg, .int sh, .int nx])), (ho, .inr (3, [.ref hh, .int sz])), (hh, .inl (cI, 600, .inl f)), (hco, .inl (cI, 256, .inl co))] hpz) := by
  refine Met.ofW (cc := cX2_readBlock) (maxL := 10) (ret := (some .int)) (by decide) rfl ?_
  intro p e s m args below meth c s₁ B hml hv
  obtain ⟨rfl, hsz, hP, hK, hD0, hT⟩ := hv
  have hx := B.exec
  have hb := B.bytes
  have hr := B.returns
  have hts := fun (w : Cond) (h : w ∈ kW) => atoms_spec (ws := kw_X2_readBlock) B.pre w (List.mem_cons_of_mem _ h)
  have hown : s.vm.findClass RX2 = some m.cls := findClass_of_methodNamed B.named
  have hlocks := B.notSynchronized
  subst hsz
  have hD := hD0.self (sz := s.heap.size)
  generalize hAe : va_A [(ht, .inr (2, [.ref hpr])), (hpr, .inl (cI, 264, .inl pr)), (hrd, .inr (0, [.ref ho, .int va, .int rg, .int sh, .int nx])), (ho, .inr (3, [.ref hh, .int sz])), (hh, .inl (cI, 600, .inl f)), (hco, .inl (cI, 256, .inl co))] s.heap.size = A at hD hT ⊢
  have hA : ∀ q : Nat, s.heap.size ≤ q → A q := fun q h => by rw [← hAe]; exact Or.inr h
  have hS : va_S A s.heap s.heap [] := va_S.rf
  have hP : va_P D vwCl [(ht, .inr (2, [.ref hpr])), (hpr, .inl (cI, 264, .inl pr)), (hrd, .inr (0, [.ref ho, .int va, .int rg, .int sh, .int nx])), (ho, .inr (3, [.ref hh, .int sz])), (hh, .inl (cI, 600, .inl f)), (hco, .inl (cI, 256, .inl co))] s.heap := hP
  have hl := lv_entry ([.ref ht, .ref hrd, .int fc, .ref hco, .int fi]) (n := 10) (Nat.le_of_ble_eq_true rfl)
  rw [lg_entry_eq]
  generalize (lg_sl ([.ref ht, .ref hrd, .int fc, .ref hco, .int fi]) ++ List.replicate (10 - (lg_sl ([.ref ht, .ref hrd, .int fc, .ref hco, .int fi])).length) Slot.unset).toArray = ls at hl ⊢
  have hl : lv_has ls 10 [(0, .ref ht), (1, .ref hrd), (2, .int fc), (3, .ref hco), (4, .int fi)] := hl
  refine lv_iload_n hx hb dX2_readBlock_0 rfl (lv_at hl 2 rfl) ?_
  refine lv_istore (lv' := [(5, .int fc), (0, .ref ht), (1, .ref hrd), (2, .int fc), (3, .ref hco), (4, .int fi)]) hx hb dX2_readBlock_1 hl (by decide) rfl (fun ls hl => ?_)
  refine lv_iconst (v := 1) hx hb dX2_readBlock_3 (by decide) ?_
  refine lv_istore (lv' := [(6, .int 1), (5, .int fc), (0, .ref ht), (1, .ref hrd), (2, .int fc), (3, .ref hco), (4, .int fi)]) hx hb dX2_readBlock_4 hl (by decide) rfl (fun ls hl => ?_)
  refine lv_iconst (v := 0) hx hb dX2_readBlock_6 (by decide) ?_
  refine lv_istore (lv' := [(7, .int 0), (6, .int 1), (5, .int fc), (0, .ref ht), (1, .ref hrd), (2, .int fc), (3, .ref hco), (4, .int fi)]) hx hb dX2_readBlock_7 hl (by decide) rfl (fun ls hl => ?_)
  exact lp_X2_readBlock_9 D cI cJ cZ ht hpr hrd ho hh hco va rg sh nx sz f pr fc fi co brg bsh bsz apr bfc bfi hx hb hr hml hown hts hlocks hK hA hT ((16 - (0 : Int32).toInt).toNat + 1) fc 1 0 va rg sh nx co (Nat.lt_succ_self _) bfc (kB_w kc_0 (by decide) (by decide)) brg bsh _ _ ls hP hD hS (lv_sub hl [3, 4, 6, 7, 2, 1, 0] rfl)
