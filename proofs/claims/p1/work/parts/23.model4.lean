abbrev kw_X8_at : List Cond := Cond.code yX8_at cX8_at 3 (some .int) :: kW
set_option maxHeartbeats 4000000 in
set_option maxRecDepth 100000 in
theorem c_X8_at (l : Launch) (D : va_G) (cI cJ cZ : ClassId) (hm hby hpb hwa hmn hcf hsa hro : Nat) (mrf : Int32) (msz : Int32) (mbg : Int32) (mrg : Int32) (mct : Int32) (mvl : Int32) (mpl : Int32) (mcl : Int32) (mrw : Int32) (mqt : Int32) (mlv : Int32) (mtl : Int32) (mbe : Int32) (mch : Int32) (mbt : Int64) (msa : Nat → Int32) (x : Int32) (y : Int32) (bx : kB x (-1) 15) (byy : kB y (-1) 15) (hpz : Nat) : Met l yX8_at kw_X8_at ({ frames := 0, cells := 0, slots := 0, locals := 0 }) (va_Pc [.ref hm, .int x, .int y] (fun U => U.heap.size = hpz ∧ va_P D vwCl [(hm, .inr (8, [.int mrf, .ref hby, .int msz, .int mbg, .long mbt, .int mrg, .int mct, .int mvl, .int mpl, .int mcl, .int mrw, .int mqt, .int mlv, .int mtl, .int mbe, .int mch, .ref hpb, .ref hwa, .ref hmn, .ref hcf, .ref hsa, .ref hro])), (hsa, .inl (cI, 256, .inl msa))] U.heap ∧ kK D cI cJ cZ U ∧ va_D (fun _ => True) [(hm, .inr (8, [.int mrf, .ref hby, .int msz, .int mbg, .long mbt, .int mrg, .int mct, .int mvl, .int mpl, .int mcl, .int mrw, .int mqt, .int mlv, .int mtl, .int mbe, .int mch, .ref hpb, .ref hwa, .ref hmn, .ref hcf, .ref hsa, .ref hro])), (hsa, .inl (cI, 256, .inl msa))])) (va_Qi (fun (r : Int32) (u : Unit) => True) (fun (u : Unit) (t : State) => va_P D vwCl [(hm, .inr (8, [.int mrf, .ref hby, .int msz, .int mbg, .long mbt, .int mrg, .int mct, .int mvl, .int mpl, .int mcl, .int mrw, .int mqt, .int mlv, .int mtl, .int mbe, .int mch, .ref hpb, .ref hwa, .ref hmn, .ref hcf, .ref hsa, .ref hro])), (hsa, .inl (cI, 256, .inl msa))] t.heap ∧ va_D (va_A [(hm, .inr (8, [.int mrf, .ref hby, .int msz, .int mbg, .long mbt, .int mrg, .int mct, .int mvl, .int mpl, .int mcl, .int mrw, .int mqt, .int mlv, .int mtl, .int mbe, .int mch, .ref hpb, .ref hwa, .ref hmn, .ref hcf, .ref hsa, .ref hro])), (hsa, .inl (cI, 256, .inl msa))] hpz) [(hm, .inr (8, [.int mrf, .ref hby, .int msz, .int mbg, .long mbt, .int mrg, .int mct, .int mvl, .int mpl, .int mcl, .int mrw, .int mqt, .int mlv, .int mtl, .int mbe, .int mch, .ref hpb, .ref hwa, .ref hmn, .ref hcf, .ref hsa, .ref hro])), (hsa, .inl (cI, 256, .inl msa))]) (va_A [(hm, .inr (8, [.int mrf, .ref hby, .int msz, .int mbg, .long mbt, .int mrg, .int mct, .int mvl, .int mpl, .int mcl, .int mrw, .int mqt, .int mlv, .int mtl, .int mbe, .int mch, .ref hpb, .ref hwa, .ref hmn, .ref hcf, .ref hsa, .ref hro])), (hsa, .inl (cI, 256, .inl msa))] hpz)) 0 0 (va_A [(hm, .inr (8, [.int mrf, .ref hby, .int msz, .int mbg, .long mbt, .int mrg, .int mct, .int mvl, .int mpl, .int mcl, .int mrw, .int mqt, .int mlv, .int mtl, .int mbe, .int mch, .ref hpb, .ref hwa, .ref hmn, .ref hcf, .ref hsa, .ref hro])), (hsa, .inl (cI, 256, .inl msa))] hpz) := by
  refine Met.ofW (cc := cX8_at) (maxL := 3) (ret := (some .int)) (by decide) rfl ?_
  intro p e s m args below meth c s₁ B hml hv
  obtain ⟨rfl, hsz, hP, hK, hD0⟩ := hv
  have hx := B.exec
  have hb := B.bytes
  have hr := B.returns
  have hts := fun (w : Cond) (h : w ∈ kW) => atoms_spec (ws := kw_X8_at) B.pre w (List.mem_cons_of_mem _ h)
  have hown : s.vm.findClass RX8 = some m.cls := findClass_of_methodNamed B.named
  have hlocks := B.notSynchronized
  subst hsz
  have hD := hD0.self (sz := s.heap.size)
  generalize hAe : va_A [(hm, .inr (8, [.int mrf, .ref hby, .int msz, .int mbg, .long mbt, .int mrg, .int mct, .int mvl, .int mpl, .int mcl, .int mrw, .int mqt, .int mlv, .int mtl, .int mbe, .int mch, .ref hpb, .ref hwa, .ref hmn, .ref hcf, .ref hsa, .ref hro])), (hsa, .inl (cI, 256, .inl msa))] s.heap.size = A at hD ⊢
  have hA : ∀ q : Nat, s.heap.size ≤ q → A q := fun q h => by rw [← hAe]; exact Or.inr h
  have hS : va_S A s.heap s.heap [] := va_S.rf
  have hP : va_P D vwCl [(hm, .inr (8, [.int mrf, .ref hby, .int msz, .int mbg, .long mbt, .int mrg, .int mct, .int mvl, .int mpl, .int mcl, .int mrw, .int mqt, .int mlv, .int mtl, .int mbe, .int mch, .ref hpb, .ref hwa, .ref hmn, .ref hcf, .ref hsa, .ref hro])), (hsa, .inl (cI, 256, .inl msa))] s.heap := hP
  have hl := lv_entry ([.ref hm, .int x, .int y]) (n := 3) (Nat.le_of_ble_eq_true rfl)
  rw [lg_entry_eq]
  generalize (lg_sl ([.ref hm, .int x, .int y]) ++ List.replicate (3 - (lg_sl ([.ref hm, .int x, .int y])).length) Slot.unset).toArray = ls at hl ⊢
  have hl : lv_has ls 3 [(0, .ref hm), (1, .int x), (2, .int y)] := hl
  refine lv_iload_n hx hb dX8_at_0 rfl (lv_at hl 2 rfl) ?_
  refine lv_if_ge (tgt := 9) hx hb dX8_at_1 (by decide) (fun c1 => ?_) (fun c1 => ?_)
  · have c1y : kB y 0 15 := kB_le_r kc_0 byy c1 (by decide)
    refine lv_iload_n hx hb dX8_at_9 rfl (lv_at hl 1 rfl) ?_
    refine lv_if_ge (tgt := 19) hx hb dX8_at_10 (by decide) (fun c10 => ?_) (fun c10 => ?_)
    · have c10y : kB x 0 15 := kB_le_r kc_0 bx c10 (by decide)
      refine lv_aload_n hx hb dX8_at_19 rfl (lv_at hl 0 rfl) ?_
      refine va_get (D := D) (ci := 8) (v := .ref hsa) (C := RX8) (T := TX8) (N := 22) hx hb hts in_X8 hown hK.1 hP 0 rfl rfl 20 (by decide) (hts _ mk_258) (fun _ h9 => h9) rfl dX8_at_20 ?_
      refine lv_bipush (v := 16) hx hb dX8_at_23 (by decide) ?_
      refine lv_iload_n hx hb dX8_at_25 rfl (lv_at hl 2 rfl) ?_
      refine lv_imul hx hb dX8_at_26 ?_
      refine lv_topi (fun v26 e26 => ?_)
      have b26 : kB v26 0 240 := kB_eq e26 (kB_cmul kc_16 c1y (by decide))
      refine lv_iload_n hx hb dX8_at_27 rfl (lv_at hl 1 rfl) ?_
      refine lv_iadd hx hb dX8_at_28 ?_
      refine lv_topi (fun v28 e28 => ?_)
      have b28 : kB v28 0 255 := kB_eq e28 (kB_add b26 c10y (by decide))
      refine va_iald hx hb hK.1 hP 1 0 rfl rfl (kB_in b28 (by decide)) dX8_at_29 ?_
      refine lv_topi (fun v29 e29 => ?_)
      exact W.iret (v := v29) hx hb hr (fun t9 ht9 hW9 => ⟨⟨v29, (), rfl, trivial, by rw [ht9]; exact hP, hD⟩, hS.F ht9⟩) hS.2.2 dX8_at_30
    · have c10n : x < 0 := kN_le c10
      have c10nx : kB x (-1) (-1) := kB_lt_l bx kc_0 c10n (by decide)
      refine lv_sipush (v := 129) hx hb dX8_at_13 (by decide) ?_
      refine lv_goto (tgt := 30) hx hb dX8_at_16 (by decide) ?_
      exact W.iret (v := 129) hx hb hr (fun t9 ht9 hW9 => ⟨⟨129, (), rfl, trivial, by rw [ht9]; exact hP, hD⟩, hS.F ht9⟩) hS.2.2 dX8_at_30
  · have c1n : y < 0 := kN_le c1
    have c1nx : kB y (-1) (-1) := kB_lt_l byy kc_0 c1n (by decide)
    refine lv_bipush (v := 127) hx hb dX8_at_4 (by decide) ?_
    refine lv_goto (tgt := 30) hx hb dX8_at_6 (by decide) ?_
    exact W.iret (v := 127) hx hb hr (fun t9 ht9 hW9 => ⟨⟨127, (), rfl, trivial, by rw [ht9]; exact hP, hD⟩, hS.F ht9⟩) hS.2.2 dX8_at_30
abbrev kw_X8_byteOf : List Cond := Cond.code yX8_byteOf cX8_byteOf 2 (some .int) :: kW
set_option maxHeartbeats 4000000 in
set_option maxRecDepth 100000 in
theorem c_X8_byteOf (l : Launch) (D : va_G) (cI cJ cZ : ClassId) (n : Int64) (hpz : Nat) : Met l yX8_byteOf kw_X8_byteOf ({ frames := 0, cells := 0, slots := 0, locals := 0 }) (va_Pc [.long n] (fun U => U.heap.size = hpz ∧ va_P D vwCl [] U.heap ∧ kK D cI cJ cZ U ∧ va_D (fun _ => True) [])) (va_Qi (fun (r : Int32) (u : Unit) => True) (fun (u : Unit) (t : State) => va_P D vwCl [] t.heap ∧ va_D (va_A [] hpz) []) (va_A [] hpz)) 0 0 (va_A [] hpz) := by
  refine Met.ofW (cc := cX8_byteOf) (maxL := 2) (ret := (some .int)) (by decide) rfl ?_
  intro p e s m args below meth c s₁ B hml hv
  obtain ⟨rfl, hsz, hP, hK, hD0⟩ := hv
  have hx := B.exec
  have hb := B.bytes
  have hr := B.returns
  have hts := fun (w : Cond) (h : w ∈ kW) => atoms_spec (ws := kw_X8_byteOf) B.pre w (List.mem_cons_of_mem _ h)
  have hown : s.vm.findClass RX8 = some m.cls := findClass_of_methodNamed B.named
  have hlocks := B.notSynchronized
  subst hsz
  have hD := hD0.self (sz := s.heap.size)
  generalize hAe : va_A [] s.heap.size = A at hD ⊢
  have hA : ∀ q : Nat, s.heap.size ≤ q → A q := fun q h => by rw [← hAe]; exact Or.inr h
  have hS : va_S A s.heap s.heap [] := va_S.rf
  have hP : va_P D vwCl [] s.heap := hP
  have hl := lv_entry ([.long n]) (n := 2) (Nat.le_of_ble_eq_true rfl)
  rw [lg_entry_eq]
  generalize (lg_sl ([.long n]) ++ List.replicate (2 - (lg_sl ([.long n])).length) Slot.unset).toArray = ls at hl ⊢
  have hl : lv_has ls 2 [(0, .long n)] := hl
  refine lv_lload_n hx hb dX8_byteOf_0 rfl (lv_at hl 0 rfl) ?_
  refine lv_lconst (v := 0) hx hb dX8_byteOf_1 (by decide) ?_
  refine W.lcmp hx hb dX8_byteOf_2 ?_
  refine lv_topi (fun v2 e2 => ?_)
  refine lv_if_ge (tgt := 10) hx hb dX8_byteOf_3 (by decide) (fun c3 => ?_) (fun c3 => ?_)
  · have c3b := kB_all v2
    have c3y : kB v2 0 2147483647 := kB_le_r kc_0 c3b c3 (by decide)
    refine lv_lload_n hx hb dX8_byteOf_10 rfl (lv_at hl 0 rfl) ?_
    refine lv_ldc2 (v := 255) hx hb hown (hts _ mk_205) dX8_byteOf_11 ?_
    refine W.lcmp hx hb dX8_byteOf_14 ?_
    refine lv_topi (fun v14 e14 => ?_)
    refine lv_if_le (tgt := 24) hx hb dX8_byteOf_15 (by decide) (fun c15 => ?_) (fun c15 => ?_)
    · have c15a := kB_all v14
      have c15x : kB v14 (-2147483648) 0 := kB_le_l c15a kc_0 c15 (by decide)
      refine lv_lload_n hx hb dX8_byteOf_24 rfl (lv_at hl 0 rfl) ?_
      refine lv_l2i hx hb dX8_byteOf_25 rfl ?_
      refine lv_topi (fun v25 e25 => ?_)
      exact W.iret (v := v25) hx hb hr (fun t9 ht9 hW9 => ⟨⟨v25, (), rfl, trivial, by rw [ht9]; exact hP, hD⟩, hS.F ht9⟩) hS.2.2 dX8_byteOf_26
    · have c15n : 0 < v14 := kN_le c15
      have c15nb := kB_all v14
      have c15ny : kB v14 1 2147483647 := kB_lt_r kc_0 c15nb c15n (by decide)
      refine lv_sipush (v := 255) hx hb dX8_byteOf_18 (by decide) ?_
      refine lv_goto (tgt := 26) hx hb dX8_byteOf_21 (by decide) ?_
      exact W.iret (v := 255) hx hb hr (fun t9 ht9 hW9 => ⟨⟨255, (), rfl, trivial, by rw [ht9]; exact hP, hD⟩, hS.F ht9⟩) hS.2.2 dX8_byteOf_26
  · have c3n : v2 < 0 := kN_le c3
    have c3na := kB_all v2
    have c3nx : kB v2 (-2147483648) (-1) := kB_lt_l c3na kc_0 c3n (by decide)
    refine lv_iconst (v := 0) hx hb dX8_byteOf_6 (by decide) ?_
    refine lv_goto (tgt := 26) hx hb dX8_byteOf_7 (by decide) ?_
    exact W.iret (v := 0) hx hb hr (fun t9 ht9 hW9 => ⟨⟨0, (), rfl, trivial, by rw [ht9]; exact hP, hD⟩, hS.F ht9⟩) hS.2.2 dX8_byteOf_26
abbrev kw_X8_guess : List Cond := Cond.code yX8_guess cX8_guess 10 (some .int) :: kW
set_option maxHeartbeats 4000000 in
set_option maxRecDepth 100000 in
theorem lp_X8_guess_58 {p : Program} {l : Launch} {e : Env} {s : State} {m : MethodId} {args : Array Value} {below : List Frame} {meth : Method} {c : Code} {A : Nat → Prop} (D : va_G) (cI cJ cZ : ClassId) (hm hby hpb hwa hmn hcf hsa hro : Nat) (mrf : Int32) (msz : Int32) (mbg : Int32) (mrg : Int32) (mct : Int32) (mvl : Int32) (mpl : Int32) (mcl : Int32) (mrw : Int32) (mqt : Int32) (mlv : Int32) (mtl : Int32) (mbe : Int32) (mch : Int32) (mbt : Int64) (msa : Nat → Int32) (wy : Int32) (le : Int32) (to : Int32) (x : Int32) (y : Int32) (ble : kB le 0 12) (bto : kB to 0 12) (bx : kB x 0 3) (byy : kB y 0 3) (hx : p.tables.exec = Jvm.exec) (hb : c.code = cX8_guess) (hr : meth.sig.returnType = (some .int)) (hml : c.maxLocals = 10) (hown : s.vm.findClass RX8 = some m.cls) (hts : ∀ w ∈ kW, w.before args s = true) (hlocks : meth.locks = false) (hK : kK D cI cJ cZ s) (hA : ∀ q : Nat, s.heap.size ≤ q → A q) : ∀ n : Nat, ∀ (x8 : Int32) (x9 : Int32), (4 - x9.toInt).toNat < n → (kB x9 0 4) → ∀ (H : Heap) (locs : List Loc) (ls : Array Slot), va_P D vwCl [(hm, .inr (8, [.int mrf, .ref hby, .int msz, .int mbg, .long mbt, .int mrg, .int mct, .int mvl, .int mpl, .int mcl, .int mrw, .int mqt, .int mlv, .int mtl, .int mbe, .int mch, .ref hpb, .ref hwa, .ref hmn, .ref hcf, .ref hsa, .ref hro])), (hsa, .inl (cI, 256, .inl msa))] H → va_D A [(hm, .inr (8, [.int mrf, .ref hby, .int msz, .int mbg, .long mbt, .int mrg, .int mct, .int mvl, .int mpl, .int mcl, .int mrw, .int mqt, .int mlv, .int mtl, .int mbe, .int mch, .ref hpb, .ref hwa, .ref hmn, .ref hcf, .ref hsa, .ref hro])), (hsa, .inl (cI, 256, .inl msa))] → va_S A s.heap H locs → lv_has ls 10 [(0, .ref hm), (2, .int le), (3, .int to), (8, .int x8), (9, .int x9)] → W p l e (headSpec kw_X8_guess ({ frames := 1, cells := 0, slots := 0, locals := 22 })).room s m args below meth c H locs 0 0 (MQ below (va_Qi (fun (r : Int32) (u : Unit) => True) (fun (u : Unit) (t : State) => va_P D vwCl [(hm, .inr (8, [.int mrf, .ref hby, .int msz, .int mbg, .long mbt, .int mrg, .int mct, .int mvl, .int mpl, .int mcl, .int mrw, .int mqt, .int mlv, .int mtl, .int mbe, .int mch, .ref hpb, .ref hwa, .ref hmn, .ref hcf, .ref hsa, .ref hro])), (hsa, .inl (cI, 256, .inl msa))] t.heap ∧ va_D A [(hm, .inr (8, [.int mrf, .ref hby, .int msz, .int mbg, .long mbt, .int mrg, .int mct, .int mvl, .int mpl, .int mcl, .int mrw, .int mqt, .int mlv, .int mtl, .int mbe, .int mch, .ref hpb, .ref hwa, .ref hmn, .ref hcf, .ref hsa, .ref hro])), (hsa, .inl (cI, 256, .inl msa))]) A) args s 0 0 A) (F0 m 58 ls []) := by
  intro n
  induction n with
  | zero => intro x8 x9 hmeas; exact absurd hmeas (Nat.not_lt_zero _)
  | succ n ih =>
    intro x8 x9 hmeas b9 H locs ls hP hD hS hl
    refine lv_iload hx hb dX8_guess_58 (lv_at hl 4 rfl) ?_
    refine lv_iconst (v := 4) hx hb dX8_guess_60 (by decide) ?_
    refine lv_icmp_ge (tgt := 98) hx hb dX8_guess_61 (by decide) (fun c61 => ?_) (fun c61 => ?_)
    · have c61y : kB x9 4 4 := kB_le_r kc_4 b9 c61 (by decide)
      refine lv_iload hx hb dX8_guess_98 (lv_at hl 3 rfl) ?_
      refine lv_bipush (v := 8) hx hb dX8_guess_100 (by decide) ?_
      refine lv_idiv hx hb dX8_guess_102 (kB_ne0 kc_8 (Or.inl (by decide))) ?_
      refine lv_topi (fun v102 e102 => ?_)
      exact W.iret (v := v102) hx hb hr (fun t9 ht9 hW9 => ⟨⟨v102, (), rfl, trivial, by rw [ht9]; exact hP, hD⟩, hS.F ht9⟩) hS.2.2 dX8_guess_103
    · have c61n : x9 < 4 := kN_le c61
      have c61nx : kB x9 0 3 := kB_lt_l b9 kc_4 c61n (by decide)
      refine lv_iload hx hb dX8_guess_64 (lv_at hl 3 rfl) ?_
      refine lv_aload_n hx hb dX8_guess_66 rfl (lv_at hl 0 rfl) ?_
      refine lv_iload_n hx hb dX8_guess_67 rfl (lv_at hl 1 rfl) ?_
      refine lv_iload hx hb dX8_guess_68 (lv_at hl 4 rfl) ?_
      refine lv_iadd hx hb dX8_guess_70 ?_
      refine lv_topi (fun v70 e70 => ?_)
      have b70 : kB v70 0 15 := kB_eq e70 (kB_add ble c61nx (by decide))
      refine lv_iload_n hx hb dX8_guess_71 rfl (lv_at hl 2 rfl) ?_
      refine lv_iconst (v := 1) hx hb dX8_guess_72 (by decide) ?_
      refine lv_isub hx hb dX8_guess_73 ?_
      refine lv_topi (fun v73 e73 => ?_)
      have b73 : kB v73 (-1) 11 := kB_eq e73 (kB_sub bto kc_1 (by decide))
      have hPc := hP.sub (ws' := [(hm, .inr (8, [.int mrf, .ref hby, .int msz, .int mbg, .long mbt, .int mrg, .int mct, .int mvl, .int mpl, .int mcl, .int mrw, .int mqt, .int mlv, .int mtl, .int mbe, .int mch, .ref hpb, .ref hwa, .ref hmn, .ref hcf, .ref hsa, .ref hro])), (hsa, .inl (cI, 256, .inl msa))]) [0, 1] rfl
      have hDc := hD.sub (ws' := [(hm, .inr (8, [.int mrf, .ref hby, .int msz, .int mbg, .long mbt, .int mrg, .int mct, .int mvl, .int mpl, .int mcl, .int mrw, .int mqt, .int mlv, .int mtl, .int mbe, .int mch, .ref hpb, .ref hwa, .ref hmn, .ref hcf, .ref hsa, .ref hro])), (hsa, .inl (cI, 256, .inl msa))]) [0, 1] (by decide) rfl
      have hFc := va_free (wc := [(hm, .inr (8, [.int mrf, .ref hby, .int msz, .int mbg, .long mbt, .int mrg, .int mct, .int mvl, .int mpl, .int mcl, .int mrw, .int mqt, .int mlv, .int mtl, .int mbe, .int mch, .ref hpb, .ref hwa, .ref hmn, .ref hcf, .ref hsa, .ref hro])), (hsa, .inl (cI, 256, .inl msa))]) hD hS hA [0, 1] rfl
      refine va_calli (va_runV (As := [.int v70, .int v73]) (rest := [.int x8]) ⟨hx, hb, hml, hown, hts⟩ (c_X8_at l D cI cJ cZ hm hby hpb hwa hmn hcf hsa hro mrf msz mbg mrg mct mvl mpl mcl mrw mqt mlv mtl mbe mch mbt msa v70 v73 (kB_w b70 (by decide) (by decide)) (kB_w b73 (by decide) (by decide)) (H).size) (cwV 2 hts (kg_V mk_259 mk_260 mk_261 mk_189 mk_262) rfl rfl rfl (by decide +kernel) ⟨Nat.le_of_ble_eq_true rfl, Nat.le_of_ble_eq_true rfl⟩) ⟨fun a U g mk q => by obtain ⟨q0, q1, qP, qK, qD⟩ := q; exact ⟨q0, q1, qP, kK.call qK, qD⟩, va_recv hK.1 hPc (ci := 8) (q0 := 0) rfl rfl, fun U hU hW => ⟨rfl, by rw [hU], by rw [hU]; exact hPc, kK.warm hW hK, hDc.weaken (fun _ _ _ _ => trivial)⟩⟩ rfl rfl hl.1 rfl (lv_room (Nat.le_of_ble_eq_true rfl)) dX8_guess_74 ⟨Nat.zero_le _, Nat.zero_le _⟩) hS (fun q _ h => hFc q h) hFc (fun r74 u t9 H1 locs ht9 hvm9 hw9 hB9 hz9 hk9 hS => ?_)
      obtain ⟨hP1, hD1⟩ := hB9
      rw [ht9] at hP1
      have hP1 : va_P D vwCl [(hm, .inr (8, [.int mrf, .ref hby, .int msz, .int mbg, .long mbt, .int mrg, .int mct, .int mvl, .int mpl, .int mcl, .int mrw, .int mqt, .int mlv, .int mtl, .int mbe, .int mch, .ref hpb, .ref hwa, .ref hmn, .ref hcf, .ref hsa, .ref hro])), (hsa, .inl (cI, 256, .inl msa))] H1 := hP1
      obtain ⟨hP, hD⟩ := va_join (wr := []) (w1 := [(hm, .inr (8, [.int mrf, .ref hby, .int msz, .int mbg, .long mbt, .int mrg, .int mct, .int mvl, .int mpl, .int mcl, .int mrw, .int mqt, .int mlv, .int mtl, .int mbe, .int mch, .ref hpb, .ref hwa, .ref hmn, .ref hcf, .ref hsa, .ref hro])), (hsa, .inl (cI, 256, .inl msa))]) hP hD [0, 1] [] rfl rfl (by decide) (by decide) hk9 hFc hP1 hD1
      have hP := hP.sub (ws' := [(hm, .inr (8, [.int mrf, .ref hby, .int msz, .int mbg, .long mbt, .int mrg, .int mct, .int mvl, .int mpl, .int mcl, .int mrw, .int mqt, .int mlv, .int mtl, .int mbe, .int mch, .ref hpb, .ref hwa, .ref hmn, .ref hcf, .ref hsa, .ref hro])), (hsa, .inl (cI, 256, .inl msa))]) [0, 1] rfl
      have hD := hD.sub (ws' := [(hm, .inr (8, [.int mrf, .ref hby, .int msz, .int mbg, .long mbt, .int mrg, .int mct, .int mvl, .int mpl, .int mcl, .int mrw, .int mqt, .int mlv, .int mtl, .int mbe, .int mch, .ref hpb, .ref hwa, .ref hmn, .ref hcf, .ref hsa, .ref hro])), (hsa, .inl (cI, 256, .inl msa))]) [0, 1] (by decide) rfl
      generalize H1 = H at hP hS ⊢
      refine lv_iadd hx hb dX8_guess_77 ?_
      refine lv_topi (fun v77 e77 => ?_)
      refine lv_aload_n hx hb dX8_guess_78 rfl (lv_at hl 0 rfl) ?_
      refine lv_iload_n hx hb dX8_guess_79 rfl (lv_at hl 1 rfl) ?_
      refine lv_iconst (v := 1) hx hb dX8_guess_80 (by decide) ?_
      refine lv_isub hx hb dX8_guess_81 ?_
      refine lv_topi (fun v81 e81 => ?_)
      have b81 : kB v81 (-1) 11 := kB_eq e81 (kB_sub ble kc_1 (by decide))
      refine lv_iload_n hx hb dX8_guess_82 rfl (lv_at hl 2 rfl) ?_
      refine lv_iload hx hb dX8_guess_83 (lv_at hl 4 rfl) ?_
      refine lv_iadd hx hb dX8_guess_85 ?_
      refine lv_topi (fun v85 e85 => ?_)
      have b85 : kB v85 0 15 := kB_eq e85 (kB_add bto c61nx (by decide))
      have hPc := hP.sub (ws' := [(hm, .inr (8, [.int mrf, .ref hby, .int msz, .int mbg, .long mbt, .int mrg, .int mct, .int mvl, .int mpl, .int mcl, .int mrw, .int mqt, .int mlv, .int mtl, .int mbe, .int mch, .ref hpb, .ref hwa, .ref hmn, .ref hcf, .ref hsa, .ref hro])), (hsa, .inl (cI, 256, .inl msa))]) [0, 1] rfl
      have hDc := hD.sub (ws' := [(hm, .inr (8, [.int mrf, .ref hby, .int msz, .int mbg, .long mbt, .int mrg, .int mct, .int mvl, .int mpl, .int mcl, .int mrw, .int mqt, .int mlv, .int mtl, .int mbe, .int mch, .ref hpb, .ref hwa, .ref hmn, .ref hcf, .ref hsa, .ref hro])), (hsa, .inl (cI, 256, .inl msa))]) [0, 1] (by decide) rfl
      have hFc := va_free (wc := [(hm, .inr (8, [.int mrf, .ref hby, .int msz, .int mbg, .long mbt, .int mrg, .int mct, .int mvl, .int mpl, .int mcl, .int mrw, .int mqt, .int mlv, .int mtl, .int mbe, .int mch, .ref hpb, .ref hwa, .ref hmn, .ref hcf, .ref hsa, .ref hro])), (hsa, .inl (cI, 256, .inl msa))]) hD hS hA [0, 1] rfl
      refine va_calli (va_runV (As := [.int v81, .int v85]) (rest := [.int v77]) ⟨hx, hb, hml, hown, hts⟩ (c_X8_at l D cI cJ cZ hm hby hpb hwa hmn hcf hsa hro mrf msz mbg mrg mct mvl mpl mcl mrw mqt mlv mtl mbe mch mbt msa v81 v85 (kB_w b81 (by decide) (by decide)) (kB_w b85 (by decide) (by decide)) (H).size) (cwV 2 hts (kg_V mk_259 mk_260 mk_261 mk_189 mk_262) rfl rfl rfl (by decide +kernel) ⟨Nat.le_of_ble_eq_true rfl, Nat.le_of_ble_eq_true rfl⟩) ⟨fun a U g mk q => by obtain ⟨q0, q1, qP, qK, qD⟩ := q; exact ⟨q0, q1, qP, kK.call qK, qD⟩, va_recv hK.1 hPc (ci := 8) (q0 := 0) rfl rfl, fun U hU hW => ⟨rfl, by rw [hU], by rw [hU]; exact hPc, kK.warm hW hK, hDc.weaken (fun _ _ _ _ => trivial)⟩⟩ rfl rfl hl.1 rfl (lv_room (Nat.le_of_ble_eq_true rfl)) dX8_guess_86 ⟨Nat.zero_le _, Nat.zero_le _⟩) hS (fun q _ h => hFc q h) hFc (fun r86 u t9 H1 locs ht9 hvm9 hw9 hB9 hz9 hk9 hS => ?_)
      obtain ⟨hP1, hD1⟩ := hB9
      rw [ht9] at hP1
      have hP1 : va_P D vwCl [(hm, .inr (8, [.int mrf, .ref hby, .int msz, .int mbg, .long mbt, .int mrg, .int mct, .int mvl, .int mpl, .int mcl, .int mrw, .int mqt, .int mlv, .int mtl, .int mbe, .int mch, .ref hpb, .ref hwa, .ref hmn, .ref hcf, .ref hsa, .ref hro])), (hsa, .inl (cI, 256, .inl msa))] H1 := hP1
      obtain ⟨hP, hD⟩ := va_join (wr := []) (w1 := [(hm, .inr (8, [.int mrf, .ref hby, .int msz, .int mbg, .long mbt, .int mrg, .int mct, .int mvl, .int mpl, .int mcl, .int mrw, .int mqt, .int mlv, .int mtl, .int mbe, .int mch, .ref hpb, .ref hwa, .ref hmn, .ref hcf, .ref hsa, .ref hro])), (hsa, .inl (cI, 256, .inl msa))]) hP hD [0, 1] [] rfl rfl (by decide) (by decide) hk9 hFc hP1 hD1
      have hP := hP.sub (ws' := [(hm, .inr (8, [.int mrf, .ref hby, .int msz, .int mbg, .long mbt, .int mrg, .int mct, .int mvl, .int mpl, .int mcl, .int mrw, .int mqt, .int mlv, .int mtl, .int mbe, .int mch, .ref hpb, .ref hwa, .ref hmn, .ref hcf, .ref hsa, .ref hro])), (hsa, .inl (cI, 256, .inl msa))]) [0, 1] rfl
      have hD := hD.sub (ws' := [(hm, .inr (8, [.int mrf, .ref hby, .int msz, .int mbg, .long mbt, .int mrg, .int mct, .int mvl, .int mpl, .int mcl, .int mrw, .int mqt, .int mlv, .int mtl, .int mbe, .int mch, .ref hpb, .ref hwa, .ref hmn, .ref hcf, .ref hsa, .ref hro])), (hsa, .inl (cI, 256, .inl msa))]) [0, 1] (by decide) rfl
      generalize H1 = H at hP hS ⊢
      refine lv_iadd hx hb dX8_guess_89 ?_
      refine lv_topi (fun v89 e89 => ?_)
      refine lv_istore (lv' := [(8, .int v89), (0, .ref hm), (2, .int le), (3, .int to), (9, .int x9)]) hx hb dX8_guess_90 hl (by decide) rfl (fun ls hl => ?_)
      obtain ⟨v92, e92⟩ : ∃ y : Int32, y = x9 + 1 := ⟨_, rfl⟩
      refine lv_iinc (v := v92) (lv' := [(9, .int v92), (8, .int v89), (0, .ref hm), (2, .int le), (3, .int to)]) hx hb dX8_guess_92 hl (k := 4) rfl (by rw [e92]; rfl) (by decide) rfl (fun ls hl => ?_)
      have b92 : kB v92 1 4 := kB_eq e92 (kB_add c61nx kc_1 (by decide))
      have t92 : v92.toInt = x9.toInt + 1 := by rw [e92]; exact kinc (kB_w c61nx (by decide) (by decide))
      refine lv_goto (tgt := 58) hx hb dX8_guess_95 (by decide) ?_
      exact ih v89 v92 (by have := b92.1; have := b92.2; have := c61nx.1; have := c61nx.2; omega) (kB_w b92 (by decide) (by decide)) _ _ ls hP hD hS (lv_sub hl [2, 3, 4, 1, 0] rfl)
set_option maxHeartbeats 4000000 in
set_option maxRecDepth 100000 in
theorem c_X8_guess (l : Launch) (D : va_G) (cI cJ cZ : ClassId) (hm hby hpb hwa hmn hcf hsa hro : Nat) (mrf : Int32) (msz : Int32) (mbg : Int32) (mrg : Int32) (mct : Int32) (mvl : Int32) (mpl : Int32) (mcl : Int32) (mrw : Int32) (mqt : Int32) (mlv : Int32) (mtl : Int32) (mbe : Int32) (mch : Int32) (mbt : Int64) (msa : Nat → Int32) (wy : Int32) (le : Int32) (to : Int32) (x : Int32) (y : Int32) (ble : kB le 0 12) (bto : kB to 0 12) (bx : kB x 0 3) (byy : kB y 0 3) (hpz : Nat) : Met l yX8_guess kw_X8_guess ({ frames := 1, cells := 0, slots := 0, locals := 22 }) (va_Pc [.ref hm, .int wy, .int le, .int to, .int x, .int y] (fun U => U.heap.size = hpz ∧ va_P D vwCl [(hm, .inr (8, [.int mrf, .ref hby, .int msz, .int mbg, .long mbt, .int mrg, .int mct, .int mvl, .int mpl, .int mcl, .int mrw, .int mqt, .int mlv, .int mtl, .int mbe, .int mch, .ref hpb, .ref hwa, .ref hmn, .ref hcf, .ref hsa, .ref hro])), (hsa, .inl (cI, 256, .inl msa))] U.heap ∧ kK D cI cJ cZ U ∧ va_D (fun _ => True) [(hm, .inr (8, [.int mrf, .ref hby, .int msz, .int mbg, .long mbt, .int mrg, .int mct, .int mvl, .int mpl, .int mcl, .int mrw, .int mqt, .int mlv, .int mtl, .int mbe, .int mch, .ref hpb, .ref hwa, .ref hmn, .ref hcf, .ref hsa, .ref hro])), (hsa, .inl (cI, 256, .inl msa))])) (va_Qi (fun (r : Int32) (u : Unit) => True) (fun (u : Unit) (t : State) => va_P D vwCl [(hm, .inr (8, [.int mrf, .ref hby, .int msz, .int mbg, .long mbt, .int mrg, .int mct, .int mvl, .int mpl, .int mcl, .int mrw, .int mqt, .int mlv, .int mtl, .int mbe, .int mch, .ref hpb, .ref hwa, .ref hmn, .ref hcf, .ref hsa, .ref hro])), (hsa, .inl (cI, 256, .inl msa))] t.heap ∧ va_D (va_A [(hm, .inr (8, [.int mrf, .ref hby, .int msz, .int mbg, .long mbt, .int mrg, .int mct, .int mvl, .int mpl, .int mcl, .int mrw, .int mqt, .int mlv, .int mtl, .int mbe, .int mch, .ref hpb, .ref hwa, .ref hmn, .ref hcf, .ref hsa, .ref hro])), (hsa, .inl (cI, 256, .inl msa))] hpz) [(hm, .inr (8, [.int mrf, .ref hby, .int msz, .int mbg, .long mbt, .int mrg, .int mct, .int mvl, .int mpl, .int mcl, .int mrw, .int mqt, .int mlv, .int mtl, .int mbe, .int mch, .ref hpb, .ref hwa, .ref hmn, .ref hcf, .ref hsa, .ref hro])), (hsa, .inl (cI, 256, .inl msa))]) (va_A [(hm, .inr (8, [.int mrf, .ref hby, .int msz, .int mbg, .long mbt, .int mrg, .int mct, .int mvl, .int mpl, .int mcl, .int mrw, .int mqt, .int mlv, .int mtl, .int mbe, .int mch, .ref hpb, .ref hwa, .ref hmn, .ref hcf, .ref hsa, .ref hro])), (hsa, .inl (cI, 256, .inl msa))] hpz)) 0 0 (va_A [(hm, .inr (8, [.int mrf, .ref hby, .int msz, .int mbg, .long mbt, .int mrg, .int mct, .int mvl, .int mpl, .int mcl, .int mrw, .int mqt, .int mlv, .int mtl, .int mbe, .int mch, .ref hpb, .ref hwa, .ref hmn, .ref hcf, .ref hsa, .ref hro])), (hsa, .inl (cI, 256, .inl msa))] hpz) := by
  refine Met.ofW (cc := cX8_guess) (maxL := 10) (ret := (some .int)) (by decide) rfl ?_
  intro p e s m args below meth c s₁ B hml hv
  obtain ⟨rfl, hsz, hP, hK, hD0⟩ := hv
  have hx := B.exec
  have hb := B.bytes
  have hr := B.returns
  have hts := fun (w : Cond) (h : w ∈ kW) => atoms_spec (ws := kw_X8_guess) B.pre w (List.mem_cons_of_mem _ h)
  have hown : s.vm.findClass RX8 = some m.cls := findClass_of_methodNamed B.named
  have hlocks := B.notSynchronized
  subst hsz
  have hD := hD0.self (sz := s.heap.size)
  generalize hAe : va_A [(hm, .inr (8, [.int mrf, .ref hby, .int msz, .int mbg, .long mbt, .int mrg, .int mct, .int mvl, .int mpl, .int mcl, .int mrw, .int mqt, .int mlv, .int mtl, .int mbe, .int mch, .ref hpb, .ref hwa, .ref hmn, .ref hcf, .ref hsa, .ref hro])), (hsa, .inl (cI, 256, .inl msa))] s.heap.size = A at hD ⊢
  have hA : ∀ q : Nat, s.heap.size ≤ q → A q := fun q h => by rw [← hAe]; exact Or.inr h
  have hS : va_S A s.heap s.heap [] := va_S.rf
  have hP : va_P D vwCl [(hm, .inr (8, [.int mrf, .ref hby, .int msz, .int mbg, .long mbt, .int mrg, .int mct, .int mvl, .int mpl, .int mcl, .int mrw, .int mqt, .int mlv, .int mtl, .int mbe, .int mch, .ref hpb, .ref hwa, .ref hmn, .ref hcf, .ref hsa, .ref hro])), (hsa, .inl (cI, 256, .inl msa))] s.heap := hP
  have hl := lv_entry ([.ref hm, .int wy, .int le, .int to, .int x, .int y]) (n := 10) (Nat.le_of_ble_eq_true rfl)
  rw [lg_entry_eq]
  generalize (lg_sl ([.ref hm, .int wy, .int le, .int to, .int x, .int y]) ++ List.replicate (10 - (lg_sl ([.ref hm, .int wy, .int le, .int to, .int x, .int y])).length) Slot.unset).toArray = ls at hl ⊢
  have hl : lv_has ls 10 [(0, .ref hm), (1, .int wy), (2, .int le), (3, .int to), (4, .int x), (5, .int y)] := hl
  refine lv_aload_n hx hb dX8_guess_0 rfl (lv_at hl 0 rfl) ?_
  refine lv_iload_n hx hb dX8_guess_1 rfl (lv_at hl 2 rfl) ?_
  refine lv_iload hx hb dX8_guess_2 (lv_at hl 4 rfl) ?_
  refine lv_iadd hx hb dX8_guess_4 ?_
  refine lv_topi (fun v4 e4 => ?_)
  have b4 : kB v4 0 15 := kB_eq e4 (kB_add ble bx (by decide))
  refine lv_iload_n hx hb dX8_guess_5 rfl (lv_at hl 3 rfl) ?_
  refine lv_iconst (v := 1) hx hb dX8_guess_6 (by decide) ?_
  refine lv_isub hx hb dX8_guess_7 ?_
  refine lv_topi (fun v7 e7 => ?_)
  have b7 : kB v7 (-1) 11 := kB_eq e7 (kB_sub bto kc_1 (by decide))
  have hPc := hP.sub (ws' := [(hm, .inr (8, [.int mrf, .ref hby, .int msz, .int mbg, .long mbt, .int mrg, .int mct, .int mvl, .int mpl, .int mcl, .int mrw, .int mqt, .int mlv, .int mtl, .int mbe, .int mch, .ref hpb, .ref hwa, .ref hmn, .ref hcf, .ref hsa, .ref hro])), (hsa, .inl (cI, 256, .inl msa))]) [0, 1] rfl
  have hDc := hD.sub (ws' := [(hm, .inr (8, [.int mrf, .ref hby, .int msz, .int mbg, .long mbt, .int mrg, .int mct, .int mvl, .int mpl, .int mcl, .int mrw, .int mqt, .int mlv, .int mtl, .int mbe, .int mch, .ref hpb, .ref hwa, .ref hmn, .ref hcf, .ref hsa, .ref hro])), (hsa, .inl (cI, 256, .inl msa))]) [0, 1] (by decide) rfl
  have hFc := va_free (wc := [(hm, .inr (8, [.int mrf, .ref hby, .int msz, .int mbg, .long mbt, .int mrg, .int mct, .int mvl, .int mpl, .int mcl, .int mrw, .int mqt, .int mlv, .int mtl, .int mbe, .int mch, .ref hpb, .ref hwa, .ref hmn, .ref hcf, .ref hsa, .ref hro])), (hsa, .inl (cI, 256, .inl msa))]) hD hS hA [0, 1] rfl
  refine va_calli (va_runV (As := [.int v4, .int v7]) (rest := []) ⟨hx, hb, hml, hown, hts⟩ (c_X8_at l D cI cJ cZ hm hby hpb hwa hmn hcf hsa hro mrf msz mbg mrg mct mvl mpl mcl mrw mqt mlv mtl mbe mch mbt msa v4 v7 (kB_w b4 (by decide) (by decide)) (kB_w b7 (by decide) (by decide)) (s.heap).size) (cwV 2 hts (kg_V mk_259 mk_260 mk_261 mk_189 mk_262) rfl rfl rfl (by decide +kernel) ⟨Nat.le_of_ble_eq_true rfl, Nat.le_of_ble_eq_true rfl⟩) ⟨fun a U g mk q => by obtain ⟨q0, q1, qP, qK, qD⟩ := q; exact ⟨q0, q1, qP, kK.call qK, qD⟩, va_recv hK.1 hPc (ci := 8) (q0 := 0) rfl rfl, fun U hU hW => ⟨rfl, by rw [hU], by rw [hU]; exact hPc, kK.warm hW hK, hDc.weaken (fun _ _ _ _ => trivial)⟩⟩ rfl rfl hl.1 rfl (lv_room (Nat.le_of_ble_eq_true rfl)) dX8_guess_8 ⟨Nat.zero_le _, Nat.zero_le _⟩) hS (fun q _ h => hFc q h) hFc (fun r8 u t9 H1 locs ht9 hvm9 hw9 hB9 hz9 hk9 hS => ?_)
  obtain ⟨hP1, hD1⟩ := hB9
  rw [ht9] at hP1
  have hP1 : va_P D vwCl [(hm, .inr (8, [.int mrf, .ref hby, .int msz, .int mbg, .long mbt, .int mrg, .int mct, .int mvl, .int mpl, .int mcl, .int mrw, .int mqt, .int mlv, .int mtl, .int mbe, .int mch, .ref hpb, .ref hwa, .ref hmn, .ref hcf, .ref hsa, .ref hro])), (hsa, .inl (cI, 256, .inl msa))] H1 := hP1
  obtain ⟨hP, hD⟩ := va_join (wr := []) (w1 := [(hm, .inr (8, [.int mrf, .ref hby, .int msz, .int mbg, .long mbt, .int mrg, .int mct, .int mvl, .int mpl, .int mcl, .int mrw, .int mqt, .int mlv, .int mtl, .int mbe, .int mch, .ref hpb, .ref hwa, .ref hmn, .ref hcf, .ref hsa, .ref hro])), (hsa, .inl (cI, 256, .inl msa))]) hP hD [0, 1] [] rfl rfl (by decide) (by decide) hk9 hFc hP1 hD1
  have hP := hP.sub (ws' := [(hm, .inr (8, [.int mrf, .ref hby, .int msz, .int mbg, .long mbt, .int mrg, .int mct, .int mvl, .int mpl, .int mcl, .int mrw, .int mqt, .int mlv, .int mtl, .int mbe, .int mch, .ref hpb, .ref hwa, .ref hmn, .ref hcf, .ref hsa, .ref hro])), (hsa, .inl (cI, 256, .inl msa))]) [0, 1] rfl
  have hD := hD.sub (ws' := [(hm, .inr (8, [.int mrf, .ref hby, .int msz, .int mbg, .long mbt, .int mrg, .int mct, .int mvl, .int mpl, .int mcl, .int mrw, .int mqt, .int mlv, .int mtl, .int mbe, .int mch, .ref hpb, .ref hwa, .ref hmn, .ref hcf, .ref hsa, .ref hro])), (hsa, .inl (cI, 256, .inl msa))]) [0, 1] (by decide) rfl
  generalize H1 = H at hP hS ⊢
  refine lv_istore (lv' := [(6, .int r8), (0, .ref hm), (1, .int wy), (2, .int le), (3, .int to), (4, .int x), (5, .int y)]) hx hb dX8_guess_11 hl (by decide) rfl (fun ls hl => ?_)
  refine lv_aload_n hx hb dX8_guess_13 rfl (lv_at hl 1 rfl) ?_
  refine lv_iload_n hx hb dX8_guess_14 rfl (lv_at hl 3 rfl) ?_
  refine lv_iconst (v := 1) hx hb dX8_guess_15 (by decide) ?_
  refine lv_isub hx hb dX8_guess_16 ?_
  refine lv_topi (fun v16 e16 => ?_)
  have b16 : kB v16 (-1) 11 := kB_eq e16 (kB_sub ble kc_1 (by decide))
  refine lv_iload_n hx hb dX8_guess_17 rfl (lv_at hl 4 rfl) ?_
  refine lv_iload hx hb dX8_guess_18 (lv_at hl 6 rfl) ?_
  refine lv_iadd hx hb dX8_guess_20 ?_
  refine lv_topi (fun v20 e20 => ?_)
  have b20 : kB v20 0 15 := kB_eq e20 (kB_add bto byy (by decide))
  have hPc := hP.sub (ws' := [(hm, .inr (8, [.int mrf, .ref hby, .int msz, .int mbg, .long mbt, .int mrg, .int mct, .int mvl, .int mpl, .int mcl, .int mrw, .int mqt, .int mlv, .int mtl, .int mbe, .int mch, .ref hpb, .ref hwa, .ref hmn, .ref hcf, .ref hsa, .ref hro])), (hsa, .inl (cI, 256, .inl msa))]) [0, 1] rfl
  have hDc := hD.sub (ws' := [(hm, .inr (8, [.int mrf, .ref hby, .int msz, .int mbg, .long mbt, .int mrg, .int mct, .int mvl, .int mpl, .int mcl, .int mrw, .int mqt, .int mlv, .int mtl, .int mbe, .int mch, .ref hpb, .ref hwa, .ref hmn, .ref hcf, .ref hsa, .ref hro])), (hsa, .inl (cI, 256, .inl msa))]) [0, 1] (by decide) rfl
  have hFc := va_free (wc := [(hm, .inr (8, [.int mrf, .ref hby, .int msz, .int mbg, .long mbt, .int mrg, .int mct, .int mvl, .int mpl, .int mcl, .int mrw, .int mqt, .int mlv, .int mtl, .int mbe, .int mch, .ref hpb, .ref hwa, .ref hmn, .ref hcf, .ref hsa, .ref hro])), (hsa, .inl (cI, 256, .inl msa))]) hD hS hA [0, 1] rfl
  refine va_calli (va_runV (As := [.int v16, .int v20]) (rest := []) ⟨hx, hb, hml, hown, hts⟩ (c_X8_at l D cI cJ cZ hm hby hpb hwa hmn hcf hsa hro mrf msz mbg mrg mct mvl mpl mcl mrw mqt mlv mtl mbe mch mbt msa v16 v20 (kB_w b16 (by decide) (by decide)) (kB_w b20 (by decide) (by decide)) (H).size) (cwV 2 hts (kg_V mk_259 mk_260 mk_261 mk_189 mk_262) rfl rfl rfl (by decide +kernel) ⟨Nat.le_of_ble_eq_true rfl, Nat.le_of_ble_eq_true rfl⟩) ⟨fun a U g mk q => by obtain ⟨q0, q1, qP, qK, qD⟩ := q; exact ⟨q0, q1, qP, kK.call qK, qD⟩, va_recv hK.1 hPc (ci := 8) (q0 := 0) rfl rfl, fun U hU hW => ⟨rfl, by rw [hU], by rw [hU]; exact hPc, kK.warm hW hK, hDc.weaken (fun _ _ _ _ => trivial)⟩⟩ rfl rfl hl.1 rfl (lv_room (Nat.le_of_ble_eq_true rfl)) dX8_guess_21 ⟨Nat.zero_le _, Nat.zero_le _⟩) hS (fun q _ h => hFc q h) hFc (fun r21 u t9 H1 locs ht9 hvm9 hw9 hB9 hz9 hk9 hS => ?_)
  obtain ⟨hP1, hD1⟩ := hB9
  rw [ht9] at hP1
  have hP1 : va_P D vwCl [(hm, .inr (8, [.int mrf, .ref hby, .int msz, .int mbg, .long mbt, .int mrg, .int mct, .int mvl, .int mpl, .int mcl, .int mrw, .int mqt, .int mlv, .int mtl, .int mbe, .int mch, .ref hpb, .ref hwa, .ref hmn, .ref hcf, .ref hsa, .ref hro])), (hsa, .inl (cI, 256, .inl msa))] H1 := hP1
  obtain ⟨hP, hD⟩ := va_join (wr := []) (w1 := [(hm, .inr (8, [.int mrf, .ref hby, .int msz, .int mbg, .long mbt, .int mrg, .int mct, .int mvl, .int mpl, .int mcl, .int mrw, .int mqt, .int mlv, .int mtl, .int mbe, .int mch, .ref hpb, .ref hwa, .ref hmn, .ref hcf, .ref hsa, .ref hro])), (hsa, .inl (cI, 256, .inl msa))]) hP hD [0, 1] [] rfl rfl (by decide) (by decide) hk9 hFc hP1 hD1
  have hP := hP.sub (ws' := [(hm, .inr (8, [.int mrf, .ref hby, .int msz, .int mbg, .long mbt, .int mrg, .int mct, .int mvl, .int mpl, .int mcl, .int mrw, .int mqt, .int mlv, .int mtl, .int mbe, .int mch, .ref hpb, .ref hwa, .ref hmn, .ref hcf, .ref hsa, .ref hro])), (hsa, .inl (cI, 256, .inl msa))]) [0, 1] rfl
  have hD := hD.sub (ws' := [(hm, .inr (8, [.int mrf, .ref hby, .int msz, .int mbg, .long mbt, .int mrg, .int mct, .int mvl, .int mpl, .int mcl, .int mrw, .int mqt, .int mlv, .int mtl, .int mbe, .int mch, .ref hpb, .ref hwa, .ref hmn, .ref hcf, .ref hsa, .ref hro])), (hsa, .inl (cI, 256, .inl msa))]) [0, 1] (by decide) rfl
  generalize H1 = H at hP hS ⊢
  refine lv_istore (lv' := [(7, .int r21), (6, .int r8), (0, .ref hm), (1, .int wy), (2, .int le), (3, .int to), (4, .int x), (5, .int y)]) hx hb dX8_guess_24 hl (by decide) rfl (fun ls hl => ?_)
  refine lv_iload_n hx hb dX8_guess_26 rfl (lv_at hl 3 rfl) ?_
  by_cases h27 : wy.toInt < 0 ∨ 2 < wy.toInt
  · refine lv_tableOut (tgt := 110) hx hb dX8_guess_27 h27 (by decide) ?_
    refine lv_iload hx hb dX8_guess_110 (lv_at hl 0 rfl) ?_
    refine lv_iload hx hb dX8_guess_112 (lv_at hl 1 rfl) ?_
    refine lv_iadd hx hb dX8_guess_114 ?_
    refine lv_topi (fun v114 e114 => ?_)
    refine lv_aload_n hx hb dX8_guess_115 rfl (lv_at hl 2 rfl) ?_
    refine lv_iload_n hx hb dX8_guess_116 rfl (lv_at hl 4 rfl) ?_
    refine lv_iconst (v := 1) hx hb dX8_guess_117 (by decide) ?_
    refine lv_isub hx hb dX8_guess_118 ?_
    refine lv_topi (fun v118 e118 => ?_)
    have b118 : kB v118 (-1) 11 := kB_eq e118 (kB_sub ble kc_1 (by decide))
    refine lv_iload_n hx hb dX8_guess_119 rfl (lv_at hl 5 rfl) ?_
    refine lv_iconst (v := 1) hx hb dX8_guess_120 (by decide) ?_
    refine lv_isub hx hb dX8_guess_121 ?_
    refine lv_topi (fun v121 e121 => ?_)
    have b121 : kB v121 (-1) 11 := kB_eq e121 (kB_sub bto kc_1 (by decide))
    have hPc := hP.sub (ws' := [(hm, .inr (8, [.int mrf, .ref hby, .int msz, .int mbg, .long mbt, .int mrg, .int mct, .int mvl, .int mpl, .int mcl, .int mrw, .int mqt, .int mlv, .int mtl, .int mbe, .int mch, .ref hpb, .ref hwa, .ref hmn, .ref hcf, .ref hsa, .ref hro])), (hsa, .inl (cI, 256, .inl msa))]) [0, 1] rfl
    have hDc := hD.sub (ws' := [(hm, .inr (8, [.int mrf, .ref hby, .int msz, .int mbg, .long mbt, .int mrg, .int mct, .int mvl, .int mpl, .int mcl, .int mrw, .int mqt, .int mlv, .int mtl, .int mbe, .int mch, .ref hpb, .ref hwa, .ref hmn, .ref hcf, .ref hsa, .ref hro])), (hsa, .inl (cI, 256, .inl msa))]) [0, 1] (by decide) rfl
    have hFc := va_free (wc := [(hm, .inr (8, [.int mrf, .ref hby, .int msz, .int mbg, .long mbt, .int mrg, .int mct, .int mvl, .int mpl, .int mcl, .int mrw, .int mqt, .int mlv, .int mtl, .int mbe, .int mch, .ref hpb, .ref hwa, .ref hmn, .ref hcf, .ref hsa, .ref hro])), (hsa, .inl (cI, 256, .inl msa))]) hD hS hA [0, 1] rfl
    refine va_calli (va_runV (As := [.int v118, .int v121]) (rest := [.int v114]) ⟨hx, hb, hml, hown, hts⟩ (c_X8_at l D cI cJ cZ hm hby hpb hwa hmn hcf hsa hro mrf msz mbg mrg mct mvl mpl mcl mrw mqt mlv mtl mbe mch mbt msa v118 v121 (kB_w b118 (by decide) (by decide)) (kB_w b121 (by decide) (by decide)) (H).size) (cwV 2 hts (kg_V mk_259 mk_260 mk_261 mk_189 mk_262) rfl rfl rfl (by decide +kernel) ⟨Nat.le_of_ble_eq_true rfl, Nat.le_of_ble_eq_true rfl⟩) ⟨fun a U g mk q => by obtain ⟨q0, q1, qP, qK, qD⟩ := q; exact ⟨q0, q1, qP, kK.call qK, qD⟩, va_recv hK.1 hPc (ci := 8) (q0 := 0) rfl rfl, fun U hU hW => ⟨rfl, by rw [hU], by rw [hU]; exact hPc, kK.warm hW hK, hDc.weaken (fun _ _ _ _ => trivial)⟩⟩ rfl rfl hl.1 rfl (lv_room (Nat.le_of_ble_eq_true rfl)) dX8_guess_122 ⟨Nat.zero_le _, Nat.zero_le _⟩) hS (fun q _ h => hFc q h) hFc (fun r122 u t9 H1 locs ht9 hvm9 hw9 hB9 hz9 hk9 hS => ?_)
    obtain ⟨hP1, hD1⟩ := hB9
    rw [ht9] at hP1
    have hP1 : va_P D vwCl [(hm, .inr (8, [.int mrf, .ref hby, .int msz, .int mbg, .long mbt, .int mrg, .int mct, .int mvl, .int mpl, .int mcl, .int mrw, .int mqt, .int mlv, .int mtl, .int mbe, .int mch, .ref hpb, .ref hwa, .ref hmn, .ref hcf, .ref hsa, .ref hro])), (hsa, .inl (cI, 256, .inl msa))] H1 := hP1
    obtain ⟨hP, hD⟩ := va_join (wr := []) (w1 := [(hm, .inr (8, [.int mrf, .ref hby, .int msz, .int mbg, .long mbt, .int mrg, .int mct, .int mvl, .int mpl, .int mcl, .int mrw, .int mqt, .int mlv, .int mtl, .int mbe, .int mch, .ref hpb, .ref hwa, .ref hmn, .ref hcf, .ref hsa, .ref hro])), (hsa, .inl (cI, 256, .inl msa))]) hP hD [0, 1] [] rfl rfl (by decide) (by decide) hk9 hFc hP1 hD1
    have hP := hP.sub (ws' := [(hm, .inr (8, [.int mrf, .ref hby, .int msz, .int mbg, .long mbt, .int mrg, .int mct, .int mvl, .int mpl, .int mcl, .int mrw, .int mqt, .int mlv, .int mtl, .int mbe, .int mch, .ref hpb, .ref hwa, .ref hmn, .ref hcf, .ref hsa, .ref hro])), (hsa, .inl (cI, 256, .inl msa))]) [0, 1] rfl
    have hD := hD.sub (ws' := [(hm, .inr (8, [.int mrf, .ref hby, .int msz, .int mbg, .long mbt, .int mrg, .int mct, .int mvl, .int mpl, .int mcl, .int mrw, .int mqt, .int mlv, .int mtl, .int mbe, .int mch, .ref hpb, .ref hwa, .ref hmn, .ref hcf, .ref hsa, .ref hro])), (hsa, .inl (cI, 256, .inl msa))]) [0, 1] (by decide) rfl
    generalize H1 = H at hP hS ⊢
    refine lv_isub hx hb dX8_guess_125 ?_
    refine lv_topi (fun v125 e125 => ?_)
    refine lv_i2l hx hb dX8_guess_126 rfl ?_
    refine lv_topl (fun v126 e126 => ?_)
    have hPc := hP.sub (ws' := []) [] rfl
    have hDc := hD.sub (ws' := []) [] (by decide) rfl
    have hFc := va_free (wc := []) hD hS hA [] rfl
    refine va_calli (va_runS (As := [.long v126]) (rest := []) ⟨hx, hb, hml, hown, hts⟩ (c_X8_byteOf l D cI cJ cZ v126 (H).size) (cwS 1 hts (kg_S mk_263 mk_264 mk_189 mk_265) rfl rfl rfl (by decide +kernel) ⟨Nat.le_of_ble_eq_true rfl, Nat.le_of_ble_eq_true rfl⟩) ⟨fun a U g mk q => by obtain ⟨q0, q1, qP, qK, qD⟩ := q; exact ⟨q0, q1, qP, kK.call qK, qD⟩, fun U hU hW => ⟨rfl, by rw [hU], by rw [hU]; exact hPc, kK.warm hW hK, hDc.weaken (fun _ _ _ _ => trivial)⟩⟩ rfl rfl hl.1 rfl (lv_room (Nat.le_of_ble_eq_true rfl)) dX8_guess_127 ⟨Nat.zero_le _, Nat.zero_le _⟩) hS (fun q _ h => hFc q h) hFc (fun r127 u t9 H1 locs ht9 hvm9 hw9 hB9 hz9 hk9 hS => ?_)
    obtain ⟨hP1, hD1⟩ := hB9
    rw [ht9] at hP1
    have hP1 : va_P D vwCl [] H1 := hP1
    obtain ⟨hP, hD⟩ := va_join (wr := [(hm, .inr (8, [.int mrf, .ref hby, .int msz, .int mbg, .long mbt, .int mrg, .int mct, .int mvl, .int mpl, .int mcl, .int mrw, .int mqt, .int mlv, .int mtl, .int mbe, .int mch, .ref hpb, .ref hwa, .ref hmn, .ref hcf, .ref hsa, .ref hro])), (hsa, .inl (cI, 256, .inl msa))]) (w1 := []) hP hD [] [0, 1] rfl rfl (by decide) (by decide) hk9 hFc hP1 hD1
    have hP := hP.sub (ws' := [(hm, .inr (8, [.int mrf, .ref hby, .int msz, .int mbg, .long mbt, .int mrg, .int mct, .int mvl, .int mpl, .int mcl, .int mrw, .int mqt, .int mlv, .int mtl, .int mbe, .int mch, .ref hpb, .ref hwa, .ref hmn, .ref hcf, .ref hsa, .ref hro])), (hsa, .inl (cI, 256, .inl msa))]) [0, 1] rfl
    have hD := hD.sub (ws' := [(hm, .inr (8, [.int mrf, .ref hby, .int msz, .int mbg, .long mbt, .int mrg, .int mct, .int mvl, .int mpl, .int mcl, .int mrw, .int mqt, .int mlv, .int mtl, .int mbe, .int mch, .ref hpb, .ref hwa, .ref hmn, .ref hcf, .ref hsa, .ref hro])), (hsa, .inl (cI, 256, .inl msa))]) [0, 1] (by decide) rfl
    generalize H1 = H at hP hS ⊢
    exact W.iret (v := r127) hx hb hr (fun t9 ht9 hW9 => ⟨⟨r127, (), rfl, trivial, by rw [ht9]; exact hP, hD⟩, hS.F ht9⟩) hS.2.2 dX8_guess_130
  · have g27 : wy.toInt = 0 ∨ wy.toInt = 1 ∨ wy.toInt = 2 := by omega
    rcases g27 with k27 | k27 | k27
    · have x27 : kB wy 0 0 := ⟨Int.le_of_eq k27.symm, Int.le_of_eq k27⟩
      refine lv_tableIn (tgt := 52) (off := 25) hx hb dX8_guess_27 (by omega) (by omega) (by rw [k27]; rfl) (by decide) ?_
      refine lv_iconst (v := 4) hx hb dX8_guess_52 (by decide) ?_
      refine lv_istore (lv' := [(8, .int 4), (7, .int r21), (6, .int r8), (0, .ref hm), (1, .int wy), (2, .int le), (3, .int to), (4, .int x), (5, .int y)]) hx hb dX8_guess_53 hl (by decide) rfl (fun ls hl => ?_)
      refine lv_iconst (v := 0) hx hb dX8_guess_55 (by decide) ?_
      refine lv_istore (lv' := [(9, .int 0), (8, .int 4), (7, .int r21), (6, .int r8), (0, .ref hm), (1, .int wy), (2, .int le), (3, .int to), (4, .int x), (5, .int y)]) hx hb dX8_guess_56 hl (by decide) rfl (fun ls hl => ?_)
      exact lp_X8_guess_58 D cI cJ cZ hm hby hpb hwa hmn hcf hsa hro mrf msz mbg mrg mct mvl mpl mcl mrw mqt mlv mtl mbe mch mbt msa wy le to x y ble bto bx byy hx hb hr hml hown hts hlocks hK hA ((4 - (0 : Int32).toInt).toNat + 1) 4 0 (Nat.lt_succ_self _) (kB_w kc_0 (by decide) (by decide)) _ _ ls hP hD hS (lv_sub hl [4, 6, 7, 1, 0] rfl)
    · have x27 : kB wy 1 1 := ⟨Int.le_of_eq k27.symm, Int.le_of_eq k27⟩
      refine lv_tableIn (tgt := 104) (off := 77) hx hb dX8_guess_27 (by omega) (by omega) (by rw [k27]; rfl) (by decide) ?_
      refine lv_iload hx hb dX8_guess_104 (lv_at hl 1 rfl) ?_
      exact W.iret (v := r8) hx hb hr (fun t9 ht9 hW9 => ⟨⟨r8, (), rfl, trivial, by rw [ht9]; exact hP, hD⟩, hS.F ht9⟩) hS.2.2 dX8_guess_106
    · have x27 : kB wy 2 2 := ⟨Int.le_of_eq k27.symm, Int.le_of_eq k27⟩
      refine lv_tableIn (tgt := 107) (off := 80) hx hb dX8_guess_27 (by omega) (by omega) (by rw [k27]; rfl) (by decide) ?_
      refine lv_iload hx hb dX8_guess_107 (lv_at hl 0 rfl) ?_
      exact W.iret (v := r21) hx hb hr (fun t9 ht9 hW9 => ⟨⟨r21, (), rfl, trivial, by rw [ht9]; exact hP, hD⟩, hS.F ht9⟩) hS.2.2 dX8_guess_109
abbrev kw_X8_build : List Cond := Cond.code yX8_build cX8_build 6 none :: kW
set_option maxHeartbeats 4000000 in
set_option maxRecDepth 100000 in
theorem lp_X8_build_35 {p : Program} {l : Launch} {e : Env} {s : State} {m : MethodId} {args : Array Value} {below : List Frame} {meth : Method} {c : Code} {A : Nat → Prop} (D : va_G) (cI cJ cZ : ClassId) (hm hby hpb hwa hmn hcf hsa hro : Nat) (mrf : Int32) (msz : Int32) (mbg : Int32) (mrg : Int32) (mct : Int32) (mvl : Int32) (mpl : Int32) (mcl : Int32) (mrw : Int32) (mqt : Int32) (mlv : Int32) (mtl : Int32) (mbe : Int32) (mch : Int32) (mbt : Int64) (mwa : Nat → Int32) (mcf : Nat → Int32) (msa : Nat → Int32) (mro : Nat → Int64) (k : Int32) (bk : kB k 0 15) (bcl : kB mcl 1 4) (brw : kB mrw 1 4) (hbl : k.toInt < mcl.toInt * mrw.toInt) (hx : p.tables.exec = Jvm.exec) (hb : c.code = cX8_build) (hr : meth.sig.returnType = none) (hml : c.maxLocals = 6) (hown : s.vm.findClass RX8 = some m.cls) (hts : ∀ w ∈ kW, w.before args s = true) (hlocks : meth.locks = false) (hK : kK D cI cJ cZ s) (hA : ∀ q : Nat, s.heap.size ≤ q → A q) (n_26 : Nat) (ih_26 : ∀ (x2 : Int32) (x3 : Int32) (x4 : Int32) (msa2 : Nat → Int32) (mro2 : Nat → Int64), (4 - x4.toInt).toNat < n_26 → (kB x2 0 12) → (kB x3 0 12) → (kB x4 0 4) → ∀ (H : Heap) (locs : List Loc) (ls : Array Slot), va_P D vwCl [(hm, .inr (8, [.int mrf, .ref hby, .int msz, .int mbg, .long mbt, .int mrg, .int mct, .int mvl, .int mpl, .int mcl, .int mrw, .int mqt, .int mlv, .int mtl, .int mbe, .int mch, .ref hpb, .ref hwa, .ref hmn, .ref hcf, .ref hsa, .ref hro])), (hwa, .inl (cI, 16, .inl mwa)), (hcf, .inl (cI, 256, .inl mcf)), (hsa, .inl (cI, 256, .inl msa2)), (hro, .inl (cJ, 16, .inr (.inl mro2)))] H → va_D A [(hm, .inr (8, [.int mrf, .ref hby, .int msz, .int mbg, .long mbt, .int mrg, .int mct, .int mvl, .int mpl, .int mcl, .int mrw, .int mqt, .int mlv, .int mtl, .int mbe, .int mch, .ref hpb, .ref hwa, .ref hmn, .ref hcf, .ref hsa, .ref hro])), (hwa, .inl (cI, 16, .inl mwa)), (hcf, .inl (cI, 256, .inl mcf)), (hsa, .inl (cI, 256, .inl msa2)), (hro, .inl (cJ, 16, .inr (.inl mro2)))] → va_S A s.heap H locs → lv_has ls 6 [(0, .ref hm), (1, .int k), (2, .int x2), (3, .int x3), (4, .int x4)] → W p l e (headSpec kw_X8_build ({ frames := 3, cells := 0, slots := 0, locals := 83 })).room s m args below meth c H locs 0 0 (MQ below (va_Qv (fun (u : (Nat → Int32) × (Nat → Int64)) => True) (fun (u : (Nat → Int32) × (Nat → Int64)) (t : State) => va_P D vwCl [(hm, .inr (8, [.int mrf, .ref hby, .int msz, .int mbg, .long mbt, .int mrg, .int mct, .int mvl, .int mpl, .int mcl, .int mrw, .int mqt, .int mlv, .int mtl, .int mbe, .int mch, .ref hpb, .ref hwa, .ref hmn, .ref hcf, .ref hsa, .ref hro])), (hwa, .inl (cI, 16, .inl mwa)), (hcf, .inl (cI, 256, .inl mcf)), (hsa, .inl (cI, 256, .inl u.1)), (hro, .inl (cJ, 16, .inr (.inl u.2)))] t.heap ∧ va_D A [(hm, .inr (8, [.int mrf, .ref hby, .int msz, .int mbg, .long mbt, .int mrg, .int mct, .int mvl, .int mpl, .int mcl, .int mrw, .int mqt, .int mlv, .int mtl, .int mbe, .int mch, .ref hpb, .ref hwa, .ref hmn, .ref hcf, .ref hsa, .ref hro])), (hwa, .inl (cI, 16, .inl mwa)), (hcf, .inl (cI, 256, .inl mcf)), (hsa, .inl (cI, 256, .inl u.1)), (hro, .inl (cJ, 16, .inr (.inl u.2)))]) A) args s 0 0 A) (F0 m 26 ls [])) : ∀ n : Nat, ∀ (x2 : Int32) (x3 : Int32) (x4 : Int32) (x5 : Int32) (msa2 : Nat → Int32) (mro2 : Nat → Int64), (4 - x5.toInt).toNat < n → (kB x2 0 12) → (kB x3 0 12) → (kB x4 0 3) → (kB x5 0 4) → ((4 - x4.toInt).toNat < n_26 + 1) → ∀ (H : Heap) (locs : List Loc) (ls : Array Slot), va_P D vwCl [(hm, .inr (8, [.int mrf, .ref hby, .int msz, .int mbg, .long mbt, .int mrg, .int mct, .int mvl, .int mpl, .int mcl, .int mrw, .int mqt, .int mlv, .int mtl, .int mbe, .int mch, .ref hpb, .ref hwa, .ref hmn, .ref hcf, .ref hsa, .ref hro])), (hwa, .inl (cI, 16, .inl mwa)), (hcf, .inl (cI, 256, .inl mcf)), (hsa, .inl (cI, 256, .inl msa2)), (hro, .inl (cJ, 16, .inr (.inl mro2)))] H → va_D A [(hm, .inr (8, [.int mrf, .ref hby, .int msz, .int mbg, .long mbt, .int mrg, .int mct, .int mvl, .int mpl, .int mcl, .int mrw, .int mqt, .int mlv, .int mtl, .int mbe, .int mch, .ref hpb, .ref hwa, .ref hmn, .ref hcf, .ref hsa, .ref hro])), (hwa, .inl (cI, 16, .inl mwa)), (hcf, .inl (cI, 256, .inl mcf)), (hsa, .inl (cI, 256, .inl msa2)), (hro, .inl (cJ, 16, .inr (.inl mro2)))] → va_S A s.heap H locs → lv_has ls 6 [(0, .ref hm), (1, .int k), (2, .int x2), (3, .int x3), (4, .int x4), (5, .int x5)] → W p l e (headSpec kw_X8_build ({ frames := 3, cells := 0, slots := 0, locals := 83 })).room s m args below meth c H locs 0 0 (MQ below (va_Qv (fun (u : (Nat → Int32) × (Nat → Int64)) => True) (fun (u : (Nat → Int32) × (Nat → Int64)) (t : State) => va_P D vwCl [(hm, .inr (8, [.int mrf, .ref hby, .int msz, .int mbg, .long mbt, .int mrg, .int mct, .int mvl, .int mpl, .int mcl, .int mrw, .int mqt, .int mlv, .int mtl, .int mbe, .int mch, .ref hpb, .ref hwa, .ref hmn, .ref hcf, .ref hsa, .ref hro])), (hwa, .inl (cI, 16, .inl mwa)), (hcf, .inl (cI, 256, .inl mcf)), (hsa, .inl (cI, 256, .inl u.1)), (hro, .inl (cJ, 16, .inr (.inl u.2)))] t.heap ∧ va_D A [(hm, .inr (8, [.int mrf, .ref hby, .int msz, .int mbg, .long mbt, .int mrg, .int mct, .int mvl, .int mpl, .int mcl, .int mrw, .int mqt, .int mlv, .int mtl, .int mbe, .int mch, .ref hpb, .ref hwa, .ref hmn, .ref hcf, .ref hsa, .ref hro])), (hwa, .inl (cI, 16, .inl mwa)), (hcf, .inl (cI, 256, .inl mcf)), (hsa, .inl (cI, 256, .inl u.1)), (hro, .inl (cJ, 16, .inr (.inl u.2)))]) A) args s 0 0 A) (F0 m 35 ls []) := by
  intro n
  induction n with
  | zero => intro x2 x3 x4 x5 msa2 mro2 hmeas; exact absurd hmeas (Nat.not_lt_zero _)
  | succ n ih =>
    intro x2 x3 x4 x5 msa2 mro2 hmeas b2 b3 b4 b5 hm26 H locs ls hP hD hS hl
    refine lv_iload hx hb dX8_build_35 (lv_at hl 5 rfl) ?_
    refine lv_iconst (v := 4) hx hb dX8_build_37 (by decide) ?_
    refine lv_icmp_ge (tgt := 97) hx hb dX8_build_38 (by decide) (fun c38 => ?_) (fun c38 => ?_)
    · have c38y : kB x5 4 4 := kB_le_r kc_4 b5 c38 (by decide)
      obtain ⟨v97, e97⟩ : ∃ y : Int32, y = x4 + 1 := ⟨_, rfl⟩
      refine lv_iinc (v := v97) (lv' := [(4, .int v97), (0, .ref hm), (1, .int k), (2, .int x2), (3, .int x3), (5, .int x5)]) hx hb dX8_build_97 hl (k := 4) rfl (by rw [e97]; rfl) (by decide) rfl (fun ls hl => ?_)
      have b97 : kB v97 1 4 := kB_eq e97 (kB_add b4 kc_1 (by decide))
      have t97 : v97.toInt = x4.toInt + 1 := by rw [e97]; exact kinc (kB_w b4 (by decide) (by decide))
      refine lv_goto (tgt := 26) hx hb dX8_build_100 (by decide) ?_
      exact ih_26 x2 x3 v97 msa2 mro2 (by have := b2.1; have := b2.2; have := b3.1; have := b3.2; have := b97.1; have := b97.2; have := b4.1; have := b4.2; omega) b2 b3 (kB_w b97 (by decide) (by decide)) _ _ ls hP hD hS (lv_sub hl [1, 2, 3, 4, 0] rfl)
    · have c38n : x5 < 4 := kN_le c38
      have c38nx : kB x5 0 3 := kB_lt_l b5 kc_4 c38n (by decide)
      refine lv_aload_n hx hb dX8_build_41 rfl (lv_at hl 0 rfl) ?_
      refine va_get (D := D) (ci := 8) (v := .ref hsa) (C := RX8) (T := TX8) (N := 22) hx hb hts in_X8 hown hK.1 hP 0 rfl rfl 20 (by decide) (hts _ mk_258) (fun _ h9 => h9) rfl dX8_build_42 ?_
      refine lv_bipush (v := 16) hx hb dX8_build_45 (by decide) ?_
      refine lv_iload_n hx hb dX8_build_47 rfl (lv_at hl 3 rfl) ?_
      refine lv_iload hx hb dX8_build_48 (lv_at hl 4 rfl) ?_
      refine lv_iadd hx hb dX8_build_50 ?_
      refine lv_topi (fun v50 e50 => ?_)
      have b50 : kB v50 0 15 := kB_eq e50 (kB_add b3 b4 (by decide))
      refine lv_imul hx hb dX8_build_51 ?_
      refine lv_topi (fun v51 e51 => ?_)
      have b51 : kB v51 0 240 := kB_eq e51 (kB_cmul kc_16 b50 (by decide))
      refine lv_iload_n hx hb dX8_build_52 rfl (lv_at hl 2 rfl) ?_
      refine lv_iadd hx hb dX8_build_53 ?_
      refine lv_topi (fun v53 e53 => ?_)
      have b53 : kB v53 0 252 := kB_eq e53 (kB_add b51 b2 (by decide))
      refine lv_iload hx hb dX8_build_54 (lv_at hl 5 rfl) ?_
      refine lv_iadd hx hb dX8_build_56 ?_
      refine lv_topi (fun v56 e56 => ?_)
      have b56 : kB v56 0 255 := kB_eq e56 (kB_add b53 c38nx (by decide))
      refine lv_aload_n hx hb dX8_build_57 rfl (lv_at hl 0 rfl) ?_
      refine lv_aload_n hx hb dX8_build_58 rfl (lv_at hl 0 rfl) ?_
      refine va_get (D := D) (ci := 8) (v := .ref hwa) (C := RX8) (T := TX8) (N := 22) hx hb hts in_X8 hown hK.1 hP 0 rfl rfl 17 (by decide) (hts _ mk_270) (fun _ h9 => h9) rfl dX8_build_59 ?_
      refine lv_iload_n hx hb dX8_build_62 rfl (lv_at hl 1 rfl) ?_
      refine va_iald hx hb hK.1 hP 1 0 rfl rfl (kB_in bk (by decide)) dX8_build_63 ?_
      refine lv_topi (fun v63 e63 => ?_)
      refine lv_iload_n hx hb dX8_build_64 rfl (lv_at hl 2 rfl) ?_
      refine lv_iload_n hx hb dX8_build_65 rfl (lv_at hl 3 rfl) ?_
      refine lv_iload hx hb dX8_build_66 (lv_at hl 5 rfl) ?_
      refine lv_iload hx hb dX8_build_68 (lv_at hl 4 rfl) ?_
      have hPc := hP.sub (ws' := [(hm, .inr (8, [.int mrf, .ref hby, .int msz, .int mbg, .long mbt, .int mrg, .int mct, .int mvl, .int mpl, .int mcl, .int mrw, .int mqt, .int mlv, .int mtl, .int mbe, .int mch, .ref hpb, .ref hwa, .ref hmn, .ref hcf, .ref hsa, .ref hro])), (hsa, .inl (cI, 256, .inl msa2))]) [0, 3] rfl
      have hDc := hD.sub (ws' := [(hm, .inr (8, [.int mrf, .ref hby, .int msz, .int mbg, .long mbt, .int mrg, .int mct, .int mvl, .int mpl, .int mcl, .int mrw, .int mqt, .int mlv, .int mtl, .int mbe, .int mch, .ref hpb, .ref hwa, .ref hmn, .ref hcf, .ref hsa, .ref hro])), (hsa, .inl (cI, 256, .inl msa2))]) [0, 3] (by decide) rfl
      have hFc := va_free (wc := [(hm, .inr (8, [.int mrf, .ref hby, .int msz, .int mbg, .long mbt, .int mrg, .int mct, .int mvl, .int mpl, .int mcl, .int mrw, .int mqt, .int mlv, .int mtl, .int mbe, .int mch, .ref hpb, .ref hwa, .ref hmn, .ref hcf, .ref hsa, .ref hro])), (hsa, .inl (cI, 256, .inl msa2))]) hD hS hA [0, 3] rfl
      refine va_calli (va_runV (As := [.int v63, .int x2, .int x3, .int x5, .int x4]) (rest := [.int v56, .ref hsa]) ⟨hx, hb, hml, hown, hts⟩ (c_X8_guess l D cI cJ cZ hm hby hpb hwa hmn hcf hsa hro mrf msz mbg mrg mct mvl mpl mcl mrw mqt mlv mtl mbe mch mbt msa2 v63 x2 x3 x5 x4 b2 b3 c38nx b4 (H).size) (cwV 5 hts (kg_V mk_271 mk_272 mk_273 mk_189 mk_274) rfl rfl rfl (by decide +kernel) ⟨Nat.le_of_ble_eq_true rfl, Nat.le_of_ble_eq_true rfl⟩) ⟨fun a U g mk q => by obtain ⟨q0, q1, qP, qK, qD⟩ := q; exact ⟨q0, q1, qP, kK.call qK, qD⟩, va_recv hK.1 hPc (ci := 8) (q0 := 0) rfl rfl, fun U hU hW => ⟨rfl, by rw [hU], by rw [hU]; exact hPc, kK.warm hW hK, hDc.weaken (fun _ _ _ _ => trivial)⟩⟩ rfl rfl hl.1 rfl (lv_room (Nat.le_of_ble_eq_true rfl)) dX8_build_70 ⟨Nat.zero_le _, Nat.zero_le _⟩) hS (fun q _ h => hFc q h) hFc (fun r70 u t9 H1 locs ht9 hvm9 hw9 hB9 hz9 hk9 hS => ?_)
      obtain ⟨hP1, hD1⟩ := hB9
      rw [ht9] at hP1
      have hP1 : va_P D vwCl [(hm, .inr (8, [.int mrf, .ref hby, .int msz, .int mbg, .long mbt, .int mrg, .int mct, .int mvl, .int mpl, .int mcl, .int mrw, .int mqt, .int mlv, .int mtl, .int mbe, .int mch, .ref hpb, .ref hwa, .ref hmn, .ref hcf, .ref hsa, .ref hro])), (hsa, .inl (cI, 256, .inl msa2))] H1 := hP1
      obtain ⟨hP, hD⟩ := va_join (wr := [(hwa, .inl (cI, 16, .inl mwa)), (hcf, .inl (cI, 256, .inl mcf)), (hro, .inl (cJ, 16, .inr (.inl mro2)))]) (w1 := [(hm, .inr (8, [.int mrf, .ref hby, .int msz, .int mbg, .long mbt, .int mrg, .int mct, .int mvl, .int mpl, .int mcl, .int mrw, .int mqt, .int mlv, .int mtl, .int mbe, .int mch, .ref hpb, .ref hwa, .ref hmn, .ref hcf, .ref hsa, .ref hro])), (hsa, .inl (cI, 256, .inl msa2))]) hP hD [0, 3] [1, 2, 4] rfl rfl (by decide) (by decide) hk9 hFc hP1 hD1
      have hP := hP.sub (ws' := [(hm, .inr (8, [.int mrf, .ref hby, .int msz, .int mbg, .long mbt, .int mrg, .int mct, .int mvl, .int mpl, .int mcl, .int mrw, .int mqt, .int mlv, .int mtl, .int mbe, .int mch, .ref hpb, .ref hwa, .ref hmn, .ref hcf, .ref hsa, .ref hro])), (hwa, .inl (cI, 16, .inl mwa)), (hcf, .inl (cI, 256, .inl mcf)), (hsa, .inl (cI, 256, .inl msa2)), (hro, .inl (cJ, 16, .inr (.inl mro2)))]) [3, 0, 1, 4, 2] rfl
      have hD := hD.sub (ws' := [(hm, .inr (8, [.int mrf, .ref hby, .int msz, .int mbg, .long mbt, .int mrg, .int mct, .int mvl, .int mpl, .int mcl, .int mrw, .int mqt, .int mlv, .int mtl, .int mbe, .int mch, .ref hpb, .ref hwa, .ref hmn, .ref hcf, .ref hsa, .ref hro])), (hwa, .inl (cI, 16, .inl mwa)), (hcf, .inl (cI, 256, .inl mcf)), (hsa, .inl (cI, 256, .inl msa2)), (hro, .inl (cJ, 16, .inr (.inl mro2)))]) [3, 0, 1, 4, 2] (by decide) rfl
      generalize H1 = H at hP hS ⊢
      refine lv_i2l hx hb dX8_build_73 rfl ?_
      refine lv_topl (fun v73 e73 => ?_)
      refine lv_aload_n hx hb dX8_build_74 rfl (lv_at hl 0 rfl) ?_
      refine va_get (D := D) (ci := 8) (v := .ref hro) (C := RX8) (T := TX8) (N := 22) hx hb hts in_X8 hown hK.1 hP 0 rfl rfl 21 (by decide) (hts _ mk_242) (fun _ h9 => h9) rfl dX8_build_75 ?_
      refine lv_iconst (v := 4) hx hb dX8_build_78 (by decide) ?_
      refine lv_iload hx hb dX8_build_79 (lv_at hl 4 rfl) ?_
      refine lv_imul hx hb dX8_build_81 ?_
      refine lv_topi (fun v81 e81 => ?_)
      have b81 : kB v81 0 12 := kB_eq e81 (kB_cmul kc_4 b4 (by decide))
      refine lv_iload hx hb dX8_build_82 (lv_at hl 5 rfl) ?_
      refine lv_iadd hx hb dX8_build_84 ?_
      refine lv_topi (fun v84 e84 => ?_)
      have b84 : kB v84 0 15 := kB_eq e84 (kB_add b81 c38nx (by decide))
      refine va_lald hx hb hK.1 hP 4 1 rfl rfl (kB_in b84 (by decide)) dX8_build_85 ?_
      refine lv_topl (fun v85 e85 => ?_)
      refine lv_ladd hx hb dX8_build_86 ?_
      refine lv_topl (fun v86 e86 => ?_)
      have hPc := hP.sub (ws' := []) [] rfl
      have hDc := hD.sub (ws' := []) [] (by decide) rfl
      have hFc := va_free (wc := []) hD hS hA [] rfl
      refine va_calli (va_runS (As := [.long v86]) (rest := [.int v56, .ref hsa]) ⟨hx, hb, hml, hown, hts⟩ (c_X8_byteOf l D cI cJ cZ v86 (H).size) (cwS 1 hts (kg_S mk_263 mk_264 mk_189 mk_265) rfl rfl rfl (by decide +kernel) ⟨Nat.le_of_ble_eq_true rfl, Nat.le_of_ble_eq_true rfl⟩) ⟨fun a U g mk q => by obtain ⟨q0, q1, qP, qK, qD⟩ := q; exact ⟨q0, q1, qP, kK.call qK, qD⟩, fun U hU hW => ⟨rfl, by rw [hU], by rw [hU]; exact hPc, kK.warm hW hK, hDc.weaken (fun _ _ _ _ => trivial)⟩⟩ rfl rfl hl.1 rfl (lv_room (Nat.le_of_ble_eq_true rfl)) dX8_build_87 ⟨Nat.zero_le _, Nat.zero_le _⟩) hS (fun q _ h => hFc q h) hFc (fun r87 u t9 H1 locs ht9 hvm9 hw9 hB9 hz9 hk9 hS => ?_)
      obtain ⟨hP1, hD1⟩ := hB9
      rw [ht9] at hP1
      have hP1 : va_P D vwCl [] H1 := hP1
      obtain ⟨hP, hD⟩ := va_join (wr := [(hm, .inr (8, [.int mrf, .ref hby, .int msz, .int mbg, .long mbt, .int mrg, .int mct, .int mvl, .int mpl, .int mcl, .int mrw, .int mqt, .int mlv, .int mtl, .int mbe, .int mch, .ref hpb, .ref hwa, .ref hmn, .ref hcf, .ref hsa, .ref hro])), (hwa, .inl (cI, 16, .inl mwa)), (hcf, .inl (cI, 256, .inl mcf)), (hsa, .inl (cI, 256, .inl msa2)), (hro, .inl (cJ, 16, .inr (.inl mro2)))]) (w1 := []) hP hD [] [0, 1, 2, 3, 4] rfl rfl (by decide) (by decide) hk9 hFc hP1 hD1
      have hP := hP.sub (ws' := [(hm, .inr (8, [.int mrf, .ref hby, .int msz, .int mbg, .long mbt, .int mrg, .int mct, .int mvl, .int mpl, .int mcl, .int mrw, .int mqt, .int mlv, .int mtl, .int mbe, .int mch, .ref hpb, .ref hwa, .ref hmn, .ref hcf, .ref hsa, .ref hro])), (hwa, .inl (cI, 16, .inl mwa)), (hcf, .inl (cI, 256, .inl mcf)), (hsa, .inl (cI, 256, .inl msa2)), (hro, .inl (cJ, 16, .inr (.inl mro2)))]) [0, 1, 2, 3, 4] rfl
      have hD := hD.sub (ws' := [(hm, .inr (8, [.int mrf, .ref hby, .int msz, .int mbg, .long mbt, .int mrg, .int mct, .int mvl, .int mpl, .int mcl, .int mrw, .int mqt, .int mlv, .int mtl, .int mbe, .int mch, .ref hpb, .ref hwa, .ref hmn, .ref hcf, .ref hsa, .ref hro])), (hwa, .inl (cI, 16, .inl mwa)), (hcf, .inl (cI, 256, .inl mcf)), (hsa, .inl (cI, 256, .inl msa2)), (hro, .inl (cJ, 16, .inr (.inl mro2)))]) [0, 1, 2, 3, 4] (by decide) rfl
      generalize H1 = H at hP hS ⊢
      refine va_iast hx hb hK.1 hP hD hS 3 0 rfl rfl (kB_in b56 (by decide)) dX8_build_90 (fun H locs hP hD hS => ?_)
      have hP : va_P D vwCl [(hm, .inr (8, [.int mrf, .ref hby, .int msz, .int mbg, .long mbt, .int mrg, .int mct, .int mvl, .int mpl, .int mcl, .int mrw, .int mqt, .int mlv, .int mtl, .int mbe, .int mch, .ref hpb, .ref hwa, .ref hmn, .ref hcf, .ref hsa, .ref hro])), (hwa, .inl (cI, 16, .inl mwa)), (hcf, .inl (cI, 256, .inl mcf)), (hsa, .inl (cI, 256, .inl (upd msa2 v56.toNatClampNeg r87))), (hro, .inl (cJ, 16, .inr (.inl mro2)))] H := hP
      have hD : va_D A [(hm, .inr (8, [.int mrf, .ref hby, .int msz, .int mbg, .long mbt, .int mrg, .int mct, .int mvl, .int mpl, .int mcl, .int mrw, .int mqt, .int mlv, .int mtl, .int mbe, .int mch, .ref hpb, .ref hwa, .ref hmn, .ref hcf, .ref hsa, .ref hro])), (hwa, .inl (cI, 16, .inl mwa)), (hcf, .inl (cI, 256, .inl mcf)), (hsa, .inl (cI, 256, .inl (upd msa2 v56.toNatClampNeg r87))), (hro, .inl (cJ, 16, .inr (.inl mro2)))] := hD
      generalize hf90 : upd msa2 v56.toNatClampNeg r87 = f90 at hP hD
      obtain ⟨v91, e91⟩ : ∃ y : Int32, y = x5 + 1 := ⟨_, rfl⟩
      refine lv_iinc (v := v91) (lv' := [(5, .int v91), (0, .ref hm), (1, .int k), (2, .int x2), (3, .int x3), (4, .int x4)]) hx hb dX8_build_91 hl (k := 5) rfl (by rw [e91]; rfl) (by decide) rfl (fun ls hl => ?_)
      have b91 : kB v91 1 4 := kB_eq e91 (kB_add c38nx kc_1 (by decide))
      have t91 : v91.toInt = x5.toInt + 1 := by rw [e91]; exact kinc (kB_w c38nx (by decide) (by decide))
      refine lv_goto (tgt := 35) hx hb dX8_build_94 (by decide) ?_
      exact ih x2 x3 x4 v91 f90 mro2 (by have := b2.1; have := b2.2; have := b3.1; have := b3.2; have := b4.1; have := b4.2; have := b91.1; have := b91.2; have := c38nx.1; have := c38nx.2; omega) b2 b3 b4 (kB_w b91 (by decide) (by decide)) hm26 _ _ ls hP hD hS (lv_sub hl [1, 2, 3, 4, 5, 0] rfl)
set_option maxHeartbeats 4000000 in
set_option maxRecDepth 100000 in
theorem lp_X8_build_26 {p : Program} {l : Launch} {e : Env} {s : State} {m : MethodId} {args : Array Value} {below : List Frame} {meth : Method} {c : Code} {A : Nat → Prop} (D : va_G) (cI cJ cZ : ClassId) (hm hby hpb hwa hmn hcf hsa hro : Nat) (mrf : Int32) (msz : Int32) (mbg : Int32) (mrg : Int32) (mct : Int32) (mvl : Int32) (mpl : Int32) (mcl : Int32) (mrw : Int32) (mqt : Int32) (mlv : Int32) (mtl : Int32) (mbe : Int32) (mch : Int32) (mbt : Int64) (mwa : Nat → Int32) (mcf : Nat → Int32) (msa : Nat → Int32) (mro : Nat → Int64) (k : Int32) (bk : kB k 0 15) (bcl : kB mcl 1 4) (brw : kB mrw 1 4) (hbl : k.toInt < mcl.toInt * mrw.toInt) (hx : p.tables.exec = Jvm.exec) (hb : c.code = cX8_build) (hr : meth.sig.returnType = none) (hml : c.maxLocals = 6) (hown : s.vm.findClass RX8 = some m.cls) (hts : ∀ w ∈ kW, w.before args s = true) (hlocks : meth.locks = false) (hK : kK D cI cJ cZ s) (hA : ∀ q : Nat, s.heap.size ≤ q → A q) : ∀ n : Nat, ∀ (x2 : Int32) (x3 : Int32) (x4 : Int32) (msa2 : Nat → Int32) (mro2 : Nat → Int64), (4 - x4.toInt).toNat < n → (kB x2 0 12) → (kB x3 0 12) → (kB x4 0 4) → ∀ (H : Heap) (locs : List Loc) (ls : Array Slot), va_P D vwCl [(hm, .inr (8, [.int mrf, .ref hby, .int msz, .int mbg, .long mbt, .int mrg, .int mct, .int mvl, .int mpl, .int mcl, .int mrw, .int mqt, .int mlv, .int mtl, .int mbe, .int mch, .ref hpb, .ref hwa, .ref hmn, .ref hcf, .ref hsa, .ref hro])), (hwa, .inl (cI, 16, .inl mwa)), (hcf, .inl (cI, 256, .inl mcf)), (hsa, .inl (cI, 256, .inl msa2)), (hro, .inl (cJ, 16, .inr (.inl mro2)))] H → va_D A [(hm, .inr (8, [.int mrf, .ref hby, .int msz, .int mbg, .long mbt, .int mrg, .int mct, .int mvl, .int mpl, .int mcl, .int mrw, .int mqt, .int mlv, .int mtl, .int mbe, .int mch, .ref hpb, .ref hwa, .ref hmn, .ref hcf, .ref hsa, .ref hro])), (hwa, .inl (cI, 16, .inl mwa)), (hcf, .inl (cI, 256, .inl mcf)), (hsa, .inl (cI, 256, .inl msa2)), (hro, .inl (cJ, 16, .inr (.inl mro2)))] → va_S A s.heap H locs → lv_has ls 6 [(0, .ref hm), (1, .int k), (2, .int x2), (3, .int x3), (4, .int x4)] → W p l e (headSpec kw_X8_build ({ frames := 3, cells := 0, slots := 0, locals := 83 })).room s m args below meth c H locs 0 0 (MQ below (va_Qv (fun (u : (Nat → Int32) × (Nat → Int64)) => True) (fun (u : (Nat → Int32) × (Nat → Int64)) (t : State) => va_P D vwCl [(hm, .inr (8, [.int mrf, .ref hby, .int msz, .int mbg, .long mbt, .int mrg, .int mct, .int mvl, .int mpl, .int mcl, .int mrw, .int mqt, .int mlv, .int mtl, .int mbe, .int mch, .ref hpb, .ref hwa, .ref hmn, .ref hcf, .ref hsa, .ref hro])), (hwa, .inl (cI, 16, .inl mwa)), (hcf, .inl (cI, 256, .inl mcf)), (hsa, .inl (cI, 256, .inl u.1)), (hro, .inl (cJ, 16, .inr (.inl u.2)))] t.heap ∧ va_D A [(hm, .inr (8, [.int mrf, .ref hby, .int msz, .int mbg, .long mbt, .int mrg, .int mct, .int mvl, .int mpl, .int mcl, .int mrw, .int mqt, .int mlv, .int mtl, .int mbe, .int mch, .ref hpb, .ref hwa, .ref hmn, .ref hcf, .ref hsa, .ref hro])), (hwa, .inl (cI, 16, .inl mwa)), (hcf, .inl (cI, 256, .inl mcf)), (hsa, .inl (cI, 256, .inl u.1)), (hro, .inl (cJ, 16, .inr (.inl u.2)))]) A) args s 0 0 A) (F0 m 26 ls []) := by
  intro n
  induction n with
  | zero => intro x2 x3 x4 msa2 mro2 hmeas; exact absurd hmeas (Nat.not_lt_zero _)
  | succ n ih =>
    intro x2 x3 x4 msa2 mro2 hmeas b2 b3 b4 H locs ls hP hD hS hl
    refine lv_iload hx hb dX8_build_26 (lv_at hl 4 rfl) ?_
    refine lv_iconst (v := 4) hx hb dX8_build_28 (by decide) ?_
    refine lv_icmp_ge (tgt := 103) hx hb dX8_build_29 (by decide) (fun c29 => ?_) (fun c29 => ?_)
    · have c29y : kB x4 4 4 := kB_le_r kc_4 b4 c29 (by decide)
      exact W.vret hx hb hr (fun t9 ht9 hW9 => ⟨⟨(msa2, mro2), rfl, trivial, by rw [ht9]; exact hP, hD⟩, hS.F ht9⟩) hS.2.2 dX8_build_103
    · have c29n : x4 < 4 := kN_le c29
      have c29nx : kB x4 0 3 := kB_lt_l b4 kc_4 c29n (by decide)
      refine lv_iconst (v := 0) hx hb dX8_build_32 (by decide) ?_
      refine lv_istore (lv' := [(5, .int 0), (0, .ref hm), (1, .int k), (2, .int x2), (3, .int x3), (4, .int x4)]) hx hb dX8_build_33 hl (by decide) rfl (fun ls hl => ?_)
      exact lp_X8_build_35 D cI cJ cZ hm hby hpb hwa hmn hcf hsa hro mrf msz mbg mrg mct mvl mpl mcl mrw mqt mlv mtl mbe mch mbt mwa mcf msa mro k bk bcl brw hbl hx hb hr hml hown hts hlocks hK hA n ih ((4 - (0 : Int32).toInt).toNat + 1) x2 x3 x4 0 msa2 mro2 (Nat.lt_succ_self _) b2 b3 c29nx (kB_w kc_0 (by decide) (by decide)) (by first | assumption | omega) _ _ ls hP hD hS (lv_sub hl [1, 2, 3, 4, 5, 0] rfl)
set_option maxHeartbeats 4000000 in
set_option maxRecDepth 100000 in
theorem c_X8_build (l : Launch) (D : va_G) (cI cJ cZ : ClassId) (hm hby hpb hwa hmn hcf hsa hro : Nat) (mrf : Int32) (msz : Int32) (mbg : Int32) (mrg : Int32) (mct : Int32) (mvl : Int32) (mpl : Int32) (mcl : Int32) (mrw : Int32) (mqt : Int32) (mlv : Int32) (mtl : Int32) (mbe : Int32) (mch : Int32) (mbt : Int64) (mwa : Nat → Int32) (mcf : Nat → Int32) (msa : Nat → Int32) (mro : Nat → Int64) (k : Int32) (bk : kB k 0 15) (bcl : kB mcl 1 4) (brw : kB mrw 1 4) (hbl : k.toInt < mcl.toInt * mrw.toInt) (hpz : Nat) : Met l yX8_build kw_X8_build ({ frames := 3, cells := 0, slots := 0, locals := 83 }) (va_Pc [.ref hm, .int k] (fun U => U.heap.size = hpz ∧ va_P D vwCl [(hm, .inr (8, [.int mrf, .ref hby, .int msz, .int mbg, .long mbt, .int mrg, .int mct, .int mvl, .int mpl, .int mcl, .int mrw, .int mqt, .int mlv, .int mtl, .int mbe, .int mch, .ref hpb, .ref hwa, .ref hmn, .ref hcf, .ref hsa, .ref hro])), (hwa, .inl (cI, 16, .inl mwa)), (hcf, .inl (cI, 256, .inl mcf)), (hsa, .inl (cI, 256, .inl msa)), (hro, .inl (cJ, 16, .inr (.inl mro)))] U.heap ∧ kK D cI cJ cZ U ∧ va_D (fun _ => True) [(hm, .inr (8, [.int mrf, .ref hby, .int msz, .int mbg, .long mbt, .int mrg, .int mct, .int mvl, .int mpl, .int mcl, .int mrw, .int mqt, .int mlv, .int mtl, .int mbe, .int mch, .ref hpb, .ref hwa, .ref hmn, .ref hcf, .ref hsa, .ref hro])), (hwa, .inl (cI, 16, .inl mwa)), (hcf, .inl (cI, 256, .inl mcf)), (hsa, .inl (cI, 256, .inl msa)), (hro, .inl (cJ, 16, .inr (.inl mro)))])) (va_Qv (fun (u : (Nat → Int32) × (Nat → Int64)) => True) (fun (u : (Nat → Int32) × (Nat → Int64)) (t : State) => va_P D vwCl [(hm, .inr (8, [.int mrf, .ref hby, .int msz, .int mbg, .long mbt, .int mrg, .int mct, .int mvl, .int mpl, .int mcl, .int mrw, .int mqt, .int mlv, .int mtl, .int mbe, .int mch, .ref hpb, .ref hwa, .ref hmn, .ref hcf, .ref hsa, .ref hro])), (hwa, .inl (cI, 16, .inl mwa)), (hcf, .inl (cI, 256, .inl mcf)), (hsa, .inl (cI, 256, .inl u.1)), (hro, .inl (cJ, 16, .inr (.inl u.2)))] t.heap ∧ va_D (va_A [(hm, .inr (8, [.int mrf, .ref hby, .int msz, .int mbg, .long mbt, .int mrg, .int mct, .int mvl, .int mpl, .int mcl, .int mrw, .int mqt, .int mlv, .int mtl, .int mbe, .int mch, .ref hpb, .ref hwa, .ref hmn, .ref hcf, .ref hsa, .ref hro])), (hwa, .inl (cI, 16, .inl mwa)), (hcf, .inl (cI, 256, .inl mcf)), (hsa, .inl (cI, 256, .inl msa)), (hro, .inl (cJ, 16, .inr (.inl mro)))] hpz) [(hm, .inr (8, [.int mrf, .ref hby, .int msz, .int mbg, .long mbt, .int mrg, .int mct, .int mvl, .int mpl, .int mcl, .int mrw, .int mqt, .int mlv, .int mtl, .int mbe, .int mch, .ref hpb, .ref hwa, .ref hmn, .ref hcf, .ref hsa, .ref hro])), (hwa, .inl (cI, 16, .inl mwa)), (hcf, .inl (cI, 256, .inl mcf)), (hsa, .inl (cI, 256, .inl u.1)), (hro, .inl (cJ, 16, .inr (.inl u.2)))]) (va_A [(hm, .inr (8, [.int mrf, .ref hby, .int msz, .int mbg, .long mbt, .int mrg, .int mct, .int mvl, .int mpl, .int mcl, .int mrw, .int mqt, .int mlv, .int mtl, .int mbe, .int mch, .ref hpb, .ref hwa, .ref hmn, .ref hcf, .ref hsa, .ref hro])), (hwa, .inl (cI, 16, .inl mwa)), (hcf, .inl (cI, 256, .inl mcf)), (hsa, .inl (cI, 256, .inl msa)), (hro, .inl (cJ, 16, .inr (.inl mro)))] hpz)) 0 0 (va_A [(hm, .inr (8, [.int mrf, .ref hby, .int msz, .int mbg, .long mbt, .int mrg, .int mct, .int mvl, .int mpl, .int mcl, .int mrw, .int mqt, .int mlv, .int mtl, .int mbe, .int mch, .ref hpb, .ref hwa, .ref hmn, .ref hcf, .ref hsa, .ref hro])), (hwa, .inl (cI, 16, .inl mwa)), (hcf, .inl (cI, 256, .inl mcf)), (hsa, .inl (cI, 256, .inl msa)), (hro, .inl (cJ, 16, .inr (.inl mro)))] hpz) := by
  refine Met.ofW (cc := cX8_build) (maxL := 6) (ret := none) (by decide) rfl ?_
  intro p e s m args below meth c s₁ B hml hv
  obtain ⟨rfl, hsz, hP, hK, hD0⟩ := hv
  have hx := B.exec
  have hb := B.bytes
  have hr := B.returns
  have hts := fun (w : Cond) (h : w ∈ kW) => atoms_spec (ws := kw_X8_build) B.pre w (List.mem_cons_of_mem _ h)
  have hown : s.vm.findClass RX8 = some m.cls := findClass_of_methodNamed B.named
  have hlocks := B.notSynchronized
  subst hsz
  have hD := hD0.self (sz := s.heap.size)
  generalize hAe : va_A [(hm, .inr (8, [.int mrf, .ref hby, .int msz, .int mbg, .long mbt, .int mrg, .int mct, .int mvl, .int mpl, .int mcl, .int mrw, .int mqt, .int mlv, .int mtl, .int mbe, .int mch, .ref hpb, .ref hwa, .ref hmn, .ref hcf, .ref hsa, .ref hro])), (hwa, .inl (cI, 16, .inl mwa)), (hcf, .inl (cI, 256, .inl mcf)), (hsa, .inl (cI, 256, .inl msa)), (hro, .inl (cJ, 16, .inr (.inl mro)))] s.heap.size = A at hD ⊢
  have hA : ∀ q : Nat, s.heap.size ≤ q → A q := fun q h => by rw [← hAe]; exact Or.inr h
  have hS : va_S A s.heap s.heap [] := va_S.rf
  have hP : va_P D vwCl [(hm, .inr (8, [.int mrf, .ref hby, .int msz, .int mbg, .long mbt, .int mrg, .int mct, .int mvl, .int mpl, .int mcl, .int mrw, .int mqt, .int mlv, .int mtl, .int mbe, .int mch, .ref hpb, .ref hwa, .ref hmn, .ref hcf, .ref hsa, .ref hro])), (hwa, .inl (cI, 16, .inl mwa)), (hcf, .inl (cI, 256, .inl mcf)), (hsa, .inl (cI, 256, .inl msa)), (hro, .inl (cJ, 16, .inr (.inl mro)))] s.heap := hP
  have hl := lv_entry ([.ref hm, .int k]) (n := 6) (Nat.le_of_ble_eq_true rfl)
  rw [lg_entry_eq]
  generalize (lg_sl ([.ref hm, .int k]) ++ List.replicate (6 - (lg_sl ([.ref hm, .int k])).length) Slot.unset).toArray = ls at hl ⊢
  have hl : lv_has ls 6 [(0, .ref hm), (1, .int k)] := hl
  refine lv_iconst (v := 4) hx hb dX8_build_0 (by decide) ?_
  refine lv_iload_n hx hb dX8_build_1 rfl (lv_at hl 1 rfl) ?_
  refine lv_aload_n hx hb dX8_build_2 rfl (lv_at hl 0 rfl) ?_
  refine va_get (D := D) (ci := 8) (v := .int mcl) (C := RX8) (T := TX8) (N := 22) hx hb hts in_X8 hown hK.1 hP 0 rfl rfl 9 (by decide) (hts _ mk_227) (fun _ h9 => h9) rfl dX8_build_3 ?_
  refine lv_irem hx hb dX8_build_6 (kB_ne0 bcl (Or.inl (by decide))) ?_
  refine lv_topi (fun v6 e6 => ?_)
  have b6 : kB v6 0 3 := kB_eq e6 (kB_rem bk bcl (by decide))
  refine lv_imul hx hb dX8_build_7 ?_
  refine lv_topi (fun v7 e7 => ?_)
  have b7 : kB v7 0 12 := kB_eq e7 (kB_cmul kc_4 b6 (by decide))
  refine lv_istore_n (lv' := [(2, .int v7), (0, .ref hm), (1, .int k)]) hx hb dX8_build_8 rfl hl (by decide) rfl (fun ls hl => ?_)
  refine lv_iconst (v := 4) hx hb dX8_build_9 (by decide) ?_
  refine lv_iload_n hx hb dX8_build_10 rfl (lv_at hl 2 rfl) ?_
  refine lv_aload_n hx hb dX8_build_11 rfl (lv_at hl 1 rfl) ?_
  refine va_get (D := D) (ci := 8) (v := .int mcl) (C := RX8) (T := TX8) (N := 22) hx hb hts in_X8 hown hK.1 hP 0 rfl rfl 9 (by decide) (hts _ mk_227) (fun _ h9 => h9) rfl dX8_build_12 ?_
  refine lv_idiv hx hb dX8_build_15 (kB_ne0 bcl (Or.inl (by decide))) ?_
  refine lv_topi (fun v15 e15 => ?_)
  have b15 : kB v15 0 15 := kB_eq e15 (kB_divv bk bcl (by decide))
  have B15 : kB v15 0 3 := kdivc bk bcl hbl brw.2 e15
  refine lv_imul hx hb dX8_build_16 ?_
  refine lv_topi (fun v16 e16 => ?_)
  have b16 : kB v16 0 12 := kB_eq e16 (kB_cmul kc_4 B15 (by decide))
  refine lv_istore_n (lv' := [(3, .int v16), (2, .int v7), (0, .ref hm), (1, .int k)]) hx hb dX8_build_17 rfl hl (by decide) rfl (fun ls hl => ?_)
  refine lv_aload_n hx hb dX8_build_18 rfl (lv_at hl 2 rfl) ?_
  refine lv_iload_n hx hb dX8_build_19 rfl (lv_at hl 3 rfl) ?_
  have hPc := hP.sub (ws' := [(hm, .inr (8, [.int mrf, .ref hby, .int msz, .int mbg, .long mbt, .int mrg, .int mct, .int mvl, .int mpl, .int mcl, .int mrw, .int mqt, .int mlv, .int mtl, .int mbe, .int mch, .ref hpb, .ref hwa, .ref hmn, .ref hcf, .ref hsa, .ref hro])), (hcf, .inl (cI, 256, .inl mcf)), (hro, .inl (cJ, 16, .inr (.inl mro)))]) [0, 2, 4] rfl
  have hDc := hD.sub (ws' := [(hm, .inr (8, [.int mrf, .ref hby, .int msz, .int mbg, .long mbt, .int mrg, .int mct, .int mvl, .int mpl, .int mcl, .int mrw, .int mqt, .int mlv, .int mtl, .int mbe, .int mch, .ref hpb, .ref hwa, .ref hmn, .ref hcf, .ref hsa, .ref hro])), (hcf, .inl (cI, 256, .inl mcf)), (hro, .inl (cJ, 16, .inr (.inl mro)))]) [0, 2, 4] (by decide) rfl
  have hFc := va_free (wc := [(hm, .inr (8, [.int mrf, .ref hby, .int msz, .int mbg, .long mbt, .int mrg, .int mct, .int mvl, .int mpl, .int mcl, .int mrw, .int mqt, .int mlv, .int mtl, .int mbe, .int mch, .ref hpb, .ref hwa, .ref hmn, .ref hcf, .ref hsa, .ref hro])), (hcf, .inl (cI, 256, .inl mcf)), (hro, .inl (cJ, 16, .inr (.inl mro)))]) hD hS hA [0, 2, 4] rfl
  refine va_callv (va_runV (As := [.int k]) (rest := []) ⟨hx, hb, hml, hown, hts⟩ (c_X8_transform l D cI cJ cZ hm hby hpb hwa hmn hcf hsa hro mrf msz mbg mrg mct mvl mpl mcl mrw mqt mlv mtl mbe mch mbt mcf mro k bk (s.heap).size) (cwV 1 hts (kg_V mk_266 mk_267 mk_268 mk_189 mk_269) rfl rfl rfl (by decide +kernel) ⟨Nat.le_of_ble_eq_true rfl, Nat.le_of_ble_eq_true rfl⟩) ⟨fun a U g mk q => by obtain ⟨q0, q1, qP, qK, qD⟩ := q; exact ⟨q0, q1, qP, kK.call qK, qD⟩, va_recv hK.1 hPc (ci := 8) (q0 := 0) rfl rfl, fun U hU hW => ⟨rfl, by rw [hU], by rw [hU]; exact hPc, kK.warm hW hK, hDc.weaken (fun _ _ _ _ => trivial)⟩⟩ rfl rfl hl.1 rfl (lv_room (Nat.le_of_ble_eq_true rfl)) dX8_build_20 ⟨Nat.zero_le _, Nat.zero_le _⟩) hS (fun q _ h => hFc q h) hFc (fun u t9 H1 locs ht9 hvm9 hw9 hB9 hz9 hk9 hS => ?_)
  obtain ⟨mro2_20, rfl⟩ : ∃ z, z = u := ⟨_, rfl⟩
  obtain ⟨hP1, hD1⟩ := hB9
  rw [ht9] at hP1
  have hP1 : va_P D vwCl [(hm, .inr (8, [.int mrf, .ref hby, .int msz, .int mbg, .long mbt, .int mrg, .int mct, .int mvl, .int mpl, .int mcl, .int mrw, .int mqt, .int mlv, .int mtl, .int mbe, .int mch, .ref hpb, .ref hwa, .ref hmn, .ref hcf, .ref hsa, .ref hro])), (hcf, .inl (cI, 256, .inl mcf)), (hro, .inl (cJ, 16, .inr (.inl mro2_20)))] H1 := hP1
  obtain ⟨hP, hD⟩ := va_join (wr := [(hwa, .inl (cI, 16, .inl mwa)), (hsa, .inl (cI, 256, .inl msa))]) (w1 := [(hm, .inr (8, [.int mrf, .ref hby, .int msz, .int mbg, .long mbt, .int mrg, .int mct, .int mvl, .int mpl, .int mcl, .int mrw, .int mqt, .int mlv, .int mtl, .int mbe, .int mch, .ref hpb, .ref hwa, .ref hmn, .ref hcf, .ref hsa, .ref hro])), (hcf, .inl (cI, 256, .inl mcf)), (hro, .inl (cJ, 16, .inr (.inl mro2_20)))]) hP hD [0, 2, 4] [1, 3] rfl rfl (by decide) (by decide) hk9 hFc hP1 hD1
  have hP := hP.sub (ws' := [(hm, .inr (8, [.int mrf, .ref hby, .int msz, .int mbg, .long mbt, .int mrg, .int mct, .int mvl, .int mpl, .int mcl, .int mrw, .int mqt, .int mlv, .int mtl, .int mbe, .int mch, .ref hpb, .ref hwa, .ref hmn, .ref hcf, .ref hsa, .ref hro])), (hwa, .inl (cI, 16, .inl mwa)), (hcf, .inl (cI, 256, .inl mcf)), (hsa, .inl (cI, 256, .inl msa)), (hro, .inl (cJ, 16, .inr (.inl mro2_20)))]) [2, 0, 3, 1, 4] rfl
  have hD := hD.sub (ws' := [(hm, .inr (8, [.int mrf, .ref hby, .int msz, .int mbg, .long mbt, .int mrg, .int mct, .int mvl, .int mpl, .int mcl, .int mrw, .int mqt, .int mlv, .int mtl, .int mbe, .int mch, .ref hpb, .ref hwa, .ref hmn, .ref hcf, .ref hsa, .ref hro])), (hwa, .inl (cI, 16, .inl mwa)), (hcf, .inl (cI, 256, .inl mcf)), (hsa, .inl (cI, 256, .inl msa)), (hro, .inl (cJ, 16, .inr (.inl mro2_20)))]) [2, 0, 3, 1, 4] (by decide) rfl
  generalize H1 = H at hP hS ⊢
  refine lv_iconst (v := 0) hx hb dX8_build_23 (by decide) ?_
  refine lv_istore (lv' := [(4, .int 0), (3, .int v16), (2, .int v7), (0, .ref hm), (1, .int k)]) hx hb dX8_build_24 hl (by decide) rfl (fun ls hl => ?_)
  exact lp_X8_build_26 D cI cJ cZ hm hby hpb hwa hmn hcf hsa hro mrf msz mbg mrg mct mvl mpl mcl mrw mqt mlv mtl mbe mch mbt mwa mcf msa mro k bk bcl brw hbl hx hb hr hml hown hts hlocks hK hA ((4 - (0 : Int32).toInt).toNat + 1) v7 v16 0 msa mro2_20 (Nat.lt_succ_self _) b7 b16 (kB_w kc_0 (by decide) (by decide)) _ _ ls hP hD hS (lv_sub hl [3, 4, 2, 1, 0] rfl)
abbrev kw_X8_limit : List Cond := Cond.code yX8_limit cX8_limit 1 (some .int) :: kW
set_option maxHeartbeats 4000000 in
set_option maxRecDepth 100000 in
theorem c_X8_limit (l : Launch) (D : va_G) (cI cJ cZ : ClassId) (n : Int32) (hpz : Nat) : Met l yX8_limit kw_X8_limit ({ frames := 0, cells := 0, slots := 0, locals := 0 }) (va_Pc [.int n] (fun U => U.heap.size = hpz ∧ va_P D vwCl [] U.heap ∧ kK D cI cJ cZ U ∧ va_D (fun _ => True) [])) (va_Qi (fun (r : Int32) (u : Unit) => True) (fun (u : Unit) (t : State) => va_P D vwCl [] t.heap ∧ va_D (va_A [] hpz) []) (va_A [] hpz)) 0 0 (va_A [] hpz) := by
  refine Met.ofW (cc := cX8_limit) (maxL := 1) (ret := (some .int)) (by decide) rfl ?_
  intro p e s m args below meth c s₁ B hml hv
  obtain ⟨rfl, hsz, hP, hK, hD0⟩ := hv
  have hx := B.exec
  have hb := B.bytes
  have hr := B.returns
  have hts := fun (w : Cond) (h : w ∈ kW) => atoms_spec (ws := kw_X8_limit) B.pre w (List.mem_cons_of_mem _ h)
  have hown : s.vm.findClass RX8 = some m.cls := findClass_of_methodNamed B.named
  have hlocks := B.notSynchronized
  subst hsz
  have hD := hD0.self (sz := s.heap.size)
  generalize hAe : va_A [] s.heap.size = A at hD ⊢
  have hA : ∀ q : Nat, s.heap.size ≤ q → A q := fun q h => by rw [← hAe]; exact Or.inr h
  have hS : va_S A s.heap s.heap [] := va_S.rf
  have hP : va_P D vwCl [] s.heap := hP
  have hl := lv_entry ([.int n]) (n := 1) (Nat.le_of_ble_eq_true rfl)
  rw [lg_entry_eq]
  generalize (lg_sl ([.int n]) ++ List.replicate (1 - (lg_sl ([.int n])).length) Slot.unset).toArray = ls at hl ⊢
  have hl : lv_has ls 1 [(0, .int n)] := hl
  refine lv_iload_n hx hb dX8_limit_0 rfl (lv_at hl 0 rfl) ?_
  refine lv_bipush (v := (-128)) hx hb dX8_limit_1 (by decide) ?_
  refine lv_icmp_ge (tgt := 11) hx hb dX8_limit_3 (by decide) (fun c3 => ?_) (fun c3 => ?_)
  · have c3b := kB_all n
    have c3y : kB n (-128) 2147483647 := kB_le_r kc_m128 c3b c3 (by decide)
    refine lv_iload_n hx hb dX8_limit_11 rfl (lv_at hl 0 rfl) ?_
    refine lv_bipush (v := 127) hx hb dX8_limit_12 (by decide) ?_
    refine lv_icmp_le (tgt := 22) hx hb dX8_limit_14 (by decide) (fun c14 => ?_) (fun c14 => ?_)
    · have c14x : kB n (-128) 127 := kB_le_l c3y kc_127 c14 (by decide)
      refine lv_iload_n hx hb dX8_limit_22 rfl (lv_at hl 0 rfl) ?_
      exact W.iret (v := n) hx hb hr (fun t9 ht9 hW9 => ⟨⟨n, (), rfl, trivial, by rw [ht9]; exact hP, hD⟩, hS.F ht9⟩) hS.2.2 dX8_limit_23
    · have c14n : 127 < n := kN_le c14
      have c14ny : kB n 128 2147483647 := kB_lt_r kc_127 c3y c14n (by decide)
      refine lv_bipush (v := 127) hx hb dX8_limit_17 (by decide) ?_
      refine lv_goto (tgt := 23) hx hb dX8_limit_19 (by decide) ?_
      exact W.iret (v := 127) hx hb hr (fun t9 ht9 hW9 => ⟨⟨127, (), rfl, trivial, by rw [ht9]; exact hP, hD⟩, hS.F ht9⟩) hS.2.2 dX8_limit_23
  · have c3n : n < (-128) := kN_le c3
    have c3na := kB_all n
    have c3nx : kB n (-2147483648) (-129) := kB_lt_l c3na kc_m128 c3n (by decide)
    refine lv_bipush (v := (-128)) hx hb dX8_limit_6 (by decide) ?_
    refine lv_goto (tgt := 23) hx hb dX8_limit_8 (by decide) ?_
    exact W.iret (v := (-128)) hx hb hr (fun t9 ht9 hW9 => ⟨⟨(-128), (), rfl, trivial, by rw [ht9]; exact hP, hD⟩, hS.F ht9⟩) hS.2.2 dX8_limit_23
abbrev kw_X8_apart : List Cond := Cond.code yX8_apart cX8_apart 2 (some .int) :: kW
set_option maxHeartbeats 4000000 in
set_option maxRecDepth 100000 in
theorem c_X8_apart (l : Launch) (D : va_G) (cI cJ cZ : ClassId) (a_ : Int32) (b_ : Int32) (hpz : Nat) : Met l yX8_apart kw_X8_apart ({ frames := 0, cells := 0, slots := 0, locals := 0 }) (va_Pc [.int a_, .int b_] (fun U => U.heap.size = hpz ∧ va_P D vwCl [] U.heap ∧ kK D cI cJ cZ U ∧ va_D (fun _ => True) [])) (va_Qi (fun (r : Int32) (u : Unit) => True) (fun (u : Unit) (t : State) => va_P D vwCl [] t.heap ∧ va_D (va_A [] hpz) []) (va_A [] hpz)) 0 0 (va_A [] hpz) := by
  refine Met.ofW (cc := cX8_apart) (maxL := 2) (ret := (some .int)) (by decide) rfl ?_
  intro p e s m args below meth c s₁ B hml hv
  obtain ⟨rfl, hsz, hP, hK, hD0⟩ := hv
  have hx := B.exec
  have hb := B.bytes
  have hr := B.returns
  have hts := fun (w : Cond) (h : w ∈ kW) => atoms_spec (ws := kw_X8_apart) B.pre w (List.mem_cons_of_mem _ h)
  have hown : s.vm.findClass RX8 = some m.cls := findClass_of_methodNamed B.named
  have hlocks := B.notSynchronized
  subst hsz
  have hD := hD0.self (sz := s.heap.size)
  generalize hAe : va_A [] s.heap.size = A at hD ⊢
  have hA : ∀ q : Nat, s.heap.size ≤ q → A q := fun q h => by rw [← hAe]; exact Or.inr h
  have hS : va_S A s.heap s.heap [] := va_S.rf
  have hP : va_P D vwCl [] s.heap := hP
  have hl := lv_entry ([.int a_, .int b_]) (n := 2) (Nat.le_of_ble_eq_true rfl)
  rw [lg_entry_eq]
  generalize (lg_sl ([.int a_, .int b_]) ++ List.replicate (2 - (lg_sl ([.int a_, .int b_])).length) Slot.unset).toArray = ls at hl ⊢
  have hl : lv_has ls 2 [(0, .int a_), (1, .int b_)] := hl
  refine lv_iload_n hx hb dX8_apart_0 rfl (lv_at hl 0 rfl) ?_
  refine lv_iload_n hx hb dX8_apart_1 rfl (lv_at hl 1 rfl) ?_
  refine lv_icmp_ge (tgt := 11) hx hb dX8_apart_2 (by decide) (fun c2 => ?_) (fun c2 => ?_)
  · have c2a := kB_all b_
    have c2b := kB_all a_
    have c2x : kB b_ (-2147483648) 2147483647 := kB_le_l c2a c2b c2 (by decide)
    have c2y : kB a_ (-2147483648) 2147483647 := kB_le_r c2a c2b c2 (by decide)
    refine lv_iload_n hx hb dX8_apart_11 rfl (lv_at hl 0 rfl) ?_
    refine lv_iload_n hx hb dX8_apart_12 rfl (lv_at hl 1 rfl) ?_
    refine lv_isub hx hb dX8_apart_13 ?_
    refine lv_topi (fun v13 e13 => ?_)
    exact W.iret (v := v13) hx hb hr (fun t9 ht9 hW9 => ⟨⟨v13, (), rfl, trivial, by rw [ht9]; exact hP, hD⟩, hS.F ht9⟩) hS.2.2 dX8_apart_14
  · have c2n : a_ < b_ := kN_le c2
    have c2na := kB_all a_
    have c2nb := kB_all b_
    have c2nx : kB a_ (-2147483648) 2147483646 := kB_lt_l c2na c2nb c2n (by decide)
    have c2ny : kB b_ (-2147483647) 2147483647 := kB_lt_r c2na c2nb c2n (by decide)
    refine lv_iload_n hx hb dX8_apart_5 rfl (lv_at hl 1 rfl) ?_
    refine lv_iload_n hx hb dX8_apart_6 rfl (lv_at hl 0 rfl) ?_
    refine lv_isub hx hb dX8_apart_7 ?_
    refine lv_topi (fun v7 e7 => ?_)
    refine lv_goto (tgt := 14) hx hb dX8_apart_8 (by decide) ?_
    exact W.iret (v := v7) hx hb hr (fun t9 ht9 hW9 => ⟨⟨v7, (), rfl, trivial, by rw [ht9]; exact hP, hD⟩, hS.F ht9⟩) hS.2.2 dX8_apart_14
abbrev kw_X8_smooth : List Cond := Cond.code yX8_smooth cX8_smooth 10 none :: kW
set_option maxHeartbeats 4000000 in
set_option maxRecDepth 100000 in
theorem c_X8_smooth_a (l : Launch) (D : va_G) (cI cJ cZ : ClassId) (hm hby hpb hwa hmn hcf hsa hro : Nat) (mrf : Int32) (msz : Int32) (mbg : Int32) (mrg : Int32) (mct : Int32) (mvl : Int32) (mpl : Int32) (mcl : Int32) (mrw : Int32) (mqt : Int32) (mlv : Int32) (mtl : Int32) (mbe : Int32) (mch : Int32) (mbt : Int64) (msa : Nat → Int32) (fa : Int32) (bfa : kB fa 2 254) (hpz : Nat) : Met l yX8_smooth kw_X8_smooth ({ frames := 1, cells := 0, slots := 0, locals := 21 }) (va_Pc [.ref hm, .int fa, .int 1] (fun U => U.heap.size = hpz ∧ va_P D vwCl [(hm, .inr (8, [.int mrf, .ref hby, .int msz, .int mbg, .long mbt, .int mrg, .int mct, .int mvl, .int mpl, .int mcl, .int mrw, .int mqt, .int mlv, .int mtl, .int mbe, .int mch, .ref hpb, .ref hwa, .ref hmn, .ref hcf, .ref hsa, .ref hro])), (hsa, .inl (cI, 256, .inl msa))] U.heap ∧ kK D cI cJ cZ U ∧ va_D (fun _ => True) [(hm, .inr (8, [.int mrf, .ref hby, .int msz, .int mbg, .long mbt, .int mrg, .int mct, .int mvl, .int mpl, .int mcl, .int mrw, .int mqt, .int mlv, .int mtl, .int mbe, .int mch, .ref hpb, .ref hwa, .ref hmn, .ref hcf, .ref hsa, .ref hro])), (hsa, .inl (cI, 256, .inl msa))])) (va_Qv (fun (u : Int32 × (Nat → Int32)) => True) (fun (u : Int32 × (Nat → Int32)) (t : State) => va_P D vwCl [(hm, .inr (8, [.int mrf, .ref hby, .int msz, .int mbg, .long mbt, .int mrg, .int mct, .int mvl, .int mpl, .int mcl, .int mrw, .int mqt, .int mlv, .int mtl, .int mbe, .int u.1, .ref hpb, .ref hwa, .ref hmn, .ref hcf, .ref hsa, .ref hro])), (hsa, .inl (cI, 256, .inl u.2))] t.heap ∧ va_D (va_A [(hm, .inr (8, [.int mrf, .ref hby, .int msz, .int mbg, .long mbt, .int mrg, .int mct, .int mvl, .int mpl, .int mcl, .int mrw, .int mqt, .int mlv, .int mtl, .int mbe, .int mch, .ref hpb, .ref hwa, .ref hmn, .ref hcf, .ref hsa, .ref hro])), (hsa, .inl (cI, 256, .inl msa))] hpz) [(hm, .inr (8, [.int mrf, .ref hby, .int msz, .int mbg, .long mbt, .int mrg, .int mct, .int mvl, .int mpl, .int mcl, .int mrw, .int mqt, .int mlv, .int mtl, .int mbe, .int u.1, .ref hpb, .ref hwa, .ref hmn, .ref hcf, .ref hsa, .ref hro])), (hsa, .inl (cI, 256, .inl u.2))]) (va_A [(hm, .inr (8, [.int mrf, .ref hby, .int msz, .int mbg, .long mbt, .int mrg, .int mct, .int mvl, .int mpl, .int mcl, .int mrw, .int mqt, .int mlv, .int mtl, .int mbe, .int mch, .ref hpb, .ref hwa, .ref hmn, .ref hcf, .ref hsa, .ref hro])), (hsa, .inl (cI, 256, .inl msa))] hpz)) 0 0 (va_A [(hm, .inr (8, [.int mrf, .ref hby, .int msz, .int mbg, .long mbt, .int mrg, .int mct, .int mvl, .int mpl, .int mcl, .int mrw, .int mqt, .int mlv, .int mtl, .int mbe, .int mch, .ref hpb, .ref hwa, .ref hmn, .ref hcf, .ref hsa, .ref hro])), (hsa, .inl (cI, 256, .inl msa))] hpz) := by
  refine Met.ofW (cc := cX8_smooth) (maxL := 10) (ret := none) (by decide) rfl ?_
  intro p e s m args below meth c s₁ B hml hv
  obtain ⟨rfl, hsz, hP, hK, hD0⟩ := hv
  have hx := B.exec
  have hb := B.bytes
  have hr := B.returns
  have hts := fun (w : Cond) (h : w ∈ kW) => atoms_spec (ws := kw_X8_smooth) B.pre w (List.mem_cons_of_mem _ h)
  have hown : s.vm.findClass RX8 = some m.cls := findClass_of_methodNamed B.named
  have hlocks := B.notSynchronized
  subst hsz
  have hD := hD0.self (sz := s.heap.size)
  generalize hAe : va_A [(hm, .inr (8, [.int mrf, .ref hby, .int msz, .int mbg, .long mbt, .int mrg, .int mct, .int mvl, .int mpl, .int mcl, .int mrw, .int mqt, .int mlv, .int mtl, .int mbe, .int mch, .ref hpb, .ref hwa, .ref hmn, .ref hcf, .ref hsa, .ref hro])), (hsa, .inl (cI, 256, .inl msa))] s.heap.size = A at hD ⊢
  have hA : ∀ q : Nat, s.heap.size ≤ q → A q := fun q h => by rw [← hAe]; exact Or.inr h
  have hS : va_S A s.heap s.heap [] := va_S.rf
  have hP : va_P D vwCl [(hm, .inr (8, [.int mrf, .ref hby, .int msz, .int mbg, .long mbt, .int mrg, .int mct, .int mvl, .int mpl, .int mcl, .int mrw, .int mqt, .int mlv, .int mtl, .int mbe, .int mch, .ref hpb, .ref hwa, .ref hmn, .ref hcf, .ref hsa, .ref hro])), (hsa, .inl (cI, 256, .inl msa))] s.heap := hP
  have hl := lv_entry ([.ref hm, .int fa, .int 1]) (n := 10) (Nat.le_of_ble_eq_true rfl)
  rw [lg_entry_eq]
  generalize (lg_sl ([.ref hm, .int fa, .int 1]) ++ List.replicate (10 - (lg_sl ([.ref hm, .int fa, .int 1])).length) Slot.unset).toArray = ls at hl ⊢
  have hl : lv_has ls 10 [(0, .ref hm), (1, .int fa), (2, .int 1)] := hl
  refine lv_aload_n hx hb dX8_smooth_0 rfl (lv_at hl 0 rfl) ?_
  refine va_get (D := D) (ci := 8) (v := .ref hsa) (C := RX8) (T := TX8) (N := 22) hx hb hts in_X8 hown hK.1 hP 0 rfl rfl 20 (by decide) (hts _ mk_258) (fun _ h9 => h9) rfl dX8_smooth_1 ?_
  refine lv_iload_n hx hb dX8_smooth_4 rfl (lv_at hl 1 rfl) ?_
  refine lv_iconst (v := 2) hx hb dX8_smooth_5 (by decide) ?_
  refine lv_iload_n hx hb dX8_smooth_6 rfl (lv_at hl 2 rfl) ?_
  refine lv_imul hx hb dX8_smooth_7 ?_
  refine lv_topi (fun v7 e7 => ?_)
  have b7 : kB v7 2 2 := kB_eq e7 (kB_mulc kc_2 kc_1 (by decide))
  refine lv_isub hx hb dX8_smooth_8 ?_
  refine lv_topi (fun v8 e8 => ?_)
  have b8 : kB v8 0 252 := kB_eq e8 (kB_sub bfa b7 (by decide))
  refine va_iald hx hb hK.1 hP 1 0 rfl rfl (kB_in b8 (by decide)) dX8_smooth_9 ?_
  refine lv_topi (fun v9 e9 => ?_)
  refine lv_istore_n (lv' := [(3, .int v9), (0, .ref hm), (1, .int fa), (2, .int 1)]) hx hb dX8_smooth_10 rfl hl (by decide) rfl (fun ls hl => ?_)
  refine lv_aload_n hx hb dX8_smooth_11 rfl (lv_at hl 1 rfl) ?_
  refine va_get (D := D) (ci := 8) (v := .ref hsa) (C := RX8) (T := TX8) (N := 22) hx hb hts in_X8 hown hK.1 hP 0 rfl rfl 20 (by decide) (hts _ mk_258) (fun _ h9 => h9) rfl dX8_smooth_12 ?_
  refine lv_iload_n hx hb dX8_smooth_15 rfl (lv_at hl 2 rfl) ?_
  refine lv_iload_n hx hb dX8_smooth_16 rfl (lv_at hl 3 rfl) ?_
  refine lv_isub hx hb dX8_smooth_17 ?_
  refine lv_topi (fun v17 e17 => ?_)
  have b17 : kB v17 1 253 := kB_eq e17 (kB_sub bfa kc_1 (by decide))
  refine va_iald hx hb hK.1 hP 1 0 rfl rfl (kB_in b17 (by decide)) dX8_smooth_18 ?_
  refine lv_topi (fun v18 e18 => ?_)
  refine lv_istore (lv' := [(4, .int v18), (3, .int v9), (0, .ref hm), (1, .int fa), (2, .int 1)]) hx hb dX8_smooth_19 hl (by decide) rfl (fun ls hl => ?_)
  refine lv_aload_n hx hb dX8_smooth_21 rfl (lv_at hl 2 rfl) ?_
  refine va_get (D := D) (ci := 8) (v := .ref hsa) (C := RX8) (T := TX8) (N := 22) hx hb hts in_X8 hown hK.1 hP 0 rfl rfl 20 (by decide) (hts _ mk_258) (fun _ h9 => h9) rfl dX8_smooth_22 ?_
  refine lv_iload_n hx hb dX8_smooth_25 rfl (lv_at hl 3 rfl) ?_
  refine va_iald hx hb hK.1 hP 1 0 rfl rfl (kB_in bfa (by decide)) dX8_smooth_26 ?_
  refine lv_topi (fun v26 e26 => ?_)
  refine lv_istore (lv' := [(5, .int v26), (4, .int v18), (3, .int v9), (0, .ref hm), (1, .int fa), (2, .int 1)]) hx hb dX8_smooth_27 hl (by decide) rfl (fun ls hl => ?_)
  refine lv_aload_n hx hb dX8_smooth_29 rfl (lv_at hl 3 rfl) ?_
  refine va_get (D := D) (ci := 8) (v := .ref hsa) (C := RX8) (T := TX8) (N := 22) hx hb hts in_X8 hown hK.1 hP 0 rfl rfl 20 (by decide) (hts _ mk_258) (fun _ h9 => h9) rfl dX8_smooth_30 ?_
  refine lv_iload_n hx hb dX8_smooth_33 rfl (lv_at hl 4 rfl) ?_
  refine lv_iload_n hx hb dX8_smooth_34 rfl (lv_at hl 5 rfl) ?_
  refine lv_iadd hx hb dX8_smooth_35 ?_
  refine lv_topi (fun v35 e35 => ?_)
  have b35 : kB v35 3 255 := kB_eq e35 (kB_add bfa kc_1 (by decide))
  refine va_iald hx hb hK.1 hP 1 0 rfl rfl (kB_in b35 (by decide)) dX8_smooth_36 ?_
  refine lv_topi (fun v36 e36 => ?_)
  refine lv_istore (lv' := [(6, .int v36), (5, .int v26), (4, .int v18), (3, .int v9), (0, .ref hm), (1, .int fa), (2, .int 1)]) hx hb dX8_smooth_37 hl (by decide) rfl (fun ls hl => ?_)
  refine lv_iconst (v := 2) hx hb dX8_smooth_39 (by decide) ?_
  refine lv_iload hx hb dX8_smooth_40 (lv_at hl 2 rfl) ?_
  refine lv_iload hx hb dX8_smooth_42 (lv_at hl 1 rfl) ?_
  have hPc := hP.sub (ws' := []) [] rfl
  have hDc := hD.sub (ws' := []) [] (by decide) rfl
  have hFc := va_free (wc := []) hD hS hA [] rfl
  refine va_calli (va_runS (As := [.int v18, .int v26]) (rest := [.int 2]) ⟨hx, hb, hml, hown, hts⟩ (c_X8_apart l D cI cJ cZ v18 v26 (s.heap).size) (cwS 2 hts (kg_S mk_275 mk_276 mk_189 mk_277) rfl rfl rfl (by decide +kernel) ⟨Nat.le_of_ble_eq_true rfl, Nat.le_of_ble_eq_true rfl⟩) ⟨fun a U g mk q => by obtain ⟨q0, q1, qP, qK, qD⟩ := q; exact ⟨q0, q1, qP, kK.call qK, qD⟩, fun U hU hW => ⟨rfl, by rw [hU], by rw [hU]; exact hPc, kK.warm hW hK, hDc.weaken (fun _ _ _ _ => trivial)⟩⟩ rfl rfl hl.1 rfl (lv_room (Nat.le_of_ble_eq_true rfl)) dX8_smooth_44 ⟨Nat.zero_le _, Nat.zero_le _⟩) hS (fun q _ h => hFc q h) hFc (fun r44 u t9 H1 locs ht9 hvm9 hw9 hB9 hz9 hk9 hS => ?_)
  obtain ⟨hP1, hD1⟩ := hB9
  rw [ht9] at hP1
  have hP1 : va_P D vwCl [] H1 := hP1
  obtain ⟨hP, hD⟩ := va_join (wr := [(hm, .inr (8, [.int mrf, .ref hby, .int msz, .int mbg, .long mbt, .int mrg, .int mct, .int mvl, .int mpl, .int mcl, .int mrw, .int mqt, .int mlv, .int mtl, .int mbe, .int mch, .ref hpb, .ref hwa, .ref hmn, .ref hcf, .ref hsa, .ref hro])), (hsa, .inl (cI, 256, .inl msa))]) (w1 := []) hP hD [] [0, 1] rfl rfl (by decide) (by decide) hk9 hFc hP1 hD1
  have hP := hP.sub (ws' := [(hm, .inr (8, [.int mrf, .ref hby, .int msz, .int mbg, .long mbt, .int mrg, .int mct, .int mvl, .int mpl, .int mcl, .int mrw, .int mqt, .int mlv, .int mtl, .int mbe, .int mch, .ref hpb, .ref hwa, .ref hmn, .ref hcf, .ref hsa, .ref hro])), (hsa, .inl (cI, 256, .inl msa))]) [0, 1] rfl
  have hD := hD.sub (ws' := [(hm, .inr (8, [.int mrf, .ref hby, .int msz, .int mbg, .long mbt, .int mrg, .int mct, .int mvl, .int mpl, .int mcl, .int mrw, .int mqt, .int mlv, .int mtl, .int mbe, .int mch, .ref hpb, .ref hwa, .ref hmn, .ref hcf, .ref hsa, .ref hro])), (hsa, .inl (cI, 256, .inl msa))]) [0, 1] (by decide) rfl
  generalize H1 = H at hP hS ⊢
  refine lv_imul hx hb dX8_smooth_47 ?_
  refine lv_topi (fun v47 e47 => ?_)
  refine lv_iload_n hx hb dX8_smooth_48 rfl (lv_at hl 3 rfl) ?_
  refine lv_iload hx hb dX8_smooth_49 (lv_at hl 0 rfl) ?_
  have hPc := hP.sub (ws' := []) [] rfl
  have hDc := hD.sub (ws' := []) [] (by decide) rfl
  have hFc := va_free (wc := []) hD hS hA [] rfl
  refine va_calli (va_runS (As := [.int v9, .int v36]) (rest := [.int v47]) ⟨hx, hb, hml, hown, hts⟩ (c_X8_apart l D cI cJ cZ v9 v36 (H).size) (cwS 2 hts (kg_S mk_275 mk_276 mk_189 mk_277) rfl rfl rfl (by decide +kernel) ⟨Nat.le_of_ble_eq_true rfl, Nat.le_of_ble_eq_true rfl⟩) ⟨fun a U g mk q => by obtain ⟨q0, q1, qP, qK, qD⟩ := q; exact ⟨q0, q1, qP, kK.call qK, qD⟩, fun U hU hW => ⟨rfl, by rw [hU], by rw [hU]; exact hPc, kK.warm hW hK, hDc.weaken (fun _ _ _ _ => trivial)⟩⟩ rfl rfl hl.1 rfl (lv_room (Nat.le_of_ble_eq_true rfl)) dX8_smooth_51 ⟨Nat.zero_le _, Nat.zero_le _⟩) hS (fun q _ h => hFc q h) hFc (fun r51 u t9 H1 locs ht9 hvm9 hw9 hB9 hz9 hk9 hS => ?_)
  obtain ⟨hP1, hD1⟩ := hB9
  rw [ht9] at hP1
  have hP1 : va_P D vwCl [] H1 := hP1
  obtain ⟨hP, hD⟩ := va_join (wr := [(hm, .inr (8, [.int mrf, .ref hby, .int msz, .int mbg, .long mbt, .int mrg, .int mct, .int mvl, .int mpl, .int mcl, .int mrw, .int mqt, .int mlv, .int mtl, .int mbe, .int mch, .ref hpb, .ref hwa, .ref hmn, .ref hcf, .ref hsa, .ref hro])), (hsa, .inl (cI, 256, .inl msa))]) (w1 := []) hP hD [] [0, 1] rfl rfl (by decide) (by decide) hk9 hFc hP1 hD1
  have hP := hP.sub (ws' := [(hm, .inr (8, [.int mrf, .ref hby, .int msz, .int mbg, .long mbt, .int mrg, .int mct, .int mvl, .int mpl, .int mcl, .int mrw, .int mqt, .int mlv, .int mtl, .int mbe, .int mch, .ref hpb, .ref hwa, .ref hmn, .ref hcf, .ref hsa, .ref hro])), (hsa, .inl (cI, 256, .inl msa))]) [0, 1] rfl
  have hD := hD.sub (ws' := [(hm, .inr (8, [.int mrf, .ref hby, .int msz, .int mbg, .long mbt, .int mrg, .int mct, .int mvl, .int mpl, .int mcl, .int mrw, .int mqt, .int mlv, .int mtl, .int mbe, .int mch, .ref hpb, .ref hwa, .ref hmn, .ref hcf, .ref hsa, .ref hro])), (hsa, .inl (cI, 256, .inl msa))]) [0, 1] (by decide) rfl
  generalize H1 = H at hP hS ⊢
  refine lv_iconst (v := 2) hx hb dX8_smooth_54 (by decide) ?_
  refine lv_idiv hx hb dX8_smooth_55 (kB_ne0 kc_2 (Or.inl (by decide))) ?_
  refine lv_topi (fun v55 e55 => ?_)
  refine lv_iadd hx hb dX8_smooth_56 ?_
  refine lv_topi (fun v56 e56 => ?_)
  refine lv_iconst (v := 2) hx hb dX8_smooth_57 (by decide) ?_
  refine lv_aload_n hx hb dX8_smooth_58 rfl (lv_at hl 4 rfl) ?_
  refine va_get (D := D) (ci := 8) (v := .int mlv) (C := RX8) (T := TX8) (N := 22) hx hb hts in_X8 hown hK.1 hP 0 rfl rfl 12 (by decide) (hts _ mk_278) (fun _ h9 => h9) rfl dX8_smooth_59 ?_
  refine lv_imul hx hb dX8_smooth_62 ?_
  refine lv_topi (fun v62 e62 => ?_)
  refine lv_iconst (v := 4) hx hb dX8_smooth_63 (by decide) ?_
  refine lv_iadd hx hb dX8_smooth_64 ?_
  refine lv_topi (fun v64 e64 => ?_)
  refine lv_icmp_le (tgt := 69) hx hb dX8_smooth_65 (by decide) (fun c65 => ?_) (fun c65 => ?_)
  · have c65a := kB_all v56
    have c65b := kB_all v64
    have c65x : kB v56 (-2147483648) 2147483647 := kB_le_l c65a c65b c65 (by decide)
    have c65y : kB v64 (-2147483648) 2147483647 := kB_le_r c65a c65b c65 (by decide)
    refine lv_iload_n hx hb dX8_smooth_69 rfl (lv_at hl 3 rfl) ?_
    refine lv_iload hx hb dX8_smooth_70 (lv_at hl 0 rfl) ?_
    refine lv_isub hx hb dX8_smooth_72 ?_
    refine lv_topi (fun v72 e72 => ?_)
    have hPc := hP.sub (ws' := []) [] rfl
    have hDc := hD.sub (ws' := []) [] (by decide) rfl
    have hFc := va_free (wc := []) hD hS hA [] rfl
    refine va_calli (va_runS (As := [.int v72]) (rest := []) ⟨hx, hb, hml, hown, hts⟩ (c_X8_limit l D cI cJ cZ v72 (H).size) (cwS 1 hts (kg_S mk_279 mk_280 mk_189 mk_281) rfl rfl rfl (by decide +kernel) ⟨Nat.le_of_ble_eq_true rfl, Nat.le_of_ble_eq_true rfl⟩) ⟨fun a U g mk q => by obtain ⟨q0, q1, qP, qK, qD⟩ := q; exact ⟨q0, q1, qP, kK.call qK, qD⟩, fun U hU hW => ⟨rfl, by rw [hU], by rw [hU]; exact hPc, kK.warm hW hK, hDc.weaken (fun _ _ _ _ => trivial)⟩⟩ rfl rfl hl.1 rfl (lv_room (Nat.le_of_ble_eq_true rfl)) dX8_smooth_73 ⟨Nat.zero_le _, Nat.zero_le _⟩) hS (fun q _ h => hFc q h) hFc (fun r73 u t9 H1 locs ht9 hvm9 hw9 hB9 hz9 hk9 hS => ?_)
    obtain ⟨hP1, hD1⟩ := hB9
    rw [ht9] at hP1
    have hP1 : va_P D vwCl [] H1 := hP1
    obtain ⟨hP, hD⟩ := va_join (wr := [(hm, .inr (8, [.int mrf, .ref hby, .int msz, .int mbg, .long mbt, .int mrg, .int mct, .int mvl, .int mpl, .int mcl, .int mrw, .int mqt, .int mlv, .int mtl, .int mbe, .int mch, .ref hpb, .ref hwa, .ref hmn, .ref hcf, .ref hsa, .ref hro])), (hsa, .inl (cI, 256, .inl msa))]) (w1 := []) hP hD [] [0, 1] rfl rfl (by decide) (by decide) hk9 hFc hP1 hD1
    have hP := hP.sub (ws' := [(hm, .inr (8, [.int mrf, .ref hby, .int msz, .int mbg, .long mbt, .int mrg, .int mct, .int mvl, .int mpl, .int mcl, .int mrw, .int mqt, .int mlv, .int mtl, .int mbe, .int mch, .ref hpb, .ref hwa, .ref hmn, .ref hcf, .ref hsa, .ref hro])), (hsa, .inl (cI, 256, .inl msa))]) [0, 1] rfl
    have hD := hD.sub (ws' := [(hm, .inr (8, [.int mrf, .ref hby, .int msz, .int mbg, .long mbt, .int mrg, .int mct, .int mvl, .int mpl, .int mcl, .int mrw, .int mqt, .int mlv, .int mtl, .int mbe, .int mch, .ref hpb, .ref hwa, .ref hmn, .ref hcf, .ref hsa, .ref hro])), (hsa, .inl (cI, 256, .inl msa))]) [0, 1] (by decide) rfl
    generalize H1 = H at hP hS ⊢
    refine lv_iconst (v := 3) hx hb dX8_smooth_76 (by decide) ?_
    refine lv_iload hx hb dX8_smooth_77 (lv_at hl 1 rfl) ?_
    refine lv_iload hx hb dX8_smooth_79 (lv_at hl 2 rfl) ?_
    refine lv_isub hx hb dX8_smooth_81 ?_
    refine lv_topi (fun v81 e81 => ?_)
    refine lv_imul hx hb dX8_smooth_82 ?_
    refine lv_topi (fun v82 e82 => ?_)
    refine lv_iadd hx hb dX8_smooth_83 ?_
    refine lv_topi (fun v83 e83 => ?_)
    have hPc := hP.sub (ws' := []) [] rfl
    have hDc := hD.sub (ws' := []) [] (by decide) rfl
    have hFc := va_free (wc := []) hD hS hA [] rfl
    refine va_calli (va_runS (As := [.int v83]) (rest := []) ⟨hx, hb, hml, hown, hts⟩ (c_X8_limit l D cI cJ cZ v83 (H).size) (cwS 1 hts (kg_S mk_279 mk_280 mk_189 mk_281) rfl rfl rfl (by decide +kernel) ⟨Nat.le_of_ble_eq_true rfl, Nat.le_of_ble_eq_true rfl⟩) ⟨fun a U g mk q => by obtain ⟨q0, q1, qP, qK, qD⟩ := q; exact ⟨q0, q1, qP, kK.call qK, qD⟩, fun U hU hW => ⟨rfl, by rw [hU], by rw [hU]; exact hPc, kK.warm hW hK, hDc.weaken (fun _ _ _ _ => trivial)⟩⟩ rfl rfl hl.1 rfl (lv_room (Nat.le_of_ble_eq_true rfl)) dX8_smooth_84 ⟨Nat.zero_le _, Nat.zero_le _⟩) hS (fun q _ h => hFc q h) hFc (fun r84 u t9 H1 locs ht9 hvm9 hw9 hB9 hz9 hk9 hS => ?_)
    obtain ⟨hP1, hD1⟩ := hB9
    rw [ht9] at hP1
    have hP1 : va_P D vwCl [] H1 := hP1
    obtain ⟨hP, hD⟩ := va_join (wr := [(hm, .inr (8, [.int mrf, .ref hby, .int msz, .int mbg, .long mbt, .int mrg, .int mct, .int mvl, .int mpl, .int mcl, .int mrw, .int mqt, .int mlv, .int mtl, .int mbe, .int mch, .ref hpb, .ref hwa, .ref hmn, .ref hcf, .ref hsa, .ref hro])), (hsa, .inl (cI, 256, .inl msa))]) (w1 := []) hP hD [] [0, 1] rfl rfl (by decide) (by decide) hk9 hFc hP1 hD1
    have hP := hP.sub (ws' := [(hm, .inr (8, [.int mrf, .ref hby, .int msz, .int mbg, .long mbt, .int mrg, .int mct, .int mvl, .int mpl, .int mcl, .int mrw, .int mqt, .int mlv, .int mtl, .int mbe, .int mch, .ref hpb, .ref hwa, .ref hmn, .ref hcf, .ref hsa, .ref hro])), (hsa, .inl (cI, 256, .inl msa))]) [0, 1] rfl
    have hD := hD.sub (ws' := [(hm, .inr (8, [.int mrf, .ref hby, .int msz, .int mbg, .long mbt, .int mrg, .int mct, .int mvl, .int mpl, .int mcl, .int mrw, .int mqt, .int mlv, .int mtl, .int mbe, .int mch, .ref hpb, .ref hwa, .ref hmn, .ref hcf, .ref hsa, .ref hro])), (hsa, .inl (cI, 256, .inl msa))]) [0, 1] (by decide) rfl
    generalize H1 = H at hP hS ⊢
    refine lv_istore (lv' := [(7, .int r84), (6, .int v36), (5, .int v26), (4, .int v18), (3, .int v9), (0, .ref hm), (1, .int fa), (2, .int 1)]) hx hb dX8_smooth_87 hl (by decide) rfl (fun ls hl => ?_)
    refine lv_iload hx hb dX8_smooth_89 (lv_at hl 0 rfl) ?_
    refine lv_iconst (v := 4) hx hb dX8_smooth_91 (by decide) ?_
    refine lv_iadd hx hb dX8_smooth_92 ?_
    refine lv_topi (fun v92 e92 => ?_)
    have hPc := hP.sub (ws' := []) [] rfl
    have hDc := hD.sub (ws' := []) [] (by decide) rfl
    have hFc := va_free (wc := []) hD hS hA [] rfl
    refine va_calli (va_runS (As := [.int v92]) (rest := []) ⟨hx, hb, hml, hown, hts⟩ (c_X8_limit l D cI cJ cZ v92 (H).size) (cwS 1 hts (kg_S mk_279 mk_280 mk_189 mk_281) rfl rfl rfl (by decide +kernel) ⟨Nat.le_of_ble_eq_true rfl, Nat.le_of_ble_eq_true rfl⟩) ⟨fun a U g mk q => by obtain ⟨q0, q1, qP, qK, qD⟩ := q; exact ⟨q0, q1, qP, kK.call qK, qD⟩, fun U hU hW => ⟨rfl, by rw [hU], by rw [hU]; exact hPc, kK.warm hW hK, hDc.weaken (fun _ _ _ _ => trivial)⟩⟩ rfl rfl hl.1 rfl (lv_room (Nat.le_of_ble_eq_true rfl)) dX8_smooth_93 ⟨Nat.zero_le _, Nat.zero_le _⟩) hS (fun q _ h => hFc q h) hFc (fun r93 u t9 H1 locs ht9 hvm9 hw9 hB9 hz9 hk9 hS => ?_)
    obtain ⟨hP1, hD1⟩ := hB9
    rw [ht9] at hP1
    have hP1 : va_P D vwCl [] H1 := hP1
    obtain ⟨hP, hD⟩ := va_join (wr := [(hm, .inr (8, [.int mrf, .ref hby, .int msz, .int mbg, .long mbt, .int mrg, .int mct, .int mvl, .int mpl, .int mcl, .int mrw, .int mqt, .int mlv, .int mtl, .int mbe, .int mch, .ref hpb, .ref hwa, .ref hmn, .ref hcf, .ref hsa, .ref hro])), (hsa, .inl (cI, 256, .inl msa))]) (w1 := []) hP hD [] [0, 1] rfl rfl (by decide) (by decide) hk9 hFc hP1 hD1
    have hP := hP.sub (ws' := [(hm, .inr (8, [.int mrf, .ref hby, .int msz, .int mbg, .long mbt, .int mrg, .int mct, .int mvl, .int mpl, .int mcl, .int mrw, .int mqt, .int mlv, .int mtl, .int mbe, .int mch, .ref hpb, .ref hwa, .ref hmn, .ref hcf, .ref hsa, .ref hro])), (hsa, .inl (cI, 256, .inl msa))]) [0, 1] rfl
    have hD := hD.sub (ws' := [(hm, .inr (8, [.int mrf, .ref hby, .int msz, .int mbg, .long mbt, .int mrg, .int mct, .int mvl, .int mpl, .int mcl, .int mrw, .int mqt, .int mlv, .int mtl, .int mbe, .int mch, .ref hpb, .ref hwa, .ref hmn, .ref hcf, .ref hsa, .ref hro])), (hsa, .inl (cI, 256, .inl msa))]) [0, 1] (by decide) rfl
    generalize H1 = H at hP hS ⊢
    refine lv_iconst (v := 3) hx hb dX8_smooth_96 (by decide) ?_
    refine lv_ishr hx hb dX8_smooth_97 ?_
    refine lv_topi (fun v97 e97 => ?_)
    refine lv_istore (lv' := [(8, .int v97), (7, .int r84), (6, .int v36), (5, .int v26), (4, .int v18), (3, .int v9), (0, .ref hm), (1, .int fa), (2, .int 1)]) hx hb dX8_smooth_98 hl (by decide) rfl (fun ls hl => ?_)
    refine lv_iload hx hb dX8_smooth_100 (lv_at hl 1 rfl) ?_
    refine lv_iconst (v := 3) hx hb dX8_smooth_102 (by decide) ?_
    refine lv_iadd hx hb dX8_smooth_103 ?_
    refine lv_topi (fun v103 e103 => ?_)
    have hPc := hP.sub (ws' := []) [] rfl
    have hDc := hD.sub (ws' := []) [] (by decide) rfl
    have hFc := va_free (wc := []) hD hS hA [] rfl
    refine va_calli (va_runS (As := [.int v103]) (rest := []) ⟨hx, hb, hml, hown, hts⟩ (c_X8_limit l D cI cJ cZ v103 (H).size) (cwS 1 hts (kg_S mk_279 mk_280 mk_189 mk_281) rfl rfl rfl (by decide +kernel) ⟨Nat.le_of_ble_eq_true rfl, Nat.le_of_ble_eq_true rfl⟩) ⟨fun a U g mk q => by obtain ⟨q0, q1, qP, qK, qD⟩ := q; exact ⟨q0, q1, qP, kK.call qK, qD⟩, fun U hU hW => ⟨rfl, by rw [hU], by rw [hU]; exact hPc, kK.warm hW hK, hDc.weaken (fun _ _ _ _ => trivial)⟩⟩ rfl rfl hl.1 rfl (lv_room (Nat.le_of_ble_eq_true rfl)) dX8_smooth_104 ⟨Nat.zero_le _, Nat.zero_le _⟩) hS (fun q _ h => hFc q h) hFc (fun r104 u t9 H1 locs ht9 hvm9 hw9 hB9 hz9 hk9 hS => ?_)
    obtain ⟨hP1, hD1⟩ := hB9
    rw [ht9] at hP1
    have hP1 : va_P D vwCl [] H1 := hP1
    obtain ⟨hP, hD⟩ := va_join (wr := [(hm, .inr (8, [.int mrf, .ref hby, .int msz, .int mbg, .long mbt, .int mrg, .int mct, .int mvl, .int mpl, .int mcl, .int mrw, .int mqt, .int mlv, .int mtl, .int mbe, .int mch, .ref hpb, .ref hwa, .ref hmn, .ref hcf, .ref hsa, .ref hro])), (hsa, .inl (cI, 256, .inl msa))]) (w1 := []) hP hD [] [0, 1] rfl rfl (by decide) (by decide) hk9 hFc hP1 hD1
    have hP := hP.sub (ws' := [(hm, .inr (8, [.int mrf, .ref hby, .int msz, .int mbg, .long mbt, .int mrg, .int mct, .int mvl, .int mpl, .int mcl, .int mrw, .int mqt, .int mlv, .int mtl, .int mbe, .int mch, .ref hpb, .ref hwa, .ref hmn, .ref hcf, .ref hsa, .ref hro])), (hsa, .inl (cI, 256, .inl msa))]) [0, 1] rfl
    have hD := hD.sub (ws' := [(hm, .inr (8, [.int mrf, .ref hby, .int msz, .int mbg, .long mbt, .int mrg, .int mct, .int mvl, .int mpl, .int mcl, .int mrw, .int mqt, .int mlv, .int mtl, .int mbe, .int mch, .ref hpb, .ref hwa, .ref hmn, .ref hcf, .ref hsa, .ref hro])), (hsa, .inl (cI, 256, .inl msa))]) [0, 1] (by decide) rfl
    generalize H1 = H at hP hS ⊢
    refine lv_iconst (v := 3) hx hb dX8_smooth_107 (by decide) ?_
    refine lv_ishr hx hb dX8_smooth_108 ?_
    refine lv_topi (fun v108 e108 => ?_)
    refine lv_istore (lv' := [(9, .int v108), (8, .int v97), (7, .int r84), (6, .int v36), (5, .int v26), (4, .int v18), (3, .int v9), (0, .ref hm), (1, .int fa), (2, .int 1)]) hx hb dX8_smooth_109 hl (by decide) rfl (fun ls hl => ?_)
    refine lv_aload_n hx hb dX8_smooth_111 rfl (lv_at hl 7 rfl) ?_
    refine va_get (D := D) (ci := 8) (v := .ref hsa) (C := RX8) (T := TX8) (N := 22) hx hb hts in_X8 hown hK.1 hP 0 rfl rfl 20 (by decide) (hts _ mk_258) (fun _ h9 => h9) rfl dX8_smooth_112 ?_
    refine lv_iload_n hx hb dX8_smooth_115 rfl (lv_at hl 8 rfl) ?_
    refine lv_iload hx hb dX8_smooth_116 (lv_at hl 4 rfl) ?_
    refine lv_sipush (v := 128) hx hb dX8_smooth_118 (by decide) ?_
    refine lv_isub hx hb dX8_smooth_121 ?_
    refine lv_topi (fun v121 e121 => ?_)
    refine lv_iload hx hb dX8_smooth_122 (lv_at hl 1 rfl) ?_
    refine lv_isub hx hb dX8_smooth_124 ?_
    refine lv_topi (fun v124 e124 => ?_)
    have hPc := hP.sub (ws' := []) [] rfl
    have hDc := hD.sub (ws' := []) [] (by decide) rfl
    have hFc := va_free (wc := []) hD hS hA [] rfl
    refine va_calli (va_runS (As := [.int v124]) (rest := [.int fa, .ref hsa]) ⟨hx, hb, hml, hown, hts⟩ (c_X8_limit l D cI cJ cZ v124 (H).size) (cwS 1 hts (kg_S mk_279 mk_280 mk_189 mk_281) rfl rfl rfl (by decide +kernel) ⟨Nat.le_of_ble_eq_true rfl, Nat.le_of_ble_eq_true rfl⟩) ⟨fun a U g mk q => by obtain ⟨q0, q1, qP, qK, qD⟩ := q; exact ⟨q0, q1, qP, kK.call qK, qD⟩, fun U hU hW => ⟨rfl, by rw [hU], by rw [hU]; exact hPc, kK.warm hW hK, hDc.weaken (fun _ _ _ _ => trivial)⟩⟩ rfl rfl hl.1 rfl (lv_room (Nat.le_of_ble_eq_true rfl)) dX8_smooth_125 ⟨Nat.zero_le _, Nat.zero_le _⟩) hS (fun q _ h => hFc q h) hFc (fun r125 u t9 H1 locs ht9 hvm9 hw9 hB9 hz9 hk9 hS => ?_)
    obtain ⟨hP1, hD1⟩ := hB9
    rw [ht9] at hP1
    have hP1 : va_P D vwCl [] H1 := hP1
    obtain ⟨hP, hD⟩ := va_join (wr := [(hm, .inr (8, [.int mrf, .ref hby, .int msz, .int mbg, .long mbt, .int mrg, .int mct, .int mvl, .int mpl, .int mcl, .int mrw, .int mqt, .int mlv, .int mtl, .int mbe, .int mch, .ref hpb, .ref hwa, .ref hmn, .ref hcf, .ref hsa, .ref hro])), (hsa, .inl (cI, 256, .inl msa))]) (w1 := []) hP hD [] [0, 1] rfl rfl (by decide) (by decide) hk9 hFc hP1 hD1
    have hP := hP.sub (ws' := [(hm, .inr (8, [.int mrf, .ref hby, .int msz, .int mbg, .long mbt, .int mrg, .int mct, .int mvl, .int mpl, .int mcl, .int mrw, .int mqt, .int mlv, .int mtl, .int mbe, .int mch, .ref hpb, .ref hwa, .ref hmn, .ref hcf, .ref hsa, .ref hro])), (hsa, .inl (cI, 256, .inl msa))]) [0, 1] rfl
    have hD := hD.sub (ws' := [(hm, .inr (8, [.int mrf, .ref hby, .int msz, .int mbg, .long mbt, .int mrg, .int mct, .int mvl, .int mpl, .int mcl, .int mrw, .int mqt, .int mlv, .int mtl, .int mbe, .int mch, .ref hpb, .ref hwa, .ref hmn, .ref hcf, .ref hsa, .ref hro])), (hsa, .inl (cI, 256, .inl msa))]) [0, 1] (by decide) rfl
    generalize H1 = H at hP hS ⊢
    refine lv_sipush (v := 128) hx hb dX8_smooth_128 (by decide) ?_
    refine lv_iadd hx hb dX8_smooth_131 ?_
    refine lv_topi (fun v131 e131 => ?_)
    refine va_iast hx hb hK.1 hP hD hS 1 0 rfl rfl (kB_in bfa (by decide)) dX8_smooth_132 (fun H locs hP hD hS => ?_)
    have hP : va_P D vwCl [(hm, .inr (8, [.int mrf, .ref hby, .int msz, .int mbg, .long mbt, .int mrg, .int mct, .int mvl, .int mpl, .int mcl, .int mrw, .int mqt, .int mlv, .int mtl, .int mbe, .int mch, .ref hpb, .ref hwa, .ref hmn, .ref hcf, .ref hsa, .ref hro])), (hsa, .inl (cI, 256, .inl (upd msa fa.toNatClampNeg v131)))] H := hP
    have hD : va_D A [(hm, .inr (8, [.int mrf, .ref hby, .int msz, .int mbg, .long mbt, .int mrg, .int mct, .int mvl, .int mpl, .int mcl, .int mrw, .int mqt, .int mlv, .int mtl, .int mbe, .int mch, .ref hpb, .ref hwa, .ref hmn, .ref hcf, .ref hsa, .ref hro])), (hsa, .inl (cI, 256, .inl (upd msa fa.toNatClampNeg v131)))] := hD
    generalize hf132 : upd msa fa.toNatClampNeg v131 = f132 at hP hD
    refine lv_aload_n hx hb dX8_smooth_133 rfl (lv_at hl 7 rfl) ?_
    refine va_get (D := D) (ci := 8) (v := .ref hsa) (C := RX8) (T := TX8) (N := 22) hx hb hts in_X8 hown hK.1 hP 0 rfl rfl 20 (by decide) (hts _ mk_258) (fun _ h9 => h9) rfl dX8_smooth_134 ?_
    refine lv_iload_n hx hb dX8_smooth_137 rfl (lv_at hl 8 rfl) ?_
    refine lv_iload_n hx hb dX8_smooth_138 rfl (lv_at hl 9 rfl) ?_
    refine lv_isub hx hb dX8_smooth_139 ?_
    refine lv_topi (fun v139 e139 => ?_)
    have b139 : kB v139 1 253 := kB_eq e139 (kB_sub bfa kc_1 (by decide))
    refine lv_iload hx hb dX8_smooth_140 (lv_at hl 5 rfl) ?_
    refine lv_sipush (v := 128) hx hb dX8_smooth_142 (by decide) ?_
    refine lv_isub hx hb dX8_smooth_145 ?_
    refine lv_topi (fun v145 e145 => ?_)
    refine lv_iload hx hb dX8_smooth_146 (lv_at hl 0 rfl) ?_
    refine lv_iadd hx hb dX8_smooth_148 ?_
    refine lv_topi (fun v148 e148 => ?_)
    have hPc := hP.sub (ws' := []) [] rfl
    have hDc := hD.sub (ws' := []) [] (by decide) rfl
    have hFc := va_free (wc := []) hD hS hA [] rfl
    refine va_calli (va_runS (As := [.int v148]) (rest := [.int v139, .ref hsa]) ⟨hx, hb, hml, hown, hts⟩ (c_X8_limit l D cI cJ cZ v148 (H).size) (cwS 1 hts (kg_S mk_279 mk_280 mk_189 mk_281) rfl rfl rfl (by decide +kernel) ⟨Nat.le_of_ble_eq_true rfl, Nat.le_of_ble_eq_true rfl⟩) ⟨fun a U g mk q => by obtain ⟨q0, q1, qP, qK, qD⟩ := q; exact ⟨q0, q1, qP, kK.call qK, qD⟩, fun U hU hW => ⟨rfl, by rw [hU], by rw [hU]; exact hPc, kK.warm hW hK, hDc.weaken (fun _ _ _ _ => trivial)⟩⟩ rfl rfl hl.1 rfl (lv_room (Nat.le_of_ble_eq_true rfl)) dX8_smooth_149 ⟨Nat.zero_le _, Nat.zero_le _⟩) hS (fun q _ h => hFc q h) hFc (fun r149 u t9 H1 locs ht9 hvm9 hw9 hB9 hz9 hk9 hS => ?_)
    obtain ⟨hP1, hD1⟩ := hB9
    rw [ht9] at hP1
    have hP1 : va_P D vwCl [] H1 := hP1
    obtain ⟨hP, hD⟩ := va_join (wr := [(hm, .inr (8, [.int mrf, .ref hby, .int msz, .int mbg, .long mbt, .int mrg, .int mct, .int mvl, .int mpl, .int mcl, .int mrw, .int mqt, .int mlv, .int mtl, .int mbe, .int mch, .ref hpb, .ref hwa, .ref hmn, .ref hcf, .ref hsa, .ref hro])), (hsa, .inl (cI, 256, .inl f132))]) (w1 := []) hP hD [] [0, 1] rfl rfl (by decide) (by decide) hk9 hFc hP1 hD1
    have hP := hP.sub (ws' := [(hm, .inr (8, [.int mrf, .ref hby, .int msz, .int mbg, .long mbt, .int mrg, .int mct, .int mvl, .int mpl, .int mcl, .int mrw, .int mqt, .int mlv, .int mtl, .int mbe, .int mch, .ref hpb, .ref hwa, .ref hmn, .ref hcf, .ref hsa, .ref hro])), (hsa, .inl (cI, 256, .inl f132))]) [0, 1] rfl
    have hD := hD.sub (ws' := [(hm, .inr (8, [.int mrf, .ref hby, .int msz, .int mbg, .long mbt, .int mrg, .int mct, .int mvl, .int mpl, .int mcl, .int mrw, .int mqt, .int mlv, .int mtl, .int mbe, .int mch, .ref hpb, .ref hwa, .ref hmn, .ref hcf, .ref hsa, .ref hro])), (hsa, .inl (cI, 256, .inl f132))]) [0, 1] (by decide) rfl
    generalize H1 = H at hP hS ⊢
    refine lv_sipush (v := 128) hx hb dX8_smooth_152 (by decide) ?_
    refine lv_iadd hx hb dX8_smooth_155 ?_
    refine lv_topi (fun v155 e155 => ?_)
    refine va_iast hx hb hK.1 hP hD hS 1 0 rfl rfl (kB_in b139 (by decide)) dX8_smooth_156 (fun H locs hP hD hS => ?_)
    have hP : va_P D vwCl [(hm, .inr (8, [.int mrf, .ref hby, .int msz, .int mbg, .long mbt, .int mrg, .int mct, .int mvl, .int mpl, .int mcl, .int mrw, .int mqt, .int mlv, .int mtl, .int mbe, .int mch, .ref hpb, .ref hwa, .ref hmn, .ref hcf, .ref hsa, .ref hro])), (hsa, .inl (cI, 256, .inl (upd f132 v139.toNatClampNeg v155)))] H := hP
    have hD : va_D A [(hm, .inr (8, [.int mrf, .ref hby, .int msz, .int mbg, .long mbt, .int mrg, .int mct, .int mvl, .int mpl, .int mcl, .int mrw, .int mqt, .int mlv, .int mtl, .int mbe, .int mch, .ref hpb, .ref hwa, .ref hmn, .ref hcf, .ref hsa, .ref hro])), (hsa, .inl (cI, 256, .inl (upd f132 v139.toNatClampNeg v155)))] := hD
    generalize hf156 : upd f132 v139.toNatClampNeg v155 = f156 at hP hD
    refine lv_aload_n hx hb dX8_smooth_157 rfl (lv_at hl 7 rfl) ?_
    refine va_get (D := D) (ci := 8) (v := .ref hsa) (C := RX8) (T := TX8) (N := 22) hx hb hts in_X8 hown hK.1 hP 0 rfl rfl 20 (by decide) (hts _ mk_258) (fun _ h9 => h9) rfl dX8_smooth_158 ?_
    refine lv_iload_n hx hb dX8_smooth_161 rfl (lv_at hl 8 rfl) ?_
    refine va_iald hx hb hK.1 hP 1 0 rfl rfl (kB_in bfa (by decide)) dX8_smooth_162 ?_
    refine lv_topi (fun v162 e162 => ?_)
    refine lv_iload hx hb dX8_smooth_163 (lv_at hl 4 rfl) ?_
    refine lv_icmp_ne (tgt := 181) hx hb dX8_smooth_165 (by decide) (fun c165 => ?_) (fun c165 => ?_)
    · refine lv_aload_n hx hb dX8_smooth_181 rfl (lv_at hl 7 rfl) ?_
      refine lv_dup hx hb dX8_smooth_182 rfl ?_
      refine va_get (D := D) (ci := 8) (v := .int mch) (C := RX8) (T := TX8) (N := 22) hx hb hts in_X8 hown hK.1 hP 0 rfl rfl 15 (by decide) (hts _ mk_282) (fun _ h9 => h9) rfl dX8_smooth_183 ?_
      refine lv_iconst (v := 1) hx hb dX8_smooth_186 (by decide) ?_
      refine lv_iadd hx hb dX8_smooth_187 ?_
      refine lv_topi (fun v187 e187 => ?_)
      refine va_put (D := D) (ci := 8) (v := .int v187) (ty := .int) (C := RX8) (T := TX8) (N := 22) hx hb hts in_X8 tyX8 tyX8_ok nmX8 hown hK.1 hP hD hS 0 rfl rfl 15 (by decide) (hts _ mk_282) (fun _ h9 => h9) rfl (by decide +kernel) rfl rfl (Nat.le_of_ble_eq_true rfl) dX8_smooth_188 (fun H locs hP hD hS => ?_)
      have hP : va_P D vwCl [(hm, .inr (8, [.int mrf, .ref hby, .int msz, .int mbg, .long mbt, .int mrg, .int mct, .int mvl, .int mpl, .int mcl, .int mrw, .int mqt, .int mlv, .int mtl, .int mbe, .int v187, .ref hpb, .ref hwa, .ref hmn, .ref hcf, .ref hsa, .ref hro])), (hsa, .inl (cI, 256, .inl f156))] H := hP
      have hD : va_D A [(hm, .inr (8, [.int mrf, .ref hby, .int msz, .int mbg, .long mbt, .int mrg, .int mct, .int mvl, .int mpl, .int mcl, .int mrw, .int mqt, .int mlv, .int mtl, .int mbe, .int v187, .ref hpb, .ref hwa, .ref hmn, .ref hcf, .ref hsa, .ref hro])), (hsa, .inl (cI, 256, .inl f156))] := hD
      exact W.vret hx hb hr (fun t9 ht9 hW9 => ⟨⟨(v187, f156), rfl, trivial, by rw [ht9]; exact hP, hD⟩, hS.F ht9⟩) hS.2.2 dX8_smooth_191
    · refine lv_aload_n hx hb dX8_smooth_168 rfl (lv_at hl 7 rfl) ?_
      refine va_get (D := D) (ci := 8) (v := .ref hsa) (C := RX8) (T := TX8) (N := 22) hx hb hts in_X8 hown hK.1 hP 0 rfl rfl 20 (by decide) (hts _ mk_258) (fun _ h9 => h9) rfl dX8_smooth_169 ?_
      refine lv_iload_n hx hb dX8_smooth_172 rfl (lv_at hl 8 rfl) ?_
      refine lv_iload_n hx hb dX8_smooth_173 rfl (lv_at hl 9 rfl) ?_
      refine lv_isub hx hb dX8_smooth_174 ?_
      refine lv_topi (fun v174 e174 => ?_)
      have b174 : kB v174 1 253 := kB_eq e174 (kB_sub bfa kc_1 (by decide))
      refine va_iald hx hb hK.1 hP 1 0 rfl rfl (kB_in b174 (by decide)) dX8_smooth_175 ?_
      refine lv_topi (fun v175 e175 => ?_)
      refine lv_iload hx hb dX8_smooth_176 (lv_at hl 5 rfl) ?_
      refine lv_icmp_eq (tgt := 191) hx hb dX8_smooth_178 (by decide) (fun c178 => ?_) (fun c178 => ?_)
      · exact W.vret hx hb hr (fun t9 ht9 hW9 => ⟨⟨(mch, f156), rfl, trivial, by rw [ht9]; exact hP, hD⟩, hS.F ht9⟩) hS.2.2 dX8_smooth_191
      · refine lv_aload_n hx hb dX8_smooth_181 rfl (lv_at hl 7 rfl) ?_
        refine lv_dup hx hb dX8_smooth_182 rfl ?_
        refine va_get (D := D) (ci := 8) (v := .int mch) (C := RX8) (T := TX8) (N := 22) hx hb hts in_X8 hown hK.1 hP 0 rfl rfl 15 (by decide) (hts _ mk_282) (fun _ h9 => h9) rfl dX8_smooth_183 ?_
        refine lv_iconst (v := 1) hx hb dX8_smooth_186 (by decide) ?_
        refine lv_iadd hx hb dX8_smooth_187 ?_
        refine lv_topi (fun v187 e187 => ?_)
        refine va_put (D := D) (ci := 8) (v := .int v187) (ty := .int) (C := RX8) (T := TX8) (N := 22) hx hb hts in_X8 tyX8 tyX8_ok nmX8 hown hK.1 hP hD hS 0 rfl rfl 15 (by decide) (hts _ mk_282) (fun _ h9 => h9) rfl (by decide +kernel) rfl rfl (Nat.le_of_ble_eq_true rfl) dX8_smooth_188 (fun H locs hP hD hS => ?_)
        have hP : va_P D vwCl [(hm, .inr (8, [.int mrf, .ref hby, .int msz, .int mbg, .long mbt, .int mrg, .int mct, .int mvl, .int mpl, .int mcl, .int mrw, .int mqt, .int mlv, .int mtl, .int mbe, .int v187, .ref hpb, .ref hwa, .ref hmn, .ref hcf, .ref hsa, .ref hro])), (hsa, .inl (cI, 256, .inl f156))] H := hP
        have hD : va_D A [(hm, .inr (8, [.int mrf, .ref hby, .int msz, .int mbg, .long mbt, .int mrg, .int mct, .int mvl, .int mpl, .int mcl, .int mrw, .int mqt, .int mlv, .int mtl, .int mbe, .int v187, .ref hpb, .ref hwa, .ref hmn, .ref hcf, .ref hsa, .ref hro])), (hsa, .inl (cI, 256, .inl f156))] := hD
        exact W.vret hx hb hr (fun t9 ht9 hW9 => ⟨⟨(v187, f156), rfl, trivial, by rw [ht9]; exact hP, hD⟩, hS.F ht9⟩) hS.2.2 dX8_smooth_191
  · have c65n : v64 < v56 := kN_le c65
    have c65na := kB_all v64
    have c65nb := kB_all v56
    have c65nx : kB v64 (-2147483648) 2147483646 := kB_lt_l c65na c65nb c65n (by decide)
    have c65ny : kB v56 (-2147483647) 2147483647 := kB_lt_r c65na c65nb c65n (by decide)
    exact W.vret hx hb hr (fun t9 ht9 hW9 => ⟨⟨(mch, msa), rfl, trivial, by rw [ht9]; exact hP, hD⟩, hS.F ht9⟩) hS.2.2 dX8_smooth_68
set_option maxHeartbeats 4000000 in
set_option maxRecDepth 100000 in
theorem c_X8_smooth_b (l : Launch) (D : va_G) (cI cJ cZ : ClassId) (hm hby hpb hwa hmn hcf hsa hro : Nat) (mrf : Int32) (msz : Int32) (mbg : Int32) (mrg : Int32) (mct : Int32) (mvl : Int32) (mpl : Int32) (mcl : Int32) (mrw : Int32) (mqt : Int32) (mlv : Int32) (mtl : Int32) (mbe : Int32) (mch : Int32) (mbt : Int64) (msa : Nat → Int32) (fa : Int32) (bfa : kB fa 32 239) (hpz : Nat) : Met l yX8_smooth kw_X8_smooth ({ frames := 1, cells := 0, slots := 0, locals := 21 }) (va_Pc [.ref hm, .int fa, .int 16] (fun U => U.heap.size = hpz ∧ va_P D vwCl [(hm, .inr (8, [.int mrf, .ref hby, .int msz, .int mbg, .long mbt, .int mrg, .int mct, .int mvl, .int mpl, .int mcl, .int mrw, .int mqt, .int mlv, .int mtl, .int mbe, .int mch, .ref hpb, .ref hwa, .ref hmn, .ref hcf, .ref hsa, .ref hro])), (hsa, .inl (cI, 256, .inl msa))] U.heap ∧ kK D cI cJ cZ U ∧ va_D (fun _ => True) [(hm, .inr (8, [.int mrf, .ref hby, .int msz, .int mbg, .long mbt, .int mrg, .int mct, .int mvl, .int mpl, .int mcl, .int mrw, .int mqt, .int mlv, .int mtl, .int mbe, .int mch, .ref hpb, .ref hwa, .ref hmn, .ref hcf, .ref hsa, .ref hro])), (hsa, .inl (cI, 256, .inl msa))])) (va_Qv (fun (u : Int32 × (Nat → Int32)) => True) (fun (u : Int32 × (Nat → Int32)) (t : State) => va_P D vwCl [(hm, .inr (8, [.int mrf, .ref hby, .int msz, .int mbg, .long mbt, .int mrg, .int mct, .int mvl, .int mpl, .int mcl, .int mrw, .int mqt, .int mlv, .int mtl, .int mbe, .int u.1, .ref hpb, .ref hwa, .ref hmn, .ref hcf, .ref hsa, .ref hro])), (hsa, .inl (cI, 256, .inl u.2))] t.heap ∧ va_D (va_A [(hm, .inr (8, [.int mrf, .ref hby, .int msz, .int mbg, .long mbt, .int mrg, .int mct, .int mvl, .int mpl, .int mcl, .int mrw, .int mqt, .int mlv, .int mtl, .int mbe, .int mch, .ref hpb, .ref hwa, .ref hmn, .ref hcf, .ref hsa, .ref hro])), (hsa, .inl (cI, 256, .inl msa))] hpz) [(hm, .inr (8, [.int mrf, .ref hby, .int msz, .int mbg, .long mbt, .int mrg, .int mct, .int mvl, .int mpl, .int mcl, .int mrw, .int mqt, .int mlv, .int mtl, .int mbe, .int u.1, .ref hpb, .ref hwa, .ref hmn, .ref hcf, .ref hsa, .ref hro])), (hsa, .inl (cI, 256, .inl u.2))]) (va_A [(hm, .inr (8, [.int mrf, .ref hby, .int msz, .int mbg, .long mbt, .int mrg, .int mct, .int mvl, .int mpl, .int mcl, .int mrw, .int mqt, .int mlv, .int mtl, .int mbe, .int mch, .ref hpb, .ref hwa, .ref hmn, .ref hcf, .ref hsa, .ref hro])), (hsa, .inl (cI, 256, .inl msa))] hpz)) 0 0 (va_A [(hm, .inr (8, [.int mrf, .ref hby, .int msz, .int mbg, .long mbt, .int mrg, .int mct, .int mvl, .int mpl, .int mcl, .int mrw, .int mqt, .int mlv, .int mtl, .int mbe, .int mch, .ref hpb, .ref hwa, .ref hmn, .ref hcf, .ref hsa, .ref hro])), (hsa, .inl (cI, 256, .inl msa))] hpz) := by
  refine Met.ofW (cc := cX8_smooth) (maxL := 10) (ret := none) (by decide) rfl ?_
  intro p e s m args below meth c s₁ B hml hv
  obtain ⟨rfl, hsz, hP, hK, hD0⟩ := hv
  have hx := B.exec
  have hb := B.bytes
  have hr := B.returns
  have hts := fun (w : Cond) (h : w ∈ kW) => atoms_spec (ws := kw_X8_smooth) B.pre w (List.mem_cons_of_mem _ h)
  have hown : s.vm.findClass RX8 = some m.cls := findClass_of_methodNamed B.named
  have hlocks := B.notSynchronized
  subst hsz
  have hD := hD0.self (sz := s.heap.size)
  generalize hAe : va_A [(hm, .inr (8, [.int mrf, .ref hby, .int msz, .int mbg, .long mbt, .int mrg, .int mct, .int mvl, .int mpl, .int mcl, .int mrw, .int mqt, .int mlv, .int mtl, .int mbe, .int mch, .ref hpb, .ref hwa, .ref hmn, .ref hcf, .ref hsa, .ref hro])), (hsa, .inl (cI, 256, .inl msa))] s.heap.size = A at hD ⊢
  have hA : ∀ q : Nat, s.heap.size ≤ q → A q := fun q h => by rw [← hAe]; exact Or.inr h
  have hS : va_S A s.heap s.heap [] := va_S.rf
  have hP : va_P D vwCl [(hm, .inr (8, [.int mrf, .ref hby, .int msz, .int mbg, .long mbt, .int mrg, .int mct, .int mvl, .int mpl, .int mcl, .int mrw, .int mqt, .int mlv, .int mtl, .int mbe, .int mch, .ref hpb, .ref hwa, .ref hmn, .ref hcf, .ref hsa, .ref hro])), (hsa, .inl (cI, 256, .inl msa))] s.heap := hP
  have hl := lv_entry ([.ref hm, .int fa, .int 16]) (n := 10) (Nat.le_of_ble_eq_true rfl)
  rw [lg_entry_eq]
  generalize (lg_sl ([.ref hm, .int fa, .int 16]) ++ List.replicate (10 - (lg_sl ([.ref hm, .int fa, .int 16])).length) Slot.unset).toArray = ls at hl ⊢
  have hl : lv_has ls 10 [(0, .ref hm), (1, .int fa), (2, .int 16)] := hl
  refine lv_aload_n hx hb dX8_smooth_0 rfl (lv_at hl 0 rfl) ?_
  refine va_get (D := D) (ci := 8) (v := .ref hsa) (C := RX8) (T := TX8) (N := 22) hx hb hts in_X8 hown hK.1 hP 0 rfl rfl 20 (by decide) (hts _ mk_258) (fun _ h9 => h9) rfl dX8_smooth_1 ?_
  refine lv_iload_n hx hb dX8_smooth_4 rfl (lv_at hl 1 rfl) ?_
  refine lv_iconst (v := 2) hx hb dX8_smooth_5 (by decide) ?_
  refine lv_iload_n hx hb dX8_smooth_6 rfl (lv_at hl 2 rfl) ?_
  refine lv_imul hx hb dX8_smooth_7 ?_
  refine lv_topi (fun v7 e7 => ?_)
  have b7 : kB v7 32 32 := kB_eq e7 (kB_mulc kc_2 kc_16 (by decide))
  refine lv_isub hx hb dX8_smooth_8 ?_
  refine lv_topi (fun v8 e8 => ?_)
  have b8 : kB v8 0 207 := kB_eq e8 (kB_sub bfa b7 (by decide))
  refine va_iald hx hb hK.1 hP 1 0 rfl rfl (kB_in b8 (by decide)) dX8_smooth_9 ?_
  refine lv_topi (fun v9 e9 => ?_)
  refine lv_istore_n (lv' := [(3, .int v9), (0, .ref hm), (1, .int fa), (2, .int 16)]) hx hb dX8_smooth_10 rfl hl (by decide) rfl (fun ls hl => ?_)
  refine lv_aload_n hx hb dX8_smooth_11 rfl (lv_at hl 1 rfl) ?_
  refine va_get (D := D) (ci := 8) (v := .ref hsa) (C := RX8) (T := TX8) (N := 22) hx hb hts in_X8 hown hK.1 hP 0 rfl rfl 20 (by decide) (hts _ mk_258) (fun _ h9 => h9) rfl dX8_smooth_12 ?_
  refine lv_iload_n hx hb dX8_smooth_15 rfl (lv_at hl 2 rfl) ?_
  refine lv_iload_n hx hb dX8_smooth_16 rfl (lv_at hl 3 rfl) ?_
  refine lv_isub hx hb dX8_smooth_17 ?_
  refine lv_topi (fun v17 e17 => ?_)
  have b17 : kB v17 16 223 := kB_eq e17 (kB_sub bfa kc_16 (by decide))
  refine va_iald hx hb hK.1 hP 1 0 rfl rfl (kB_in b17 (by decide)) dX8_smooth_18 ?_
  refine lv_topi (fun v18 e18 => ?_)
  refine lv_istore (lv' := [(4, .int v18), (3, .int v9), (0, .ref hm), (1, .int fa), (2, .int 16)]) hx hb dX8_smooth_19 hl (by decide) rfl (fun ls hl => ?_)
  refine lv_aload_n hx hb dX8_smooth_21 rfl (lv_at hl 2 rfl) ?_
  refine va_get (D := D) (ci := 8) (v := .ref hsa) (C := RX8) (T := TX8) (N := 22) hx hb hts in_X8 hown hK.1 hP 0 rfl rfl 20 (by decide) (hts _ mk_258) (fun _ h9 => h9) rfl dX8_smooth_22 ?_
  refine lv_iload_n hx hb dX8_smooth_25 rfl (lv_at hl 3 rfl) ?_
  refine va_iald hx hb hK.1 hP 1 0 rfl rfl (kB_in bfa (by decide)) dX8_smooth_26 ?_
  refine lv_topi (fun v26 e26 => ?_)
  refine lv_istore (lv' := [(5, .int v26), (4, .int v18), (3, .int v9), (0, .ref hm), (1, .int fa), (2, .int 16)]) hx hb dX8_smooth_27 hl (by decide) rfl (fun ls hl => ?_)
  refine lv_aload_n hx hb dX8_smooth_29 rfl (lv_at hl 3 rfl) ?_
  refine va_get (D := D) (ci := 8) (v := .ref hsa) (C := RX8) (T := TX8) (N := 22) hx hb hts in_X8 hown hK.1 hP 0 rfl rfl 20 (by decide) (hts _ mk_258) (fun _ h9 => h9) rfl dX8_smooth_30 ?_
  refine lv_iload_n hx hb dX8_smooth_33 rfl (lv_at hl 4 rfl) ?_
  refine lv_iload_n hx hb dX8_smooth_34 rfl (lv_at hl 5 rfl) ?_
  refine lv_iadd hx hb dX8_smooth_35 ?_
  refine lv_topi (fun v35 e35 => ?_)
  have b35 : kB v35 48 255 := kB_eq e35 (kB_add bfa kc_16 (by decide))
  refine va_iald hx hb hK.1 hP 1 0 rfl rfl (kB_in b35 (by decide)) dX8_smooth_36 ?_
  refine lv_topi (fun v36 e36 => ?_)
  refine lv_istore (lv' := [(6, .int v36), (5, .int v26), (4, .int v18), (3, .int v9), (0, .ref hm), (1, .int fa), (2, .int 16)]) hx hb dX8_smooth_37 hl (by decide) rfl (fun ls hl => ?_)
  refine lv_iconst (v := 2) hx hb dX8_smooth_39 (by decide) ?_
  refine lv_iload hx hb dX8_smooth_40 (lv_at hl 2 rfl) ?_
  refine lv_iload hx hb dX8_smooth_42 (lv_at hl 1 rfl) ?_
  have hPc := hP.sub (ws' := []) [] rfl
  have hDc := hD.sub (ws' := []) [] (by decide) rfl
  have hFc := va_free (wc := []) hD hS hA [] rfl
  refine va_calli (va_runS (As := [.int v18, .int v26]) (rest := [.int 2]) ⟨hx, hb, hml, hown, hts⟩ (c_X8_apart l D cI cJ cZ v18 v26 (s.heap).size) (cwS 2 hts (kg_S mk_275 mk_276 mk_189 mk_277) rfl rfl rfl (by decide +kernel) ⟨Nat.le_of_ble_eq_true rfl, Nat.le_of_ble_eq_true rfl⟩) ⟨fun a U g mk q => by obtain ⟨q0, q1, qP, qK, qD⟩ := q; exact ⟨q0, q1, qP, kK.call qK, qD⟩, fun U hU hW => ⟨rfl, by rw [hU], by rw [hU]; exact hPc, kK.warm hW hK, hDc.weaken (fun _ _ _ _ => trivial)⟩⟩ rfl rfl hl.1 rfl (lv_room (Nat.le_of_ble_eq_true rfl)) dX8_smooth_44 ⟨Nat.zero_le _, Nat.zero_le _⟩) hS (fun q _ h => hFc q h) hFc (fun r44 u t9 H1 locs ht9 hvm9 hw9 hB9 hz9 hk9 hS => ?_)
  obtain ⟨hP1, hD1⟩ := hB9
  rw [ht9] at hP1
  have hP1 : va_P D vwCl [] H1 := hP1
  obtain ⟨hP, hD⟩ := va_join (wr := [(hm, .inr (8, [.int mrf, .ref hby, .int msz, .int mbg, .long mbt, .int mrg, .int mct, .int mvl, .int mpl, .int mcl, .int mrw, .int mqt, .int mlv, .int mtl, .int mbe, .int mch, .ref hpb, .ref hwa, .ref hmn, .ref hcf, .ref hsa, .ref hro])), (hsa, .inl (cI, 256, .inl msa))]) (w1 := []) hP hD [] [0, 1] rfl rfl (by decide) (by decide) hk9 hFc hP1 hD1
  have hP := hP.sub (ws' := [(hm, .inr (8, [.int mrf, .ref hby, .int msz, .int mbg, .long mbt, .int mrg, .int mct, .int mvl, .int mpl, .int mcl, .int mrw, .int mqt, .int mlv, .int mtl, .int mbe, .int mch, .ref hpb, .ref hwa, .ref hmn, .ref hcf, .ref hsa, .ref hro])), (hsa, .inl (cI, 256, .inl msa))]) [0, 1] rfl
  have hD := hD.sub (ws' := [(hm, .inr (8, [.int mrf, .ref hby, .int msz, .int mbg, .long mbt, .int mrg, .int mct, .int mvl, .int mpl, .int mcl, .int mrw, .int mqt, .int mlv, .int mtl, .int mbe, .int mch, .ref hpb, .ref hwa, .ref hmn, .ref hcf, .ref hsa, .ref hro])), (hsa, .inl (cI, 256, .inl msa))]) [0, 1] (by decide) rfl
  generalize H1 = H at hP hS ⊢
  refine lv_imul hx hb dX8_smooth_47 ?_
  refine lv_topi (fun v47 e47 => ?_)
  refine lv_iload_n hx hb dX8_smooth_48 rfl (lv_at hl 3 rfl) ?_
  refine lv_iload hx hb dX8_smooth_49 (lv_at hl 0 rfl) ?_
  have hPc := hP.sub (ws' := []) [] rfl
  have hDc := hD.sub (ws' := []) [] (by decide) rfl
  have hFc := va_free (wc := []) hD hS hA [] rfl
  refine va_calli (va_runS (As := [.int v9, .int v36]) (rest := [.int v47]) ⟨hx, hb, hml, hown, hts⟩ (c_X8_apart l D cI cJ cZ v9 v36 (H).size) (cwS 2 hts (kg_S mk_275 mk_276 mk_189 mk_277) rfl rfl rfl (by decide +kernel) ⟨Nat.le_of_ble_eq_true rfl, Nat.le_of_ble_eq_true rfl⟩) ⟨fun a U g mk q => by obtain ⟨q0, q1, qP, qK, qD⟩ := q; exact ⟨q0, q1, qP, kK.call qK, qD⟩, fun U hU hW => ⟨rfl, by rw [hU], by rw [hU]; exact hPc, kK.warm hW hK, hDc.weaken (fun _ _ _ _ => trivial)⟩⟩ rfl rfl hl.1 rfl (lv_room (Nat.le_of_ble_eq_true rfl)) dX8_smooth_51 ⟨Nat.zero_le _, Nat.zero_le _⟩) hS (fun q _ h => hFc q h) hFc (fun r51 u t9 H1 locs ht9 hvm9 hw9 hB9 hz9 hk9 hS => ?_)
  obtain ⟨hP1, hD1⟩ := hB9
  rw [ht9] at hP1
  have hP1 : va_P D vwCl [] H1 := hP1
  obtain ⟨hP, hD⟩ := va_join (wr := [(hm, .inr (8, [.int mrf, .ref hby, .int msz, .int mbg, .long mbt, .int mrg, .int mct, .int mvl, .int mpl, .int mcl, .int mrw, .int mqt, .int mlv, .int mtl, .int mbe, .int mch, .ref hpb, .ref hwa, .ref hmn, .ref hcf, .ref hsa, .ref hro])), (hsa, .inl (cI, 256, .inl msa))]) (w1 := []) hP hD [] [0, 1] rfl rfl (by decide) (by decide) hk9 hFc hP1 hD1
  have hP := hP.sub (ws' := [(hm, .inr (8, [.int mrf, .ref hby, .int msz, .int mbg, .long mbt, .int mrg, .int mct, .int mvl, .int mpl, .int mcl, .int mrw, .int mqt, .int mlv, .int mtl, .int mbe, .int mch, .ref hpb, .ref hwa, .ref hmn, .ref hcf, .ref hsa, .ref hro])), (hsa, .inl (cI, 256, .inl msa))]) [0, 1] rfl
  have hD := hD.sub (ws' := [(hm, .inr (8, [.int mrf, .ref hby, .int msz, .int mbg, .long mbt, .int mrg, .int mct, .int mvl, .int mpl, .int mcl, .int mrw, .int mqt, .int mlv, .int mtl, .int mbe, .int mch, .ref hpb, .ref hwa, .ref hmn, .ref hcf, .ref hsa, .ref hro])), (hsa, .inl (cI, 256, .inl msa))]) [0, 1] (by decide) rfl
  generalize H1 = H at hP hS ⊢
  refine lv_iconst (v := 2) hx hb dX8_smooth_54 (by decide) ?_
  refine lv_idiv hx hb dX8_smooth_55 (kB_ne0 kc_2 (Or.inl (by decide))) ?_
  refine lv_topi (fun v55 e55 => ?_)
  refine lv_iadd hx hb dX8_smooth_56 ?_
  refine lv_topi (fun v56 e56 => ?_)
  refine lv_iconst (v := 2) hx hb dX8_smooth_57 (by decide) ?_
  refine lv_aload_n hx hb dX8_smooth_58 rfl (lv_at hl 4 rfl) ?_
  refine va_get (D := D) (ci := 8) (v := .int mlv) (C := RX8) (T := TX8) (N := 22) hx hb hts in_X8 hown hK.1 hP 0 rfl rfl 12 (by decide) (hts _ mk_278) (fun _ h9 => h9) rfl dX8_smooth_59 ?_
  refine lv_imul hx hb dX8_smooth_62 ?_
  refine lv_topi (fun v62 e62 => ?_)
  refine lv_iconst (v := 4) hx hb dX8_smooth_63 (by decide) ?_
  refine lv_iadd hx hb dX8_smooth_64 ?_
  refine lv_topi (fun v64 e64 => ?_)
  refine lv_icmp_le (tgt := 69) hx hb dX8_smooth_65 (by decide) (fun c65 => ?_) (fun c65 => ?_)
  · have c65a := kB_all v56
    have c65b := kB_all v64
    have c65x : kB v56 (-2147483648) 2147483647 := kB_le_l c65a c65b c65 (by decide)
    have c65y : kB v64 (-2147483648) 2147483647 := kB_le_r c65a c65b c65 (by decide)
    refine lv_iload_n hx hb dX8_smooth_69 rfl (lv_at hl 3 rfl) ?_
    refine lv_iload hx hb dX8_smooth_70 (lv_at hl 0 rfl) ?_
    refine lv_isub hx hb dX8_smooth_72 ?_
    refine lv_topi (fun v72 e72 => ?_)
    have hPc := hP.sub (ws' := []) [] rfl
    have hDc := hD.sub (ws' := []) [] (by decide) rfl
    have hFc := va_free (wc := []) hD hS hA [] rfl
    refine va_calli (va_runS (As := [.int v72]) (rest := []) ⟨hx, hb, hml, hown, hts⟩ (c_X8_limit l D cI cJ cZ v72 (H).size) (cwS 1 hts (kg_S mk_279 mk_280 mk_189 mk_281) rfl rfl rfl (by decide +kernel) ⟨Nat.le_of_ble_eq_true rfl, Nat.le_of_ble_eq_true rfl⟩) ⟨fun a U g mk q => by obtain ⟨q0, q1, qP, qK, qD⟩ := q; exact ⟨q0, q1, qP, kK.call qK, qD⟩, fun U hU hW => ⟨rfl, by rw [hU], by rw [hU]; exact hPc, kK.warm hW hK, hDc.weaken (fun _ _ _ _ => trivial)⟩⟩ rfl rfl hl.1 rfl (lv_room (Nat.le_of_ble_eq_true rfl)) dX8_smooth_73 ⟨Nat.zero_le _, Nat.zero_le _⟩) hS (fun q _ h => hFc q h) hFc (fun r73 u t9 H1 locs ht9 hvm9 hw9 hB9 hz9 hk9 hS => ?_)
    obtain ⟨hP1, hD1⟩ := hB9
    rw [ht9] at hP1
    have hP1 : va_P D vwCl [] H1 := hP1
    obtain ⟨hP, hD⟩ := va_join (wr := [(hm, .inr (8, [.int mrf, .ref hby, .int msz, .int mbg, .long mbt, .int mrg, .int mct, .int mvl, .int mpl, .int mcl, .int mrw, .int mqt, .int mlv, .int mtl, .int mbe, .int mch, .ref hpb, .ref hwa, .ref hmn, .ref hcf, .ref hsa, .ref hro])), (hsa, .inl (cI, 256, .inl msa))]) (w1 := []) hP hD [] [0, 1] rfl rfl (by decide) (by decide) hk9 hFc hP1 hD1
    have hP := hP.sub (ws' := [(hm, .inr (8, [.int mrf, .ref hby, .int msz, .int mbg, .long mbt, .int mrg, .int mct, .int mvl, .int mpl, .int mcl, .int mrw, .int mqt, .int mlv, .int mtl, .int mbe, .int mch, .ref hpb, .ref hwa, .ref hmn, .ref hcf, .ref hsa, .ref hro])), (hsa, .inl (cI, 256, .inl msa))]) [0, 1] rfl
    have hD := hD.sub (ws' := [(hm, .inr (8, [.int mrf, .ref hby, .int msz, .int mbg, .long mbt, .int mrg, .int mct, .int mvl, .int mpl, .int mcl, .int mrw, .int mqt, .int mlv, .int mtl, .int mbe, .int mch, .ref hpb, .ref hwa, .ref hmn, .ref hcf, .ref hsa, .ref hro])), (hsa, .inl (cI, 256, .inl msa))]) [0, 1] (by decide) rfl
    generalize H1 = H at hP hS ⊢
    refine lv_iconst (v := 3) hx hb dX8_smooth_76 (by decide) ?_
    refine lv_iload hx hb dX8_smooth_77 (lv_at hl 1 rfl) ?_
    refine lv_iload hx hb dX8_smooth_79 (lv_at hl 2 rfl) ?_
    refine lv_isub hx hb dX8_smooth_81 ?_
    refine lv_topi (fun v81 e81 => ?_)
    refine lv_imul hx hb dX8_smooth_82 ?_
    refine lv_topi (fun v82 e82 => ?_)
    refine lv_iadd hx hb dX8_smooth_83 ?_
    refine lv_topi (fun v83 e83 => ?_)
    have hPc := hP.sub (ws' := []) [] rfl
    have hDc := hD.sub (ws' := []) [] (by decide) rfl
    have hFc := va_free (wc := []) hD hS hA [] rfl
    refine va_calli (va_runS (As := [.int v83]) (rest := []) ⟨hx, hb, hml, hown, hts⟩ (c_X8_limit l D cI cJ cZ v83 (H).size) (cwS 1 hts (kg_S mk_279 mk_280 mk_189 mk_281) rfl rfl rfl (by decide +kernel) ⟨Nat.le_of_ble_eq_true rfl, Nat.le_of_ble_eq_true rfl⟩) ⟨fun a U g mk q => by obtain ⟨q0, q1, qP, qK, qD⟩ := q; exact ⟨q0, q1, qP, kK.call qK, qD⟩, fun U hU hW => ⟨rfl, by rw [hU], by rw [hU]; exact hPc, kK.warm hW hK, hDc.weaken (fun _ _ _ _ => trivial)⟩⟩ rfl rfl hl.1 rfl (lv_room (Nat.le_of_ble_eq_true rfl)) dX8_smooth_84 ⟨Nat.zero_le _, Nat.zero_le _⟩) hS (fun q _ h => hFc q h) hFc (fun r84 u t9 H1 locs ht9 hvm9 hw9 hB9 hz9 hk9 hS => ?_)
    obtain ⟨hP1, hD1⟩ := hB9
    rw [ht9] at hP1
    have hP1 : va_P D vwCl [] H1 := hP1
    obtain ⟨hP, hD⟩ := va_join (wr := [(hm, .inr (8, [.int mrf, .ref hby, .int msz, .int mbg, .long mbt, .int mrg, .int mct, .int mvl, .int mpl, .int mcl, .int mrw, .int mqt, .int mlv, .int mtl, .int mbe, .int mch, .ref hpb, .ref hwa, .ref hmn, .ref hcf, .ref hsa, .ref hro])), (hsa, .inl (cI, 256, .inl msa))]) (w1 := []) hP hD [] [0, 1] rfl rfl (by decide) (by decide) hk9 hFc hP1 hD1
    have hP := hP.sub (ws' := [(hm, .inr (8, [.int mrf, .ref hby, .int msz, .int mbg, .long mbt, .int mrg, .int mct, .int mvl, .int mpl, .int mcl, .int mrw, .int mqt, .int mlv, .int mtl, .int mbe, .int mch, .ref hpb, .ref hwa, .ref hmn, .ref hcf, .ref hsa, .ref hro])), (hsa, .inl (cI, 256, .inl msa))]) [0, 1] rfl
    have hD := hD.sub (ws' := [(hm, .inr (8, [.int mrf, .ref hby, .int msz, .int mbg, .long mbt, .int mrg, .int mct, .int mvl, .int mpl, .int mcl, .int mrw, .int mqt, .int mlv, .int mtl, .int mbe, .int mch, .ref hpb, .ref hwa, .ref hmn, .ref hcf, .ref hsa, .ref hro])), (hsa, .inl (cI, 256, .inl msa))]) [0, 1] (by decide) rfl
    generalize H1 = H at hP hS ⊢
    refine lv_istore (lv' := [(7, .int r84), (6, .int v36), (5, .int v26), (4, .int v18), (3, .int v9), (0, .ref hm), (1, .int fa), (2, .int 16)]) hx hb dX8_smooth_87 hl (by decide) rfl (fun ls hl => ?_)
    refine lv_iload hx hb dX8_smooth_89 (lv_at hl 0 rfl) ?_
    refine lv_iconst (v := 4) hx hb dX8_smooth_91 (by decide) ?_
    refine lv_iadd hx hb dX8_smooth_92 ?_
    refine lv_topi (fun v92 e92 => ?_)
    have hPc := hP.sub (ws' := []) [] rfl
    have hDc := hD.sub (ws' := []) [] (by decide) rfl
    have hFc := va_free (wc := []) hD hS hA [] rfl
    refine va_calli (va_runS (As := [.int v92]) (rest := []) ⟨hx, hb, hml, hown, hts⟩ (c_X8_limit l D cI cJ cZ v92 (H).size) (cwS 1 hts (kg_S mk_279 mk_280 mk_189 mk_281) rfl rfl rfl (by decide +kernel) ⟨Nat.le_of_ble_eq_true rfl, Nat.le_of_ble_eq_true rfl⟩) ⟨fun a U g mk q => by obtain ⟨q0, q1, qP, qK, qD⟩ := q; exact ⟨q0, q1, qP, kK.call qK, qD⟩, fun U hU hW => ⟨rfl, by rw [hU], by rw [hU]; exact hPc, kK.warm hW hK, hDc.weaken (fun _ _ _ _ => trivial)⟩⟩ rfl rfl hl.1 rfl (lv_room (Nat.le_of_ble_eq_true rfl)) dX8_smooth_93 ⟨Nat.zero_le _, Nat.zero_le _⟩) hS (fun q _ h => hFc q h) hFc (fun r93 u t9 H1 locs ht9 hvm9 hw9 hB9 hz9 hk9 hS => ?_)
    obtain ⟨hP1, hD1⟩ := hB9
    rw [ht9] at hP1
    have hP1 : va_P D vwCl [] H1 := hP1
    obtain ⟨hP, hD⟩ := va_join (wr := [(hm, .inr (8, [.int mrf, .ref hby, .int msz, .int mbg, .long mbt, .int mrg, .int mct, .int mvl, .int mpl, .int mcl, .int mrw, .int mqt, .int mlv, .int mtl, .int mbe, .int mch, .ref hpb, .ref hwa, .ref hmn, .ref hcf, .ref hsa, .ref hro])), (hsa, .inl (cI, 256, .inl msa))]) (w1 := []) hP hD [] [0, 1] rfl rfl (by decide) (by decide) hk9 hFc hP1 hD1
    have hP := hP.sub (ws' := [(hm, .inr (8, [.int mrf, .ref hby, .int msz, .int mbg, .long mbt, .int mrg, .int mct, .int mvl, .int mpl, .int mcl, .int mrw, .int mqt, .int mlv, .int mtl, .int mbe, .int mch, .ref hpb, .ref hwa, .ref hmn, .ref hcf, .ref hsa, .ref hro])), (hsa, .inl (cI, 256, .inl msa))]) [0, 1] rfl
    have hD := hD.sub (ws' := [(hm, .inr (8, [.int mrf, .ref hby, .int msz, .int mbg, .long mbt, .int mrg, .int mct, .int mvl, .int mpl, .int mcl, .int mrw, .int mqt, .int mlv, .int mtl, .int mbe, .int mch, .ref hpb, .ref hwa, .ref hmn, .ref hcf, .ref hsa, .ref hro])), (hsa, .inl (cI, 256, .inl msa))]) [0, 1] (by decide) rfl
    generalize H1 = H at hP hS ⊢
    refine lv_iconst (v := 3) hx hb dX8_smooth_96 (by decide) ?_
    refine lv_ishr hx hb dX8_smooth_97 ?_
    refine lv_topi (fun v97 e97 => ?_)
    refine lv_istore (lv' := [(8, .int v97), (7, .int r84), (6, .int v36), (5, .int v26), (4, .int v18), (3, .int v9), (0, .ref hm), (1, .int fa), (2, .int 16)]) hx hb dX8_smooth_98 hl (by decide) rfl (fun ls hl => ?_)
    refine lv_iload hx hb dX8_smooth_100 (lv_at hl 1 rfl) ?_
    refine lv_iconst (v := 3) hx hb dX8_smooth_102 (by decide) ?_
    refine lv_iadd hx hb dX8_smooth_103 ?_
    refine lv_topi (fun v103 e103 => ?_)
    have hPc := hP.sub (ws' := []) [] rfl
    have hDc := hD.sub (ws' := []) [] (by decide) rfl
    have hFc := va_free (wc := []) hD hS hA [] rfl
    refine va_calli (va_runS (As := [.int v103]) (rest := []) ⟨hx, hb, hml, hown, hts⟩ (c_X8_limit l D cI cJ cZ v103 (H).size) (cwS 1 hts (kg_S mk_279 mk_280 mk_189 mk_281) rfl rfl rfl (by decide +kernel) ⟨Nat.le_of_ble_eq_true rfl, Nat.le_of_ble_eq_true rfl⟩) ⟨fun a U g mk q => by obtain ⟨q0, q1, qP, qK, qD⟩ := q; exact ⟨q0, q1, qP, kK.call qK, qD⟩, fun U hU hW => ⟨rfl, by rw [hU], by rw [hU]; exact hPc, kK.warm hW hK, hDc.weaken (fun _ _ _ _ => trivial)⟩⟩ rfl rfl hl.1 rfl (lv_room (Nat.le_of_ble_eq_true rfl)) dX8_smooth_104 ⟨Nat.zero_le _, Nat.zero_le _⟩) hS (fun q _ h => hFc q h) hFc (fun r104 u t9 H1 locs ht9 hvm9 hw9 hB9 hz9 hk9 hS => ?_)
    obtain ⟨hP1, hD1⟩ := hB9
    rw [ht9] at hP1
    have hP1 : va_P D vwCl [] H1 := hP1
    obtain ⟨hP, hD⟩ := va_join (wr := [(hm, .inr (8, [.int mrf, .ref hby, .int msz, .int mbg, .long mbt, .int mrg, .int mct, .int mvl, .int mpl, .int mcl, .int mrw, .int mqt, .int mlv, .int mtl, .int mbe, .int mch, .ref hpb, .ref hwa, .ref hmn, .ref hcf, .ref hsa, .ref hro])), (hsa, .inl (cI, 256, .inl msa))]) (w1 := []) hP hD [] [0, 1] rfl rfl (by decide) (by decide) hk9 hFc hP1 hD1
    have hP := hP.sub (ws' := [(hm, .inr (8, [.int mrf, .ref hby, .int msz, .int mbg, .long mbt, .int mrg, .int mct, .int mvl, .int mpl, .int mcl, .int mrw, .int mqt, .int mlv, .int mtl, .int mbe, .int mch, .ref hpb, .ref hwa, .ref hmn, .ref hcf, .ref hsa, .ref hro])), (hsa, .inl (cI, 256, .inl msa))]) [0, 1] rfl
    have hD := hD.sub (ws' := [(hm, .inr (8, [.int mrf, .ref hby, .int msz, .int mbg, .long mbt, .int mrg, .int mct, .int mvl, .int mpl, .int mcl, .int mrw, .int mqt, .int mlv, .int mtl, .int mbe, .int mch, .ref hpb, .ref hwa, .ref hmn, .ref hcf, .ref hsa, .ref hro])), (hsa, .inl (cI, 256, .inl msa))]) [0, 1] (by decide) rfl
    generalize H1 = H at hP hS ⊢
    refine lv_iconst (v := 3) hx hb dX8_smooth_107 (by decide) ?_
    refine lv_ishr hx hb dX8_smooth_108 ?_
    refine lv_topi (fun v108 e108 => ?_)
    refine lv_istore (lv' := [(9, .int v108), (8, .int v97), (7, .int r84), (6, .int v36), (5, .int v26), (4, .int v18), (3, .int v9), (0, .ref hm), (1, .int fa), (2, .int 16)]) hx hb dX8_smooth_109 hl (by decide) rfl (fun ls hl => ?_)
    refine lv_aload_n hx hb dX8_smooth_111 rfl (lv_at hl 7 rfl) ?_
    refine va_get (D := D) (ci := 8) (v := .ref hsa) (C := RX8) (T := TX8) (N := 22) hx hb hts in_X8 hown hK.1 hP 0 rfl rfl 20 (by decide) (hts _ mk_258) (fun _ h9 => h9) rfl dX8_smooth_112 ?_
    refine lv_iload_n hx hb dX8_smooth_115 rfl (lv_at hl 8 rfl) ?_
    refine lv_iload hx hb dX8_smooth_116 (lv_at hl 4 rfl) ?_
    refine lv_sipush (v := 128) hx hb dX8_smooth_118 (by decide) ?_
    refine lv_isub hx hb dX8_smooth_121 ?_
    refine lv_topi (fun v121 e121 => ?_)
    refine lv_iload hx hb dX8_smooth_122 (lv_at hl 1 rfl) ?_
    refine lv_isub hx hb dX8_smooth_124 ?_
    refine lv_topi (fun v124 e124 => ?_)
    have hPc := hP.sub (ws' := []) [] rfl
    have hDc := hD.sub (ws' := []) [] (by decide) rfl
    have hFc := va_free (wc := []) hD hS hA [] rfl
    refine va_calli (va_runS (As := [.int v124]) (rest := [.int fa, .ref hsa]) ⟨hx, hb, hml, hown, hts⟩ (c_X8_limit l D cI cJ cZ v124 (H).size) (cwS 1 hts (kg_S mk_279 mk_280 mk_189 mk_281) rfl rfl rfl (by decide +kernel) ⟨Nat.le_of_ble_eq_true rfl, Nat.le_of_ble_eq_true rfl⟩) ⟨fun a U g mk q => by obtain ⟨q0, q1, qP, qK, qD⟩ := q; exact ⟨q0, q1, qP, kK.call qK, qD⟩, fun U hU hW => ⟨rfl, by rw [hU], by rw [hU]; exact hPc, kK.warm hW hK, hDc.weaken (fun _ _ _ _ => trivial)⟩⟩ rfl rfl hl.1 rfl (lv_room (Nat.le_of_ble_eq_true rfl)) dX8_smooth_125 ⟨Nat.zero_le _, Nat.zero_le _⟩) hS (fun q _ h => hFc q h) hFc (fun r125 u t9 H1 locs ht9 hvm9 hw9 hB9 hz9 hk9 hS => ?_)
    obtain ⟨hP1, hD1⟩ := hB9
    rw [ht9] at hP1
    have hP1 : va_P D vwCl [] H1 := hP1
    obtain ⟨hP, hD⟩ := va_join (wr := [(hm, .inr (8, [.int mrf, .ref hby, .int msz, .int mbg, .long mbt, .int mrg, .int mct, .int mvl, .int mpl, .int mcl, .int mrw, .int mqt, .int mlv, .int mtl, .int mbe, .int mch, .ref hpb, .ref hwa, .ref hmn, .ref hcf, .ref hsa, .ref hro])), (hsa, .inl (cI, 256, .inl msa))]) (w1 := []) hP hD [] [0, 1] rfl rfl (by decide) (by decide) hk9 hFc hP1 hD1
    have hP := hP.sub (ws' := [(hm, .inr (8, [.int mrf, .ref hby, .int msz, .int mbg, .long mbt, .int mrg, .int mct, .int mvl, .int mpl, .int mcl, .int mrw, .int mqt, .int mlv, .int mtl, .int mbe, .int mch, .ref hpb, .ref hwa, .ref hmn, .ref hcf, .ref hsa, .ref hro])), (hsa, .inl (cI, 256, .inl msa))]) [0, 1] rfl
    have hD := hD.sub (ws' := [(hm, .inr (8, [.int mrf, .ref hby, .int msz, .int mbg, .long mbt, .int mrg, .int mct, .int mvl, .int mpl, .int mcl, .int mrw, .int mqt, .int mlv, .int mtl, .int mbe, .int mch, .ref hpb, .ref hwa, .ref hmn, .ref hcf, .ref hsa, .ref hro])), (hsa, .inl (cI, 256, .inl msa))]) [0, 1] (by decide) rfl
    generalize H1 = H at hP hS ⊢
    refine lv_sipush (v := 128) hx hb dX8_smooth_128 (by decide) ?_
    refine lv_iadd hx hb dX8_smooth_131 ?_
    refine lv_topi (fun v131 e131 => ?_)
    refine va_iast hx hb hK.1 hP hD hS 1 0 rfl rfl (kB_in bfa (by decide)) dX8_smooth_132 (fun H locs hP hD hS => ?_)
    have hP : va_P D vwCl [(hm, .inr (8, [.int mrf, .ref hby, .int msz, .int mbg, .long mbt, .int mrg, .int mct, .int mvl, .int mpl, .int mcl, .int mrw, .int mqt, .int mlv, .int mtl, .int mbe, .int mch, .ref hpb, .ref hwa, .ref hmn, .ref hcf, .ref hsa, .ref hro])), (hsa, .inl (cI, 256, .inl (upd msa fa.toNatClampNeg v131)))] H := hP
    have hD : va_D A [(hm, .inr (8, [.int mrf, .ref hby, .int msz, .int mbg, .long mbt, .int mrg, .int mct, .int mvl, .int mpl, .int mcl, .int mrw, .int mqt, .int mlv, .int mtl, .int mbe, .int mch, .ref hpb, .ref hwa, .ref hmn, .ref hcf, .ref hsa, .ref hro])), (hsa, .inl (cI, 256, .inl (upd msa fa.toNatClampNeg v131)))] := hD
    generalize hf132 : upd msa fa.toNatClampNeg v131 = f132 at hP hD
    refine lv_aload_n hx hb dX8_smooth_133 rfl (lv_at hl 7 rfl) ?_
    refine va_get (D := D) (ci := 8) (v := .ref hsa) (C := RX8) (T := TX8) (N := 22) hx hb hts in_X8 hown hK.1 hP 0 rfl rfl 20 (by decide) (hts _ mk_258) (fun _ h9 => h9) rfl dX8_smooth_134 ?_
    refine lv_iload_n hx hb dX8_smooth_137 rfl (lv_at hl 8 rfl) ?_
    refine lv_iload_n hx hb dX8_smooth_138 rfl (lv_at hl 9 rfl) ?_
    refine lv_isub hx hb dX8_smooth_139 ?_
    refine lv_topi (fun v139 e139 => ?_)
    have b139 : kB v139 16 223 := kB_eq e139 (kB_sub bfa kc_16 (by decide))
    refine lv_iload hx hb dX8_smooth_140 (lv_at hl 5 rfl) ?_
    refine lv_sipush (v := 128) hx hb dX8_smooth_142 (by decide) ?_
    refine lv_isub hx hb dX8_smooth_145 ?_
    refine lv_topi (fun v145 e145 => ?_)
    refine lv_iload hx hb dX8_smooth_146 (lv_at hl 0 rfl) ?_
    refine lv_iadd hx hb dX8_smooth_148 ?_
    refine lv_topi (fun v148 e148 => ?_)
    have hPc := hP.sub (ws' := []) [] rfl
    have hDc := hD.sub (ws' := []) [] (by decide) rfl
    have hFc := va_free (wc := []) hD hS hA [] rfl
    refine va_calli (va_runS (As := [.int v148]) (rest := [.int v139, .ref hsa]) ⟨hx, hb, hml, hown, hts⟩ (c_X8_limit l D cI cJ cZ v148 (H).size) (cwS 1 hts (kg_S mk_279 mk_280 mk_189 mk_281) rfl rfl rfl (by decide +kernel) ⟨Nat.le_of_ble_eq_true rfl, Nat.le_of_ble_eq_true rfl⟩) ⟨fun a U g mk q => by obtain ⟨q0, q1, qP, qK, qD⟩ := q; exact ⟨q0, q1, qP, kK.call qK, qD⟩, fun U hU hW => ⟨rfl, by rw [hU], by rw [hU]; exact hPc, kK.warm hW hK, hDc.weaken (fun _ _ _ _ => trivial)⟩⟩ rfl rfl hl.1 rfl (lv_room (Nat.le_of_ble_eq_true rfl)) dX8_smooth_149 ⟨Nat.zero_le _, Nat.zero_le _⟩) hS (fun q _ h => hFc q h) hFc (fun r149 u t9 H1 locs ht9 hvm9 hw9 hB9 hz9 hk9 hS => ?_)
    obtain ⟨hP1, hD1⟩ := hB9
    rw [ht9] at hP1
    have hP1 : va_P D vwCl [] H1 := hP1
    obtain ⟨hP, hD⟩ := va_join (wr := [(hm, .inr (8, [.int mrf, .ref hby, .int msz, .int mbg, .long mbt, .int mrg, .int mct, .int mvl, .int mpl, .int mcl, .int mrw, .int mqt, .int mlv, .int mtl, .int mbe, .int mch, .ref hpb, .ref hwa, .ref hmn, .ref hcf, .ref hsa, .ref hro])), (hsa, .inl (cI, 256, .inl f132))]) (w1 := []) hP hD [] [0, 1] rfl rfl (by decide) (by decide) hk9 hFc hP1 hD1
    have hP := hP.sub (ws' := [(hm, .inr (8, [.int mrf, .ref hby, .int msz, .int mbg, .long mbt, .int mrg, .int mct, .int mvl, .int mpl, .int mcl, .int mrw, .int mqt, .int mlv, .int mtl, .int mbe, .int mch, .ref hpb, .ref hwa, .ref hmn, .ref hcf, .ref hsa, .ref hro])), (hsa, .inl (cI, 256, .inl f132))]) [0, 1] rfl
    have hD := hD.sub (ws' := [(hm, .inr (8, [.int mrf, .ref hby, .int msz, .int mbg, .long mbt, .int mrg, .int mct, .int mvl, .int mpl, .int mcl, .int mrw, .int mqt, .int mlv, .int mtl, .int mbe, .int mch, .ref hpb, .ref hwa, .ref hmn, .ref hcf, .ref hsa, .ref hro])), (hsa, .inl (cI, 256, .inl f132))]) [0, 1] (by decide) rfl
    generalize H1 = H at hP hS ⊢
    refine lv_sipush (v := 128) hx hb dX8_smooth_152 (by decide) ?_
    refine lv_iadd hx hb dX8_smooth_155 ?_
    refine lv_topi (fun v155 e155 => ?_)
    refine va_iast hx hb hK.1 hP hD hS 1 0 rfl rfl (kB_in b139 (by decide)) dX8_smooth_156 (fun H locs hP hD hS => ?_)
    have hP : va_P D vwCl [(hm, .inr (8, [.int mrf, .ref hby, .int msz, .int mbg, .long mbt, .int mrg, .int mct, .int mvl, .int mpl, .int mcl, .int mrw, .int mqt, .int mlv, .int mtl, .int mbe, .int mch, .ref hpb, .ref hwa, .ref hmn, .ref hcf, .ref hsa, .ref hro])), (hsa, .inl (cI, 256, .inl (upd f132 v139.toNatClampNeg v155)))] H := hP
    have hD : va_D A [(hm, .inr (8, [.int mrf, .ref hby, .int msz, .int mbg, .long mbt, .int mrg, .int mct, .int mvl, .int mpl, .int mcl, .int mrw, .int mqt, .int mlv, .int mtl, .int mbe, .int mch, .ref hpb, .ref hwa, .ref hmn, .ref hcf, .ref hsa, .ref hro])), (hsa, .inl (cI, 256, .inl (upd f132 v139.toNatClampNeg v155)))] := hD
    generalize hf156 : upd f132 v139.toNatClampNeg v155 = f156 at hP hD
    refine lv_aload_n hx hb dX8_smooth_157 rfl (lv_at hl 7 rfl) ?_
    refine va_get (D := D) (ci := 8) (v := .ref hsa) (C := RX8) (T := TX8) (N := 22) hx hb hts in_X8 hown hK.1 hP 0 rfl rfl 20 (by decide) (hts _ mk_258) (fun _ h9 => h9) rfl dX8_smooth_158 ?_
    refine lv_iload_n hx hb dX8_smooth_161 rfl (lv_at hl 8 rfl) ?_
    refine va_iald hx hb hK.1 hP 1 0 rfl rfl (kB_in bfa (by decide)) dX8_smooth_162 ?_
    refine lv_topi (fun v162 e162 => ?_)
    refine lv_iload hx hb dX8_smooth_163 (lv_at hl 4 rfl) ?_
    refine lv_icmp_ne (tgt := 181) hx hb dX8_smooth_165 (by decide) (fun c165 => ?_) (fun c165 => ?_)
    · refine lv_aload_n hx hb dX8_smooth_181 rfl (lv_at hl 7 rfl) ?_
      refine lv_dup hx hb dX8_smooth_182 rfl ?_
      refine va_get (D := D) (ci := 8) (v := .int mch) (C := RX8) (T := TX8) (N := 22) hx hb hts in_X8 hown hK.1 hP 0 rfl rfl 15 (by decide) (hts _ mk_282) (fun _ h9 => h9) rfl dX8_smooth_183 ?_
      refine lv_iconst (v := 1) hx hb dX8_smooth_186 (by decide) ?_
      refine lv_iadd hx hb dX8_smooth_187 ?_
      refine lv_topi (fun v187 e187 => ?_)
      refine va_put (D := D) (ci := 8) (v := .int v187) (ty := .int) (C := RX8) (T := TX8) (N := 22) hx hb hts in_X8 tyX8 tyX8_ok nmX8 hown hK.1 hP hD hS 0 rfl rfl 15 (by decide) (hts _ mk_282) (fun _ h9 => h9) rfl (by decide +kernel) rfl rfl (Nat.le_of_ble_eq_true rfl) dX8_smooth_188 (fun H locs hP hD hS => ?_)
      have hP : va_P D vwCl [(hm, .inr (8, [.int mrf, .ref hby, .int msz, .int mbg, .long mbt, .int mrg, .int mct, .int mvl, .int mpl, .int mcl, .int mrw, .int mqt, .int mlv, .int mtl, .int mbe, .int v187, .ref hpb, .ref hwa, .ref hmn, .ref hcf, .ref hsa, .ref hro])), (hsa, .inl (cI, 256, .inl f156))] H := hP
      have hD : va_D A [(hm, .inr (8, [.int mrf, .ref hby, .int msz, .int mbg, .long mbt, .int mrg, .int mct, .int mvl, .int mpl, .int mcl, .int mrw, .int mqt, .int mlv, .int mtl, .int mbe, .int v187, .ref hpb, .ref hwa, .ref hmn, .ref hcf, .ref hsa, .ref hro])), (hsa, .inl (cI, 256, .inl f156))] := hD
      exact W.vret hx hb hr (fun t9 ht9 hW9 => ⟨⟨(v187, f156), rfl, trivial, by rw [ht9]; exact hP, hD⟩, hS.F ht9⟩) hS.2.2 dX8_smooth_191
    · refine lv_aload_n hx hb dX8_smooth_168 rfl (lv_at hl 7 rfl) ?_
      refine va_get (D := D) (ci := 8) (v := .ref hsa) (C := RX8) (T := TX8) (N := 22) hx hb hts in_X8 hown hK.1 hP 0 rfl rfl 20 (by decide) (hts _ mk_258) (fun _ h9 => h9) rfl dX8_smooth_169 ?_
      refine lv_iload_n hx hb dX8_smooth_172 rfl (lv_at hl 8 rfl) ?_
      refine lv_iload_n hx hb dX8_smooth_173 rfl (lv_at hl 9 rfl) ?_
      refine lv_isub hx hb dX8_smooth_174 ?_
      refine lv_topi (fun v174 e174 => ?_)
      have b174 : kB v174 16 223 := kB_eq e174 (kB_sub bfa kc_16 (by decide))
      refine va_iald hx hb hK.1 hP 1 0 rfl rfl (kB_in b174 (by decide)) dX8_smooth_175 ?_
      refine lv_topi (fun v175 e175 => ?_)
      refine lv_iload hx hb dX8_smooth_176 (lv_at hl 5 rfl) ?_
      refine lv_icmp_eq (tgt := 191) hx hb dX8_smooth_178 (by decide) (fun c178 => ?_) (fun c178 => ?_)
      · exact W.vret hx hb hr (fun t9 ht9 hW9 => ⟨⟨(mch, f156), rfl, trivial, by rw [ht9]; exact hP, hD⟩, hS.F ht9⟩) hS.2.2 dX8_smooth_191
      · refine lv_aload_n hx hb dX8_smooth_181 rfl (lv_at hl 7 rfl) ?_
        refine lv_dup hx hb dX8_smooth_182 rfl ?_
        refine va_get (D := D) (ci := 8) (v := .int mch) (C := RX8) (T := TX8) (N := 22) hx hb hts in_X8 hown hK.1 hP 0 rfl rfl 15 (by decide) (hts _ mk_282) (fun _ h9 => h9) rfl dX8_smooth_183 ?_
        refine lv_iconst (v := 1) hx hb dX8_smooth_186 (by decide) ?_
        refine lv_iadd hx hb dX8_smooth_187 ?_
        refine lv_topi (fun v187 e187 => ?_)
        refine va_put (D := D) (ci := 8) (v := .int v187) (ty := .int) (C := RX8) (T := TX8) (N := 22) hx hb hts in_X8 tyX8 tyX8_ok nmX8 hown hK.1 hP hD hS 0 rfl rfl 15 (by decide) (hts _ mk_282) (fun _ h9 => h9) rfl (by decide +kernel) rfl rfl (Nat.le_of_ble_eq_true rfl) dX8_smooth_188 (fun H locs hP hD hS => ?_)
        have hP : va_P D vwCl [(hm, .inr (8, [.int mrf, .ref hby, .int msz, .int mbg, .long mbt, .int mrg, .int mct, .int mvl, .int mpl, .int mcl, .int mrw, .int mqt, .int mlv, .int mtl, .int mbe, .int v187, .ref hpb, .ref hwa, .ref hmn, .ref hcf, .ref hsa, .ref hro])), (hsa, .inl (cI, 256, .inl f156))] H := hP
        have hD : va_D A [(hm, .inr (8, [.int mrf, .ref hby, .int msz, .int mbg, .long mbt, .int mrg, .int mct, .int mvl, .int mpl, .int mcl, .int mrw, .int mqt, .int mlv, .int mtl, .int mbe, .int v187, .ref hpb, .ref hwa, .ref hmn, .ref hcf, .ref hsa, .ref hro])), (hsa, .inl (cI, 256, .inl f156))] := hD
        exact W.vret hx hb hr (fun t9 ht9 hW9 => ⟨⟨(v187, f156), rfl, trivial, by rw [ht9]; exact hP, hD⟩, hS.F ht9⟩) hS.2.2 dX8_smooth_191
  · have c65n : v64 < v56 := kN_le c65
    have c65na := kB_all v64
    have c65nb := kB_all v56
    have c65nx : kB v64 (-2147483648) 2147483646 := kB_lt_l c65na c65nb c65n (by decide)
    have c65ny : kB v56 (-2147483647) 2147483647 := kB_lt_r c65na c65nb c65n (by decide)
    exact W.vret hx hb hr (fun t9 ht9 hW9 => ⟨⟨(mch, msa), rfl, trivial, by rw [ht9]; exact hP, hD⟩, hS.F ht9⟩) hS.2.2 dX8_smooth_68
abbrev kw_X8_filter : List Cond := Cond.code yX8_filter cX8_filter 5 none :: kW
set_option maxHeartbeats 4000000 in
set_option maxRecDepth 100000 in
theorem lp_X8_filter_69 {p : Program} {l : Launch} {e : Env} {s : State} {m : MethodId} {args : Array Value} {below : List Frame} {meth : Method} {c : Code} {A : Nat → Prop} (D : va_G) (cI cJ cZ : ClassId) (hm hby hpb hwa hmn hcf hsa hro : Nat) (mrf : Int32) (msz : Int32) (mbg : Int32) (mrg : Int32) (mct : Int32) (mvl : Int32) (mpl : Int32) (mcl : Int32) (mrw : Int32) (mqt : Int32) (mlv : Int32) (mtl : Int32) (mbe : Int32) (mch : Int32) (mbt : Int64) (msa : Nat → Int32) (bcl : kB mcl 1 4) (brw : kB mrw 1 4) (hx : p.tables.exec = Jvm.exec) (hb : c.code = cX8_filter) (hr : meth.sig.returnType = none) (hml : c.maxLocals = 5) (hown : s.vm.findClass RX8 = some m.cls) (hts : ∀ w ∈ kW, w.before args s = true) (hlocks : meth.locks = false) (hK : kK D cI cJ cZ s) (hA : ∀ q : Nat, s.heap.size ≤ q → A q) (n_2 : Nat) (ih_2 : ∀ (x1 : Int32) (mch2 : Int32) (msa2 : Nat → Int32), (16 - x1.toInt).toNat < n_2 → (kB x1 0 16) → ∀ (H : Heap) (locs : List Loc) (ls : Array Slot), va_P D vwCl [(hm, .inr (8, [.int mrf, .ref hby, .int msz, .int mbg, .long mbt, .int mrg, .int mct, .int mvl, .int mpl, .int mcl, .int mrw, .int mqt, .int mlv, .int mtl, .int mbe, .int mch2, .ref hpb, .ref hwa, .ref hmn, .ref hcf, .ref hsa, .ref hro])), (hsa, .inl (cI, 256, .inl msa2))] H → va_D A [(hm, .inr (8, [.int mrf, .ref hby, .int msz, .int mbg, .long mbt, .int mrg, .int mct, .int mvl, .int mpl, .int mcl, .int mrw, .int mqt, .int mlv, .int mtl, .int mbe, .int mch2, .ref hpb, .ref hwa, .ref hmn, .ref hcf, .ref hsa, .ref hro])), (hsa, .inl (cI, 256, .inl msa2))] → va_S A s.heap H locs → lv_has ls 5 [(0, .ref hm), (1, .int x1)] → W p l e (headSpec kw_X8_filter ({ frames := 2, cells := 0, slots := 0, locals := 50 })).room s m args below meth c H locs 0 0 (MQ below (va_Qv (fun (u : Int32 × (Nat → Int32)) => True) (fun (u : Int32 × (Nat → Int32)) (t : State) => va_P D vwCl [(hm, .inr (8, [.int mrf, .ref hby, .int msz, .int mbg, .long mbt, .int mrg, .int mct, .int mvl, .int mpl, .int mcl, .int mrw, .int mqt, .int mlv, .int mtl, .int mbe, .int u.1, .ref hpb, .ref hwa, .ref hmn, .ref hcf, .ref hsa, .ref hro])), (hsa, .inl (cI, 256, .inl u.2))] t.heap ∧ va_D A [(hm, .inr (8, [.int mrf, .ref hby, .int msz, .int mbg, .long mbt, .int mrg, .int mct, .int mvl, .int mpl, .int mcl, .int mrw, .int mqt, .int mlv, .int mtl, .int mbe, .int u.1, .ref hpb, .ref hwa, .ref hmn, .ref hcf, .ref hsa, .ref hro])), (hsa, .inl (cI, 256, .inl u.2))]) A) args s 0 0 A) (F0 m 2 ls [])) : ∀ n : Nat, ∀ (x1 : Int32) (x2 : Int32) (x3 : Int32) (x4 : Int32) (mch2 : Int32) (msa2 : Nat → Int32), (4 - x4.toInt).toNat < n → (kB x2 0 12) → (kB x3 0 12) → (x2.toInt % 4 = 0) → (x3.toInt % 4 = 0) → (kB x4 0 4) → (kB x1 0 15) → ((16 - x1.toInt).toNat < n_2 + 1) → ∀ (H : Heap) (locs : List Loc) (ls : Array Slot), va_P D vwCl [(hm, .inr (8, [.int mrf, .ref hby, .int msz, .int mbg, .long mbt, .int mrg, .int mct, .int mvl, .int mpl, .int mcl, .int mrw, .int mqt, .int mlv, .int mtl, .int mbe, .int mch2, .ref hpb, .ref hwa, .ref hmn, .ref hcf, .ref hsa, .ref hro])), (hsa, .inl (cI, 256, .inl msa2))] H → va_D A [(hm, .inr (8, [.int mrf, .ref hby, .int msz, .int mbg, .long mbt, .int mrg, .int mct, .int mvl, .int mpl, .int mcl, .int mrw, .int mqt, .int mlv, .int mtl, .int mbe, .int mch2, .ref hpb, .ref hwa, .ref hmn, .ref hcf, .ref hsa, .ref hro])), (hsa, .inl (cI, 256, .inl msa2))] → va_S A s.heap H locs → lv_has ls 5 [(0, .ref hm), (1, .int x1), (2, .int x2), (3, .int x3), (4, .int x4)] → W p l e (headSpec kw_X8_filter ({ frames := 2, cells := 0, slots := 0, locals := 50 })).room s m args below meth c H locs 0 0 (MQ below (va_Qv (fun (u : Int32 × (Nat → Int32)) => True) (fun (u : Int32 × (Nat → Int32)) (t : State) => va_P D vwCl [(hm, .inr (8, [.int mrf, .ref hby, .int msz, .int mbg, .long mbt, .int mrg, .int mct, .int mvl, .int mpl, .int mcl, .int mrw, .int mqt, .int mlv, .int mtl, .int mbe, .int u.1, .ref hpb, .ref hwa, .ref hmn, .ref hcf, .ref hsa, .ref hro])), (hsa, .inl (cI, 256, .inl u.2))] t.heap ∧ va_D A [(hm, .inr (8, [.int mrf, .ref hby, .int msz, .int mbg, .long mbt, .int mrg, .int mct, .int mvl, .int mpl, .int mcl, .int mrw, .int mqt, .int mlv, .int mtl, .int mbe, .int u.1, .ref hpb, .ref hwa, .ref hmn, .ref hcf, .ref hsa, .ref hro])), (hsa, .inl (cI, 256, .inl u.2))]) A) args s 0 0 A) (F0 m 69 ls []) := by
  intro n
  induction n with
  | zero => intro x1 x2 x3 x4 mch2 msa2 hmeas; exact absurd hmeas (Nat.not_lt_zero _)
  | succ n ih =>
    intro x1 x2 x3 x4 mch2 msa2 hmeas b2 b3 m2 m3 b4 b1 hm2 H locs ls hP hD hS hl
    refine lv_iload hx hb dX8_filter_69 (lv_at hl 4 rfl) ?_
    refine lv_iconst (v := 4) hx hb dX8_filter_71 (by decide) ?_
    refine lv_icmp_ge (tgt := 100) hx hb dX8_filter_72 (by decide) (fun c72 => ?_) (fun c72 => ?_)
    · have c72y : kB x4 4 4 := kB_le_r kc_4 b4 c72 (by decide)
      obtain ⟨v100, e100⟩ : ∃ y : Int32, y = x1 + 1 := ⟨_, rfl⟩
      refine lv_iinc (v := v100) (lv' := [(1, .int v100), (0, .ref hm), (2, .int x2), (3, .int x3), (4, .int x4)]) hx hb dX8_filter_100 hl (k := 1) rfl (by rw [e100]; rfl) (by decide) rfl (fun ls hl => ?_)
      have b100 : kB v100 1 16 := kB_eq e100 (kB_add b1 kc_1 (by decide))
      have t100 : v100.toInt = x1.toInt + 1 := by rw [e100]; exact kinc (kB_w b1 (by decide) (by decide))
      refine lv_goto (tgt := 2) hx hb dX8_filter_103 (by decide) ?_
      exact ih_2 v100 mch2 msa2 (by have := b100.1; have := b100.2; have := b1.1; have := b1.2; omega) (kB_w b100 (by decide) (by decide)) _ _ ls hP hD hS (lv_sub hl [1, 0] rfl)
    · have c72n : x4 < 4 := kN_le c72
      have c72nx : kB x4 0 3 := kB_lt_l b4 kc_4 c72n (by decide)
      refine lv_iload_n hx hb dX8_filter_75 rfl (lv_at hl 3 rfl) ?_
      refine lv_if_le (tgt := 100) hx hb dX8_filter_76 (by decide) (fun c76 => ?_) (fun c76 => ?_)
      · have c76x : kB x3 0 0 := kB_le_l b3 kc_0 c76 (by decide)
        obtain ⟨v100, e100⟩ : ∃ y : Int32, y = x1 + 1 := ⟨_, rfl⟩
        refine lv_iinc (v := v100) (lv' := [(1, .int v100), (0, .ref hm), (2, .int x2), (3, .int x3), (4, .int x4)]) hx hb dX8_filter_100 hl (k := 1) rfl (by rw [e100]; rfl) (by decide) rfl (fun ls hl => ?_)
        have b100 : kB v100 1 16 := kB_eq e100 (kB_add b1 kc_1 (by decide))
        have t100 : v100.toInt = x1.toInt + 1 := by rw [e100]; exact kinc (kB_w b1 (by decide) (by decide))
        refine lv_goto (tgt := 2) hx hb dX8_filter_103 (by decide) ?_
        exact ih_2 v100 mch2 msa2 (by have := b100.1; have := b100.2; have := b1.1; have := b1.2; omega) (kB_w b100 (by decide) (by decide)) _ _ ls hP hD hS (lv_sub hl [1, 0] rfl)
      · have c76n : 0 < x3 := kN_le c76
        have c76ny : kB x3 1 12 := kB_lt_r kc_0 b3 c76n (by decide)
        have B76 : kB x3 4 12 := ⟨by have := c76ny.1; omega, b3.2⟩
        refine lv_aload_n hx hb dX8_filter_79 rfl (lv_at hl 0 rfl) ?_
        refine lv_bipush (v := 16) hx hb dX8_filter_80 (by decide) ?_
        refine lv_iload_n hx hb dX8_filter_82 rfl (lv_at hl 3 rfl) ?_
        refine lv_imul hx hb dX8_filter_83 ?_
        refine lv_topi (fun v83 e83 => ?_)
        have b83 : kB v83 64 192 := kB_eq e83 (kB_cmul kc_16 B76 (by decide))
        refine lv_iload_n hx hb dX8_filter_84 rfl (lv_at hl 2 rfl) ?_
        refine lv_iadd hx hb dX8_filter_85 ?_
        refine lv_topi (fun v85 e85 => ?_)
        have b85 : kB v85 64 204 := kB_eq e85 (kB_add b83 b2 (by decide))
        refine lv_iload hx hb dX8_filter_86 (lv_at hl 4 rfl) ?_
        refine lv_iadd hx hb dX8_filter_88 ?_
        refine lv_topi (fun v88 e88 => ?_)
        have b88 : kB v88 64 207 := kB_eq e88 (kB_add b85 c72nx (by decide))
        refine lv_bipush (v := 16) hx hb dX8_filter_89 (by decide) ?_
        have hPc := hP.sub (ws' := [(hm, .inr (8, [.int mrf, .ref hby, .int msz, .int mbg, .long mbt, .int mrg, .int mct, .int mvl, .int mpl, .int mcl, .int mrw, .int mqt, .int mlv, .int mtl, .int mbe, .int mch2, .ref hpb, .ref hwa, .ref hmn, .ref hcf, .ref hsa, .ref hro])), (hsa, .inl (cI, 256, .inl msa2))]) [0, 1] rfl
        have hDc := hD.sub (ws' := [(hm, .inr (8, [.int mrf, .ref hby, .int msz, .int mbg, .long mbt, .int mrg, .int mct, .int mvl, .int mpl, .int mcl, .int mrw, .int mqt, .int mlv, .int mtl, .int mbe, .int mch2, .ref hpb, .ref hwa, .ref hmn, .ref hcf, .ref hsa, .ref hro])), (hsa, .inl (cI, 256, .inl msa2))]) [0, 1] (by decide) rfl
        have hFc := va_free (wc := [(hm, .inr (8, [.int mrf, .ref hby, .int msz, .int mbg, .long mbt, .int mrg, .int mct, .int mvl, .int mpl, .int mcl, .int mrw, .int mqt, .int mlv, .int mtl, .int mbe, .int mch2, .ref hpb, .ref hwa, .ref hmn, .ref hcf, .ref hsa, .ref hro])), (hsa, .inl (cI, 256, .inl msa2))]) hD hS hA [0, 1] rfl
        refine va_callv (va_runV (As := [.int v88, .int 16]) (rest := []) ⟨hx, hb, hml, hown, hts⟩ (c_X8_smooth_b l D cI cJ cZ hm hby hpb hwa hmn hcf hsa hro mrf msz mbg mrg mct mvl mpl mcl mrw mqt mlv mtl mbe mch2 mbt msa2 v88 (kB_w b88 (by decide) (by decide)) (H).size) (cwV 2 hts (kg_V mk_283 mk_284 mk_285 mk_189 mk_286) rfl rfl rfl (by decide +kernel) ⟨Nat.le_of_ble_eq_true rfl, Nat.le_of_ble_eq_true rfl⟩) ⟨fun a U g mk q => by obtain ⟨q0, q1, qP, qK, qD⟩ := q; exact ⟨q0, q1, qP, kK.call qK, qD⟩, va_recv hK.1 hPc (ci := 8) (q0 := 0) rfl rfl, fun U hU hW => ⟨rfl, by rw [hU], by rw [hU]; exact hPc, kK.warm hW hK, hDc.weaken (fun _ _ _ _ => trivial)⟩⟩ rfl rfl hl.1 rfl (lv_room (Nat.le_of_ble_eq_true rfl)) dX8_filter_91 ⟨Nat.zero_le _, Nat.zero_le _⟩) hS (fun q _ h => hFc q h) hFc (fun u t9 H1 locs ht9 hvm9 hw9 hB9 hz9 hk9 hS => ?_)
        obtain ⟨mch2_91, msa2_91⟩ := u
        obtain ⟨hP1, hD1⟩ := hB9
        rw [ht9] at hP1
        have hP1 : va_P D vwCl [(hm, .inr (8, [.int mrf, .ref hby, .int msz, .int mbg, .long mbt, .int mrg, .int mct, .int mvl, .int mpl, .int mcl, .int mrw, .int mqt, .int mlv, .int mtl, .int mbe, .int mch2_91, .ref hpb, .ref hwa, .ref hmn, .ref hcf, .ref hsa, .ref hro])), (hsa, .inl (cI, 256, .inl msa2_91))] H1 := hP1
        obtain ⟨hP, hD⟩ := va_join (wr := []) (w1 := [(hm, .inr (8, [.int mrf, .ref hby, .int msz, .int mbg, .long mbt, .int mrg, .int mct, .int mvl, .int mpl, .int mcl, .int mrw, .int mqt, .int mlv, .int mtl, .int mbe, .int mch2_91, .ref hpb, .ref hwa, .ref hmn, .ref hcf, .ref hsa, .ref hro])), (hsa, .inl (cI, 256, .inl msa2_91))]) hP hD [0, 1] [] rfl rfl (by decide) (by decide) hk9 hFc hP1 hD1
        have hP := hP.sub (ws' := [(hm, .inr (8, [.int mrf, .ref hby, .int msz, .int mbg, .long mbt, .int mrg, .int mct, .int mvl, .int mpl, .int mcl, .int mrw, .int mqt, .int mlv, .int mtl, .int mbe, .int mch2_91, .ref hpb, .ref hwa, .ref hmn, .ref hcf, .ref hsa, .ref hro])), (hsa, .inl (cI, 256, .inl msa2_91))]) [0, 1] rfl
        have hD := hD.sub (ws' := [(hm, .inr (8, [.int mrf, .ref hby, .int msz, .int mbg, .long mbt, .int mrg, .int mct, .int mvl, .int mpl, .int mcl, .int mrw, .int mqt, .int mlv, .int mtl, .int mbe, .int mch2_91, .ref hpb, .ref hwa, .ref hmn, .ref hcf, .ref hsa, .ref hro])), (hsa, .inl (cI, 256, .inl msa2_91))]) [0, 1] (by decide) rfl
        generalize H1 = H at hP hS ⊢
        obtain ⟨v94, e94⟩ : ∃ y : Int32, y = x4 + 1 := ⟨_, rfl⟩
        refine lv_iinc (v := v94) (lv' := [(4, .int v94), (0, .ref hm), (1, .int x1), (2, .int x2), (3, .int x3)]) hx hb dX8_filter_94 hl (k := 4) rfl (by rw [e94]; rfl) (by decide) rfl (fun ls hl => ?_)
        have b94 : kB v94 1 4 := kB_eq e94 (kB_add c72nx kc_1 (by decide))
        have t94 : v94.toInt = x4.toInt + 1 := by rw [e94]; exact kinc (kB_w c72nx (by decide) (by decide))
        refine lv_goto (tgt := 69) hx hb dX8_filter_97 (by decide) ?_
        exact ih x1 x2 x3 v94 mch2_91 msa2_91 (by have := b1.1; have := b1.2; have := b2.1; have := b2.2; have := B76.1; have := B76.2; have := b94.1; have := b94.2; have := c72nx.1; have := c72nx.2; omega) b2 (kB_w B76 (by decide) (by decide)) m2 m3 (kB_w b94 (by decide) (by decide)) b1 hm2 _ _ ls hP hD hS (lv_sub hl [1, 2, 3, 4, 0] rfl)
set_option maxHeartbeats 4000000 in
set_option maxRecDepth 100000 in
theorem lp_X8_filter_36 {p : Program} {l : Launch} {e : Env} {s : State} {m : MethodId} {args : Array Value} {below : List Frame} {meth : Method} {c : Code} {A : Nat → Prop} (D : va_G) (cI cJ cZ : ClassId) (hm hby hpb hwa hmn hcf hsa hro : Nat) (mrf : Int32) (msz : Int32) (mbg : Int32) (mrg : Int32) (mct : Int32) (mvl : Int32) (mpl : Int32) (mcl : Int32) (mrw : Int32) (mqt : Int32) (mlv : Int32) (mtl : Int32) (mbe : Int32) (mch : Int32) (mbt : Int64) (msa : Nat → Int32) (bcl : kB mcl 1 4) (brw : kB mrw 1 4) (hx : p.tables.exec = Jvm.exec) (hb : c.code = cX8_filter) (hr : meth.sig.returnType = none) (hml : c.maxLocals = 5) (hown : s.vm.findClass RX8 = some m.cls) (hts : ∀ w ∈ kW, w.before args s = true) (hlocks : meth.locks = false) (hK : kK D cI cJ cZ s) (hA : ∀ q : Nat, s.heap.size ≤ q → A q) (n_2 : Nat) (ih_2 : ∀ (x1 : Int32) (mch2 : Int32) (msa2 : Nat → Int32), (16 - x1.toInt).toNat < n_2 → (kB x1 0 16) → ∀ (H : Heap) (locs : List Loc) (ls : Array Slot), va_P D vwCl [(hm, .inr (8, [.int mrf, .ref hby, .int msz, .int mbg, .long mbt, .int mrg, .int mct, .int mvl, .int mpl, .int mcl, .int mrw, .int mqt, .int mlv, .int mtl, .int mbe, .int mch2, .ref hpb, .ref hwa, .ref hmn, .ref hcf, .ref hsa, .ref hro])), (hsa, .inl (cI, 256, .inl msa2))] H → va_D A [(hm, .inr (8, [.int mrf, .ref hby, .int msz, .int mbg, .long mbt, .int mrg, .int mct, .int mvl, .int mpl, .int mcl, .int mrw, .int mqt, .int mlv, .int mtl, .int mbe, .int mch2, .ref hpb, .ref hwa, .ref hmn, .ref hcf, .ref hsa, .ref hro])), (hsa, .inl (cI, 256, .inl msa2))] → va_S A s.heap H locs → lv_has ls 5 [(0, .ref hm), (1, .int x1)] → W p l e (headSpec kw_X8_filter ({ frames := 2, cells := 0, slots := 0, locals := 50 })).room s m args below meth c H locs 0 0 (MQ below (va_Qv (fun (u : Int32 × (Nat → Int32)) => True) (fun (u : Int32 × (Nat → Int32)) (t : State) => va_P D vwCl [(hm, .inr (8, [.int mrf, .ref hby, .int msz, .int mbg, .long mbt, .int mrg, .int mct, .int mvl, .int mpl, .int mcl, .int mrw, .int mqt, .int mlv, .int mtl, .int mbe, .int u.1, .ref hpb, .ref hwa, .ref hmn, .ref hcf, .ref hsa, .ref hro])), (hsa, .inl (cI, 256, .inl u.2))] t.heap ∧ va_D A [(hm, .inr (8, [.int mrf, .ref hby, .int msz, .int mbg, .long mbt, .int mrg, .int mct, .int mvl, .int mpl, .int mcl, .int mrw, .int mqt, .int mlv, .int mtl, .int mbe, .int u.1, .ref hpb, .ref hwa, .ref hmn, .ref hcf, .ref hsa, .ref hro])), (hsa, .inl (cI, 256, .inl u.2))]) A) args s 0 0 A) (F0 m 2 ls [])) : ∀ n : Nat, ∀ (x1 : Int32) (x2 : Int32) (x3 : Int32) (x4 : Int32) (mch2 : Int32) (msa2 : Nat → Int32), (4 - x4.toInt).toNat < n → (kB x2 0 12) → (kB x3 0 12) → (x2.toInt % 4 = 0) → (x3.toInt % 4 = 0) → (kB x4 0 4) → (kB x1 0 15) → ((16 - x1.toInt).toNat < n_2 + 1) → ∀ (H : Heap) (locs : List Loc) (ls : Array Slot), va_P D vwCl [(hm, .inr (8, [.int mrf, .ref hby, .int msz, .int mbg, .long mbt, .int mrg, .int mct, .int mvl, .int mpl, .int mcl, .int mrw, .int mqt, .int mlv, .int mtl, .int mbe, .int mch2, .ref hpb, .ref hwa, .ref hmn, .ref hcf, .ref hsa, .ref hro])), (hsa, .inl (cI, 256, .inl msa2))] H → va_D A [(hm, .inr (8, [.int mrf, .ref hby, .int msz, .int mbg, .long mbt, .int mrg, .int mct, .int mvl, .int mpl, .int mcl, .int mrw, .int mqt, .int mlv, .int mtl, .int mbe, .int mch2, .ref hpb, .ref hwa, .ref hmn, .ref hcf, .ref hsa, .ref hro])), (hsa, .inl (cI, 256, .inl msa2))] → va_S A s.heap H locs → lv_has ls 5 [(0, .ref hm), (1, .int x1), (2, .int x2), (3, .int x3), (4, .int x4)] → W p l e (headSpec kw_X8_filter ({ frames := 2, cells := 0, slots := 0, locals := 50 })).room s m args below meth c H locs 0 0 (MQ below (va_Qv (fun (u : Int32 × (Nat → Int32)) => True) (fun (u : Int32 × (Nat → Int32)) (t : State) => va_P D vwCl [(hm, .inr (8, [.int mrf, .ref hby, .int msz, .int mbg, .long mbt, .int mrg, .int mct, .int mvl, .int mpl, .int mcl, .int mrw, .int mqt, .int mlv, .int mtl, .int mbe, .int u.1, .ref hpb, .ref hwa, .ref hmn, .ref hcf, .ref hsa, .ref hro])), (hsa, .inl (cI, 256, .inl u.2))] t.heap ∧ va_D A [(hm, .inr (8, [.int mrf, .ref hby, .int msz, .int mbg, .long mbt, .int mrg, .int mct, .int mvl, .int mpl, .int mcl, .int mrw, .int mqt, .int mlv, .int mtl, .int mbe, .int u.1, .ref hpb, .ref hwa, .ref hmn, .ref hcf, .ref hsa, .ref hro])), (hsa, .inl (cI, 256, .inl u.2))]) A) args s 0 0 A) (F0 m 36 ls []) := by
  intro n
  induction n with
  | zero => intro x1 x2 x3 x4 mch2 msa2 hmeas; exact absurd hmeas (Nat.not_lt_zero _)
  | succ n ih =>
    intro x1 x2 x3 x4 mch2 msa2 hmeas b2 b3 m2 m3 b4 b1 hm2 H locs ls hP hD hS hl
    refine lv_iload hx hb dX8_filter_36 (lv_at hl 4 rfl) ?_
    refine lv_iconst (v := 4) hx hb dX8_filter_38 (by decide) ?_
    refine lv_icmp_ge (tgt := 66) hx hb dX8_filter_39 (by decide) (fun c39 => ?_) (fun c39 => ?_)
    · have c39y : kB x4 4 4 := kB_le_r kc_4 b4 c39 (by decide)
      refine lv_iconst (v := 0) hx hb dX8_filter_66 (by decide) ?_
      refine lv_istore (lv' := [(4, .int 0), (0, .ref hm), (1, .int x1), (2, .int x2), (3, .int x3)]) hx hb dX8_filter_67 hl (by decide) rfl (fun ls hl => ?_)
      exact lp_X8_filter_69 D cI cJ cZ hm hby hpb hwa hmn hcf hsa hro mrf msz mbg mrg mct mvl mpl mcl mrw mqt mlv mtl mbe mch mbt msa bcl brw hx hb hr hml hown hts hlocks hK hA n_2 ih_2 ((4 - (0 : Int32).toInt).toNat + 1) x1 x2 x3 0 mch2 msa2 (Nat.lt_succ_self _) b2 b3 m2 m3 (kB_w kc_0 (by decide) (by decide)) b1 hm2 _ _ ls hP hD hS (lv_sub hl [1, 2, 3, 4, 0] rfl)
    · have c39n : x4 < 4 := kN_le c39
      have c39nx : kB x4 0 3 := kB_lt_l b4 kc_4 c39n (by decide)
      refine lv_iload_n hx hb dX8_filter_42 rfl (lv_at hl 2 rfl) ?_
      refine lv_if_le (tgt := 66) hx hb dX8_filter_43 (by decide) (fun c43 => ?_) (fun c43 => ?_)
      · have c43x : kB x2 0 0 := kB_le_l b2 kc_0 c43 (by decide)
        refine lv_iconst (v := 0) hx hb dX8_filter_66 (by decide) ?_
        refine lv_istore (lv' := [(4, .int 0), (0, .ref hm), (1, .int x1), (2, .int x2), (3, .int x3)]) hx hb dX8_filter_67 hl (by decide) rfl (fun ls hl => ?_)
        exact lp_X8_filter_69 D cI cJ cZ hm hby hpb hwa hmn hcf hsa hro mrf msz mbg mrg mct mvl mpl mcl mrw mqt mlv mtl mbe mch mbt msa bcl brw hx hb hr hml hown hts hlocks hK hA n_2 ih_2 ((4 - (0 : Int32).toInt).toNat + 1) x1 x2 x3 0 mch2 msa2 (Nat.lt_succ_self _) (kB_w c43x (by decide) (by decide)) b3 m2 m3 (kB_w kc_0 (by decide) (by decide)) b1 hm2 _ _ ls hP hD hS (lv_sub hl [1, 2, 3, 4, 0] rfl)
      · have c43n : 0 < x2 := kN_le c43
        have c43ny : kB x2 1 12 := kB_lt_r kc_0 b2 c43n (by decide)
        have B43 : kB x2 4 12 := ⟨by have := c43ny.1; omega, b2.2⟩
        refine lv_aload_n hx hb dX8_filter_46 rfl (lv_at hl 0 rfl) ?_
        refine lv_bipush (v := 16) hx hb dX8_filter_47 (by decide) ?_
        refine lv_iload_n hx hb dX8_filter_49 rfl (lv_at hl 3 rfl) ?_
        refine lv_iload hx hb dX8_filter_50 (lv_at hl 4 rfl) ?_
        refine lv_iadd hx hb dX8_filter_52 ?_
        refine lv_topi (fun v52 e52 => ?_)
        have b52 : kB v52 0 15 := kB_eq e52 (kB_add b3 c39nx (by decide))
        refine lv_imul hx hb dX8_filter_53 ?_
        refine lv_topi (fun v53 e53 => ?_)
        have b53 : kB v53 0 240 := kB_eq e53 (kB_cmul kc_16 b52 (by decide))
        refine lv_iload_n hx hb dX8_filter_54 rfl (lv_at hl 2 rfl) ?_
        refine lv_iadd hx hb dX8_filter_55 ?_
        refine lv_topi (fun v55 e55 => ?_)
        have b55 : kB v55 4 252 := kB_eq e55 (kB_add b53 B43 (by decide))
        refine lv_iconst (v := 1) hx hb dX8_filter_56 (by decide) ?_
        have hPc := hP.sub (ws' := [(hm, .inr (8, [.int mrf, .ref hby, .int msz, .int mbg, .long mbt, .int mrg, .int mct, .int mvl, .int mpl, .int mcl, .int mrw, .int mqt, .int mlv, .int mtl, .int mbe, .int mch2, .ref hpb, .ref hwa, .ref hmn, .ref hcf, .ref hsa, .ref hro])), (hsa, .inl (cI, 256, .inl msa2))]) [0, 1] rfl
        have hDc := hD.sub (ws' := [(hm, .inr (8, [.int mrf, .ref hby, .int msz, .int mbg, .long mbt, .int mrg, .int mct, .int mvl, .int mpl, .int mcl, .int mrw, .int mqt, .int mlv, .int mtl, .int mbe, .int mch2, .ref hpb, .ref hwa, .ref hmn, .ref hcf, .ref hsa, .ref hro])), (hsa, .inl (cI, 256, .inl msa2))]) [0, 1] (by decide) rfl
        have hFc := va_free (wc := [(hm, .inr (8, [.int mrf, .ref hby, .int msz, .int mbg, .long mbt, .int mrg, .int mct, .int mvl, .int mpl, .int mcl, .int mrw, .int mqt, .int mlv, .int mtl, .int mbe, .int mch2, .ref hpb, .ref hwa, .ref hmn, .ref hcf, .ref hsa, .ref hro])), (hsa, .inl (cI, 256, .inl msa2))]) hD hS hA [0, 1] rfl
        refine va_callv (va_runV (As := [.int v55, .int 1]) (rest := []) ⟨hx, hb, hml, hown, hts⟩ (c_X8_smooth_a l D cI cJ cZ hm hby hpb hwa hmn hcf hsa hro mrf msz mbg mrg mct mvl mpl mcl mrw mqt mlv mtl mbe mch2 mbt msa2 v55 (kB_w b55 (by decide) (by decide)) (H).size) (cwV 2 hts (kg_V mk_283 mk_284 mk_285 mk_189 mk_286) rfl rfl rfl (by decide +kernel) ⟨Nat.le_of_ble_eq_true rfl, Nat.le_of_ble_eq_true rfl⟩) ⟨fun a U g mk q => by obtain ⟨q0, q1, qP, qK, qD⟩ := q; exact ⟨q0, q1, qP, kK.call qK, qD⟩, va_recv hK.1 hPc (ci := 8) (q0 := 0) rfl rfl, fun U hU hW => ⟨rfl, by rw [hU], by rw [hU]; exact hPc, kK.warm hW hK, hDc.weaken (fun _ _ _ _ => trivial)⟩⟩ rfl rfl hl.1 rfl (lv_room (Nat.le_of_ble_eq_true rfl)) dX8_filter_57 ⟨Nat.zero_le _, Nat.zero_le _⟩) hS (fun q _ h => hFc q h) hFc (fun u t9 H1 locs ht9 hvm9 hw9 hB9 hz9 hk9 hS => ?_)
        obtain ⟨mch2_57, msa2_57⟩ := u
        obtain ⟨hP1, hD1⟩ := hB9
        rw [ht9] at hP1
        have hP1 : va_P D vwCl [(hm, .inr (8, [.int mrf, .ref hby, .int msz, .int mbg, .long mbt, .int mrg, .int mct, .int mvl, .int mpl, .int mcl, .int mrw, .int mqt, .int mlv, .int mtl, .int mbe, .int mch2_57, .ref hpb, .ref hwa, .ref hmn, .ref hcf, .ref hsa, .ref hro])), (hsa, .inl (cI, 256, .inl msa2_57))] H1 := hP1
        obtain ⟨hP, hD⟩ := va_join (wr := []) (w1 := [(hm, .inr (8, [.int mrf, .ref hby, .int msz, .int mbg, .long mbt, .int mrg, .int mct, .int mvl, .int mpl, .int mcl, .int mrw, .int mqt, .int mlv, .int mtl, .int mbe, .int mch2_57, .ref hpb, .ref hwa, .ref hmn, .ref hcf, .ref hsa, .ref hro])), (hsa, .inl (cI, 256, .inl msa2_57))]) hP hD [0, 1] [] rfl rfl (by decide) (by decide) hk9 hFc hP1 hD1
        have hP := hP.sub (ws' := [(hm, .inr (8, [.int mrf, .ref hby, .int msz, .int mbg, .long mbt, .int mrg, .int mct, .int mvl, .int mpl, .int mcl, .int mrw, .int mqt, .int mlv, .int mtl, .int mbe, .int mch2_57, .ref hpb, .ref hwa, .ref hmn, .ref hcf, .ref hsa, .ref hro])), (hsa, .inl (cI, 256, .inl msa2_57))]) [0, 1] rfl
        have hD := hD.sub (ws' := [(hm, .inr (8, [.int mrf, .ref hby, .int msz, .int mbg, .long mbt, .int mrg, .int mct, .int mvl, .int mpl, .int mcl, .int mrw, .int mqt, .int mlv, .int mtl, .int mbe, .int mch2_57, .ref hpb, .ref hwa, .ref hmn, .ref hcf, .ref hsa, .ref hro])), (hsa, .inl (cI, 256, .inl msa2_57))]) [0, 1] (by decide) rfl
        generalize H1 = H at hP hS ⊢
        obtain ⟨v60, e60⟩ : ∃ y : Int32, y = x4 + 1 := ⟨_, rfl⟩
        refine lv_iinc (v := v60) (lv' := [(4, .int v60), (0, .ref hm), (1, .int x1), (2, .int x2), (3, .int x3)]) hx hb dX8_filter_60 hl (k := 4) rfl (by rw [e60]; rfl) (by decide) rfl (fun ls hl => ?_)
        have b60 : kB v60 1 4 := kB_eq e60 (kB_add c39nx kc_1 (by decide))
        have t60 : v60.toInt = x4.toInt + 1 := by rw [e60]; exact kinc (kB_w c39nx (by decide) (by decide))
        refine lv_goto (tgt := 36) hx hb dX8_filter_63 (by decide) ?_
        exact ih x1 x2 x3 v60 mch2_57 msa2_57 (by have := b1.1; have := b1.2; have := B43.1; have := B43.2; have := b3.1; have := b3.2; have := b60.1; have := b60.2; have := c39nx.1; have := c39nx.2; omega) (kB_w B43 (by decide) (by decide)) b3 m2 m3 (kB_w b60 (by decide) (by decide)) b1 hm2 _ _ ls hP hD hS (lv_sub hl [1, 2, 3, 4, 0] rfl)
set_option maxHeartbeats 4000000 in
set_option maxRecDepth 100000 in
theorem lp_X8_filter_2 {p : Program} {l : Launch} {e : Env} {s : State} {m : MethodId} {args : Array Value} {below : List Frame} {meth : Method} {c : Code} {A : Nat → Prop} (D : va_G) (cI cJ cZ : ClassId) (hm hby hpb hwa hmn hcf hsa hro : Nat) (mrf : Int32) (msz : Int32) (mbg : Int32) (mrg : Int32) (mct : Int32) (mvl : Int32) (mpl : Int32) (mcl : Int32) (mrw : Int32) (mqt : Int32) (mlv : Int32) (mtl : Int32) (mbe : Int32) (mch : Int32) (mbt : Int64) (msa : Nat → Int32) (bcl : kB mcl 1 4) (brw : kB mrw 1 4) (hx : p.tables.exec = Jvm.exec) (hb : c.code = cX8_filter) (hr : meth.sig.returnType = none) (hml : c.maxLocals = 5) (hown : s.vm.findClass RX8 = some m.cls) (hts : ∀ w ∈ kW, w.before args s = true) (hlocks : meth.locks = false) (hK : kK D cI cJ cZ s) (hA : ∀ q : Nat, s.heap.size ≤ q → A q) : ∀ n : Nat, ∀ (x1 : Int32) (mch2 : Int32) (msa2 : Nat → Int32), (16 - x1.toInt).toNat < n → (kB x1 0 16) → ∀ (H : Heap) (locs : List Loc) (ls : Array Slot), va_P D vwCl [(hm, .inr (8, [.int mrf, .ref hby, .int msz, .int mbg, .long mbt, .int mrg, .int mct, .int mvl, .int mpl, .int mcl, .int mrw, .int mqt, .int mlv, .int mtl, .int mbe, .int mch2, .ref hpb, .ref hwa, .ref hmn, .ref hcf, .ref hsa, .ref hro])), (hsa, .inl (cI, 256, .inl msa2))] H → va_D A [(hm, .inr (8, [.int mrf, .ref hby, .int msz, .int mbg, .long mbt, .int mrg, .int mct, .int mvl, .int mpl, .int mcl, .int mrw, .int mqt, .int mlv, .int mtl, .int mbe, .int mch2, .ref hpb, .ref hwa, .ref hmn, .ref hcf, .ref hsa, .ref hro])), (hsa, .inl (cI, 256, .inl msa2))] → va_S A s.heap H locs → lv_has ls 5 [(0, .ref hm), (1, .int x1)] → W p l e (headSpec kw_X8_filter ({ frames := 2, cells := 0, slots := 0, locals := 50 })).room s m args below meth c H locs 0 0 (MQ below (va_Qv (fun (u : Int32 × (Nat → Int32)) => True) (fun (u : Int32 × (Nat → Int32)) (t : State) => va_P D vwCl [(hm, .inr (8, [.int mrf, .ref hby, .int msz, .int mbg, .long mbt, .int mrg, .int mct, .int mvl, .int mpl, .int mcl, .int mrw, .int mqt, .int mlv, .int mtl, .int mbe, .int u.1, .ref hpb, .ref hwa, .ref hmn, .ref hcf, .ref hsa, .ref hro])), (hsa, .inl (cI, 256, .inl u.2))] t.heap ∧ va_D A [(hm, .inr (8, [.int mrf, .ref hby, .int msz, .int mbg, .long mbt, .int mrg, .int mct, .int mvl, .int mpl, .int mcl, .int mrw, .int mqt, .int mlv, .int mtl, .int mbe, .int u.1, .ref hpb, .ref hwa, .ref hmn, .ref hcf, .ref hsa, .ref hro])), (hsa, .inl (cI, 256, .inl u.2))]) A) args s 0 0 A) (F0 m 2 ls []) := by
  intro n
  induction n with
  | zero => intro x1 mch2 msa2 hmeas; exact absurd hmeas (Nat.not_lt_zero _)
  | succ n ih =>
    intro x1 mch2 msa2 hmeas b1 H locs ls hP hD hS hl
    refine lv_iload_n hx hb dX8_filter_2 rfl (lv_at hl 1 rfl) ?_
    refine lv_aload_n hx hb dX8_filter_3 rfl (lv_at hl 0 rfl) ?_
    refine va_get (D := D) (ci := 8) (v := .int mcl) (C := RX8) (T := TX8) (N := 22) hx hb hts in_X8 hown hK.1 hP 0 rfl rfl 9 (by decide) (hts _ mk_227) (fun _ h9 => h9) rfl dX8_filter_4 ?_
    refine lv_aload_n hx hb dX8_filter_7 rfl (lv_at hl 0 rfl) ?_
    refine va_get (D := D) (ci := 8) (v := .int mrw) (C := RX8) (T := TX8) (N := 22) hx hb hts in_X8 hown hK.1 hP 0 rfl rfl 10 (by decide) (hts _ mk_287) (fun _ h9 => h9) rfl dX8_filter_8 ?_
    refine lv_imul hx hb dX8_filter_11 ?_
    refine lv_topi (fun v11 e11 => ?_)
    have b11 : kB v11 1 16 := kB_eq e11 (kB_mul bcl brw (by decide))
    refine lv_icmp_ge (tgt := 106) hx hb dX8_filter_12 (by decide) (fun c12 => ?_) (fun c12 => ?_)
    · have c12y : kB x1 1 16 := kB_le_r b11 b1 c12 (by decide)
      exact W.vret hx hb hr (fun t9 ht9 hW9 => ⟨⟨(mch2, msa2), rfl, trivial, by rw [ht9]; exact hP, hD⟩, hS.F ht9⟩) hS.2.2 dX8_filter_106
    · have c12n : x1 < v11 := kN_le c12
      have c12nx : kB x1 0 15 := kB_lt_l b1 b11 c12n (by decide)
      refine lv_iconst (v := 4) hx hb dX8_filter_15 (by decide) ?_
      refine lv_iload_n hx hb dX8_filter_16 rfl (lv_at hl 1 rfl) ?_
      refine lv_aload_n hx hb dX8_filter_17 rfl (lv_at hl 0 rfl) ?_
      refine va_get (D := D) (ci := 8) (v := .int mcl) (C := RX8) (T := TX8) (N := 22) hx hb hts in_X8 hown hK.1 hP 0 rfl rfl 9 (by decide) (hts _ mk_227) (fun _ h9 => h9) rfl dX8_filter_18 ?_
      refine lv_irem hx hb dX8_filter_21 (kB_ne0 bcl (Or.inl (by decide))) ?_
      refine lv_topi (fun v21 e21 => ?_)
      have b21 : kB v21 0 3 := kB_eq e21 (kB_rem c12nx bcl (by decide))
      refine lv_imul hx hb dX8_filter_22 ?_
      refine lv_topi (fun v22 e22 => ?_)
      have b22 : kB v22 0 12 := kB_eq e22 (kB_cmul kc_4 b21 (by decide))
      refine lv_istore_n (lv' := [(2, .int v22), (0, .ref hm), (1, .int x1)]) hx hb dX8_filter_23 rfl hl (by decide) rfl (fun ls hl => ?_)
      refine lv_iconst (v := 4) hx hb dX8_filter_24 (by decide) ?_
      refine lv_iload_n hx hb dX8_filter_25 rfl (lv_at hl 2 rfl) ?_
      refine lv_aload_n hx hb dX8_filter_26 rfl (lv_at hl 1 rfl) ?_
      refine va_get (D := D) (ci := 8) (v := .int mcl) (C := RX8) (T := TX8) (N := 22) hx hb hts in_X8 hown hK.1 hP 0 rfl rfl 9 (by decide) (hts _ mk_227) (fun _ h9 => h9) rfl dX8_filter_27 ?_
      refine lv_idiv hx hb dX8_filter_30 (kB_ne0 bcl (Or.inl (by decide))) ?_
      refine lv_topi (fun v30 e30 => ?_)
      have b30 : kB v30 0 15 := kB_eq e30 (kB_divv c12nx bcl (by decide))
      have B30 : kB v30 0 3 := kdivc c12nx bcl (by rw [← kmulI (kB_w bcl (by decide) (by decide)) (kB_w brw (by decide) (by decide)), ← e11]; exact Int32.lt_iff_toInt_lt.mp c12n) brw.2 e30
      refine lv_imul hx hb dX8_filter_31 ?_
      refine lv_topi (fun v31 e31 => ?_)
      have b31 : kB v31 0 12 := kB_eq e31 (kB_cmul kc_4 B30 (by decide))
      refine lv_istore_n (lv' := [(3, .int v31), (2, .int v22), (0, .ref hm), (1, .int x1)]) hx hb dX8_filter_32 rfl hl (by decide) rfl (fun ls hl => ?_)
      have M2 : v22.toInt % 4 = 0 := by rw [e22, kI_mul (by rw [show (4 : Int32).toInt = 4 from by decide]; have := b21.1; omega) (by rw [show (4 : Int32).toInt = 4 from by decide]; have := b21.2; omega), show (4 : Int32).toInt = 4 from by decide]; omega
      have M3 : v31.toInt % 4 = 0 := by rw [e31, kI_mul (by rw [show (4 : Int32).toInt = 4 from by decide]; have := B30.1; omega) (by rw [show (4 : Int32).toInt = 4 from by decide]; have := B30.2; omega), show (4 : Int32).toInt = 4 from by decide]; omega
      refine lv_iconst (v := 0) hx hb dX8_filter_33 (by decide) ?_
      refine lv_istore (lv' := [(4, .int 0), (3, .int v31), (2, .int v22), (0, .ref hm), (1, .int x1)]) hx hb dX8_filter_34 hl (by decide) rfl (fun ls hl => ?_)
      exact lp_X8_filter_36 D cI cJ cZ hm hby hpb hwa hmn hcf hsa hro mrf msz mbg mrg mct mvl mpl mcl mrw mqt mlv mtl mbe mch mbt msa bcl brw hx hb hr hml hown hts hlocks hK hA n ih ((4 - (0 : Int32).toInt).toNat + 1) x1 v22 v31 0 mch2 msa2 (Nat.lt_succ_self _) b22 b31 M2 M3 (kB_w kc_0 (by decide) (by decide)) c12nx (by first | assumption | omega) _ _ ls hP hD hS (lv_sub hl [3, 4, 2, 1, 0] rfl)
set_option maxHeartbeats 4000000 in
set_option maxRecDepth 100000 in
theorem c_X8_filter (l : Launch) (D : va_G) (cI cJ cZ : ClassId) (hm hby hpb hwa hmn hcf hsa hro : Nat) (mrf : Int32) (msz : Int32) (mbg : Int32) (mrg : Int32) (mct : Int32) (mvl : Int32) (mpl : Int32) (mcl : Int32) (mrw : Int32) (mqt : Int32) (mlv : Int32) (mtl : Int32) (mbe : Int32) (mch : Int32) (mbt : Int64) (msa : Nat → Int32) (bcl : kB mcl 1 4) (brw : kB mrw 1 4) (hpz : Nat) : Met l yX8_filter kw_X8_filter ({ frames := 2, cells := 0, slots := 0, locals := 50 }) (va_Pc [.ref hm] (fun U => U.heap.size = hpz ∧ va_P D vwCl [(hm, .inr (8, [.int mrf, .ref hby, .int msz, .int mbg, .long mbt, .int mrg, .int mct, .int mvl, .int mpl, .int mcl, .int mrw, .int mqt, .int mlv, .int mtl, .int mbe, .int mch, .ref hpb, .ref hwa, .ref hmn, .ref hcf, .ref hsa, .ref hro])), (hsa, .inl (cI, 256, .inl msa))] U.heap ∧ kK D cI cJ cZ U ∧ va_D (fun _ => True) [(hm, .inr (8, [.int mrf, .ref hby, .int msz, .int mbg, .long mbt, .int mrg, .int mct, .int mvl, .int mpl, .int mcl, .int mrw, .int mqt, .int mlv, .int mtl, .int mbe, .int mch, .ref hpb, .ref hwa, .ref hmn, .ref hcf, .ref hsa, .ref hro])), (hsa, .inl (cI, 256, .inl msa))])) (va_Qv (fun (u : Int32 × (Nat → Int32)) => True) (fun (u : Int32 × (Nat → Int32)) (t : State) => va_P D vwCl [(hm, .inr (8, [.int mrf, .ref hby, .int msz, .int mbg, .long mbt, .int mrg, .int mct, .int mvl, .int mpl, .int mcl, .int mrw, .int mqt, .int mlv, .int mtl, .int mbe, .int u.1, .ref hpb, .ref hwa, .ref hmn, .ref hcf, .ref hsa, .ref hro])), (hsa, .inl (cI, 256, .inl u.2))] t.heap ∧ va_D (va_A [(hm, .inr (8, [.int mrf, .ref hby, .int msz, .int mbg, .long mbt, .int mrg, .int mct, .int mvl, .int mpl, .int mcl, .int mrw, .int mqt, .int mlv, .int mtl, .int mbe, .int mch, .ref hpb, .ref hwa, .ref hmn, .ref hcf, .ref hsa, .ref hro])), (hsa, .inl (cI, 256, .inl msa))] hpz) [(hm, .inr (8, [.int mrf, .ref hby, .int msz, .int mbg, .long mbt, .int mrg, .int mct, .int mvl, .int mpl, .int mcl, .int mrw, .int mqt, .int mlv, .int mtl, .int mbe, .int u.1, .ref hpb, .ref hwa, .ref hmn, .ref hcf, .ref hsa, .ref hro])), (hsa, .inl (cI, 256, .inl u.2))]) (va_A [(hm, .inr (8, [.int mrf, .ref hby, .int msz, .int mbg, .long mbt, .int mrg, .int mct, .int mvl, .int mpl, .int mcl, .int mrw, .int mqt, .int mlv, .int mtl, .int mbe, .int mch, .ref hpb, .ref hwa, .ref hmn, .ref hcf, .ref hsa, .ref hro])), (hsa, .inl (cI, 256, .inl msa))] hpz)) 0 0 (va_A [(hm, .inr (8, [.int mrf, .ref hby, .int msz, .int mbg, .long mbt, .int mrg, .int mct, .int mvl, .int mpl, .int mcl, .int mrw, .int mqt, .int mlv, .int mtl, .int mbe, .int mch, .ref hpb, .ref hwa, .ref hmn, .ref hcf, .ref hsa, .ref hro])), (hsa, .inl (cI, 256, .inl msa))] hpz) := by
  refine Met.ofW (cc := cX8_filter) (maxL := 5) (ret := none) (by decide) rfl ?_
  intro p e s m args below meth c s₁ B hml hv
  obtain ⟨rfl, hsz, hP, hK, hD0⟩ := hv
  have hx := B.exec
  have hb := B.bytes
  have hr := B.returns
  have hts := fun (w : Cond) (h : w ∈ kW) => atoms_spec (ws := kw_X8_filter) B.pre w (List.mem_cons_of_mem _ h)
  have hown : s.vm.findClass RX8 = some m.cls := findClass_of_methodNamed B.named
  have hlocks := B.notSynchronized
  subst hsz
  have hD := hD0.self (sz := s.heap.size)
  generalize hAe : va_A [(hm, .inr (8, [.int mrf, .ref hby, .int msz, .int mbg, .long mbt, .int mrg, .int mct, .int mvl, .int mpl, .int mcl, .int mrw, .int mqt, .int mlv, .int mtl, .int mbe, .int mch, .ref hpb, .ref hwa, .ref hmn, .ref hcf, .ref hsa, .ref hro])), (hsa, .inl (cI, 256, .inl msa))] s.heap.size = A at hD ⊢
  have hA : ∀ q : Nat, s.heap.size ≤ q → A q := fun q h => by rw [← hAe]; exact Or.inr h
  have hS : va_S A s.heap s.heap [] := va_S.rf
  have hP : va_P D vwCl [(hm, .inr (8, [.int mrf, .ref hby, .int msz, .int mbg, .long mbt, .int mrg, .int mct, .int mvl, .int mpl, .int mcl, .int mrw, .int mqt, .int mlv, .int mtl, .int mbe, .int mch, .ref hpb, .ref hwa, .ref hmn, .ref hcf, .ref hsa, .ref hro])), (hsa, .inl (cI, 256, .inl msa))] s.heap := hP
  have hl := lv_entry ([.ref hm]) (n := 5) (Nat.le_of_ble_eq_true rfl)
  rw [lg_entry_eq]
  generalize (lg_sl ([.ref hm]) ++ List.replicate (5 - (lg_sl ([.ref hm])).length) Slot.unset).toArray = ls at hl ⊢
  have hl : lv_has ls 5 [(0, .ref hm)] := hl
  refine lv_iconst (v := 0) hx hb dX8_filter_0 (by decide) ?_
  refine lv_istore_n (lv' := [(1, .int 0), (0, .ref hm)]) hx hb dX8_filter_1 rfl hl (by decide) rfl (fun ls hl => ?_)
  exact lp_X8_filter_2 D cI cJ cZ hm hby hpb hwa hmn hcf hsa hro mrf msz mbg mrg mct mvl mpl mcl mrw mqt mlv mtl mbe mch mbt msa bcl brw hx hb hr hml hown hts hlocks hK hA ((16 - (0 : Int32).toInt).toNat + 1) 0 mch msa (Nat.lt_succ_self _) (kB_w kc_0 (by decide) (by decide)) _ _ ls hP hD hS (lv_sub hl [1, 0] rfl)
