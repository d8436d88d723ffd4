abbrev kw_X8_isIn : List Cond := Cond.code yX8_isIn cX8_isIn 3 (some .boolean) :: kW
set_option maxHeartbeats 4000000 in
set_option maxRecDepth 100000 in
theorem c_X8_isIn (l : Launch) (D : va_G) (cI cJ cZ : ClassId) (v : Int32) (lo : Int32) (hi : Int32) (hpz : Nat) : Met l yX8_isIn kw_X8_isIn ({ frames := 0, cells := 0, slots := 0, locals := 0 }) (va_Pc [.int v, .int lo, .int hi] (fun U => U.heap.size = hpz ∧ va_P D vwCl [] U.heap ∧ kK D cI cJ cZ U ∧ va_D (fun _ => True) [])) (va_Qi (fun (r : Int32) (u : Unit) => (kB r 0 1) ∧ (r = if lo.toInt ≤ v.toInt ∧ v.toInt ≤ hi.toInt then 1 else 0) ∧ (¬ r = 0 → lo.toInt ≤ v.toInt ∧ v.toInt ≤ hi.toInt)) (fun (u : Unit) (t : State) => va_P D vwCl [] t.heap ∧ va_D (va_A [] hpz) []) (va_A [] hpz)) 0 0 (va_A [] hpz) := by
  refine Met.ofW (cc := cX8_isIn) (maxL := 3) (ret := (some .boolean)) (by decide) rfl ?_
  intro p e s m args below meth c s₁ B hml hv
  obtain ⟨rfl, hsz, hP, hK, hD0⟩ := hv
  have hx := B.exec
  have hb := B.bytes
  have hr := B.returns
  have hts := fun (w : Cond) (h : w ∈ kW) => atoms_spec (ws := kw_X8_isIn) B.pre w (List.mem_cons_of_mem _ h)
  have hown : s.vm.findClass RX8 = some m.cls := findClass_of_methodNamed B.named
  have hlocks := B.notSynchronized
  subst hsz
  have hD := hD0.self (sz := s.heap.size)
  generalize hAe : va_A [] s.heap.size = A at hD ⊢
  have hA : ∀ q : Nat, s.heap.size ≤ q → A q := fun q h => by rw [← hAe]; exact Or.inr h
  have hS : va_S A s.heap s.heap [] := va_S.rf
  have hP : va_P D vwCl [] s.heap := hP
  have hl := lv_entry ([.int v, .int lo, .int hi]) (n := 3) (Nat.le_of_ble_eq_true rfl)
  rw [lg_entry_eq]
  generalize (lg_sl ([.int v, .int lo, .int hi]) ++ List.replicate (3 - (lg_sl ([.int v, .int lo, .int hi])).length) Slot.unset).toArray = ls at hl ⊢
  have hl : lv_has ls 3 [(0, .int v), (1, .int lo), (2, .int hi)] := hl
  refine lv_iload_n hx hb dX8_isIn_0 rfl (lv_at hl 0 rfl) ?_
  refine lv_iload_n hx hb dX8_isIn_1 rfl (lv_at hl 1 rfl) ?_
  refine lv_icmp_lt (tgt := 14) hx hb dX8_isIn_2 (by decide) (fun c2 => ?_) (fun c2 => ?_)
  · have c2a := kB_all v
    have c2b := kB_all lo
    have c2x : kB v (-2147483648) 2147483646 := kB_lt_l c2a c2b c2 (by decide)
    have c2y : kB lo (-2147483647) 2147483647 := kB_lt_r c2a c2b c2 (by decide)
    have K : ¬ (lo.toInt ≤ v.toInt ∧ v.toInt ≤ hi.toInt) := fun h => by have := Int32.lt_iff_toInt_lt.mp c2; omega
    refine lv_iconst (v := 0) hx hb dX8_isIn_14 (by decide) ?_
    have pf_b : kB (0 : Int32) 0 1 := (kB_w kc_0 (by decide) (by decide))
    have pf_x : (0 : Int32) = if lo.toInt ≤ v.toInt ∧ v.toInt ≤ hi.toInt then 1 else 0 := (by rw [if_neg K])
    have pf_y : ¬ (0 : Int32) = 0 → lo.toInt ≤ v.toInt ∧ v.toInt ≤ hi.toInt := (fun h => absurd rfl h)
    exact W.zret (v := 0) hx hb hr (kB_nz (kB_w kc_0 (by decide) (by decide))) (fun t9 ht9 hW9 => ⟨⟨0, (), rfl, ⟨pf_b, pf_x, pf_y⟩, by rw [ht9]; exact hP, hD⟩, hS.F ht9⟩) hS.2.2 dX8_isIn_15
  · have c2n : lo ≤ v := kN_lt c2
    have c2na := kB_all lo
    have c2nb := kB_all v
    have c2nx : kB lo (-2147483648) 2147483647 := kB_le_l c2na c2nb c2n (by decide)
    have c2ny : kB v (-2147483648) 2147483647 := kB_le_r c2na c2nb c2n (by decide)
    refine lv_iload_n hx hb dX8_isIn_5 rfl (lv_at hl 0 rfl) ?_
    refine lv_iload_n hx hb dX8_isIn_6 rfl (lv_at hl 2 rfl) ?_
    refine lv_icmp_gt (tgt := 14) hx hb dX8_isIn_7 (by decide) (fun c7 => ?_) (fun c7 => ?_)
    · have c7a := kB_all hi
      have c7x : kB hi (-2147483648) 2147483646 := kB_lt_l c7a c2ny c7 (by decide)
      have c7y : kB v (-2147483647) 2147483647 := kB_lt_r c7a c2ny c7 (by decide)
      have K : ¬ (lo.toInt ≤ v.toInt ∧ v.toInt ≤ hi.toInt) := fun h => by have := Int32.lt_iff_toInt_lt.mp c7; omega
      refine lv_iconst (v := 0) hx hb dX8_isIn_14 (by decide) ?_
      have pf_b : kB (0 : Int32) 0 1 := (kB_w kc_0 (by decide) (by decide))
      have pf_x : (0 : Int32) = if lo.toInt ≤ v.toInt ∧ v.toInt ≤ hi.toInt then 1 else 0 := (by rw [if_neg K])
      have pf_y : ¬ (0 : Int32) = 0 → lo.toInt ≤ v.toInt ∧ v.toInt ≤ hi.toInt := (fun h => absurd rfl h)
      exact W.zret (v := 0) hx hb hr (kB_nz (kB_w kc_0 (by decide) (by decide))) (fun t9 ht9 hW9 => ⟨⟨0, (), rfl, ⟨pf_b, pf_x, pf_y⟩, by rw [ht9]; exact hP, hD⟩, hS.F ht9⟩) hS.2.2 dX8_isIn_15
    · have c7n : v ≤ hi := kN_lt c7
      have c7nb := kB_all hi
      have c7ny : kB hi (-2147483648) 2147483647 := kB_le_r c2ny c7nb c7n (by decide)
      have K : lo.toInt ≤ v.toInt ∧ v.toInt ≤ hi.toInt := ⟨Int32.le_iff_toInt_le.mp c2n, Int32.le_iff_toInt_le.mp c7n⟩
      refine lv_iconst (v := 1) hx hb dX8_isIn_10 (by decide) ?_
      refine lv_goto (tgt := 15) hx hb dX8_isIn_11 (by decide) ?_
      have pf_b : kB (1 : Int32) 0 1 := (kB_w kc_1 (by decide) (by decide))
      have pf_x : (1 : Int32) = if lo.toInt ≤ v.toInt ∧ v.toInt ≤ hi.toInt then 1 else 0 := (by rw [if_pos K])
      have pf_y : ¬ (1 : Int32) = 0 → lo.toInt ≤ v.toInt ∧ v.toInt ≤ hi.toInt := (fun _ => K)
      exact W.zret (v := 1) hx hb hr (kB_nz (kB_w kc_1 (by decide) (by decide))) (fun t9 ht9 hW9 => ⟨⟨1, (), rfl, ⟨pf_b, pf_x, pf_y⟩, by rw [ht9]; exact hP, hD⟩, hS.F ht9⟩) hS.2.2 dX8_isIn_15
abbrev kw_X8_refused : List Cond := Cond.code yX8_refused cX8_refused 2 (some .boolean) :: kW
set_option maxHeartbeats 4000000 in
set_option maxRecDepth 100000 in
theorem c_X8_refused (l : Launch) (D : va_G) (cI cJ cZ : ClassId) (hm hby hpb hwa hmn hcf hsa hro : Nat) (mrf : Int32) (msz : Int32) (mbg : Int32) (mrg : Int32) (mct : Int32) (mvl : Int32) (mpl : Int32) (mcl : Int32) (mrw : Int32) (mqt : Int32) (mlv : Int32) (mtl : Int32) (mbe : Int32) (mch : Int32) (mbt : Int64) (wh : Int32) (hpz : Nat) : Met l yX8_refused kw_X8_refused ({ frames := 0, cells := 0, slots := 0, locals := 0 }) (va_Pc [.ref hm, .int wh] (fun U => U.heap.size = hpz ∧ va_P D vwCl [(hm, .inr (8, [.int mrf, .ref hby, .int msz, .int mbg, .long mbt, .int mrg, .int mct, .int mvl, .int mpl, .int mcl, .int mrw, .int mqt, .int mlv, .int mtl, .int mbe, .int mch, .ref hpb, .ref hwa, .ref hmn, .ref hcf, .ref hsa, .ref hro]))] U.heap ∧ kK D cI cJ cZ U ∧ va_D (fun _ => True) [(hm, .inr (8, [.int mrf, .ref hby, .int msz, .int mbg, .long mbt, .int mrg, .int mct, .int mvl, .int mpl, .int mcl, .int mrw, .int mqt, .int mlv, .int mtl, .int mbe, .int mch, .ref hpb, .ref hwa, .ref hmn, .ref hcf, .ref hsa, .ref hro]))])) (va_Qi (fun (r : Int32) (u : Unit) => (kB r 0 1) ∧ (r = if 0 < wh.toInt then 1 else 0)) (fun (u : Unit) (t : State) => va_P D vwCl [(hm, .inr (8, [.int wh, .ref hby, .int msz, .int mbg, .long mbt, .int mrg, .int mct, .int mvl, .int mpl, .int mcl, .int mrw, .int mqt, .int mlv, .int mtl, .int mbe, .int mch, .ref hpb, .ref hwa, .ref hmn, .ref hcf, .ref hsa, .ref hro]))] t.heap ∧ va_D (va_A [(hm, .inr (8, [.int mrf, .ref hby, .int msz, .int mbg, .long mbt, .int mrg, .int mct, .int mvl, .int mpl, .int mcl, .int mrw, .int mqt, .int mlv, .int mtl, .int mbe, .int mch, .ref hpb, .ref hwa, .ref hmn, .ref hcf, .ref hsa, .ref hro]))] hpz) [(hm, .inr (8, [.int wh, .ref hby, .int msz, .int mbg, .long mbt, .int mrg, .int mct, .int mvl, .int mpl, .int mcl, .int mrw, .int mqt, .int mlv, .int mtl, .int mbe, .int mch, .ref hpb, .ref hwa, .ref hmn, .ref hcf, .ref hsa, .ref hro]))]) (va_A [(hm, .inr (8, [.int mrf, .ref hby, .int msz, .int mbg, .long mbt, .int mrg, .int mct, .int mvl, .int mpl, .int mcl, .int mrw, .int mqt, .int mlv, .int mtl, .int mbe, .int mch, .ref hpb, .ref hwa, .ref hmn, .ref hcf, .ref hsa, .ref hro]))] hpz)) 0 0 (va_A [(hm, .inr (8, [.int mrf, .ref hby, .int msz, .int mbg, .long mbt, .int mrg, .int mct, .int mvl, .int mpl, .int mcl, .int mrw, .int mqt, .int mlv, .int mtl, .int mbe, .int mch, .ref hpb, .ref hwa, .ref hmn, .ref hcf, .ref hsa, .ref hro]))] hpz) := by
  refine Met.ofW (cc := cX8_refused) (maxL := 2) (ret := (some .boolean)) (by decide) rfl ?_
  intro p e s m args below meth c s₁ B hml hv
  obtain ⟨rfl, hsz, hP, hK, hD0⟩ := hv
  have hx := B.exec
  have hb := B.bytes
  have hr := B.returns
  have hts := fun (w : Cond) (h : w ∈ kW) => atoms_spec (ws := kw_X8_refused) B.pre w (List.mem_cons_of_mem _ h)
  have hown : s.vm.findClass RX8 = some m.cls := findClass_of_methodNamed B.named
  have hlocks := B.notSynchronized
  subst hsz
  have hD := hD0.self (sz := s.heap.size)
  generalize hAe : va_A [(hm, .inr (8, [.int mrf, .ref hby, .int msz, .int mbg, .long mbt, .int mrg, .int mct, .int mvl, .int mpl, .int mcl, .int mrw, .int mqt, .int mlv, .int mtl, .int mbe, .int mch, .ref hpb, .ref hwa, .ref hmn, .ref hcf, .ref hsa, .ref hro]))] s.heap.size = A at hD ⊢
  have hA : ∀ q : Nat, s.heap.size ≤ q → A q := fun q h => by rw [← hAe]; exact Or.inr h
  have hS : va_S A s.heap s.heap [] := va_S.rf
  have hP : va_P D vwCl [(hm, .inr (8, [.int mrf, .ref hby, .int msz, .int mbg, .long mbt, .int mrg, .int mct, .int mvl, .int mpl, .int mcl, .int mrw, .int mqt, .int mlv, .int mtl, .int mbe, .int mch, .ref hpb, .ref hwa, .ref hmn, .ref hcf, .ref hsa, .ref hro]))] s.heap := hP
  have hl := lv_entry ([.ref hm, .int wh]) (n := 2) (Nat.le_of_ble_eq_true rfl)
  rw [lg_entry_eq]
  generalize (lg_sl ([.ref hm, .int wh]) ++ List.replicate (2 - (lg_sl ([.ref hm, .int wh])).length) Slot.unset).toArray = ls at hl ⊢
  have hl : lv_has ls 2 [(0, .ref hm), (1, .int wh)] := hl
  refine lv_aload_n hx hb dX8_refused_0 rfl (lv_at hl 0 rfl) ?_
  refine lv_iload_n hx hb dX8_refused_1 rfl (lv_at hl 1 rfl) ?_
  refine va_put (D := D) (ci := 8) (v := .int wh) (ty := .int) (C := RX8) (T := TX8) (N := 22) hx hb hts in_X8 tyX8 tyX8_ok nmX8 hown hK.1 hP hD hS 0 rfl rfl 0 (by decide) (hts _ mk_183) (fun _ h9 => h9) rfl (by decide +kernel) rfl rfl (Nat.le_of_ble_eq_true rfl) dX8_refused_2 (fun H locs hP hD hS => ?_)
  have hP : va_P D vwCl [(hm, .inr (8, [.int wh, .ref hby, .int msz, .int mbg, .long mbt, .int mrg, .int mct, .int mvl, .int mpl, .int mcl, .int mrw, .int mqt, .int mlv, .int mtl, .int mbe, .int mch, .ref hpb, .ref hwa, .ref hmn, .ref hcf, .ref hsa, .ref hro]))] H := hP
  have hD : va_D A [(hm, .inr (8, [.int wh, .ref hby, .int msz, .int mbg, .long mbt, .int mrg, .int mct, .int mvl, .int mpl, .int mcl, .int mrw, .int mqt, .int mlv, .int mtl, .int mbe, .int mch, .ref hpb, .ref hwa, .ref hmn, .ref hcf, .ref hsa, .ref hro]))] := hD
  refine lv_iload_n hx hb dX8_refused_5 rfl (lv_at hl 1 rfl) ?_
  refine lv_if_le (tgt := 13) hx hb dX8_refused_6 (by decide) (fun c6 => ?_) (fun c6 => ?_)
  · have c6a := kB_all wh
    have c6x : kB wh (-2147483648) 0 := kB_le_l c6a kc_0 c6 (by decide)
    have K : ¬ 0 < wh.toInt := fun h => by have := Int32.le_iff_toInt_le.mp c6; rw [show (0 : Int32).toInt = 0 from by decide] at this; omega
    refine lv_iconst (v := 0) hx hb dX8_refused_13 (by decide) ?_
    have pf_b : kB (0 : Int32) 0 1 := (kB_w kc_0 (by decide) (by decide))
    have pf_x : (0 : Int32) = if 0 < wh.toInt then 1 else 0 := (by rw [if_neg K])
    exact W.zret (v := 0) hx hb hr (kB_nz (kB_w kc_0 (by decide) (by decide))) (fun t9 ht9 hW9 => ⟨⟨0, (), rfl, ⟨pf_b, pf_x⟩, by rw [ht9]; exact hP, hD⟩, hS.F ht9⟩) hS.2.2 dX8_refused_14
  · have c6n : 0 < wh := kN_le c6
    have c6nb := kB_all wh
    have c6ny : kB wh 1 2147483647 := kB_lt_r kc_0 c6nb c6n (by decide)
    have K : 0 < wh.toInt := by have := Int32.lt_iff_toInt_lt.mp c6n; rw [show (0 : Int32).toInt = 0 from by decide] at this; exact this
    refine lv_iconst (v := 1) hx hb dX8_refused_9 (by decide) ?_
    refine lv_goto (tgt := 14) hx hb dX8_refused_10 (by decide) ?_
    have pf_b : kB (1 : Int32) 0 1 := (kB_w kc_1 (by decide) (by decide))
    have pf_x : (1 : Int32) = if 0 < wh.toInt then 1 else 0 := (by rw [if_pos K])
    exact W.zret (v := 1) hx hb hr (kB_nz (kB_w kc_1 (by decide) (by decide))) (fun t9 ht9 hW9 => ⟨⟨1, (), rfl, ⟨pf_b, pf_x⟩, by rw [ht9]; exact hP, hD⟩, hS.F ht9⟩) hS.2.2 dX8_refused_14
abbrev kw_X8_byteAt : List Cond := Cond.code yX8_byteAt cX8_byteAt 2 (some .int) :: kW
set_option maxHeartbeats 4000000 in
set_option maxRecDepth 100000 in
theorem c_X8_byteAt (l : Launch) (D : va_G) (cI cJ cZ : ClassId) (hm hby hpb hwa hmn hcf hsa hro : Nat) (mrf : Int32) (msz : Int32) (mbg : Int32) (mrg : Int32) (mct : Int32) (mvl : Int32) (mpl : Int32) (mcl : Int32) (mrw : Int32) (mqt : Int32) (mlv : Int32) (mtl : Int32) (mbe : Int32) (mch : Int32) (mbt : Int64) (mby : Nat → Int32) (k : Int32) (bsz : kB msz 0 600) (hk : 0 ≤ k.toInt) (hpz : Nat) : Met l yX8_byteAt kw_X8_byteAt ({ frames := 0, cells := 0, slots := 0, locals := 0 }) (va_Pc [.ref hm, .int k] (fun U => U.heap.size = hpz ∧ va_P D vwCl [(hm, .inr (8, [.int mrf, .ref hby, .int msz, .int mbg, .long mbt, .int mrg, .int mct, .int mvl, .int mpl, .int mcl, .int mrw, .int mqt, .int mlv, .int mtl, .int mbe, .int mch, .ref hpb, .ref hwa, .ref hmn, .ref hcf, .ref hsa, .ref hro])), (hby, .inl (cI, 600, .inl mby))] U.heap ∧ kK D cI cJ cZ U ∧ va_D (fun _ => True) [(hm, .inr (8, [.int mrf, .ref hby, .int msz, .int mbg, .long mbt, .int mrg, .int mct, .int mvl, .int mpl, .int mcl, .int mrw, .int mqt, .int mlv, .int mtl, .int mbe, .int mch, .ref hpb, .ref hwa, .ref hmn, .ref hcf, .ref hsa, .ref hro])), (hby, .inl (cI, 600, .inl mby))])) (va_Qi (fun (r : Int32) (u : Unit) => (r = if 0 ≤ k.toInt ∧ k.toInt < msz.toInt then mby k.toNatClampNeg else 0)) (fun (u : Unit) (t : State) => va_P D vwCl [(hm, .inr (8, [.int mrf, .ref hby, .int msz, .int mbg, .long mbt, .int mrg, .int mct, .int mvl, .int mpl, .int mcl, .int mrw, .int mqt, .int mlv, .int mtl, .int mbe, .int mch, .ref hpb, .ref hwa, .ref hmn, .ref hcf, .ref hsa, .ref hro])), (hby, .inl (cI, 600, .inl mby))] t.heap ∧ va_D (va_A [(hm, .inr (8, [.int mrf, .ref hby, .int msz, .int mbg, .long mbt, .int mrg, .int mct, .int mvl, .int mpl, .int mcl, .int mrw, .int mqt, .int mlv, .int mtl, .int mbe, .int mch, .ref hpb, .ref hwa, .ref hmn, .ref hcf, .ref hsa, .ref hro])), (hby, .inl (cI, 600, .inl mby))] hpz) [(hm, .inr (8, [.int mrf, .ref hby, .int msz, .int mbg, .long mbt, .int mrg, .int mct, .int mvl, .int mpl, .int mcl, .int mrw, .int mqt, .int mlv, .int mtl, .int mbe, .int mch, .ref hpb, .ref hwa, .ref hmn, .ref hcf, .ref hsa, .ref hro])), (hby, .inl (cI, 600, .inl mby))]) (va_A [(hm, .inr (8, [.int mrf, .ref hby, .int msz, .int mbg, .long mbt, .int mrg, .int mct, .int mvl, .int mpl, .int mcl, .int mrw, .int mqt, .int mlv, .int mtl, .int mbe, .int mch, .ref hpb, .ref hwa, .ref hmn, .ref hcf, .ref hsa, .ref hro])), (hby, .inl (cI, 600, .inl mby))] hpz)) 0 0 (va_A [(hm, .inr (8, [.int mrf, .ref hby, .int msz, .int mbg, .long mbt, .int mrg, .int mct, .int mvl, .int mpl, .int mcl, .int mrw, .int mqt, .int mlv, .int mtl, .int mbe, .int mch, .ref hpb, .ref hwa, .ref hmn, .ref hcf, .ref hsa, .ref hro])), (hby, .inl (cI, 600, .inl mby))] hpz) := by
  refine Met.ofW (cc := cX8_byteAt) (maxL := 2) (ret := (some .int)) (by decide) rfl ?_
  intro p e s m args below meth c s₁ B hml hv
  obtain ⟨rfl, hsz, hP, hK, hD0⟩ := hv
  have hx := B.exec
  have hb := B.bytes
  have hr := B.returns
  have hts := fun (w : Cond) (h : w ∈ kW) => atoms_spec (ws := kw_X8_byteAt) B.pre w (List.mem_cons_of_mem _ h)
  have hown : s.vm.findClass RX8 = some m.cls := findClass_of_methodNamed B.named
  have hlocks := B.notSynchronized
  subst hsz
  have hD := hD0.self (sz := s.heap.size)
  generalize hAe : va_A [(hm, .inr (8, [.int mrf, .ref hby, .int msz, .int mbg, .long mbt, .int mrg, .int mct, .int mvl, .int mpl, .int mcl, .int mrw, .int mqt, .int mlv, .int mtl, .int mbe, .int mch, .ref hpb, .ref hwa, .ref hmn, .ref hcf, .ref hsa, .ref hro])), (hby, .inl (cI, 600, .inl mby))] s.heap.size = A at hD ⊢
  have hA : ∀ q : Nat, s.heap.size ≤ q → A q := fun q h => by rw [← hAe]; exact Or.inr h
  have hS : va_S A s.heap s.heap [] := va_S.rf
  have hP : va_P D vwCl [(hm, .inr (8, [.int mrf, .ref hby, .int msz, .int mbg, .long mbt, .int mrg, .int mct, .int mvl, .int mpl, .int mcl, .int mrw, .int mqt, .int mlv, .int mtl, .int mbe, .int mch, .ref hpb, .ref hwa, .ref hmn, .ref hcf, .ref hsa, .ref hro])), (hby, .inl (cI, 600, .inl mby))] s.heap := hP
  have hl := lv_entry ([.ref hm, .int k]) (n := 2) (Nat.le_of_ble_eq_true rfl)
  rw [lg_entry_eq]
  generalize (lg_sl ([.ref hm, .int k]) ++ List.replicate (2 - (lg_sl ([.ref hm, .int k])).length) Slot.unset).toArray = ls at hl ⊢
  have hl : lv_has ls 2 [(0, .ref hm), (1, .int k)] := hl
  refine lv_iload_n hx hb dX8_byteAt_0 rfl (lv_at hl 1 rfl) ?_
  refine lv_aload_n hx hb dX8_byteAt_1 rfl (lv_at hl 0 rfl) ?_
  refine va_get (D := D) (ci := 8) (v := .int msz) (C := RX8) (T := TX8) (N := 22) hx hb hts in_X8 hown hK.1 hP 0 rfl rfl 2 (by decide) (hts _ mk_184) (fun _ h9 => h9) rfl dX8_byteAt_2 ?_
  refine lv_icmp_ge (tgt := 17) hx hb dX8_byteAt_5 (by decide) (fun c5 => ?_) (fun c5 => ?_)
  · have c5b := kB_all k
    have c5y : kB k 0 2147483647 := kB_le_r bsz c5b c5 (by decide)
    refine lv_iconst (v := 0) hx hb dX8_byteAt_17 (by decide) ?_
    have pf_x : (0 : Int32) = if 0 ≤ k.toInt ∧ k.toInt < msz.toInt then mby k.toNatClampNeg else 0 := (by rw [if_neg (fun h => by have := Int32.le_iff_toInt_le.mp c5; omega)])
    exact W.iret (v := 0) hx hb hr (fun t9 ht9 hW9 => ⟨⟨0, (), rfl, pf_x, by rw [ht9]; exact hP, hD⟩, hS.F ht9⟩) hS.2.2 dX8_byteAt_18
  · have c5n : k < msz := kN_le c5
    have c5na := kB_all k
    have c5nx : kB k (-2147483648) 599 := kB_lt_l c5na bsz c5n (by decide)
    have Bk : kB k 0 599 := ⟨hk, by have := Int32.lt_iff_toInt_lt.mp c5n; omega⟩
    refine lv_aload_n hx hb dX8_byteAt_8 rfl (lv_at hl 0 rfl) ?_
    refine va_get (D := D) (ci := 8) (v := .ref hby) (C := RX8) (T := TX8) (N := 22) hx hb hts in_X8 hown hK.1 hP 0 rfl rfl 1 (by decide) (hts _ mk_185) (fun _ h9 => h9) rfl dX8_byteAt_9 ?_
    refine lv_iload_n hx hb dX8_byteAt_12 rfl (lv_at hl 1 rfl) ?_
    refine va_iald hx hb hK.1 hP 1 0 rfl rfl (kB_in Bk (by decide)) dX8_byteAt_13 ?_
    refine lv_topi (fun v13 e13 => ?_)
    refine lv_goto (tgt := 18) hx hb dX8_byteAt_14 (by decide) ?_
    have pf_x : v13 = if 0 ≤ k.toInt ∧ k.toInt < msz.toInt then mby k.toNatClampNeg else 0 := (by rw [if_pos ⟨hk, Int32.lt_iff_toInt_lt.mp c5n⟩, e13])
    exact W.iret (v := v13) hx hb hr (fun t9 ht9 hW9 => ⟨⟨v13, (), rfl, pf_x, by rw [ht9]; exact hP, hD⟩, hS.F ht9⟩) hS.2.2 dX8_byteAt_18
abbrev kw_X8_open : List Cond := Cond.code yX8_open cX8_open 1 none :: kW
set_option maxHeartbeats 4000000 in
set_option maxRecDepth 100000 in
theorem c_X8_open (l : Launch) (D : va_G) (cI cJ cZ : ClassId) (hm hby hpb hwa hmn hcf hsa hro : Nat) (mrf : Int32) (msz : Int32) (mbg : Int32) (mrg : Int32) (mct : Int32) (mvl : Int32) (mpl : Int32) (mcl : Int32) (mrw : Int32) (mqt : Int32) (mlv : Int32) (mtl : Int32) (mbe : Int32) (mch : Int32) (mbt : Int64) (mby : Nat → Int32) (bsz : kB msz 0 600) (hpz : Nat) : Met l yX8_open kw_X8_open ({ frames := 1, cells := 0, slots := 0, locals := 21 }) (va_Pc [.ref hm] (fun U => U.heap.size = hpz ∧ va_P D vwCl [(hm, .inr (8, [.int mrf, .ref hby, .int msz, .int mbg, .long mbt, .int mrg, .int mct, .int mvl, .int mpl, .int mcl, .int mrw, .int mqt, .int mlv, .int mtl, .int mbe, .int mch, .ref hpb, .ref hwa, .ref hmn, .ref hcf, .ref hsa, .ref hro])), (hby, .inl (cI, 600, .inl mby))] U.heap ∧ kK D cI cJ cZ U ∧ va_D (fun _ => True) [(hm, .inr (8, [.int mrf, .ref hby, .int msz, .int mbg, .long mbt, .int mrg, .int mct, .int mvl, .int mpl, .int mcl, .int mrw, .int mqt, .int mlv, .int mtl, .int mbe, .int mch, .ref hpb, .ref hwa, .ref hmn, .ref hcf, .ref hsa, .ref hro])), (hby, .inl (cI, 600, .inl mby))])) (va_Qv (fun (u : Int32) => (u = (256 : Int32) * (if 0 ≤ (0 : Int32).toInt ∧ (0 : Int32).toInt < msz.toInt then mby (0 : Int32).toNatClampNeg else 0) + (if 0 ≤ (1 : Int32).toInt ∧ (1 : Int32).toInt < msz.toInt then mby (1 : Int32).toNatClampNeg else 0))) (fun (u : Int32) (t : State) => va_P D vwCl [(hm, .inr (8, [.int mrf, .ref hby, .int msz, .int mbg, .long mbt, .int 255, .int 0, .int u, .int 2, .int mcl, .int mrw, .int mqt, .int mlv, .int mtl, .int mbe, .int mch, .ref hpb, .ref hwa, .ref hmn, .ref hcf, .ref hsa, .ref hro])), (hby, .inl (cI, 600, .inl mby))] t.heap ∧ va_D (va_A [(hm, .inr (8, [.int mrf, .ref hby, .int msz, .int mbg, .long mbt, .int mrg, .int mct, .int mvl, .int mpl, .int mcl, .int mrw, .int mqt, .int mlv, .int mtl, .int mbe, .int mch, .ref hpb, .ref hwa, .ref hmn, .ref hcf, .ref hsa, .ref hro])), (hby, .inl (cI, 600, .inl mby))] hpz) [(hm, .inr (8, [.int mrf, .ref hby, .int msz, .int mbg, .long mbt, .int 255, .int 0, .int u, .int 2, .int mcl, .int mrw, .int mqt, .int mlv, .int mtl, .int mbe, .int mch, .ref hpb, .ref hwa, .ref hmn, .ref hcf, .ref hsa, .ref hro])), (hby, .inl (cI, 600, .inl mby))]) (va_A [(hm, .inr (8, [.int mrf, .ref hby, .int msz, .int mbg, .long mbt, .int mrg, .int mct, .int mvl, .int mpl, .int mcl, .int mrw, .int mqt, .int mlv, .int mtl, .int mbe, .int mch, .ref hpb, .ref hwa, .ref hmn, .ref hcf, .ref hsa, .ref hro])), (hby, .inl (cI, 600, .inl mby))] hpz)) 0 0 (va_A [(hm, .inr (8, [.int mrf, .ref hby, .int msz, .int mbg, .long mbt, .int mrg, .int mct, .int mvl, .int mpl, .int mcl, .int mrw, .int mqt, .int mlv, .int mtl, .int mbe, .int mch, .ref hpb, .ref hwa, .ref hmn, .ref hcf, .ref hsa, .ref hro])), (hby, .inl (cI, 600, .inl mby))] hpz) := by
  refine Met.ofW (cc := cX8_open) (maxL := 1) (ret := none) (by decide) rfl ?_
  intro p e s m args below meth c s₁ B hml hv
  obtain ⟨rfl, hsz, hP, hK, hD0⟩ := hv
  have hx := B.exec
  have hb := B.bytes
  have hr := B.returns
  have hts := fun (w : Cond) (h : w ∈ kW) => atoms_spec (ws := kw_X8_open) B.pre w (List.mem_cons_of_mem _ h)
  have hown : s.vm.findClass RX8 = some m.cls := findClass_of_methodNamed B.named
  have hlocks := B.notSynchronized
  subst hsz
  have hD := hD0.self (sz := s.heap.size)
  generalize hAe : va_A [(hm, .inr (8, [.int mrf, .ref hby, .int msz, .int mbg, .long mbt, .int mrg, .int mct, .int mvl, .int mpl, .int mcl, .int mrw, .int mqt, .int mlv, .int mtl, .int mbe, .int mch, .ref hpb, .ref hwa, .ref hmn, .ref hcf, .ref hsa, .ref hro])), (hby, .inl (cI, 600, .inl mby))] s.heap.size = A at hD ⊢
  have hA : ∀ q : Nat, s.heap.size ≤ q → A q := fun q h => by rw [← hAe]; exact Or.inr h
  have hS : va_S A s.heap s.heap [] := va_S.rf
  have hP : va_P D vwCl [(hm, .inr (8, [.int mrf, .ref hby, .int msz, .int mbg, .long mbt, .int mrg, .int mct, .int mvl, .int mpl, .int mcl, .int mrw, .int mqt, .int mlv, .int mtl, .int mbe, .int mch, .ref hpb, .ref hwa, .ref hmn, .ref hcf, .ref hsa, .ref hro])), (hby, .inl (cI, 600, .inl mby))] s.heap := hP
  have hl := lv_entry ([.ref hm]) (n := 1) (Nat.le_of_ble_eq_true rfl)
  rw [lg_entry_eq]
  generalize (lg_sl ([.ref hm]) ++ List.replicate (1 - (lg_sl ([.ref hm])).length) Slot.unset).toArray = ls at hl ⊢
  have hl : lv_has ls 1 [(0, .ref hm)] := hl
  refine lv_aload_n hx hb dX8_open_0 rfl (lv_at hl 0 rfl) ?_
  refine lv_sipush (v := 256) hx hb dX8_open_1 (by decide) ?_
  refine lv_aload_n hx hb dX8_open_4 rfl (lv_at hl 0 rfl) ?_
  refine lv_iconst (v := 0) hx hb dX8_open_5 (by decide) ?_
  have hPc := hP.sub (ws' := [(hm, .inr (8, [.int mrf, .ref hby, .int msz, .int mbg, .long mbt, .int mrg, .int mct, .int mvl, .int mpl, .int mcl, .int mrw, .int mqt, .int mlv, .int mtl, .int mbe, .int mch, .ref hpb, .ref hwa, .ref hmn, .ref hcf, .ref hsa, .ref hro])), (hby, .inl (cI, 600, .inl mby))]) [0, 1] rfl
  have hDc := hD.sub (ws' := [(hm, .inr (8, [.int mrf, .ref hby, .int msz, .int mbg, .long mbt, .int mrg, .int mct, .int mvl, .int mpl, .int mcl, .int mrw, .int mqt, .int mlv, .int mtl, .int mbe, .int mch, .ref hpb, .ref hwa, .ref hmn, .ref hcf, .ref hsa, .ref hro])), (hby, .inl (cI, 600, .inl mby))]) [0, 1] (by decide) rfl
  have hFc := va_free (wc := [(hm, .inr (8, [.int mrf, .ref hby, .int msz, .int mbg, .long mbt, .int mrg, .int mct, .int mvl, .int mpl, .int mcl, .int mrw, .int mqt, .int mlv, .int mtl, .int mbe, .int mch, .ref hpb, .ref hwa, .ref hmn, .ref hcf, .ref hsa, .ref hro])), (hby, .inl (cI, 600, .inl mby))]) hD hS hA [0, 1] rfl
  refine va_calli (va_runV (As := [.int 0]) (rest := [.int 256, .ref hm]) ⟨hx, hb, hml, hown, hts⟩ (c_X8_byteAt l D cI cJ cZ hm hby hpb hwa hmn hcf hsa hro mrf msz mbg mrg mct mvl mpl mcl mrw mqt mlv mtl mbe mch mbt mby 0 bsz (by rw [show (0 : Int32).toInt = 0 from by decide]; decide) (s.heap).size) (cwV 1 hts (kg_V mk_186 mk_187 mk_188 mk_189 mk_190) rfl rfl rfl (by decide +kernel) ⟨Nat.le_of_ble_eq_true rfl, Nat.le_of_ble_eq_true rfl⟩) ⟨fun a U g mk q => by obtain ⟨q0, q1, qP, qK, qD⟩ := q; exact ⟨q0, q1, qP, kK.call qK, qD⟩, va_recv hK.1 hPc (ci := 8) (q0 := 0) rfl rfl, fun U hU hW => ⟨rfl, by rw [hU], by rw [hU]; exact hPc, kK.warm hW hK, hDc.weaken (fun _ _ _ _ => trivial)⟩⟩ rfl rfl hl.1 rfl (lv_room (Nat.le_of_ble_eq_true rfl)) dX8_open_6 ⟨Nat.zero_le _, Nat.zero_le _⟩) hS (fun q _ h => hFc q h) hFc (fun r6 u t9 H1 locs ht9 hvm9 hw9 hB9 hz9 hk9 hS => ?_)
  obtain ⟨hP1, hD1⟩ := hB9
  rw [ht9] at hP1
  have hP1 : va_P D vwCl [(hm, .inr (8, [.int mrf, .ref hby, .int msz, .int mbg, .long mbt, .int mrg, .int mct, .int mvl, .int mpl, .int mcl, .int mrw, .int mqt, .int mlv, .int mtl, .int mbe, .int mch, .ref hpb, .ref hwa, .ref hmn, .ref hcf, .ref hsa, .ref hro])), (hby, .inl (cI, 600, .inl mby))] H1 := hP1
  obtain ⟨hP, hD⟩ := va_join (wr := []) (w1 := [(hm, .inr (8, [.int mrf, .ref hby, .int msz, .int mbg, .long mbt, .int mrg, .int mct, .int mvl, .int mpl, .int mcl, .int mrw, .int mqt, .int mlv, .int mtl, .int mbe, .int mch, .ref hpb, .ref hwa, .ref hmn, .ref hcf, .ref hsa, .ref hro])), (hby, .inl (cI, 600, .inl mby))]) hP hD [0, 1] [] rfl rfl (by decide) (by decide) hk9 hFc hP1 hD1
  have hP := hP.sub (ws' := [(hm, .inr (8, [.int mrf, .ref hby, .int msz, .int mbg, .long mbt, .int mrg, .int mct, .int mvl, .int mpl, .int mcl, .int mrw, .int mqt, .int mlv, .int mtl, .int mbe, .int mch, .ref hpb, .ref hwa, .ref hmn, .ref hcf, .ref hsa, .ref hro])), (hby, .inl (cI, 600, .inl mby))]) [0, 1] rfl
  have hD := hD.sub (ws' := [(hm, .inr (8, [.int mrf, .ref hby, .int msz, .int mbg, .long mbt, .int mrg, .int mct, .int mvl, .int mpl, .int mcl, .int mrw, .int mqt, .int mlv, .int mtl, .int mbe, .int mch, .ref hpb, .ref hwa, .ref hmn, .ref hcf, .ref hsa, .ref hro])), (hby, .inl (cI, 600, .inl mby))]) [0, 1] (by decide) rfl
  generalize H1 = H at hP hS ⊢
  have q6_0 : r6 = if 0 ≤ (0 : Int32).toInt ∧ (0 : Int32).toInt < msz.toInt then mby (0 : Int32).toNatClampNeg else 0 := hw9
  refine lv_imul hx hb dX8_open_9 ?_
  refine lv_topi (fun v9 e9 => ?_)
  refine lv_aload_n hx hb dX8_open_10 rfl (lv_at hl 0 rfl) ?_
  refine lv_iconst (v := 1) hx hb dX8_open_11 (by decide) ?_
  have hPc := hP.sub (ws' := [(hm, .inr (8, [.int mrf, .ref hby, .int msz, .int mbg, .long mbt, .int mrg, .int mct, .int mvl, .int mpl, .int mcl, .int mrw, .int mqt, .int mlv, .int mtl, .int mbe, .int mch, .ref hpb, .ref hwa, .ref hmn, .ref hcf, .ref hsa, .ref hro])), (hby, .inl (cI, 600, .inl mby))]) [0, 1] rfl
  have hDc := hD.sub (ws' := [(hm, .inr (8, [.int mrf, .ref hby, .int msz, .int mbg, .long mbt, .int mrg, .int mct, .int mvl, .int mpl, .int mcl, .int mrw, .int mqt, .int mlv, .int mtl, .int mbe, .int mch, .ref hpb, .ref hwa, .ref hmn, .ref hcf, .ref hsa, .ref hro])), (hby, .inl (cI, 600, .inl mby))]) [0, 1] (by decide) rfl
  have hFc := va_free (wc := [(hm, .inr (8, [.int mrf, .ref hby, .int msz, .int mbg, .long mbt, .int mrg, .int mct, .int mvl, .int mpl, .int mcl, .int mrw, .int mqt, .int mlv, .int mtl, .int mbe, .int mch, .ref hpb, .ref hwa, .ref hmn, .ref hcf, .ref hsa, .ref hro])), (hby, .inl (cI, 600, .inl mby))]) hD hS hA [0, 1] rfl
  refine va_calli (va_runV (As := [.int 1]) (rest := [.int v9, .ref hm]) ⟨hx, hb, hml, hown, hts⟩ (c_X8_byteAt l D cI cJ cZ hm hby hpb hwa hmn hcf hsa hro mrf msz mbg mrg mct mvl mpl mcl mrw mqt mlv mtl mbe mch mbt mby 1 bsz (by rw [show (1 : Int32).toInt = 1 from by decide]; decide) (H).size) (cwV 1 hts (kg_V mk_186 mk_187 mk_188 mk_189 mk_190) rfl rfl rfl (by decide +kernel) ⟨Nat.le_of_ble_eq_true rfl, Nat.le_of_ble_eq_true rfl⟩) ⟨fun a U g mk q => by obtain ⟨q0, q1, qP, qK, qD⟩ := q; exact ⟨q0, q1, qP, kK.call qK, qD⟩, va_recv hK.1 hPc (ci := 8) (q0 := 0) rfl rfl, fun U hU hW => ⟨rfl, by rw [hU], by rw [hU]; exact hPc, kK.warm hW hK, hDc.weaken (fun _ _ _ _ => trivial)⟩⟩ rfl rfl hl.1 rfl (lv_room (Nat.le_of_ble_eq_true rfl)) dX8_open_12 ⟨Nat.zero_le _, Nat.zero_le _⟩) hS (fun q _ h => hFc q h) hFc (fun r12 u t9 H1 locs ht9 hvm9 hw9 hB9 hz9 hk9 hS => ?_)
  obtain ⟨hP1, hD1⟩ := hB9
  rw [ht9] at hP1
  have hP1 : va_P D vwCl [(hm, .inr (8, [.int mrf, .ref hby, .int msz, .int mbg, .long mbt, .int mrg, .int mct, .int mvl, .int mpl, .int mcl, .int mrw, .int mqt, .int mlv, .int mtl, .int mbe, .int mch, .ref hpb, .ref hwa, .ref hmn, .ref hcf, .ref hsa, .ref hro])), (hby, .inl (cI, 600, .inl mby))] H1 := hP1
  obtain ⟨hP, hD⟩ := va_join (wr := []) (w1 := [(hm, .inr (8, [.int mrf, .ref hby, .int msz, .int mbg, .long mbt, .int mrg, .int mct, .int mvl, .int mpl, .int mcl, .int mrw, .int mqt, .int mlv, .int mtl, .int mbe, .int mch, .ref hpb, .ref hwa, .ref hmn, .ref hcf, .ref hsa, .ref hro])), (hby, .inl (cI, 600, .inl mby))]) hP hD [0, 1] [] rfl rfl (by decide) (by decide) hk9 hFc hP1 hD1
  have hP := hP.sub (ws' := [(hm, .inr (8, [.int mrf, .ref hby, .int msz, .int mbg, .long mbt, .int mrg, .int mct, .int mvl, .int mpl, .int mcl, .int mrw, .int mqt, .int mlv, .int mtl, .int mbe, .int mch, .ref hpb, .ref hwa, .ref hmn, .ref hcf, .ref hsa, .ref hro])), (hby, .inl (cI, 600, .inl mby))]) [0, 1] rfl
  have hD := hD.sub (ws' := [(hm, .inr (8, [.int mrf, .ref hby, .int msz, .int mbg, .long mbt, .int mrg, .int mct, .int mvl, .int mpl, .int mcl, .int mrw, .int mqt, .int mlv, .int mtl, .int mbe, .int mch, .ref hpb, .ref hwa, .ref hmn, .ref hcf, .ref hsa, .ref hro])), (hby, .inl (cI, 600, .inl mby))]) [0, 1] (by decide) rfl
  generalize H1 = H at hP hS ⊢
  have q12_0 : r12 = if 0 ≤ (1 : Int32).toInt ∧ (1 : Int32).toInt < msz.toInt then mby (1 : Int32).toNatClampNeg else 0 := hw9
  refine lv_iadd hx hb dX8_open_15 ?_
  refine lv_topi (fun v15 e15 => ?_)
  refine va_put (D := D) (ci := 8) (v := .int v15) (ty := .int) (C := RX8) (T := TX8) (N := 22) hx hb hts in_X8 tyX8 tyX8_ok nmX8 hown hK.1 hP hD hS 0 rfl rfl 7 (by decide) (hts _ mk_191) (fun _ h9 => h9) rfl (by decide +kernel) rfl rfl (Nat.le_of_ble_eq_true rfl) dX8_open_16 (fun H locs hP hD hS => ?_)
  have hP : va_P D vwCl [(hm, .inr (8, [.int mrf, .ref hby, .int msz, .int mbg, .long mbt, .int mrg, .int mct, .int v15, .int mpl, .int mcl, .int mrw, .int mqt, .int mlv, .int mtl, .int mbe, .int mch, .ref hpb, .ref hwa, .ref hmn, .ref hcf, .ref hsa, .ref hro])), (hby, .inl (cI, 600, .inl mby))] H := hP
  have hD : va_D A [(hm, .inr (8, [.int mrf, .ref hby, .int msz, .int mbg, .long mbt, .int mrg, .int mct, .int v15, .int mpl, .int mcl, .int mrw, .int mqt, .int mlv, .int mtl, .int mbe, .int mch, .ref hpb, .ref hwa, .ref hmn, .ref hcf, .ref hsa, .ref hro])), (hby, .inl (cI, 600, .inl mby))] := hD
  refine lv_aload_n hx hb dX8_open_19 rfl (lv_at hl 0 rfl) ?_
  refine lv_iconst (v := 2) hx hb dX8_open_20 (by decide) ?_
  refine va_put (D := D) (ci := 8) (v := .int 2) (ty := .int) (C := RX8) (T := TX8) (N := 22) hx hb hts in_X8 tyX8 tyX8_ok nmX8 hown hK.1 hP hD hS 0 rfl rfl 8 (by decide) (hts _ mk_192) (fun _ h9 => h9) rfl (by decide +kernel) rfl rfl (Nat.le_of_ble_eq_true rfl) dX8_open_21 (fun H locs hP hD hS => ?_)
  have hP : va_P D vwCl [(hm, .inr (8, [.int mrf, .ref hby, .int msz, .int mbg, .long mbt, .int mrg, .int mct, .int v15, .int 2, .int mcl, .int mrw, .int mqt, .int mlv, .int mtl, .int mbe, .int mch, .ref hpb, .ref hwa, .ref hmn, .ref hcf, .ref hsa, .ref hro])), (hby, .inl (cI, 600, .inl mby))] H := hP
  have hD : va_D A [(hm, .inr (8, [.int mrf, .ref hby, .int msz, .int mbg, .long mbt, .int mrg, .int mct, .int v15, .int 2, .int mcl, .int mrw, .int mqt, .int mlv, .int mtl, .int mbe, .int mch, .ref hpb, .ref hwa, .ref hmn, .ref hcf, .ref hsa, .ref hro])), (hby, .inl (cI, 600, .inl mby))] := hD
  refine lv_aload_n hx hb dX8_open_24 rfl (lv_at hl 0 rfl) ?_
  refine lv_sipush (v := 255) hx hb dX8_open_25 (by decide) ?_
  refine va_put (D := D) (ci := 8) (v := .int 255) (ty := .int) (C := RX8) (T := TX8) (N := 22) hx hb hts in_X8 tyX8 tyX8_ok nmX8 hown hK.1 hP hD hS 0 rfl rfl 5 (by decide) (hts _ mk_193) (fun _ h9 => h9) rfl (by decide +kernel) rfl rfl (Nat.le_of_ble_eq_true rfl) dX8_open_28 (fun H locs hP hD hS => ?_)
  have hP : va_P D vwCl [(hm, .inr (8, [.int mrf, .ref hby, .int msz, .int mbg, .long mbt, .int 255, .int mct, .int v15, .int 2, .int mcl, .int mrw, .int mqt, .int mlv, .int mtl, .int mbe, .int mch, .ref hpb, .ref hwa, .ref hmn, .ref hcf, .ref hsa, .ref hro])), (hby, .inl (cI, 600, .inl mby))] H := hP
  have hD : va_D A [(hm, .inr (8, [.int mrf, .ref hby, .int msz, .int mbg, .long mbt, .int 255, .int mct, .int v15, .int 2, .int mcl, .int mrw, .int mqt, .int mlv, .int mtl, .int mbe, .int mch, .ref hpb, .ref hwa, .ref hmn, .ref hcf, .ref hsa, .ref hro])), (hby, .inl (cI, 600, .inl mby))] := hD
  refine lv_aload_n hx hb dX8_open_31 rfl (lv_at hl 0 rfl) ?_
  refine lv_iconst (v := 0) hx hb dX8_open_32 (by decide) ?_
  refine va_put (D := D) (ci := 8) (v := .int 0) (ty := .int) (C := RX8) (T := TX8) (N := 22) hx hb hts in_X8 tyX8 tyX8_ok nmX8 hown hK.1 hP hD hS 0 rfl rfl 6 (by decide) (hts _ mk_194) (fun _ h9 => h9) rfl (by decide +kernel) rfl rfl (Nat.le_of_ble_eq_true rfl) dX8_open_33 (fun H locs hP hD hS => ?_)
  have hP : va_P D vwCl [(hm, .inr (8, [.int mrf, .ref hby, .int msz, .int mbg, .long mbt, .int 255, .int 0, .int v15, .int 2, .int mcl, .int mrw, .int mqt, .int mlv, .int mtl, .int mbe, .int mch, .ref hpb, .ref hwa, .ref hmn, .ref hcf, .ref hsa, .ref hro])), (hby, .inl (cI, 600, .inl mby))] H := hP
  have hD : va_D A [(hm, .inr (8, [.int mrf, .ref hby, .int msz, .int mbg, .long mbt, .int 255, .int 0, .int v15, .int 2, .int mcl, .int mrw, .int mqt, .int mlv, .int mtl, .int mbe, .int mch, .ref hpb, .ref hwa, .ref hmn, .ref hcf, .ref hsa, .ref hro])), (hby, .inl (cI, 600, .inl mby))] := hD
  have pf_x : v15 = (256 : Int32) * (if 0 ≤ (0 : Int32).toInt ∧ (0 : Int32).toInt < msz.toInt then mby (0 : Int32).toNatClampNeg else 0) + (if 0 ≤ (1 : Int32).toInt ∧ (1 : Int32).toInt < msz.toInt then mby (1 : Int32).toNatClampNeg else 0) := (by rw [e15, e9, q6_0, q12_0])
  exact W.vret hx hb hr (fun t9 ht9 hW9 => ⟨⟨v15, rfl, pf_x, by rw [ht9]; exact hP, hD⟩, hS.F ht9⟩) hS.2.2 dX8_open_36
abbrev kw_X8_read : List Cond := Cond.code yX8_read cX8_read 1 none :: kW
set_option maxHeartbeats 4000000 in
set_option maxRecDepth 100000 in
theorem c_X8_read (l : Launch) (D : va_G) (cI cJ cZ : ClassId) (hm hby hpb hwa hmn hcf hsa hro : Nat) (mrf : Int32) (msz : Int32) (mbg : Int32) (mrg : Int32) (mct : Int32) (mvl : Int32) (mpl : Int32) (mcl : Int32) (mrw : Int32) (mqt : Int32) (mlv : Int32) (mtl : Int32) (mbe : Int32) (mch : Int32) (mbt : Int64) (mby : Nat → Int32) (bsz : kB msz 0 600) (hpz : Nat) : Met l yX8_read kw_X8_read ({ frames := 2, cells := 0, slots := 0, locals := 41 }) (va_Pc [.ref hm] (fun U => U.heap.size = hpz ∧ va_P D vwCl [(hm, .inr (8, [.int mrf, .ref hby, .int msz, .int mbg, .long mbt, .int mrg, .int mct, .int mvl, .int mpl, .int mcl, .int mrw, .int mqt, .int mlv, .int mtl, .int mbe, .int mch, .ref hpb, .ref hwa, .ref hmn, .ref hcf, .ref hsa, .ref hro])), (hby, .inl (cI, 600, .inl mby))] U.heap ∧ kK D cI cJ cZ U ∧ va_D (fun _ => True) [(hm, .inr (8, [.int mrf, .ref hby, .int msz, .int mbg, .long mbt, .int mrg, .int mct, .int mvl, .int mpl, .int mcl, .int mrw, .int mqt, .int mlv, .int mtl, .int mbe, .int mch, .ref hpb, .ref hwa, .ref hmn, .ref hcf, .ref hsa, .ref hro])), (hby, .inl (cI, 600, .inl mby))])) (va_Qv (fun (u : Int32) => (u = (256 : Int32) * (if 0 ≤ (0 : Int32).toInt ∧ (0 : Int32).toInt < msz.toInt then mby (0 : Int32).toNatClampNeg else 0) + (if 0 ≤ (1 : Int32).toInt ∧ (1 : Int32).toInt < msz.toInt then mby (1 : Int32).toNatClampNeg else 0))) (fun (u : Int32) (t : State) => va_P D vwCl [(hm, .inr (8, [.int 0, .ref hby, .int msz, .int 2, .long mbt, .int 255, .int 0, .int u, .int 2, .int mcl, .int mrw, .int mqt, .int mlv, .int mtl, .int mbe, .int mch, .ref hpb, .ref hwa, .ref hmn, .ref hcf, .ref hsa, .ref hro])), (hby, .inl (cI, 600, .inl mby))] t.heap ∧ va_D (va_A [(hm, .inr (8, [.int mrf, .ref hby, .int msz, .int mbg, .long mbt, .int mrg, .int mct, .int mvl, .int mpl, .int mcl, .int mrw, .int mqt, .int mlv, .int mtl, .int mbe, .int mch, .ref hpb, .ref hwa, .ref hmn, .ref hcf, .ref hsa, .ref hro])), (hby, .inl (cI, 600, .inl mby))] hpz) [(hm, .inr (8, [.int 0, .ref hby, .int msz, .int 2, .long mbt, .int 255, .int 0, .int u, .int 2, .int mcl, .int mrw, .int mqt, .int mlv, .int mtl, .int mbe, .int mch, .ref hpb, .ref hwa, .ref hmn, .ref hcf, .ref hsa, .ref hro])), (hby, .inl (cI, 600, .inl mby))]) (va_A [(hm, .inr (8, [.int mrf, .ref hby, .int msz, .int mbg, .long mbt, .int mrg, .int mct, .int mvl, .int mpl, .int mcl, .int mrw, .int mqt, .int mlv, .int mtl, .int mbe, .int mch, .ref hpb, .ref hwa, .ref hmn, .ref hcf, .ref hsa, .ref hro])), (hby, .inl (cI, 600, .inl mby))] hpz)) 0 0 (va_A [(hm, .inr (8, [.int mrf, .ref hby, .int msz, .int mbg, .long mbt, .int mrg, .int mct, .int mvl, .int mpl, .int mcl, .int mrw, .int mqt, .int mlv, .int mtl, .int mbe, .int mch, .ref hpb, .ref hwa, .ref hmn, .ref hcf, .ref hsa, .ref hro])), (hby, .inl (cI, 600, .inl mby))] hpz) := by
  refine Met.ofW (cc := cX8_read) (maxL := 1) (ret := none) (by decide) rfl ?_
  intro p e s m args below meth c s₁ B hml hv
  obtain ⟨rfl, hsz, hP, hK, hD0⟩ := hv
  have hx := B.exec
  have hb := B.bytes
  have hr := B.returns
  have hts := fun (w : Cond) (h : w ∈ kW) => atoms_spec (ws := kw_X8_read) B.pre w (List.mem_cons_of_mem _ h)
  have hown : s.vm.findClass RX8 = some m.cls := findClass_of_methodNamed B.named
  have hlocks := B.notSynchronized
  subst hsz
  have hD := hD0.self (sz := s.heap.size)
  generalize hAe : va_A [(hm, .inr (8, [.int mrf, .ref hby, .int msz, .int mbg, .long mbt, .int mrg, .int mct, .int mvl, .int mpl, .int mcl, .int mrw, .int mqt, .int mlv, .int mtl, .int mbe, .int mch, .ref hpb, .ref hwa, .ref hmn, .ref hcf, .ref hsa, .ref hro])), (hby, .inl (cI, 600, .inl mby))] s.heap.size = A at hD ⊢
  have hA : ∀ q : Nat, s.heap.size ≤ q → A q := fun q h => by rw [← hAe]; exact Or.inr h
  have hS : va_S A s.heap s.heap [] := va_S.rf
  have hP : va_P D vwCl [(hm, .inr (8, [.int mrf, .ref hby, .int msz, .int mbg, .long mbt, .int mrg, .int mct, .int mvl, .int mpl, .int mcl, .int mrw, .int mqt, .int mlv, .int mtl, .int mbe, .int mch, .ref hpb, .ref hwa, .ref hmn, .ref hcf, .ref hsa, .ref hro])), (hby, .inl (cI, 600, .inl mby))] s.heap := hP
  have hl := lv_entry ([.ref hm]) (n := 1) (Nat.le_of_ble_eq_true rfl)
  rw [lg_entry_eq]
  generalize (lg_sl ([.ref hm]) ++ List.replicate (1 - (lg_sl ([.ref hm])).length) Slot.unset).toArray = ls at hl ⊢
  have hl : lv_has ls 1 [(0, .ref hm)] := hl
  refine lv_aload_n hx hb dX8_read_0 rfl (lv_at hl 0 rfl) ?_
  refine lv_iconst (v := 0) hx hb dX8_read_1 (by decide) ?_
  refine va_put (D := D) (ci := 8) (v := .int 0) (ty := .int) (C := RX8) (T := TX8) (N := 22) hx hb hts in_X8 tyX8 tyX8_ok nmX8 hown hK.1 hP hD hS 0 rfl rfl 0 (by decide) (hts _ mk_183) (fun _ h9 => h9) rfl (by decide +kernel) rfl rfl (Nat.le_of_ble_eq_true rfl) dX8_read_2 (fun H locs hP hD hS => ?_)
  have hP : va_P D vwCl [(hm, .inr (8, [.int 0, .ref hby, .int msz, .int mbg, .long mbt, .int mrg, .int mct, .int mvl, .int mpl, .int mcl, .int mrw, .int mqt, .int mlv, .int mtl, .int mbe, .int mch, .ref hpb, .ref hwa, .ref hmn, .ref hcf, .ref hsa, .ref hro])), (hby, .inl (cI, 600, .inl mby))] H := hP
  have hD : va_D A [(hm, .inr (8, [.int 0, .ref hby, .int msz, .int mbg, .long mbt, .int mrg, .int mct, .int mvl, .int mpl, .int mcl, .int mrw, .int mqt, .int mlv, .int mtl, .int mbe, .int mch, .ref hpb, .ref hwa, .ref hmn, .ref hcf, .ref hsa, .ref hro])), (hby, .inl (cI, 600, .inl mby))] := hD
  refine lv_aload_n hx hb dX8_read_5 rfl (lv_at hl 0 rfl) ?_
  refine lv_iconst (v := 2) hx hb dX8_read_6 (by decide) ?_
  refine va_put (D := D) (ci := 8) (v := .int 2) (ty := .int) (C := RX8) (T := TX8) (N := 22) hx hb hts in_X8 tyX8 tyX8_ok nmX8 hown hK.1 hP hD hS 0 rfl rfl 3 (by decide) (hts _ mk_195) (fun _ h9 => h9) rfl (by decide +kernel) rfl rfl (Nat.le_of_ble_eq_true rfl) dX8_read_7 (fun H locs hP hD hS => ?_)
  have hP : va_P D vwCl [(hm, .inr (8, [.int 0, .ref hby, .int msz, .int 2, .long mbt, .int mrg, .int mct, .int mvl, .int mpl, .int mcl, .int mrw, .int mqt, .int mlv, .int mtl, .int mbe, .int mch, .ref hpb, .ref hwa, .ref hmn, .ref hcf, .ref hsa, .ref hro])), (hby, .inl (cI, 600, .inl mby))] H := hP
  have hD : va_D A [(hm, .inr (8, [.int 0, .ref hby, .int msz, .int 2, .long mbt, .int mrg, .int mct, .int mvl, .int mpl, .int mcl, .int mrw, .int mqt, .int mlv, .int mtl, .int mbe, .int mch, .ref hpb, .ref hwa, .ref hmn, .ref hcf, .ref hsa, .ref hro])), (hby, .inl (cI, 600, .inl mby))] := hD
  refine lv_aload_n hx hb dX8_read_10 rfl (lv_at hl 0 rfl) ?_
  have hPc := hP.sub (ws' := [(hm, .inr (8, [.int 0, .ref hby, .int msz, .int 2, .long mbt, .int mrg, .int mct, .int mvl, .int mpl, .int mcl, .int mrw, .int mqt, .int mlv, .int mtl, .int mbe, .int mch, .ref hpb, .ref hwa, .ref hmn, .ref hcf, .ref hsa, .ref hro])), (hby, .inl (cI, 600, .inl mby))]) [0, 1] rfl
  have hDc := hD.sub (ws' := [(hm, .inr (8, [.int 0, .ref hby, .int msz, .int 2, .long mbt, .int mrg, .int mct, .int mvl, .int mpl, .int mcl, .int mrw, .int mqt, .int mlv, .int mtl, .int mbe, .int mch, .ref hpb, .ref hwa, .ref hmn, .ref hcf, .ref hsa, .ref hro])), (hby, .inl (cI, 600, .inl mby))]) [0, 1] (by decide) rfl
  have hFc := va_free (wc := [(hm, .inr (8, [.int 0, .ref hby, .int msz, .int 2, .long mbt, .int mrg, .int mct, .int mvl, .int mpl, .int mcl, .int mrw, .int mqt, .int mlv, .int mtl, .int mbe, .int mch, .ref hpb, .ref hwa, .ref hmn, .ref hcf, .ref hsa, .ref hro])), (hby, .inl (cI, 600, .inl mby))]) hD hS hA [0, 1] rfl
  refine va_callv (va_runV (As := []) (rest := []) ⟨hx, hb, hml, hown, hts⟩ (c_X8_open l D cI cJ cZ hm hby hpb hwa hmn hcf hsa hro 0 msz 2 mrg mct mvl mpl mcl mrw mqt mlv mtl mbe mch mbt mby bsz (H).size) (cwV 0 hts (kg_V mk_196 mk_197 mk_198 mk_189 mk_199) rfl rfl rfl (by decide +kernel) ⟨Nat.le_of_ble_eq_true rfl, Nat.le_of_ble_eq_true rfl⟩) ⟨fun a U g mk q => by obtain ⟨q0, q1, qP, qK, qD⟩ := q; exact ⟨q0, q1, qP, kK.call qK, qD⟩, va_recv hK.1 hPc (ci := 8) (q0 := 0) rfl rfl, fun U hU hW => ⟨rfl, by rw [hU], by rw [hU]; exact hPc, kK.warm hW hK, hDc.weaken (fun _ _ _ _ => trivial)⟩⟩ rfl rfl hl.1 rfl (lv_room (Nat.le_of_ble_eq_true rfl)) dX8_read_11 ⟨Nat.zero_le _, Nat.zero_le _⟩) hS (fun q _ h => hFc q h) hFc (fun u t9 H1 locs ht9 hvm9 hw9 hB9 hz9 hk9 hS => ?_)
  obtain ⟨mvl2_11, rfl⟩ : ∃ z, z = u := ⟨_, rfl⟩
  obtain ⟨hP1, hD1⟩ := hB9
  rw [ht9] at hP1
  have hP1 : va_P D vwCl [(hm, .inr (8, [.int 0, .ref hby, .int msz, .int 2, .long mbt, .int 255, .int 0, .int mvl2_11, .int 2, .int mcl, .int mrw, .int mqt, .int mlv, .int mtl, .int mbe, .int mch, .ref hpb, .ref hwa, .ref hmn, .ref hcf, .ref hsa, .ref hro])), (hby, .inl (cI, 600, .inl mby))] H1 := hP1
  obtain ⟨hP, hD⟩ := va_join (wr := []) (w1 := [(hm, .inr (8, [.int 0, .ref hby, .int msz, .int 2, .long mbt, .int 255, .int 0, .int mvl2_11, .int 2, .int mcl, .int mrw, .int mqt, .int mlv, .int mtl, .int mbe, .int mch, .ref hpb, .ref hwa, .ref hmn, .ref hcf, .ref hsa, .ref hro])), (hby, .inl (cI, 600, .inl mby))]) hP hD [0, 1] [] rfl rfl (by decide) (by decide) hk9 hFc hP1 hD1
  have hP := hP.sub (ws' := [(hm, .inr (8, [.int 0, .ref hby, .int msz, .int 2, .long mbt, .int 255, .int 0, .int mvl2_11, .int 2, .int mcl, .int mrw, .int mqt, .int mlv, .int mtl, .int mbe, .int mch, .ref hpb, .ref hwa, .ref hmn, .ref hcf, .ref hsa, .ref hro])), (hby, .inl (cI, 600, .inl mby))]) [0, 1] rfl
  have hD := hD.sub (ws' := [(hm, .inr (8, [.int 0, .ref hby, .int msz, .int 2, .long mbt, .int 255, .int 0, .int mvl2_11, .int 2, .int mcl, .int mrw, .int mqt, .int mlv, .int mtl, .int mbe, .int mch, .ref hpb, .ref hwa, .ref hmn, .ref hcf, .ref hsa, .ref hro])), (hby, .inl (cI, 600, .inl mby))]) [0, 1] (by decide) rfl
  generalize H1 = H at hP hS ⊢
  have q11_0 : mvl2_11 = (256 : Int32) * (if 0 ≤ (0 : Int32).toInt ∧ (0 : Int32).toInt < msz.toInt then mby (0 : Int32).toNatClampNeg else 0) + (if 0 ≤ (1 : Int32).toInt ∧ (1 : Int32).toInt < msz.toInt then mby (1 : Int32).toNatClampNeg else 0) := hw9
  exact W.vret hx hb hr (fun t9 ht9 hW9 => ⟨⟨mvl2_11, rfl, q11_0, by rw [ht9]; exact hP, hD⟩, hS.F ht9⟩) hS.2.2 dX8_read_14
abbrev kw_X8_readBit : List Cond := Cond.code yX8_readBit cX8_readBit 4 (some .int) :: kW
set_option maxHeartbeats 4000000 in
set_option maxRecDepth 100000 in
theorem lp_X8_readBit_70 {p : Program} {l : Launch} {e : Env} {s : State} {m : MethodId} {args : Array Value} {below : List Frame} {meth : Method} {c : Code} {A : Nat → Prop} (D : va_G) (cI cJ cZ : ClassId) (hm hby hpb hwa hmn hcf hsa hro : Nat) (mrf : Int32) (msz : Int32) (mbg : Int32) (mrg : Int32) (mct : Int32) (mvl : Int32) (mpl : Int32) (mcl : Int32) (mrw : Int32) (mqt : Int32) (mlv : Int32) (mtl : Int32) (mbe : Int32) (mch : Int32) (mbt : Int64) (mby : Nat → Int32) (pp : Int32) (brg : kB mrg 128 255) (bct : kB mct 0 7) (bsz : kB msz 0 600) (bp : kB pp 0 255) (hpl : 0 ≤ mpl.toInt ∧ mpl.toInt ≤ 1000000000) (hx : p.tables.exec = Jvm.exec) (hb : c.code = cX8_readBit) (hr : meth.sig.returnType = (some .int)) (hml : c.maxLocals = 4) (hown : s.vm.findClass RX8 = some m.cls) (hts : ∀ w ∈ kW, w.before args s = true) (hlocks : meth.locks = false) (hK : kK D cI cJ cZ s) (hA : ∀ q : Nat, s.heap.size ≤ q → A q) : ∀ n : Nat, ∀ (x3 : Int32) (mrg2 : Int32) (mct2 : Int32) (mvl2 : Int32) (mpl2 : Int32), (128 - mrg2.toInt).toNat < n → (kB x3 0 1) → (kB mrg2 1 255) → (kB mct2 0 7) → (0 ≤ mpl2.toInt ∧ mpl2.toInt + kdl mrg2.toInt ≤ mpl.toInt + 7) → (kIf (pp.toInt = 128 ∧ 0 ≤ mvl.toInt ∧ mvl.toInt ≤ 2000000 ∧ mct.toInt ≤ 6) (rL mvl.toInt mrg.toInt mct.toInt 0 x3.toInt mvl2.toInt mrg2.toInt mct2.toInt)) → ∀ (H : Heap) (locs : List Loc) (ls : Array Slot), va_P D vwCl [(hm, .inr (8, [.int mrf, .ref hby, .int msz, .int mbg, .long mbt, .int mrg2, .int mct2, .int mvl2, .int mpl2, .int mcl, .int mrw, .int mqt, .int mlv, .int mtl, .int mbe, .int mch, .ref hpb, .ref hwa, .ref hmn, .ref hcf, .ref hsa, .ref hro])), (hby, .inl (cI, 600, .inl mby))] H → va_D A [(hm, .inr (8, [.int mrf, .ref hby, .int msz, .int mbg, .long mbt, .int mrg2, .int mct2, .int mvl2, .int mpl2, .int mcl, .int mrw, .int mqt, .int mlv, .int mtl, .int mbe, .int mch, .ref hpb, .ref hwa, .ref hmn, .ref hcf, .ref hsa, .ref hro])), (hby, .inl (cI, 600, .inl mby))] → va_S A s.heap H locs → lv_has ls 4 [(0, .ref hm), (3, .int x3)] → W p l e (headSpec kw_X8_readBit ({ frames := 1, cells := 0, slots := 0, locals := 21 })).room s m args below meth c H locs 0 0 (MQ below (va_Qi (fun (r : Int32) (u : Int32 × Int32 × Int32 × Int32) => (kB r 0 1) ∧ (kB u.1 128 255) ∧ (kB u.2.1 0 7) ∧ (0 ≤ u.2.2.2.toInt ∧ u.2.2.2.toInt ≤ mpl.toInt + 7) ∧ (kIf (pp.toInt = 128 ∧ 0 ≤ mvl.toInt ∧ mvl.toInt ≤ 2000000 ∧ mct.toInt ≤ 6) (r.toInt = rBt mvl.toInt mrg.toInt ∧ (u.2.2.1.toInt, u.1.toInt, u.2.1.toInt) = rNx mvl.toInt mrg.toInt mct.toInt))) (fun (u : Int32 × Int32 × Int32 × Int32) (t : State) => va_P D vwCl [(hm, .inr (8, [.int mrf, .ref hby, .int msz, .int mbg, .long mbt, .int u.1, .int u.2.1, .int u.2.2.1, .int u.2.2.2, .int mcl, .int mrw, .int mqt, .int mlv, .int mtl, .int mbe, .int mch, .ref hpb, .ref hwa, .ref hmn, .ref hcf, .ref hsa, .ref hro])), (hby, .inl (cI, 600, .inl mby))] t.heap ∧ va_D A [(hm, .inr (8, [.int mrf, .ref hby, .int msz, .int mbg, .long mbt, .int u.1, .int u.2.1, .int u.2.2.1, .int u.2.2.2, .int mcl, .int mrw, .int mqt, .int mlv, .int mtl, .int mbe, .int mch, .ref hpb, .ref hwa, .ref hmn, .ref hcf, .ref hsa, .ref hro])), (hby, .inl (cI, 600, .inl mby))]) A) args s 0 0 A) (F0 m 70 ls []) := by
  intro n
  induction n with
  | zero => intro x3 mrg2 mct2 mvl2 mpl2 hmeas; exact absurd hmeas (Nat.not_lt_zero _)
  | succ n ih =>
    intro x3 mrg2 mct2 mvl2 mpl2 hmeas b3 brg2 bct2 hq hex H locs ls hP hD hS hl
    refine lv_aload_n hx hb dX8_readBit_70 rfl (lv_at hl 0 rfl) ?_
    refine va_get (D := D) (ci := 8) (v := .int mrg2) (C := RX8) (T := TX8) (N := 22) hx hb hts in_X8 hown hK.1 hP 0 rfl rfl 5 (by decide) (hts _ mk_193) (fun _ h9 => h9) rfl dX8_readBit_71 ?_
    refine lv_sipush (v := 128) hx hb dX8_readBit_74 (by decide) ?_
    refine lv_icmp_ge (tgt := 154) hx hb dX8_readBit_77 (by decide) (fun c77 => ?_) (fun c77 => ?_)
    · have c77y : kB mrg2 128 255 := kB_le_r kc_128 brg2 c77 (by decide)
      have Z154 := kdl_le mrg2.toInt
      refine lv_iload_n hx hb dX8_readBit_154 rfl (lv_at hl 1 rfl) ?_
      have pf_pl : 0 ≤ mpl2.toInt ∧ mpl2.toInt ≤ mpl.toInt + 7 := (by first | assumption | rfl | omega)
      have pf_ex : kIf (pp.toInt = 128 ∧ 0 ≤ mvl.toInt ∧ mvl.toInt ≤ 2000000 ∧ mct.toInt ≤ 6) (x3.toInt = rBt mvl.toInt mrg.toInt ∧ (mvl2.toInt, mrg2.toInt, mct2.toInt) = rNx mvl.toInt mrg.toInt mct.toInt) := (fun h9 => ⟨(hex h9).1, rL_e (hex h9) (Or.inl c77y.1)⟩)
      exact W.iret (v := x3) hx hb hr (fun t9 ht9 hW9 => ⟨⟨x3, (mrg2, mct2, mvl2, mpl2), rfl, ⟨b3, c77y, bct2, pf_pl, pf_ex⟩, by rw [ht9]; exact hP, hD⟩, hS.F ht9⟩) hS.2.2 dX8_readBit_155
    · have c77n : mrg2 < 128 := kN_le c77
      have c77nx : kB mrg2 1 127 := kB_lt_l brg2 kc_128 c77n (by decide)
      refine lv_aload_n hx hb dX8_readBit_80 rfl (lv_at hl 0 rfl) ?_
      refine lv_iconst (v := 2) hx hb dX8_readBit_81 (by decide) ?_
      refine lv_aload_n hx hb dX8_readBit_82 rfl (lv_at hl 0 rfl) ?_
      refine va_get (D := D) (ci := 8) (v := .int mrg2) (C := RX8) (T := TX8) (N := 22) hx hb hts in_X8 hown hK.1 hP 0 rfl rfl 5 (by decide) (hts _ mk_193) (fun _ h9 => h9) rfl dX8_readBit_83 ?_
      refine lv_imul hx hb dX8_readBit_86 ?_
      refine lv_topi (fun v86 e86 => ?_)
      have b86 : kB v86 2 254 := kB_eq e86 (kB_cmul kc_2 c77nx (by decide))
      have K86 : v86.toInt = 2 * mrg2.toInt := by rw [e86]; exact kdbl2 (kB_w brg2 (by decide) (by decide))
      have D86 := kdl_dbl (r := mrg2.toInt) brg2.1 (by have := c77nx.2; omega)
      refine va_put (D := D) (ci := 8) (v := .int v86) (ty := .int) (C := RX8) (T := TX8) (N := 22) hx hb hts in_X8 tyX8 tyX8_ok nmX8 hown hK.1 hP hD hS 0 rfl rfl 5 (by decide) (hts _ mk_193) (fun _ h9 => h9) rfl (by decide +kernel) rfl rfl (Nat.le_of_ble_eq_true rfl) dX8_readBit_87 (fun H locs hP hD hS => ?_)
      have hP : va_P D vwCl [(hm, .inr (8, [.int mrf, .ref hby, .int msz, .int mbg, .long mbt, .int v86, .int mct2, .int mvl2, .int mpl2, .int mcl, .int mrw, .int mqt, .int mlv, .int mtl, .int mbe, .int mch, .ref hpb, .ref hwa, .ref hmn, .ref hcf, .ref hsa, .ref hro])), (hby, .inl (cI, 600, .inl mby))] H := hP
      have hD : va_D A [(hm, .inr (8, [.int mrf, .ref hby, .int msz, .int mbg, .long mbt, .int v86, .int mct2, .int mvl2, .int mpl2, .int mcl, .int mrw, .int mqt, .int mlv, .int mtl, .int mbe, .int mch, .ref hpb, .ref hwa, .ref hmn, .ref hcf, .ref hsa, .ref hro])), (hby, .inl (cI, 600, .inl mby))] := hD
      refine lv_aload_n hx hb dX8_readBit_90 rfl (lv_at hl 0 rfl) ?_
      refine lv_iconst (v := 2) hx hb dX8_readBit_91 (by decide) ?_
      refine lv_aload_n hx hb dX8_readBit_92 rfl (lv_at hl 0 rfl) ?_
      refine va_get (D := D) (ci := 8) (v := .int mvl2) (C := RX8) (T := TX8) (N := 22) hx hb hts in_X8 hown hK.1 hP 0 rfl rfl 7 (by decide) (hts _ mk_191) (fun _ h9 => h9) rfl dX8_readBit_93 ?_
      refine lv_imul hx hb dX8_readBit_96 ?_
      refine lv_topi (fun v96 e96 => ?_)
      refine va_put (D := D) (ci := 8) (v := .int v96) (ty := .int) (C := RX8) (T := TX8) (N := 22) hx hb hts in_X8 tyX8 tyX8_ok nmX8 hown hK.1 hP hD hS 0 rfl rfl 7 (by decide) (hts _ mk_191) (fun _ h9 => h9) rfl (by decide +kernel) rfl rfl (Nat.le_of_ble_eq_true rfl) dX8_readBit_97 (fun H locs hP hD hS => ?_)
      have hP : va_P D vwCl [(hm, .inr (8, [.int mrf, .ref hby, .int msz, .int mbg, .long mbt, .int v86, .int mct2, .int v96, .int mpl2, .int mcl, .int mrw, .int mqt, .int mlv, .int mtl, .int mbe, .int mch, .ref hpb, .ref hwa, .ref hmn, .ref hcf, .ref hsa, .ref hro])), (hby, .inl (cI, 600, .inl mby))] H := hP
      have hD : va_D A [(hm, .inr (8, [.int mrf, .ref hby, .int msz, .int mbg, .long mbt, .int v86, .int mct2, .int v96, .int mpl2, .int mcl, .int mrw, .int mqt, .int mlv, .int mtl, .int mbe, .int mch, .ref hpb, .ref hwa, .ref hmn, .ref hcf, .ref hsa, .ref hro])), (hby, .inl (cI, 600, .inl mby))] := hD
      refine lv_aload_n hx hb dX8_readBit_100 rfl (lv_at hl 0 rfl) ?_
      refine lv_dup hx hb dX8_readBit_101 rfl ?_
      refine va_get (D := D) (ci := 8) (v := .int mct2) (C := RX8) (T := TX8) (N := 22) hx hb hts in_X8 hown hK.1 hP 0 rfl rfl 6 (by decide) (hts _ mk_194) (fun _ h9 => h9) rfl dX8_readBit_102 ?_
      refine lv_iconst (v := 1) hx hb dX8_readBit_105 (by decide) ?_
      refine lv_iadd hx hb dX8_readBit_106 ?_
      refine lv_topi (fun v106 e106 => ?_)
      have b106 : kB v106 1 8 := kB_eq e106 (kB_add bct2 kc_1 (by decide))
      refine va_put (D := D) (ci := 8) (v := .int v106) (ty := .int) (C := RX8) (T := TX8) (N := 22) hx hb hts in_X8 tyX8 tyX8_ok nmX8 hown hK.1 hP hD hS 0 rfl rfl 6 (by decide) (hts _ mk_194) (fun _ h9 => h9) rfl (by decide +kernel) rfl rfl (Nat.le_of_ble_eq_true rfl) dX8_readBit_107 (fun H locs hP hD hS => ?_)
      have hP : va_P D vwCl [(hm, .inr (8, [.int mrf, .ref hby, .int msz, .int mbg, .long mbt, .int v86, .int v106, .int v96, .int mpl2, .int mcl, .int mrw, .int mqt, .int mlv, .int mtl, .int mbe, .int mch, .ref hpb, .ref hwa, .ref hmn, .ref hcf, .ref hsa, .ref hro])), (hby, .inl (cI, 600, .inl mby))] H := hP
      have hD : va_D A [(hm, .inr (8, [.int mrf, .ref hby, .int msz, .int mbg, .long mbt, .int v86, .int v106, .int v96, .int mpl2, .int mcl, .int mrw, .int mqt, .int mlv, .int mtl, .int mbe, .int mch, .ref hpb, .ref hwa, .ref hmn, .ref hcf, .ref hsa, .ref hro])), (hby, .inl (cI, 600, .inl mby))] := hD
      have V106 : v106.toInt = mct2.toInt + 1 := by rw [e106]; exact kinc (kB_w bct2 (by decide) (by decide))
      have R88 : mrg2.toInt < 128 := by have := c77nx.2; omega
      have VX : pp.toInt = 128 ∧ 0 ≤ mvl.toInt ∧ mvl.toInt ≤ 2000000 ∧ mct.toInt ≤ 6 → 0 ≤ mvl2.toInt ∧ mvl2.toInt ≤ 2000000 ∧ mct2.toInt ≤ 6 ∧ v96.toInt = 2 * mvl2.toInt := fun h9 => by have h8 := rL_v (hex h9) R88 brg.1 h9.2.1; refine ⟨h8.1, by omega, by omega, ?_⟩; rw [e96]; exact kdbl2 ⟨h8.1, by omega⟩
      refine lv_aload_n hx hb dX8_readBit_110 rfl (lv_at hl 0 rfl) ?_
      refine va_get (D := D) (ci := 8) (v := .int v106) (C := RX8) (T := TX8) (N := 22) hx hb hts in_X8 hown hK.1 hP 0 rfl rfl 6 (by decide) (hts _ mk_194) (fun _ h9 => h9) rfl dX8_readBit_111 ?_
      refine lv_bipush (v := 8) hx hb dX8_readBit_114 (by decide) ?_
      refine lv_icmp_ne (tgt := 70) hx hb dX8_readBit_116 (by decide) (fun c116 => ?_) (fun c116 => ?_)
      · have c116x : kB v106 1 7 := kB_nhi b106 c116 kc_8 (by decide)
        exact ih x3 v86 v106 v96 mpl2 (by rw [K86]; have := c77nx.2; have := brg2.1; omega) b3 (kB_w b86 (by decide) (by decide)) (kB_w c116x (by decide) (by decide)) (by rw [K86]; first | (rw [K147]; exact ⟨by have := hq.1; omega, by have := hq.2; omega⟩) | exact ⟨hq.1, by have := hq.2; omega⟩) (fun h9 => by have h8 := VX h9; first | (exact rL_s (hex h9) R88 brg.1 brg.2 h8.2.2.2 K86 V106) | (exfalso; have h7 : v106.toInt = 8 := (by rw [c116]; first | done | decide); omega)) _ _ ls hP hD hS (lv_sub hl [0, 1] rfl)
      · have c116x : kB v106 8 8 := kB_eq c116 kc_8
        refine lv_aload_n hx hb dX8_readBit_119 rfl (lv_at hl 0 rfl) ?_
        refine lv_iconst (v := 0) hx hb dX8_readBit_120 (by decide) ?_
        refine va_put (D := D) (ci := 8) (v := .int 0) (ty := .int) (C := RX8) (T := TX8) (N := 22) hx hb hts in_X8 tyX8 tyX8_ok nmX8 hown hK.1 hP hD hS 0 rfl rfl 6 (by decide) (hts _ mk_194) (fun _ h9 => h9) rfl (by decide +kernel) rfl rfl (Nat.le_of_ble_eq_true rfl) dX8_readBit_121 (fun H locs hP hD hS => ?_)
        have hP : va_P D vwCl [(hm, .inr (8, [.int mrf, .ref hby, .int msz, .int mbg, .long mbt, .int v86, .int 0, .int v96, .int mpl2, .int mcl, .int mrw, .int mqt, .int mlv, .int mtl, .int mbe, .int mch, .ref hpb, .ref hwa, .ref hmn, .ref hcf, .ref hsa, .ref hro])), (hby, .inl (cI, 600, .inl mby))] H := hP
        have hD : va_D A [(hm, .inr (8, [.int mrf, .ref hby, .int msz, .int mbg, .long mbt, .int v86, .int 0, .int v96, .int mpl2, .int mcl, .int mrw, .int mqt, .int mlv, .int mtl, .int mbe, .int mch, .ref hpb, .ref hwa, .ref hmn, .ref hcf, .ref hsa, .ref hro])), (hby, .inl (cI, 600, .inl mby))] := hD
        refine lv_aload_n hx hb dX8_readBit_124 rfl (lv_at hl 0 rfl) ?_
        refine lv_aload_n hx hb dX8_readBit_125 rfl (lv_at hl 0 rfl) ?_
        refine va_get (D := D) (ci := 8) (v := .int v96) (C := RX8) (T := TX8) (N := 22) hx hb hts in_X8 hown hK.1 hP 0 rfl rfl 7 (by decide) (hts _ mk_191) (fun _ h9 => h9) rfl dX8_readBit_126 ?_
        refine lv_aload_n hx hb dX8_readBit_129 rfl (lv_at hl 0 rfl) ?_
        refine lv_aload_n hx hb dX8_readBit_130 rfl (lv_at hl 0 rfl) ?_
        refine va_get (D := D) (ci := 8) (v := .int mpl2) (C := RX8) (T := TX8) (N := 22) hx hb hts in_X8 hown hK.1 hP 0 rfl rfl 8 (by decide) (hts _ mk_192) (fun _ h9 => h9) rfl dX8_readBit_131 ?_
        have hPc := hP.sub (ws' := [(hm, .inr (8, [.int mrf, .ref hby, .int msz, .int mbg, .long mbt, .int v86, .int 0, .int v96, .int mpl2, .int mcl, .int mrw, .int mqt, .int mlv, .int mtl, .int mbe, .int mch, .ref hpb, .ref hwa, .ref hmn, .ref hcf, .ref hsa, .ref hro])), (hby, .inl (cI, 600, .inl mby))]) [0, 1] rfl
        have hDc := hD.sub (ws' := [(hm, .inr (8, [.int mrf, .ref hby, .int msz, .int mbg, .long mbt, .int v86, .int 0, .int v96, .int mpl2, .int mcl, .int mrw, .int mqt, .int mlv, .int mtl, .int mbe, .int mch, .ref hpb, .ref hwa, .ref hmn, .ref hcf, .ref hsa, .ref hro])), (hby, .inl (cI, 600, .inl mby))]) [0, 1] (by decide) rfl
        have hFc := va_free (wc := [(hm, .inr (8, [.int mrf, .ref hby, .int msz, .int mbg, .long mbt, .int v86, .int 0, .int v96, .int mpl2, .int mcl, .int mrw, .int mqt, .int mlv, .int mtl, .int mbe, .int mch, .ref hpb, .ref hwa, .ref hmn, .ref hcf, .ref hsa, .ref hro])), (hby, .inl (cI, 600, .inl mby))]) hD hS hA [0, 1] rfl
        refine va_calli (va_runV (As := [.int mpl2]) (rest := [.int v96, .ref hm]) ⟨hx, hb, hml, hown, hts⟩ (c_X8_byteAt l D cI cJ cZ hm hby hpb hwa hmn hcf hsa hro mrf msz mbg v86 0 v96 mpl2 mcl mrw mqt mlv mtl mbe mch mbt mby mpl2 bsz hq.1 (H).size) (cwV 1 hts (kg_V mk_186 mk_187 mk_188 mk_189 mk_190) rfl rfl rfl (by decide +kernel) ⟨Nat.le_of_ble_eq_true rfl, Nat.le_of_ble_eq_true rfl⟩) ⟨fun a U g mk q => by obtain ⟨q0, q1, qP, qK, qD⟩ := q; exact ⟨q0, q1, qP, kK.call qK, qD⟩, va_recv hK.1 hPc (ci := 8) (q0 := 0) rfl rfl, fun U hU hW => ⟨rfl, by rw [hU], by rw [hU]; exact hPc, kK.warm hW hK, hDc.weaken (fun _ _ _ _ => trivial)⟩⟩ rfl rfl hl.1 rfl (lv_room (Nat.le_of_ble_eq_true rfl)) dX8_readBit_134 ⟨Nat.zero_le _, Nat.zero_le _⟩) hS (fun q _ h => hFc q h) hFc (fun r134 u t9 H1 locs ht9 hvm9 hw9 hB9 hz9 hk9 hS => ?_)
        obtain ⟨hP1, hD1⟩ := hB9
        rw [ht9] at hP1
        have hP1 : va_P D vwCl [(hm, .inr (8, [.int mrf, .ref hby, .int msz, .int mbg, .long mbt, .int v86, .int 0, .int v96, .int mpl2, .int mcl, .int mrw, .int mqt, .int mlv, .int mtl, .int mbe, .int mch, .ref hpb, .ref hwa, .ref hmn, .ref hcf, .ref hsa, .ref hro])), (hby, .inl (cI, 600, .inl mby))] H1 := hP1
        obtain ⟨hP, hD⟩ := va_join (wr := []) (w1 := [(hm, .inr (8, [.int mrf, .ref hby, .int msz, .int mbg, .long mbt, .int v86, .int 0, .int v96, .int mpl2, .int mcl, .int mrw, .int mqt, .int mlv, .int mtl, .int mbe, .int mch, .ref hpb, .ref hwa, .ref hmn, .ref hcf, .ref hsa, .ref hro])), (hby, .inl (cI, 600, .inl mby))]) hP hD [0, 1] [] rfl rfl (by decide) (by decide) hk9 hFc hP1 hD1
        have hP := hP.sub (ws' := [(hm, .inr (8, [.int mrf, .ref hby, .int msz, .int mbg, .long mbt, .int v86, .int 0, .int v96, .int mpl2, .int mcl, .int mrw, .int mqt, .int mlv, .int mtl, .int mbe, .int mch, .ref hpb, .ref hwa, .ref hmn, .ref hcf, .ref hsa, .ref hro])), (hby, .inl (cI, 600, .inl mby))]) [0, 1] rfl
        have hD := hD.sub (ws' := [(hm, .inr (8, [.int mrf, .ref hby, .int msz, .int mbg, .long mbt, .int v86, .int 0, .int v96, .int mpl2, .int mcl, .int mrw, .int mqt, .int mlv, .int mtl, .int mbe, .int mch, .ref hpb, .ref hwa, .ref hmn, .ref hcf, .ref hsa, .ref hro])), (hby, .inl (cI, 600, .inl mby))]) [0, 1] (by decide) rfl
        generalize H1 = H at hP hS ⊢
        have q134_0 : r134 = if 0 ≤ mpl2.toInt ∧ mpl2.toInt < msz.toInt then mby mpl2.toNatClampNeg else 0 := hw9
        refine lv_iadd hx hb dX8_readBit_137 ?_
        refine lv_topi (fun v137 e137 => ?_)
        refine va_put (D := D) (ci := 8) (v := .int v137) (ty := .int) (C := RX8) (T := TX8) (N := 22) hx hb hts in_X8 tyX8 tyX8_ok nmX8 hown hK.1 hP hD hS 0 rfl rfl 7 (by decide) (hts _ mk_191) (fun _ h9 => h9) rfl (by decide +kernel) rfl rfl (Nat.le_of_ble_eq_true rfl) dX8_readBit_138 (fun H locs hP hD hS => ?_)
        have hP : va_P D vwCl [(hm, .inr (8, [.int mrf, .ref hby, .int msz, .int mbg, .long mbt, .int v86, .int 0, .int v137, .int mpl2, .int mcl, .int mrw, .int mqt, .int mlv, .int mtl, .int mbe, .int mch, .ref hpb, .ref hwa, .ref hmn, .ref hcf, .ref hsa, .ref hro])), (hby, .inl (cI, 600, .inl mby))] H := hP
        have hD : va_D A [(hm, .inr (8, [.int mrf, .ref hby, .int msz, .int mbg, .long mbt, .int v86, .int 0, .int v137, .int mpl2, .int mcl, .int mrw, .int mqt, .int mlv, .int mtl, .int mbe, .int mch, .ref hpb, .ref hwa, .ref hmn, .ref hcf, .ref hsa, .ref hro])), (hby, .inl (cI, 600, .inl mby))] := hD
        refine lv_aload_n hx hb dX8_readBit_141 rfl (lv_at hl 0 rfl) ?_
        refine lv_dup hx hb dX8_readBit_142 rfl ?_
        refine va_get (D := D) (ci := 8) (v := .int mpl2) (C := RX8) (T := TX8) (N := 22) hx hb hts in_X8 hown hK.1 hP 0 rfl rfl 8 (by decide) (hts _ mk_192) (fun _ h9 => h9) rfl dX8_readBit_143 ?_
        refine lv_iconst (v := 1) hx hb dX8_readBit_146 (by decide) ?_
        refine lv_iadd hx hb dX8_readBit_147 ?_
        refine lv_topi (fun v147 e147 => ?_)
        have K147 : v147.toInt = mpl2.toInt + 1 := by rw [e147]; exact kinc ⟨by have := hq.1; omega, by have := hq.2; have := kdl_le mrg2.toInt; omega⟩
        refine va_put (D := D) (ci := 8) (v := .int v147) (ty := .int) (C := RX8) (T := TX8) (N := 22) hx hb hts in_X8 tyX8 tyX8_ok nmX8 hown hK.1 hP hD hS 0 rfl rfl 8 (by decide) (hts _ mk_192) (fun _ h9 => h9) rfl (by decide +kernel) rfl rfl (Nat.le_of_ble_eq_true rfl) dX8_readBit_148 (fun H locs hP hD hS => ?_)
        have hP : va_P D vwCl [(hm, .inr (8, [.int mrf, .ref hby, .int msz, .int mbg, .long mbt, .int v86, .int 0, .int v137, .int v147, .int mcl, .int mrw, .int mqt, .int mlv, .int mtl, .int mbe, .int mch, .ref hpb, .ref hwa, .ref hmn, .ref hcf, .ref hsa, .ref hro])), (hby, .inl (cI, 600, .inl mby))] H := hP
        have hD : va_D A [(hm, .inr (8, [.int mrf, .ref hby, .int msz, .int mbg, .long mbt, .int v86, .int 0, .int v137, .int v147, .int mcl, .int mrw, .int mqt, .int mlv, .int mtl, .int mbe, .int mch, .ref hpb, .ref hwa, .ref hmn, .ref hcf, .ref hsa, .ref hro])), (hby, .inl (cI, 600, .inl mby))] := hD
        refine lv_goto (tgt := 70) hx hb dX8_readBit_151 (by decide) ?_
        exact ih x3 v86 0 v137 v147 (by rw [K86]; have := c77nx.2; have := brg2.1; omega) b3 (kB_w b86 (by decide) (by decide)) (kB_w kc_0 (by decide) (by decide)) (by rw [K86]; first | (rw [K147]; exact ⟨by have := hq.1; omega, by have := hq.2; omega⟩) | exact ⟨hq.1, by have := hq.2; omega⟩) (fun h9 => by have h8 := VX h9; first | (exact rL_s (hex h9) R88 brg.1 brg.2 h8.2.2.2 K86 V106) | (exfalso; have h7 : v106.toInt = 8 := (by rw [c116]; first | done | decide); omega)) _ _ ls hP hD hS (lv_sub hl [0, 1] rfl)
set_option maxHeartbeats 4000000 in
set_option maxRecDepth 100000 in
theorem c_X8_readBit (l : Launch) (D : va_G) (cI cJ cZ : ClassId) (hm hby hpb hwa hmn hcf hsa hro : Nat) (mrf : Int32) (msz : Int32) (mbg : Int32) (mrg : Int32) (mct : Int32) (mvl : Int32) (mpl : Int32) (mcl : Int32) (mrw : Int32) (mqt : Int32) (mlv : Int32) (mtl : Int32) (mbe : Int32) (mch : Int32) (mbt : Int64) (mby : Nat → Int32) (pp : Int32) (brg : kB mrg 128 255) (bct : kB mct 0 7) (bsz : kB msz 0 600) (bp : kB pp 0 255) (hpl : 0 ≤ mpl.toInt ∧ mpl.toInt ≤ 1000000000) (hpz : Nat) : Met l yX8_readBit kw_X8_readBit ({ frames := 1, cells := 0, slots := 0, locals := 21 }) (va_Pc [.ref hm, .int pp] (fun U => U.heap.size = hpz ∧ va_P D vwCl [(hm, .inr (8, [.int mrf, .ref hby, .int msz, .int mbg, .long mbt, .int mrg, .int mct, .int mvl, .int mpl, .int mcl, .int mrw, .int mqt, .int mlv, .int mtl, .int mbe, .int mch, .ref hpb, .ref hwa, .ref hmn, .ref hcf, .ref hsa, .ref hro])), (hby, .inl (cI, 600, .inl mby))] U.heap ∧ kK D cI cJ cZ U ∧ va_D (fun _ => True) [(hm, .inr (8, [.int mrf, .ref hby, .int msz, .int mbg, .long mbt, .int mrg, .int mct, .int mvl, .int mpl, .int mcl, .int mrw, .int mqt, .int mlv, .int mtl, .int mbe, .int mch, .ref hpb, .ref hwa, .ref hmn, .ref hcf, .ref hsa, .ref hro])), (hby, .inl (cI, 600, .inl mby))])) (va_Qi (fun (r : Int32) (u : Int32 × Int32 × Int32 × Int32) => (kB r 0 1) ∧ (kB u.1 128 255) ∧ (kB u.2.1 0 7) ∧ (0 ≤ u.2.2.2.toInt ∧ u.2.2.2.toInt ≤ mpl.toInt + 7) ∧ (kIf (pp.toInt = 128 ∧ 0 ≤ mvl.toInt ∧ mvl.toInt ≤ 2000000 ∧ mct.toInt ≤ 6) (r.toInt = rBt mvl.toInt mrg.toInt ∧ (u.2.2.1.toInt, u.1.toInt, u.2.1.toInt) = rNx mvl.toInt mrg.toInt mct.toInt))) (fun (u : Int32 × Int32 × Int32 × Int32) (t : State) => va_P D vwCl [(hm, .inr (8, [.int mrf, .ref hby, .int msz, .int mbg, .long mbt, .int u.1, .int u.2.1, .int u.2.2.1, .int u.2.2.2, .int mcl, .int mrw, .int mqt, .int mlv, .int mtl, .int mbe, .int mch, .ref hpb, .ref hwa, .ref hmn, .ref hcf, .ref hsa, .ref hro])), (hby, .inl (cI, 600, .inl mby))] t.heap ∧ va_D (va_A [(hm, .inr (8, [.int mrf, .ref hby, .int msz, .int mbg, .long mbt, .int mrg, .int mct, .int mvl, .int mpl, .int mcl, .int mrw, .int mqt, .int mlv, .int mtl, .int mbe, .int mch, .ref hpb, .ref hwa, .ref hmn, .ref hcf, .ref hsa, .ref hro])), (hby, .inl (cI, 600, .inl mby))] hpz) [(hm, .inr (8, [.int mrf, .ref hby, .int msz, .int mbg, .long mbt, .int u.1, .int u.2.1, .int u.2.2.1, .int u.2.2.2, .int mcl, .int mrw, .int mqt, .int mlv, .int mtl, .int mbe, .int mch, .ref hpb, .ref hwa, .ref hmn, .ref hcf, .ref hsa, .ref hro])), (hby, .inl (cI, 600, .inl mby))]) (va_A [(hm, .inr (8, [.int mrf, .ref hby, .int msz, .int mbg, .long mbt, .int mrg, .int mct, .int mvl, .int mpl, .int mcl, .int mrw, .int mqt, .int mlv, .int mtl, .int mbe, .int mch, .ref hpb, .ref hwa, .ref hmn, .ref hcf, .ref hsa, .ref hro])), (hby, .inl (cI, 600, .inl mby))] hpz)) 0 0 (va_A [(hm, .inr (8, [.int mrf, .ref hby, .int msz, .int mbg, .long mbt, .int mrg, .int mct, .int mvl, .int mpl, .int mcl, .int mrw, .int mqt, .int mlv, .int mtl, .int mbe, .int mch, .ref hpb, .ref hwa, .ref hmn, .ref hcf, .ref hsa, .ref hro])), (hby, .inl (cI, 600, .inl mby))] hpz) := by
  refine Met.ofW (cc := cX8_readBit) (maxL := 4) (ret := (some .int)) (by decide) rfl ?_
  intro p e s m args below meth c s₁ B hml hv
  obtain ⟨rfl, hsz, hP, hK, hD0⟩ := hv
  have hx := B.exec
  have hb := B.bytes
  have hr := B.returns
  have hts := fun (w : Cond) (h : w ∈ kW) => atoms_spec (ws := kw_X8_readBit) B.pre w (List.mem_cons_of_mem _ h)
  have hown : s.vm.findClass RX8 = some m.cls := findClass_of_methodNamed B.named
  have hlocks := B.notSynchronized
  subst hsz
  have hD := hD0.self (sz := s.heap.size)
  generalize hAe : va_A [(hm, .inr (8, [.int mrf, .ref hby, .int msz, .int mbg, .long mbt, .int mrg, .int mct, .int mvl, .int mpl, .int mcl, .int mrw, .int mqt, .int mlv, .int mtl, .int mbe, .int mch, .ref hpb, .ref hwa, .ref hmn, .ref hcf, .ref hsa, .ref hro])), (hby, .inl (cI, 600, .inl mby))] s.heap.size = A at hD ⊢
  have hA : ∀ q : Nat, s.heap.size ≤ q → A q := fun q h => by rw [← hAe]; exact Or.inr h
  have hS : va_S A s.heap s.heap [] := va_S.rf
  have hP : va_P D vwCl [(hm, .inr (8, [.int mrf, .ref hby, .int msz, .int mbg, .long mbt, .int mrg, .int mct, .int mvl, .int mpl, .int mcl, .int mrw, .int mqt, .int mlv, .int mtl, .int mbe, .int mch, .ref hpb, .ref hwa, .ref hmn, .ref hcf, .ref hsa, .ref hro])), (hby, .inl (cI, 600, .inl mby))] s.heap := hP
  have hl := lv_entry ([.ref hm, .int pp]) (n := 4) (Nat.le_of_ble_eq_true rfl)
  rw [lg_entry_eq]
  generalize (lg_sl ([.ref hm, .int pp]) ++ List.replicate (4 - (lg_sl ([.ref hm, .int pp])).length) Slot.unset).toArray = ls at hl ⊢
  have hl : lv_has ls 4 [(0, .ref hm), (1, .int pp)] := hl
  refine lv_iconst (v := 1) hx hb dX8_readBit_0 (by decide) ?_
  refine lv_aload_n hx hb dX8_readBit_1 rfl (lv_at hl 0 rfl) ?_
  refine va_get (D := D) (ci := 8) (v := .int mrg) (C := RX8) (T := TX8) (N := 22) hx hb hts in_X8 hown hK.1 hP 0 rfl rfl 5 (by decide) (hts _ mk_193) (fun _ h9 => h9) rfl dX8_readBit_2 ?_
  refine lv_iconst (v := 1) hx hb dX8_readBit_5 (by decide) ?_
  refine lv_isub hx hb dX8_readBit_6 ?_
  refine lv_topi (fun v6 e6 => ?_)
  have b6 : kB v6 127 254 := kB_eq e6 (kB_sub brg kc_1 (by decide))
  refine lv_iload_n hx hb dX8_readBit_7 rfl (lv_at hl 1 rfl) ?_
  refine lv_imul hx hb dX8_readBit_8 ?_
  refine lv_topi (fun v8 e8 => ?_)
  have b8 : kB v8 0 64770 := kB_eq e8 (kB_mul b6 bp (by decide))
  refine lv_sipush (v := 256) hx hb dX8_readBit_9 (by decide) ?_
  refine lv_idiv hx hb dX8_readBit_12 (kB_ne0 kc_256 (Or.inl (by decide))) ?_
  refine lv_topi (fun v12 e12 => ?_)
  have b12 : kB v12 0 253 := kB_eq e12 (kB_div b8 kc_256 (by decide))
  refine lv_iadd hx hb dX8_readBit_13 ?_
  refine lv_topi (fun v13 e13 => ?_)
  have b13 : kB v13 1 254 := kB_eq e13 (kB_add kc_1 b12 (by decide))
  have X13 : v13.toInt = 1 + (mrg.toInt - 1) * pp.toInt / 256 := by rw [e13, e12, e8, e6]; exact kspM_toInt brg bp
  have L13 := ksp_lt brg.1 brg.2 bp.1 bp.2
  have B13 : kB v13 1 254 := ⟨by rw [X13]; exact L13.1, by rw [X13]; have := L13.2; have := brg.2; omega⟩
  refine lv_istore_n (lv' := [(2, .int v13), (0, .ref hm), (1, .int pp)]) hx hb dX8_readBit_14 rfl hl (by decide) rfl (fun ls hl => ?_)
  refine lv_aload_n hx hb dX8_readBit_15 rfl (lv_at hl 1 rfl) ?_
  refine va_get (D := D) (ci := 8) (v := .int mvl) (C := RX8) (T := TX8) (N := 22) hx hb hts in_X8 hown hK.1 hP 0 rfl rfl 7 (by decide) (hts _ mk_191) (fun _ h9 => h9) rfl dX8_readBit_16 ?_
  refine lv_sipush (v := 256) hx hb dX8_readBit_19 (by decide) ?_
  refine lv_iload_n hx hb dX8_readBit_22 rfl (lv_at hl 0 rfl) ?_
  refine lv_imul hx hb dX8_readBit_23 ?_
  refine lv_topi (fun v23 e23 => ?_)
  have b23 : kB v23 256 65024 := kB_eq e23 (kB_cmul kc_256 B13 (by decide))
  have V23 : v23.toInt = 256 * v13.toInt := by rw [e23]; exact kmul256 (kB_w B13 (by decide) (by decide))
  refine lv_icmp_lt (tgt := 31) hx hb dX8_readBit_24 (by decide) (fun c24 => ?_) (fun c24 => ?_)
  · have c24a := kB_all mvl
    have c24x : kB mvl (-2147483648) 65023 := kB_lt_l c24a b23 c24 (by decide)
    have U17 : mvl.toInt < 256 * v13.toInt := by have := Int32.lt_iff_toInt_lt.mp c24; omega
    refine lv_iconst (v := 0) hx hb dX8_readBit_31 (by decide) ?_
    refine lv_istore_n (lv' := [(3, .int 0), (2, .int v13), (0, .ref hm), (1, .int pp)]) hx hb dX8_readBit_32 rfl hl (by decide) rfl (fun ls hl => ?_)
    refine lv_iload_n hx hb dX8_readBit_33 rfl (lv_at hl 0 rfl) ?_
    refine lv_iconst (v := 1) hx hb dX8_readBit_34 (by decide) ?_
    refine lv_icmp_ne (tgt := 65) hx hb dX8_readBit_35 (by decide) (fun c35 => ?_) (fun c35 => ?_)
    · refine lv_aload_n hx hb dX8_readBit_65 rfl (lv_at hl 2 rfl) ?_
      refine lv_iload_n hx hb dX8_readBit_66 rfl (lv_at hl 1 rfl) ?_
      have Q70 : 0 ≤ mpl.toInt ∧ mpl.toInt + kdl v13.toInt ≤ mpl.toInt + 7 := ⟨hpl.1, by have := (kdl_le v13.toInt).2; omega⟩
      have EX : pp.toInt = 128 ∧ 0 ≤ mvl.toInt ∧ mvl.toInt ≤ 2000000 ∧ mct.toInt ≤ 6 → v13.toInt = rSp mrg.toInt := fun h9 => by rw [X13, h9.1]; rfl
      have HX : pp.toInt = 128 ∧ 0 ≤ mvl.toInt ∧ mvl.toInt ≤ 2000000 ∧ mct.toInt ≤ 6 → rL mvl.toInt mrg.toInt mct.toInt 0 (0 : Int32).toInt mvl.toInt v13.toInt mct.toInt := fun h9 => by rw [show (0 : Int32).toInt = 0 from by decide]; exact rL_0 U17 (EX h9)
      refine va_put (D := D) (ci := 8) (v := .int v13) (ty := .int) (C := RX8) (T := TX8) (N := 22) hx hb hts in_X8 tyX8 tyX8_ok nmX8 hown hK.1 hP hD hS 0 rfl rfl 5 (by decide) (hts _ mk_193) (fun _ h9 => h9) rfl (by decide +kernel) rfl rfl (Nat.le_of_ble_eq_true rfl) dX8_readBit_67 (fun H locs hP hD hS => ?_)
      have hP : va_P D vwCl [(hm, .inr (8, [.int mrf, .ref hby, .int msz, .int mbg, .long mbt, .int v13, .int mct, .int mvl, .int mpl, .int mcl, .int mrw, .int mqt, .int mlv, .int mtl, .int mbe, .int mch, .ref hpb, .ref hwa, .ref hmn, .ref hcf, .ref hsa, .ref hro])), (hby, .inl (cI, 600, .inl mby))] H := hP
      have hD : va_D A [(hm, .inr (8, [.int mrf, .ref hby, .int msz, .int mbg, .long mbt, .int v13, .int mct, .int mvl, .int mpl, .int mcl, .int mrw, .int mqt, .int mlv, .int mtl, .int mbe, .int mch, .ref hpb, .ref hwa, .ref hmn, .ref hcf, .ref hsa, .ref hro])), (hby, .inl (cI, 600, .inl mby))] := hD
      exact lp_X8_readBit_70 D cI cJ cZ hm hby hpb hwa hmn hcf hsa hro mrf msz mbg mrg mct mvl mpl mcl mrw mqt mlv mtl mbe mch mbt mby pp brg bct bsz bp hpl hx hb hr hml hown hts hlocks hK hA ((128 - v13.toInt).toNat + 1) 0 v13 mct mvl mpl (Nat.lt_succ_self _) (kB_w kc_0 (by decide) (by decide)) (kB_w B13 (by decide) (by decide)) bct Q70 HX _ _ ls hP hD hS (lv_sub hl [2, 0] rfl)
    · exact absurd c35 (by decide)
  · have c24n : v23 ≤ mvl := kN_lt c24
    have c24nb := kB_all mvl
    have c24ny : kB mvl 256 2147483647 := kB_le_r b23 c24nb c24n (by decide)
    have U17 : 256 * v13.toInt ≤ mvl.toInt := by have := Int32.le_iff_toInt_le.mp c24n; omega
    refine lv_iconst (v := 1) hx hb dX8_readBit_27 (by decide) ?_
    refine lv_goto (tgt := 32) hx hb dX8_readBit_28 (by decide) ?_
    refine lv_istore_n (lv' := [(3, .int 1), (2, .int v13), (0, .ref hm), (1, .int pp)]) hx hb dX8_readBit_32 rfl hl (by decide) rfl (fun ls hl => ?_)
    refine lv_iload_n hx hb dX8_readBit_33 rfl (lv_at hl 0 rfl) ?_
    refine lv_iconst (v := 1) hx hb dX8_readBit_34 (by decide) ?_
    refine lv_icmp_ne (tgt := 65) hx hb dX8_readBit_35 (by decide) (fun c35 => ?_) (fun c35 => ?_)
    · exact absurd rfl c35
    · refine lv_aload_n hx hb dX8_readBit_38 rfl (lv_at hl 2 rfl) ?_
      refine lv_aload_n hx hb dX8_readBit_39 rfl (lv_at hl 2 rfl) ?_
      refine va_get (D := D) (ci := 8) (v := .int mrg) (C := RX8) (T := TX8) (N := 22) hx hb hts in_X8 hown hK.1 hP 0 rfl rfl 5 (by decide) (hts _ mk_193) (fun _ h9 => h9) rfl dX8_readBit_40 ?_
      refine lv_iload_n hx hb dX8_readBit_43 rfl (lv_at hl 1 rfl) ?_
      refine lv_isub hx hb dX8_readBit_44 ?_
      refine lv_topi (fun v44 e44 => ?_)
      have b44 : kB v44 (-126) 254 := kB_eq e44 (kB_sub brg B13 (by decide))
      have X44 : v44.toInt = mrg.toInt - v13.toInt := by rw [e44, kI_sub (by have := B13.2; have := brg.1; omega) (by have := B13.1; have := brg.2; omega)]
      have B44 : kB v44 1 254 := ⟨by rw [X44, X13]; have := L13.2; omega, by rw [X44]; have := B13.1; have := brg.2; omega⟩
      refine va_put (D := D) (ci := 8) (v := .int v44) (ty := .int) (C := RX8) (T := TX8) (N := 22) hx hb hts in_X8 tyX8 tyX8_ok nmX8 hown hK.1 hP hD hS 0 rfl rfl 5 (by decide) (hts _ mk_193) (fun _ h9 => h9) rfl (by decide +kernel) rfl rfl (Nat.le_of_ble_eq_true rfl) dX8_readBit_45 (fun H locs hP hD hS => ?_)
      have hP : va_P D vwCl [(hm, .inr (8, [.int mrf, .ref hby, .int msz, .int mbg, .long mbt, .int v44, .int mct, .int mvl, .int mpl, .int mcl, .int mrw, .int mqt, .int mlv, .int mtl, .int mbe, .int mch, .ref hpb, .ref hwa, .ref hmn, .ref hcf, .ref hsa, .ref hro])), (hby, .inl (cI, 600, .inl mby))] H := hP
      have hD : va_D A [(hm, .inr (8, [.int mrf, .ref hby, .int msz, .int mbg, .long mbt, .int v44, .int mct, .int mvl, .int mpl, .int mcl, .int mrw, .int mqt, .int mlv, .int mtl, .int mbe, .int mch, .ref hpb, .ref hwa, .ref hmn, .ref hcf, .ref hsa, .ref hro])), (hby, .inl (cI, 600, .inl mby))] := hD
      refine lv_aload_n hx hb dX8_readBit_48 rfl (lv_at hl 2 rfl) ?_
      refine lv_aload_n hx hb dX8_readBit_49 rfl (lv_at hl 2 rfl) ?_
      refine va_get (D := D) (ci := 8) (v := .int mvl) (C := RX8) (T := TX8) (N := 22) hx hb hts in_X8 hown hK.1 hP 0 rfl rfl 7 (by decide) (hts _ mk_191) (fun _ h9 => h9) rfl dX8_readBit_50 ?_
      refine lv_sipush (v := 256) hx hb dX8_readBit_53 (by decide) ?_
      refine lv_iload_n hx hb dX8_readBit_56 rfl (lv_at hl 1 rfl) ?_
      refine lv_imul hx hb dX8_readBit_57 ?_
      refine lv_topi (fun v57 e57 => ?_)
      have b57 : kB v57 256 65024 := kB_eq e57 (kB_cmul kc_256 B13 (by decide))
      refine lv_isub hx hb dX8_readBit_58 ?_
      refine lv_topi (fun v58 e58 => ?_)
      have b58 : kB v58 (-64768) 2147483391 := kB_eq e58 (kB_sub c24ny b57 (by decide))
      have V57 : v57.toInt = 256 * v13.toInt := by rw [e57]; exact kmul256 (kB_w B13 (by decide) (by decide))
      have V58 : 0 ≤ mvl.toInt → v58.toInt = mvl.toInt - 256 * v13.toInt := fun h9 => by rw [e58, kI_sub (by rw [V57]; omega) (by rw [V57]; have := kB_all mvl; have := B13.1; omega), V57]
      refine va_put (D := D) (ci := 8) (v := .int v58) (ty := .int) (C := RX8) (T := TX8) (N := 22) hx hb hts in_X8 tyX8 tyX8_ok nmX8 hown hK.1 hP hD hS 0 rfl rfl 7 (by decide) (hts _ mk_191) (fun _ h9 => h9) rfl (by decide +kernel) rfl rfl (Nat.le_of_ble_eq_true rfl) dX8_readBit_59 (fun H locs hP hD hS => ?_)
      have hP : va_P D vwCl [(hm, .inr (8, [.int mrf, .ref hby, .int msz, .int mbg, .long mbt, .int v44, .int mct, .int v58, .int mpl, .int mcl, .int mrw, .int mqt, .int mlv, .int mtl, .int mbe, .int mch, .ref hpb, .ref hwa, .ref hmn, .ref hcf, .ref hsa, .ref hro])), (hby, .inl (cI, 600, .inl mby))] H := hP
      have hD : va_D A [(hm, .inr (8, [.int mrf, .ref hby, .int msz, .int mbg, .long mbt, .int v44, .int mct, .int v58, .int mpl, .int mcl, .int mrw, .int mqt, .int mlv, .int mtl, .int mbe, .int mch, .ref hpb, .ref hwa, .ref hmn, .ref hcf, .ref hsa, .ref hro])), (hby, .inl (cI, 600, .inl mby))] := hD
      have Q70 : 0 ≤ mpl.toInt ∧ mpl.toInt + kdl v44.toInt ≤ mpl.toInt + 7 := ⟨hpl.1, by have := (kdl_le v44.toInt).2; omega⟩
      have EX : pp.toInt = 128 ∧ 0 ≤ mvl.toInt ∧ mvl.toInt ≤ 2000000 ∧ mct.toInt ≤ 6 → v13.toInt = rSp mrg.toInt := fun h9 => by rw [X13, h9.1]; rfl
      have HX : pp.toInt = 128 ∧ 0 ≤ mvl.toInt ∧ mvl.toInt ≤ 2000000 ∧ mct.toInt ≤ 6 → rL mvl.toInt mrg.toInt mct.toInt 0 (1 : Int32).toInt v58.toInt v44.toInt mct.toInt := fun h9 => by rw [show (1 : Int32).toInt = 1 from by decide]; exact rL_1 U17 (EX h9) (V58 h9.2.1) X44
      refine lv_goto (tgt := 70) hx hb dX8_readBit_62 (by decide) ?_
      exact lp_X8_readBit_70 D cI cJ cZ hm hby hpb hwa hmn hcf hsa hro mrf msz mbg mrg mct mvl mpl mcl mrw mqt mlv mtl mbe mch mbt mby pp brg bct bsz bp hpl hx hb hr hml hown hts hlocks hK hA ((128 - v44.toInt).toNat + 1) 1 v44 mct v58 mpl (Nat.lt_succ_self _) (kB_w kc_1 (by decide) (by decide)) (kB_w B44 (by decide) (by decide)) bct Q70 HX _ _ ls hP hD hS (lv_sub hl [2, 0] rfl)
abbrev kw_X8_readMany : List Cond := Cond.code yX8_readMany cX8_readMany 5 (some .int) :: kW
set_option maxHeartbeats 4000000 in
set_option maxRecDepth 100000 in
theorem lp_X8_readMany_5 {p : Program} {l : Launch} {e : Env} {s : State} {m : MethodId} {args : Array Value} {below : List Frame} {meth : Method} {c : Code} {A : Nat → Prop} (D : va_G) (cI cJ cZ : ClassId) (hm hby hpb hwa hmn hcf hsa hro : Nat) (mrf : Int32) (msz : Int32) (mbg : Int32) (mrg : Int32) (mct : Int32) (mvl : Int32) (mpl : Int32) (mcl : Int32) (mrw : Int32) (mqt : Int32) (mlv : Int32) (mtl : Int32) (mbe : Int32) (mch : Int32) (mbt : Int64) (mby : Nat → Int32) (pp : Int32) (mn : Int32) (brg : kB mrg 128 255) (bct : kB mct 0 7) (bsz : kB msz 0 600) (bp : kB pp 0 255) (bmn : kB mn 0 32) (hpl : 0 ≤ mpl.toInt ∧ mpl.toInt ≤ 999000000) (hx : p.tables.exec = Jvm.exec) (hb : c.code = cX8_readMany) (hr : meth.sig.returnType = (some .int)) (hml : c.maxLocals = 5) (hown : s.vm.findClass RX8 = some m.cls) (hts : ∀ w ∈ kW, w.before args s = true) (hlocks : meth.locks = false) (hK : kK D cI cJ cZ s) (hA : ∀ q : Nat, s.heap.size ≤ q → A q) : ∀ n : Nat, ∀ (x3 : Int32) (x4 : Int32) (mrg2 : Int32) (mct2 : Int32) (mvl2 : Int32) (mpl2 : Int32), (32 - x4.toInt).toNat < n → (kB x4 0 32) → (x4.toInt ≤ mn.toInt) → (kB mrg2 128 255) → (kB mct2 0 7) → (0 ≤ mpl2.toInt ∧ mpl2.toInt ≤ mpl.toInt + 7 * x4.toInt) → (x4.toInt ≤ 16 → 0 ≤ x3.toInt ∧ x3.toInt < pw2 x4.toInt) → (kIf (pp.toInt = 128 ∧ mn.toInt = 2 ∧ 0 ≤ mvl.toInt ∧ mvl.toInt ≤ 500000 ∧ mct.toInt ≤ 4) (rM mvl.toInt mrg.toInt mct.toInt x4.toInt x3.toInt mvl2.toInt mrg2.toInt mct2.toInt)) → ∀ (H : Heap) (locs : List Loc) (ls : Array Slot), va_P D vwCl [(hm, .inr (8, [.int mrf, .ref hby, .int msz, .int mbg, .long mbt, .int mrg2, .int mct2, .int mvl2, .int mpl2, .int mcl, .int mrw, .int mqt, .int mlv, .int mtl, .int mbe, .int mch, .ref hpb, .ref hwa, .ref hmn, .ref hcf, .ref hsa, .ref hro])), (hby, .inl (cI, 600, .inl mby))] H → va_D A [(hm, .inr (8, [.int mrf, .ref hby, .int msz, .int mbg, .long mbt, .int mrg2, .int mct2, .int mvl2, .int mpl2, .int mcl, .int mrw, .int mqt, .int mlv, .int mtl, .int mbe, .int mch, .ref hpb, .ref hwa, .ref hmn, .ref hcf, .ref hsa, .ref hro])), (hby, .inl (cI, 600, .inl mby))] → va_S A s.heap H locs → lv_has ls 5 [(0, .ref hm), (1, .int pp), (2, .int mn), (3, .int x3), (4, .int x4)] → W p l e (headSpec kw_X8_readMany ({ frames := 2, cells := 0, slots := 0, locals := 44 })).room s m args below meth c H locs 0 0 (MQ below (va_Qi (fun (r : Int32) (u : Int32 × Int32 × Int32 × Int32) => (kB u.1 128 255) ∧ (kB u.2.1 0 7) ∧ (0 ≤ u.2.2.2.toInt ∧ u.2.2.2.toInt ≤ mpl.toInt + 224) ∧ (mn.toInt ≤ 16 → 0 ≤ r.toInt ∧ r.toInt < pw2 mn.toInt) ∧ (kIf (pp.toInt = 128 ∧ mn.toInt = 2 ∧ 0 ≤ mvl.toInt ∧ mvl.toInt ≤ 500000 ∧ mct.toInt ≤ 4) ((r.toInt, u.2.2.1.toInt, u.1.toInt, u.2.1.toInt) = rI 2 (0, mvl.toInt, mrg.toInt, mct.toInt)))) (fun (u : Int32 × Int32 × Int32 × Int32) (t : State) => va_P D vwCl [(hm, .inr (8, [.int mrf, .ref hby, .int msz, .int mbg, .long mbt, .int u.1, .int u.2.1, .int u.2.2.1, .int u.2.2.2, .int mcl, .int mrw, .int mqt, .int mlv, .int mtl, .int mbe, .int mch, .ref hpb, .ref hwa, .ref hmn, .ref hcf, .ref hsa, .ref hro])), (hby, .inl (cI, 600, .inl mby))] t.heap ∧ va_D A [(hm, .inr (8, [.int mrf, .ref hby, .int msz, .int mbg, .long mbt, .int u.1, .int u.2.1, .int u.2.2.1, .int u.2.2.2, .int mcl, .int mrw, .int mqt, .int mlv, .int mtl, .int mbe, .int mch, .ref hpb, .ref hwa, .ref hmn, .ref hcf, .ref hsa, .ref hro])), (hby, .inl (cI, 600, .inl mby))]) A) args s 0 0 A) (F0 m 5 ls []) := by
  intro n
  induction n with
  | zero => intro x3 x4 mrg2 mct2 mvl2 mpl2 hmeas; exact absurd hmeas (Nat.not_lt_zero _)
  | succ n ih =>
    intro x3 x4 mrg2 mct2 mvl2 mpl2 hmeas b4 l4 brg2 bct2 hq hn hex H locs ls hP hD hS hl
    refine lv_iload hx hb dX8_readMany_5 (lv_at hl 4 rfl) ?_
    refine lv_iload_n hx hb dX8_readMany_7 rfl (lv_at hl 2 rfl) ?_
    refine lv_icmp_ge (tgt := 27) hx hb dX8_readMany_8 (by decide) (fun c8 => ?_) (fun c8 => ?_)
    · have K8 : x4.toInt = mn.toInt := by have := Int32.le_iff_toInt_le.mp c8; omega
      refine lv_iload_n hx hb dX8_readMany_27 rfl (lv_at hl 3 rfl) ?_
      have pf_pl : 0 ≤ mpl2.toInt ∧ mpl2.toInt ≤ mpl.toInt + 224 := ⟨hq.1, by have := hq.2; have := b4.2; omega⟩
      have pf_n : mn.toInt ≤ 16 → 0 ≤ x3.toInt ∧ x3.toInt < pw2 mn.toInt := (fun h => by rw [← K8] at h ⊢; exact hn h)
      have pf_ex : kIf (pp.toInt = 128 ∧ mn.toInt = 2 ∧ 0 ≤ mvl.toInt ∧ mvl.toInt ≤ 500000 ∧ mct.toInt ≤ 4) ((x3.toInt, mvl2.toInt, mrg2.toInt, mct2.toInt) = rI 2 (0, mvl.toInt, mrg.toInt, mct.toInt)) := (fun h9 => rM_e (hex h9) (by rw [K8]; exact h9.2.1))
      exact W.iret (v := x3) hx hb hr (fun t9 ht9 hW9 => ⟨⟨x3, (mrg2, mct2, mvl2, mpl2), rfl, ⟨brg2, bct2, pf_pl, pf_n, pf_ex⟩, by rw [ht9]; exact hP, hD⟩, hS.F ht9⟩) hS.2.2 dX8_readMany_28
    · have c8n : x4 < mn := kN_le c8
      have c8nx : kB x4 0 31 := kB_lt_l b4 bmn c8n (by decide)
      have c8ny : kB mn 1 32 := kB_lt_r b4 bmn c8n (by decide)
      refine lv_iconst (v := 2) hx hb dX8_readMany_11 (by decide) ?_
      refine lv_iload_n hx hb dX8_readMany_12 rfl (lv_at hl 3 rfl) ?_
      refine lv_imul hx hb dX8_readMany_13 ?_
      refine lv_topi (fun v13 e13 => ?_)
      refine lv_aload_n hx hb dX8_readMany_14 rfl (lv_at hl 0 rfl) ?_
      refine lv_iload_n hx hb dX8_readMany_15 rfl (lv_at hl 1 rfl) ?_
      have hPc := hP.sub (ws' := [(hm, .inr (8, [.int mrf, .ref hby, .int msz, .int mbg, .long mbt, .int mrg2, .int mct2, .int mvl2, .int mpl2, .int mcl, .int mrw, .int mqt, .int mlv, .int mtl, .int mbe, .int mch, .ref hpb, .ref hwa, .ref hmn, .ref hcf, .ref hsa, .ref hro])), (hby, .inl (cI, 600, .inl mby))]) [0, 1] rfl
      have hDc := hD.sub (ws' := [(hm, .inr (8, [.int mrf, .ref hby, .int msz, .int mbg, .long mbt, .int mrg2, .int mct2, .int mvl2, .int mpl2, .int mcl, .int mrw, .int mqt, .int mlv, .int mtl, .int mbe, .int mch, .ref hpb, .ref hwa, .ref hmn, .ref hcf, .ref hsa, .ref hro])), (hby, .inl (cI, 600, .inl mby))]) [0, 1] (by decide) rfl
      have hFc := va_free (wc := [(hm, .inr (8, [.int mrf, .ref hby, .int msz, .int mbg, .long mbt, .int mrg2, .int mct2, .int mvl2, .int mpl2, .int mcl, .int mrw, .int mqt, .int mlv, .int mtl, .int mbe, .int mch, .ref hpb, .ref hwa, .ref hmn, .ref hcf, .ref hsa, .ref hro])), (hby, .inl (cI, 600, .inl mby))]) hD hS hA [0, 1] rfl
      refine va_calli (va_runV (As := [.int pp]) (rest := [.int v13]) ⟨hx, hb, hml, hown, hts⟩ (c_X8_readBit l D cI cJ cZ hm hby hpb hwa hmn hcf hsa hro mrf msz mbg mrg2 mct2 mvl2 mpl2 mcl mrw mqt mlv mtl mbe mch mbt mby pp brg2 bct2 bsz bp ⟨hq.1, by have := hq.2; have := b4.2; have := hpl.2; omega⟩ (H).size) (cwV 1 hts (kg_V mk_200 mk_201 mk_202 mk_189 mk_203) rfl rfl rfl (by decide +kernel) ⟨Nat.le_of_ble_eq_true rfl, Nat.le_of_ble_eq_true rfl⟩) ⟨fun a U g mk q => by obtain ⟨q0, q1, qP, qK, qD⟩ := q; exact ⟨q0, q1, qP, kK.call qK, qD⟩, va_recv hK.1 hPc (ci := 8) (q0 := 0) rfl rfl, fun U hU hW => ⟨rfl, by rw [hU], by rw [hU]; exact hPc, kK.warm hW hK, hDc.weaken (fun _ _ _ _ => trivial)⟩⟩ rfl rfl hl.1 rfl (lv_room (Nat.le_of_ble_eq_true rfl)) dX8_readMany_16 ⟨Nat.zero_le _, Nat.zero_le _⟩) hS (fun q _ h => hFc q h) hFc (fun r16 u t9 H1 locs ht9 hvm9 hw9 hB9 hz9 hk9 hS => ?_)
      obtain ⟨mrg2_16, mct2_16, mvl2_16, mpl2_16⟩ := u
      obtain ⟨hP1, hD1⟩ := hB9
      rw [ht9] at hP1
      have hP1 : va_P D vwCl [(hm, .inr (8, [.int mrf, .ref hby, .int msz, .int mbg, .long mbt, .int mrg2_16, .int mct2_16, .int mvl2_16, .int mpl2_16, .int mcl, .int mrw, .int mqt, .int mlv, .int mtl, .int mbe, .int mch, .ref hpb, .ref hwa, .ref hmn, .ref hcf, .ref hsa, .ref hro])), (hby, .inl (cI, 600, .inl mby))] H1 := hP1
      obtain ⟨hP, hD⟩ := va_join (wr := []) (w1 := [(hm, .inr (8, [.int mrf, .ref hby, .int msz, .int mbg, .long mbt, .int mrg2_16, .int mct2_16, .int mvl2_16, .int mpl2_16, .int mcl, .int mrw, .int mqt, .int mlv, .int mtl, .int mbe, .int mch, .ref hpb, .ref hwa, .ref hmn, .ref hcf, .ref hsa, .ref hro])), (hby, .inl (cI, 600, .inl mby))]) hP hD [0, 1] [] rfl rfl (by decide) (by decide) hk9 hFc hP1 hD1
      have hP := hP.sub (ws' := [(hm, .inr (8, [.int mrf, .ref hby, .int msz, .int mbg, .long mbt, .int mrg2_16, .int mct2_16, .int mvl2_16, .int mpl2_16, .int mcl, .int mrw, .int mqt, .int mlv, .int mtl, .int mbe, .int mch, .ref hpb, .ref hwa, .ref hmn, .ref hcf, .ref hsa, .ref hro])), (hby, .inl (cI, 600, .inl mby))]) [0, 1] rfl
      have hD := hD.sub (ws' := [(hm, .inr (8, [.int mrf, .ref hby, .int msz, .int mbg, .long mbt, .int mrg2_16, .int mct2_16, .int mvl2_16, .int mpl2_16, .int mcl, .int mrw, .int mqt, .int mlv, .int mtl, .int mbe, .int mch, .ref hpb, .ref hwa, .ref hmn, .ref hcf, .ref hsa, .ref hro])), (hby, .inl (cI, 600, .inl mby))]) [0, 1] (by decide) rfl
      generalize H1 = H at hP hS ⊢
      obtain ⟨q16_0, q16_1, q16_2, q16_3, q16_4⟩ := hw9
      have q16_0 : kB r16 0 1 := q16_0
      have q16_1 : kB mrg2_16 128 255 := q16_1
      have q16_2 : kB mct2_16 0 7 := q16_2
      have q16_3 : 0 ≤ mpl2_16.toInt ∧ mpl2_16.toInt ≤ mpl2.toInt + 7 := q16_3
      have q16_4 : kIf (pp.toInt = 128 ∧ 0 ≤ mvl2.toInt ∧ mvl2.toInt ≤ 2000000 ∧ mct2.toInt ≤ 6) (r16.toInt = rBt mvl2.toInt mrg2.toInt ∧ (mvl2_16.toInt, mrg2_16.toInt, mct2_16.toInt) = rNx mvl2.toInt mrg2.toInt mct2.toInt) := q16_4
      refine lv_iadd hx hb dX8_readMany_19 ?_
      refine lv_topi (fun v19 e19 => ?_)
      refine lv_istore_n (lv' := [(3, .int v19), (0, .ref hm), (1, .int pp), (2, .int mn), (4, .int x4)]) hx hb dX8_readMany_20 rfl hl (by decide) rfl (fun ls hl => ?_)
      obtain ⟨v21, e21⟩ : ∃ y : Int32, y = x4 + 1 := ⟨_, rfl⟩
      refine lv_iinc (v := v21) (lv' := [(4, .int v21), (3, .int v19), (0, .ref hm), (1, .int pp), (2, .int mn)]) hx hb dX8_readMany_21 hl (k := 4) rfl (by rw [e21]; rfl) (by decide) rfl (fun ls hl => ?_)
      have b21 : kB v21 1 32 := kB_eq e21 (kB_add c8nx kc_1 (by decide))
      have t21 : v21.toInt = x4.toInt + 1 := by rw [e21]; exact kinc (kB_w c8nx (by decide) (by decide))
      refine lv_goto (tgt := 5) hx hb dX8_readMany_24 (by decide) ?_
      exact ih v19 v21 mrg2_16 mct2_16 mvl2_16 mpl2_16 (by have := b21.1; have := b21.2; have := q16_1.1; have := q16_1.2; have := q16_2.1; have := q16_2.2; have := c8nx.1; have := c8nx.2; have := brg2.1; have := brg2.2; have := bct2.1; have := bct2.2; omega) (kB_w b21 (by decide) (by decide)) (by rw [t21]; have := Int32.lt_iff_toInt_lt.mp c8n; omega) q16_1 q16_2 ⟨q16_3.1, by rw [t21]; have := q16_3.2; have := hq.2; omega⟩ (fun h => by rw [t21] at h ⊢; obtain ⟨h1, h2⟩ := hn (by omega); have h3 := pw2_mono (i := x4.toInt) (j := 15) (by omega); rw [show pw2 15 = 32768 from by decide] at h3; have h5 := kdbl2 (x := x3) ⟨h1, by omega⟩; rw [← e13] at h5; have h4 : v19.toInt = v13.toInt + r16.toInt := by { rw [e19, kI_add (by have := q16_0.1; omega) (by have := q16_0.2; omega)] }; rw [pw2_s b4.1, h4, h5]; have := q16_0.1; have := q16_0.2; omega) (fun h9 => by have h6 : x4.toInt ≤ 1 := by { have h8 := Int32.lt_iff_toInt_lt.mp c8n; omega }; have h5 := (hex h9).2 h6; have h4 := q16_4 ⟨h9.1, h5.1, by omega, by omega⟩; exact rM_s (hex h9) b4.1 h6 brg2.1 h4.1 h4.2 t21 (by have h3 := kdbl2 (x := x3) ⟨h5.2.2.2.1, by omega⟩; rw [← e13] at h3; rw [e19, kI_add (by have := q16_0.1; omega) (by have := q16_0.2; omega), h3])) _ _ ls hP hD hS (lv_sub hl [2, 3, 4, 1, 0] rfl)
set_option maxHeartbeats 4000000 in
set_option maxRecDepth 100000 in
theorem c_X8_readMany (l : Launch) (D : va_G) (cI cJ cZ : ClassId) (hm hby hpb hwa hmn hcf hsa hro : Nat) (mrf : Int32) (msz : Int32) (mbg : Int32) (mrg : Int32) (mct : Int32) (mvl : Int32) (mpl : Int32) (mcl : Int32) (mrw : Int32) (mqt : Int32) (mlv : Int32) (mtl : Int32) (mbe : Int32) (mch : Int32) (mbt : Int64) (mby : Nat → Int32) (pp : Int32) (mn : Int32) (brg : kB mrg 128 255) (bct : kB mct 0 7) (bsz : kB msz 0 600) (bp : kB pp 0 255) (bmn : kB mn 0 32) (hpl : 0 ≤ mpl.toInt ∧ mpl.toInt ≤ 999000000) (hpz : Nat) : Met l yX8_readMany kw_X8_readMany ({ frames := 2, cells := 0, slots := 0, locals := 44 }) (va_Pc [.ref hm, .int pp, .int mn] (fun U => U.heap.size = hpz ∧ va_P D vwCl [(hm, .inr (8, [.int mrf, .ref hby, .int msz, .int mbg, .long mbt, .int mrg, .int mct, .int mvl, .int mpl, .int mcl, .int mrw, .int mqt, .int mlv, .int mtl, .int mbe, .int mch, .ref hpb, .ref hwa, .ref hmn, .ref hcf, .ref hsa, .ref hro])), (hby, .inl (cI, 600, .inl mby))] U.heap ∧ kK D cI cJ cZ U ∧ va_D (fun _ => True) [(hm, .inr (8, [.int mrf, .ref hby, .int msz, .int mbg, .long mbt, .int mrg, .int mct, .int mvl, .int mpl, .int mcl, .int mrw, .int mqt, .int mlv, .int mtl, .int mbe, .int mch, .ref hpb, .ref hwa, .ref hmn, .ref hcf, .ref hsa, .ref hro])), (hby, .inl (cI, 600, .inl mby))])) (va_Qi (fun (r : Int32) (u : Int32 × Int32 × Int32 × Int32) => (kB u.1 128 255) ∧ (kB u.2.1 0 7) ∧ (0 ≤ u.2.2.2.toInt ∧ u.2.2.2.toInt ≤ mpl.toInt + 224) ∧ (mn.toInt ≤ 16 → 0 ≤ r.toInt ∧ r.toInt < pw2 mn.toInt) ∧ (kIf (pp.toInt = 128 ∧ mn.toInt = 2 ∧ 0 ≤ mvl.toInt ∧ mvl.toInt ≤ 500000 ∧ mct.toInt ≤ 4) ((r.toInt, u.2.2.1.toInt, u.1.toInt, u.2.1.toInt) = rI 2 (0, mvl.toInt, mrg.toInt, mct.toInt)))) (fun (u : Int32 × Int32 × Int32 × Int32) (t : State) => va_P D vwCl [(hm, .inr (8, [.int mrf, .ref hby, .int msz, .int mbg, .long mbt, .int u.1, .int u.2.1, .int u.2.2.1, .int u.2.2.2, .int mcl, .int mrw, .int mqt, .int mlv, .int mtl, .int mbe, .int mch, .ref hpb, .ref hwa, .ref hmn, .ref hcf, .ref hsa, .ref hro])), (hby, .inl (cI, 600, .inl mby))] t.heap ∧ va_D (va_A [(hm, .inr (8, [.int mrf, .ref hby, .int msz, .int mbg, .long mbt, .int mrg, .int mct, .int mvl, .int mpl, .int mcl, .int mrw, .int mqt, .int mlv, .int mtl, .int mbe, .int mch, .ref hpb, .ref hwa, .ref hmn, .ref hcf, .ref hsa, .ref hro])), (hby, .inl (cI, 600, .inl mby))] hpz) [(hm, .inr (8, [.int mrf, .ref hby, .int msz, .int mbg, .long mbt, .int u.1, .int u.2.1, .int u.2.2.1, .int u.2.2.2, .int mcl, .int mrw, .int mqt, .int mlv, .int mtl, .int mbe, .int mch, .ref hpb, .ref hwa, .ref hmn, .ref hcf, .ref hsa, .ref hro])), (hby, .inl (cI, 600, .inl mby))]) (va_A [(hm, .inr (8, [.int mrf, .ref hby, .int msz, .int mbg, .long mbt, .int mrg, .int mct, .int mvl, .int mpl, .int mcl, .int mrw, .int mqt, .int mlv, .int mtl, .int mbe, .int mch, .ref hpb, .ref hwa, .ref hmn, .ref hcf, .ref hsa, .ref hro])), (hby, .inl (cI, 600, .inl mby))] hpz)) 0 0 (va_A [(hm, .inr (8, [.int mrf, .ref hby, .int msz, .int mbg, .long mbt, .int mrg, .int mct, .int mvl, .int mpl, .int mcl, .int mrw, .int mqt, .int mlv, .int mtl, .int mbe, .int mch, .ref hpb, .ref hwa, .ref hmn, .ref hcf, .ref hsa, .ref hro])), (hby, .inl (cI, 600, .inl mby))] hpz) := by
  refine Met.ofW (cc := cX8_readMany) (maxL := 5) (ret := (some .int)) (by decide) rfl ?_
  intro p e s m args below meth c s₁ B hml hv
  obtain ⟨rfl, hsz, hP, hK, hD0⟩ := hv
  have hx := B.exec
  have hb := B.bytes
  have hr := B.returns
  have hts := fun (w : Cond) (h : w ∈ kW) => atoms_spec (ws := kw_X8_readMany) B.pre w (List.mem_cons_of_mem _ h)
  have hown : s.vm.findClass RX8 = some m.cls := findClass_of_methodNamed B.named
  have hlocks := B.notSynchronized
  subst hsz
  have hD := hD0.self (sz := s.heap.size)
  generalize hAe : va_A [(hm, .inr (8, [.int mrf, .ref hby, .int msz, .int mbg, .long mbt, .int mrg, .int mct, .int mvl, .int mpl, .int mcl, .int mrw, .int mqt, .int mlv, .int mtl, .int mbe, .int mch, .ref hpb, .ref hwa, .ref hmn, .ref hcf, .ref hsa, .ref hro])), (hby, .inl (cI, 600, .inl mby))] s.heap.size = A at hD ⊢
  have hA : ∀ q : Nat, s.heap.size ≤ q → A q := fun q h => by rw [← hAe]; exact Or.inr h
  have hS : va_S A s.heap s.heap [] := va_S.rf
  have hP : va_P D vwCl [(hm, .inr (8, [.int mrf, .ref hby, .int msz, .int mbg, .long mbt, .int mrg, .int mct, .int mvl, .int mpl, .int mcl, .int mrw, .int mqt, .int mlv, .int mtl, .int mbe, .int mch, .ref hpb, .ref hwa, .ref hmn, .ref hcf, .ref hsa, .ref hro])), (hby, .inl (cI, 600, .inl mby))] s.heap := hP
  have hl := lv_entry ([.ref hm, .int pp, .int mn]) (n := 5) (Nat.le_of_ble_eq_true rfl)
  rw [lg_entry_eq]
  generalize (lg_sl ([.ref hm, .int pp, .int mn]) ++ List.replicate (5 - (lg_sl ([.ref hm, .int pp, .int mn])).length) Slot.unset).toArray = ls at hl ⊢
  have hl : lv_has ls 5 [(0, .ref hm), (1, .int pp), (2, .int mn)] := hl
  refine lv_iconst (v := 0) hx hb dX8_readMany_0 (by decide) ?_
  refine lv_istore_n (lv' := [(3, .int 0), (0, .ref hm), (1, .int pp), (2, .int mn)]) hx hb dX8_readMany_1 rfl hl (by decide) rfl (fun ls hl => ?_)
  refine lv_iconst (v := 0) hx hb dX8_readMany_2 (by decide) ?_
  refine lv_istore (lv' := [(4, .int 0), (3, .int 0), (0, .ref hm), (1, .int pp), (2, .int mn)]) hx hb dX8_readMany_3 hl (by decide) rfl (fun ls hl => ?_)
  exact lp_X8_readMany_5 D cI cJ cZ hm hby hpb hwa hmn hcf hsa hro mrf msz mbg mrg mct mvl mpl mcl mrw mqt mlv mtl mbe mch mbt mby pp mn brg bct bsz bp bmn hpl hx hb hr hml hown hts hlocks hK hA ((32 - (0 : Int32).toInt).toNat + 1) 0 0 mrg mct mvl mpl (Nat.lt_succ_self _) (kB_w kc_0 (by decide) (by decide)) (by rw [show (0 : Int32).toInt = 0 from by decide]; exact bmn.1) brg bct ⟨hpl.1, by rw [show (0 : Int32).toInt = 0 from by decide]; omega⟩ (fun _ => by rw [show (0 : Int32).toInt = 0 from by decide, pw2_0]; decide) (fun h9 => by rw [show (0 : Int32).toInt = 0 from by decide]; exact rM_0 h9.2.2.1 h9.2.2.2.1 h9.2.2.2.2) _ _ ls hP hD hS (lv_sub hl [2, 3, 4, 1, 0] rfl)
