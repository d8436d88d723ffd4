abbrev kw_X8_erase : List Cond := Cond.code yX8_erase cX8_erase 2 (some .int) :: kW
set_option maxHeartbeats 4000000 in
set_option maxRecDepth 100000 in
theorem c_X8_erase (l : Launch) (D : va_G) (cI cJ cZ : ClassId) (hm hby hpb hwa hmn hcf hsa hro : Nat) (mrf : Int32) (msz : Int32) (mbg : Int32) (mrg : Int32) (mct : Int32) (mvl : Int32) (mpl : Int32) (mcl : Int32) (mrw : Int32) (mqt : Int32) (mlv : Int32) (mtl : Int32) (mbe : Int32) (mch : Int32) (mbt : Int64) (hpz : Nat) : Met l yX8_erase kw_X8_erase ({ frames := 0, cells := 0, slots := 0, locals := 0 }) (va_Pc [.ref hm] (fun U => U.heap.size = hpz ∧ va_P D vwCl [(hm, .inr (8, [.int mrf, .ref hby, .int msz, .int mbg, .long mbt, .int mrg, .int mct, .int mvl, .int mpl, .int mcl, .int mrw, .int mqt, .int mlv, .int mtl, .int mbe, .int mch, .ref hpb, .ref hwa, .ref hmn, .ref hcf, .ref hsa, .ref hro]))] U.heap ∧ kK D cI cJ cZ U ∧ va_D (fun _ => True) [(hm, .inr (8, [.int mrf, .ref hby, .int msz, .int mbg, .long mbt, .int mrg, .int mct, .int mvl, .int mpl, .int mcl, .int mrw, .int mqt, .int mlv, .int mtl, .int mbe, .int mch, .ref hpb, .ref hwa, .ref hmn, .ref hcf, .ref hsa, .ref hro]))])) (va_Qi (fun (r : Int32) (u : Unit) => (r = msz)) (fun (u : Unit) (t : State) => va_P D vwCl [(hm, .inr (8, [.int 0, .ref hby, .int 0, .int 0, .long mbt, .int mrg, .int mct, .int mvl, .int mpl, .int mcl, .int mrw, .int mqt, .int mlv, .int mtl, .int mbe, .int mch, .ref hpb, .ref hwa, .ref hmn, .ref hcf, .ref hsa, .ref hro]))] t.heap ∧ va_D (va_A [(hm, .inr (8, [.int mrf, .ref hby, .int msz, .int mbg, .long mbt, .int mrg, .int mct, .int mvl, .int mpl, .int mcl, .int mrw, .int mqt, .int mlv, .int mtl, .int mbe, .int mch, .ref hpb, .ref hwa, .ref hmn, .ref hcf, .ref hsa, .ref hro]))] hpz) [(hm, .inr (8, [.int 0, .ref hby, .int 0, .int 0, .long mbt, .int mrg, .int mct, .int mvl, .int mpl, .int mcl, .int mrw, .int mqt, .int mlv, .int mtl, .int mbe, .int mch, .ref hpb, .ref hwa, .ref hmn, .ref hcf, .ref hsa, .ref hro]))]) (va_A [(hm, .inr (8, [.int mrf, .ref hby, .int msz, .int mbg, .long mbt, .int mrg, .int mct, .int mvl, .int mpl, .int mcl, .int mrw, .int mqt, .int mlv, .int mtl, .int mbe, .int mch, .ref hpb, .ref hwa, .ref hmn, .ref hcf, .ref hsa, .ref hro]))] hpz)) 0 0 (va_A [(hm, .inr (8, [.int mrf, .ref hby, .int msz, .int mbg, .long mbt, .int mrg, .int mct, .int mvl, .int mpl, .int mcl, .int mrw, .int mqt, .int mlv, .int mtl, .int mbe, .int mch, .ref hpb, .ref hwa, .ref hmn, .ref hcf, .ref hsa, .ref hro]))] hpz) := by
  refine Met.ofW (cc := cX8_erase) (maxL := 2) (ret := (some .int)) (by decide) rfl ?_
  intro p e s m args below meth c s₁ B hml hv
  obtain ⟨rfl, hsz, hP, hK, hD0⟩ := hv
  have hx := B.exec
  have hb := B.bytes
  have hr := B.returns
  have hts := fun (w : Cond) (h : w ∈ kW) => atoms_spec (ws := kw_X8_erase) B.pre w (List.mem_cons_of_mem _ h)
  have hown : s.vm.findClass RX8 = some m.cls := findClass_of_methodNamed B.named
  have hlocks := B.notSynchronized
  subst hsz
  have hD := hD0.self (sz := s.heap.size)
  generalize hAe : va_A [(hm, .inr (8, [.int mrf, .ref hby, .int msz, .int mbg, .long mbt, .int mrg, .int mct, .int mvl, .int mpl, .int mcl, .int mrw, .int mqt, .int mlv, .int mtl, .int mbe, .int mch, .ref hpb, .ref hwa, .ref hmn, .ref hcf, .ref hsa, .ref hro]))] s.heap.size = A at hD ⊢
  have hA : ∀ q : Nat, s.heap.size ≤ q → A q := fun q h => by rw [← hAe]; exact Or.inr h
  have hS : va_S A s.heap s.heap [] := va_S.rf
  have hP : va_P D vwCl [(hm, .inr (8, [.int mrf, .ref hby, .int msz, .int mbg, .long mbt, .int mrg, .int mct, .int mvl, .int mpl, .int mcl, .int mrw, .int mqt, .int mlv, .int mtl, .int mbe, .int mch, .ref hpb, .ref hwa, .ref hmn, .ref hcf, .ref hsa, .ref hro]))] s.heap := hP
  have hl := lv_entry ([.ref hm]) (n := 2) (Nat.le_of_ble_eq_true rfl)
  rw [lg_entry_eq]
  generalize (lg_sl ([.ref hm]) ++ List.replicate (2 - (lg_sl ([.ref hm])).length) Slot.unset).toArray = ls at hl ⊢
  have hl : lv_has ls 2 [(0, .ref hm)] := hl
  refine lv_aload_n hx hb dX8_erase_0 rfl (lv_at hl 0 rfl) ?_
  refine lv_iconst (v := 0) hx hb dX8_erase_1 (by decide) ?_
  refine va_put (D := D) (ci := 8) (v := .int 0) (ty := .int) (C := RX8) (T := TX8) (N := 22) hx hb hts in_X8 tyX8 tyX8_ok nmX8 hown hK.1 hP hD hS 0 rfl rfl 0 (by decide) (hts _ mk_183) (fun _ h9 => h9) rfl (by decide +kernel) rfl rfl (Nat.le_of_ble_eq_true rfl) dX8_erase_2 (fun H locs hP hD hS => ?_)
  have hP : va_P D vwCl [(hm, .inr (8, [.int 0, .ref hby, .int msz, .int mbg, .long mbt, .int mrg, .int mct, .int mvl, .int mpl, .int mcl, .int mrw, .int mqt, .int mlv, .int mtl, .int mbe, .int mch, .ref hpb, .ref hwa, .ref hmn, .ref hcf, .ref hsa, .ref hro]))] H := hP
  have hD : va_D A [(hm, .inr (8, [.int 0, .ref hby, .int msz, .int mbg, .long mbt, .int mrg, .int mct, .int mvl, .int mpl, .int mcl, .int mrw, .int mqt, .int mlv, .int mtl, .int mbe, .int mch, .ref hpb, .ref hwa, .ref hmn, .ref hcf, .ref hsa, .ref hro]))] := hD
  refine lv_aload_n hx hb dX8_erase_5 rfl (lv_at hl 0 rfl) ?_
  refine va_get (D := D) (ci := 8) (v := .int msz) (C := RX8) (T := TX8) (N := 22) hx hb hts in_X8 hown hK.1 hP 0 rfl rfl 2 (by decide) (hts _ mk_184) (fun _ h9 => h9) rfl dX8_erase_6 ?_
  refine lv_istore_n (lv' := [(1, .int msz), (0, .ref hm)]) hx hb dX8_erase_9 rfl hl (by decide) rfl (fun ls hl => ?_)
  refine lv_aload_n hx hb dX8_erase_10 rfl (lv_at hl 1 rfl) ?_
  refine lv_iconst (v := 0) hx hb dX8_erase_11 (by decide) ?_
  refine va_put (D := D) (ci := 8) (v := .int 0) (ty := .int) (C := RX8) (T := TX8) (N := 22) hx hb hts in_X8 tyX8 tyX8_ok nmX8 hown hK.1 hP hD hS 0 rfl rfl 2 (by decide) (hts _ mk_184) (fun _ h9 => h9) rfl (by decide +kernel) rfl rfl (Nat.le_of_ble_eq_true rfl) dX8_erase_12 (fun H locs hP hD hS => ?_)
  have hP : va_P D vwCl [(hm, .inr (8, [.int 0, .ref hby, .int 0, .int mbg, .long mbt, .int mrg, .int mct, .int mvl, .int mpl, .int mcl, .int mrw, .int mqt, .int mlv, .int mtl, .int mbe, .int mch, .ref hpb, .ref hwa, .ref hmn, .ref hcf, .ref hsa, .ref hro]))] H := hP
  have hD : va_D A [(hm, .inr (8, [.int 0, .ref hby, .int 0, .int mbg, .long mbt, .int mrg, .int mct, .int mvl, .int mpl, .int mcl, .int mrw, .int mqt, .int mlv, .int mtl, .int mbe, .int mch, .ref hpb, .ref hwa, .ref hmn, .ref hcf, .ref hsa, .ref hro]))] := hD
  refine lv_aload_n hx hb dX8_erase_15 rfl (lv_at hl 1 rfl) ?_
  refine lv_iconst (v := 0) hx hb dX8_erase_16 (by decide) ?_
  refine va_put (D := D) (ci := 8) (v := .int 0) (ty := .int) (C := RX8) (T := TX8) (N := 22) hx hb hts in_X8 tyX8 tyX8_ok nmX8 hown hK.1 hP hD hS 0 rfl rfl 3 (by decide) (hts _ mk_195) (fun _ h9 => h9) rfl (by decide +kernel) rfl rfl (Nat.le_of_ble_eq_true rfl) dX8_erase_17 (fun H locs hP hD hS => ?_)
  have hP : va_P D vwCl [(hm, .inr (8, [.int 0, .ref hby, .int 0, .int 0, .long mbt, .int mrg, .int mct, .int mvl, .int mpl, .int mcl, .int mrw, .int mqt, .int mlv, .int mtl, .int mbe, .int mch, .ref hpb, .ref hwa, .ref hmn, .ref hcf, .ref hsa, .ref hro]))] H := hP
  have hD : va_D A [(hm, .inr (8, [.int 0, .ref hby, .int 0, .int 0, .long mbt, .int mrg, .int mct, .int mvl, .int mpl, .int mcl, .int mrw, .int mqt, .int mlv, .int mtl, .int mbe, .int mch, .ref hpb, .ref hwa, .ref hmn, .ref hcf, .ref hsa, .ref hro]))] := hD
  refine lv_iload_n hx hb dX8_erase_20 rfl (lv_at hl 0 rfl) ?_
  exact W.iret (v := msz) hx hb hr (fun t9 ht9 hW9 => ⟨⟨msz, (), rfl, rfl, by rw [ht9]; exact hP, hD⟩, hS.F ht9⟩) hS.2.2 dX8_erase_21
abbrev kw_X8_write : List Cond := Cond.code yX8_write cX8_write 1 none :: kW
set_option maxHeartbeats 4000000 in
set_option maxRecDepth 100000 in
theorem c_X8_write (l : Launch) (D : va_G) (cI cJ cZ : ClassId) (hm hby hpb hwa hmn hcf hsa hro : Nat) (mrf : Int32) (msz : Int32) (mbg : Int32) (mrg : Int32) (mct : Int32) (mvl : Int32) (mpl : Int32) (mcl : Int32) (mrw : Int32) (mqt : Int32) (mlv : Int32) (mtl : Int32) (mbe : Int32) (mch : Int32) (mbt : Int64) (hpz : Nat) : Met l yX8_write kw_X8_write ({ frames := 0, cells := 0, slots := 0, locals := 0 }) (va_Pc [.ref hm] (fun U => U.heap.size = hpz ∧ va_P D vwCl [(hm, .inr (8, [.int mrf, .ref hby, .int msz, .int mbg, .long mbt, .int mrg, .int mct, .int mvl, .int mpl, .int mcl, .int mrw, .int mqt, .int mlv, .int mtl, .int mbe, .int mch, .ref hpb, .ref hwa, .ref hmn, .ref hcf, .ref hsa, .ref hro]))] U.heap ∧ kK D cI cJ cZ U ∧ va_D (fun _ => True) [(hm, .inr (8, [.int mrf, .ref hby, .int msz, .int mbg, .long mbt, .int mrg, .int mct, .int mvl, .int mpl, .int mcl, .int mrw, .int mqt, .int mlv, .int mtl, .int mbe, .int mch, .ref hpb, .ref hwa, .ref hmn, .ref hcf, .ref hsa, .ref hro]))])) (va_Qv (fun (u : Unit) => True) (fun (u : Unit) (t : State) => va_P D vwCl [(hm, .inr (8, [.int 0, .ref hby, .int 0, .int 1, .long 0, .int 255, .int 24, .int mvl, .int mpl, .int mcl, .int mrw, .int mqt, .int mlv, .int mtl, .int mbe, .int mch, .ref hpb, .ref hwa, .ref hmn, .ref hcf, .ref hsa, .ref hro]))] t.heap ∧ va_D (va_A [(hm, .inr (8, [.int mrf, .ref hby, .int msz, .int mbg, .long mbt, .int mrg, .int mct, .int mvl, .int mpl, .int mcl, .int mrw, .int mqt, .int mlv, .int mtl, .int mbe, .int mch, .ref hpb, .ref hwa, .ref hmn, .ref hcf, .ref hsa, .ref hro]))] hpz) [(hm, .inr (8, [.int 0, .ref hby, .int 0, .int 1, .long 0, .int 255, .int 24, .int mvl, .int mpl, .int mcl, .int mrw, .int mqt, .int mlv, .int mtl, .int mbe, .int mch, .ref hpb, .ref hwa, .ref hmn, .ref hcf, .ref hsa, .ref hro]))]) (va_A [(hm, .inr (8, [.int mrf, .ref hby, .int msz, .int mbg, .long mbt, .int mrg, .int mct, .int mvl, .int mpl, .int mcl, .int mrw, .int mqt, .int mlv, .int mtl, .int mbe, .int mch, .ref hpb, .ref hwa, .ref hmn, .ref hcf, .ref hsa, .ref hro]))] hpz)) 0 0 (va_A [(hm, .inr (8, [.int mrf, .ref hby, .int msz, .int mbg, .long mbt, .int mrg, .int mct, .int mvl, .int mpl, .int mcl, .int mrw, .int mqt, .int mlv, .int mtl, .int mbe, .int mch, .ref hpb, .ref hwa, .ref hmn, .ref hcf, .ref hsa, .ref hro]))] hpz) := by
  refine Met.ofW (cc := cX8_write) (maxL := 1) (ret := none) (by decide) rfl ?_
  intro p e s m args below meth c s₁ B hml hv
  obtain ⟨rfl, hsz, hP, hK, hD0⟩ := hv
  have hx := B.exec
  have hb := B.bytes
  have hr := B.returns
  have hts := fun (w : Cond) (h : w ∈ kW) => atoms_spec (ws := kw_X8_write) B.pre w (List.mem_cons_of_mem _ h)
  have hown : s.vm.findClass RX8 = some m.cls := findClass_of_methodNamed B.named
  have hlocks := B.notSynchronized
  subst hsz
  have hD := hD0.self (sz := s.heap.size)
  generalize hAe : va_A [(hm, .inr (8, [.int mrf, .ref hby, .int msz, .int mbg, .long mbt, .int mrg, .int mct, .int mvl, .int mpl, .int mcl, .int mrw, .int mqt, .int mlv, .int mtl, .int mbe, .int mch, .ref hpb, .ref hwa, .ref hmn, .ref hcf, .ref hsa, .ref hro]))] s.heap.size = A at hD ⊢
  have hA : ∀ q : Nat, s.heap.size ≤ q → A q := fun q h => by rw [← hAe]; exact Or.inr h
  have hS : va_S A s.heap s.heap [] := va_S.rf
  have hP : va_P D vwCl [(hm, .inr (8, [.int mrf, .ref hby, .int msz, .int mbg, .long mbt, .int mrg, .int mct, .int mvl, .int mpl, .int mcl, .int mrw, .int mqt, .int mlv, .int mtl, .int mbe, .int mch, .ref hpb, .ref hwa, .ref hmn, .ref hcf, .ref hsa, .ref hro]))] s.heap := hP
  have hl := lv_entry ([.ref hm]) (n := 1) (Nat.le_of_ble_eq_true rfl)
  rw [lg_entry_eq]
  generalize (lg_sl ([.ref hm]) ++ List.replicate (1 - (lg_sl ([.ref hm])).length) Slot.unset).toArray = ls at hl ⊢
  have hl : lv_has ls 1 [(0, .ref hm)] := hl
  refine lv_aload_n hx hb dX8_write_0 rfl (lv_at hl 0 rfl) ?_
  refine lv_iconst (v := 0) hx hb dX8_write_1 (by decide) ?_
  refine va_put (D := D) (ci := 8) (v := .int 0) (ty := .int) (C := RX8) (T := TX8) (N := 22) hx hb hts in_X8 tyX8 tyX8_ok nmX8 hown hK.1 hP hD hS 0 rfl rfl 0 (by decide) (hts _ mk_183) (fun _ h9 => h9) rfl (by decide +kernel) rfl rfl (Nat.le_of_ble_eq_true rfl) dX8_write_2 (fun H locs hP hD hS => ?_)
  have hP : va_P D vwCl [(hm, .inr (8, [.int 0, .ref hby, .int msz, .int mbg, .long mbt, .int mrg, .int mct, .int mvl, .int mpl, .int mcl, .int mrw, .int mqt, .int mlv, .int mtl, .int mbe, .int mch, .ref hpb, .ref hwa, .ref hmn, .ref hcf, .ref hsa, .ref hro]))] H := hP
  have hD : va_D A [(hm, .inr (8, [.int 0, .ref hby, .int msz, .int mbg, .long mbt, .int mrg, .int mct, .int mvl, .int mpl, .int mcl, .int mrw, .int mqt, .int mlv, .int mtl, .int mbe, .int mch, .ref hpb, .ref hwa, .ref hmn, .ref hcf, .ref hsa, .ref hro]))] := hD
  refine lv_aload_n hx hb dX8_write_5 rfl (lv_at hl 0 rfl) ?_
  refine lv_iconst (v := 0) hx hb dX8_write_6 (by decide) ?_
  refine va_put (D := D) (ci := 8) (v := .int 0) (ty := .int) (C := RX8) (T := TX8) (N := 22) hx hb hts in_X8 tyX8 tyX8_ok nmX8 hown hK.1 hP hD hS 0 rfl rfl 2 (by decide) (hts _ mk_184) (fun _ h9 => h9) rfl (by decide +kernel) rfl rfl (Nat.le_of_ble_eq_true rfl) dX8_write_7 (fun H locs hP hD hS => ?_)
  have hP : va_P D vwCl [(hm, .inr (8, [.int 0, .ref hby, .int 0, .int mbg, .long mbt, .int mrg, .int mct, .int mvl, .int mpl, .int mcl, .int mrw, .int mqt, .int mlv, .int mtl, .int mbe, .int mch, .ref hpb, .ref hwa, .ref hmn, .ref hcf, .ref hsa, .ref hro]))] H := hP
  have hD : va_D A [(hm, .inr (8, [.int 0, .ref hby, .int 0, .int mbg, .long mbt, .int mrg, .int mct, .int mvl, .int mpl, .int mcl, .int mrw, .int mqt, .int mlv, .int mtl, .int mbe, .int mch, .ref hpb, .ref hwa, .ref hmn, .ref hcf, .ref hsa, .ref hro]))] := hD
  refine lv_aload_n hx hb dX8_write_10 rfl (lv_at hl 0 rfl) ?_
  refine lv_iconst (v := 1) hx hb dX8_write_11 (by decide) ?_
  refine va_put (D := D) (ci := 8) (v := .int 1) (ty := .int) (C := RX8) (T := TX8) (N := 22) hx hb hts in_X8 tyX8 tyX8_ok nmX8 hown hK.1 hP hD hS 0 rfl rfl 3 (by decide) (hts _ mk_195) (fun _ h9 => h9) rfl (by decide +kernel) rfl rfl (Nat.le_of_ble_eq_true rfl) dX8_write_12 (fun H locs hP hD hS => ?_)
  have hP : va_P D vwCl [(hm, .inr (8, [.int 0, .ref hby, .int 0, .int 1, .long mbt, .int mrg, .int mct, .int mvl, .int mpl, .int mcl, .int mrw, .int mqt, .int mlv, .int mtl, .int mbe, .int mch, .ref hpb, .ref hwa, .ref hmn, .ref hcf, .ref hsa, .ref hro]))] H := hP
  have hD : va_D A [(hm, .inr (8, [.int 0, .ref hby, .int 0, .int 1, .long mbt, .int mrg, .int mct, .int mvl, .int mpl, .int mcl, .int mrw, .int mqt, .int mlv, .int mtl, .int mbe, .int mch, .ref hpb, .ref hwa, .ref hmn, .ref hcf, .ref hsa, .ref hro]))] := hD
  refine lv_aload_n hx hb dX8_write_15 rfl (lv_at hl 0 rfl) ?_
  refine lv_lconst (v := 0) hx hb dX8_write_16 (by decide) ?_
  refine va_put (D := D) (ci := 8) (v := .long 0) (ty := .long) (C := RX8) (T := TX8) (N := 22) hx hb hts in_X8 tyX8 tyX8_ok nmX8 hown hK.1 hP hD hS 0 rfl rfl 4 (by decide) (hts _ mk_356) (fun _ h9 => h9) rfl (by decide +kernel) rfl rfl (Nat.le_of_ble_eq_true rfl) dX8_write_17 (fun H locs hP hD hS => ?_)
  have hP : va_P D vwCl [(hm, .inr (8, [.int 0, .ref hby, .int 0, .int 1, .long 0, .int mrg, .int mct, .int mvl, .int mpl, .int mcl, .int mrw, .int mqt, .int mlv, .int mtl, .int mbe, .int mch, .ref hpb, .ref hwa, .ref hmn, .ref hcf, .ref hsa, .ref hro]))] H := hP
  have hD : va_D A [(hm, .inr (8, [.int 0, .ref hby, .int 0, .int 1, .long 0, .int mrg, .int mct, .int mvl, .int mpl, .int mcl, .int mrw, .int mqt, .int mlv, .int mtl, .int mbe, .int mch, .ref hpb, .ref hwa, .ref hmn, .ref hcf, .ref hsa, .ref hro]))] := hD
  refine lv_aload_n hx hb dX8_write_20 rfl (lv_at hl 0 rfl) ?_
  refine lv_sipush (v := 255) hx hb dX8_write_21 (by decide) ?_
  refine va_put (D := D) (ci := 8) (v := .int 255) (ty := .int) (C := RX8) (T := TX8) (N := 22) hx hb hts in_X8 tyX8 tyX8_ok nmX8 hown hK.1 hP hD hS 0 rfl rfl 5 (by decide) (hts _ mk_193) (fun _ h9 => h9) rfl (by decide +kernel) rfl rfl (Nat.le_of_ble_eq_true rfl) dX8_write_24 (fun H locs hP hD hS => ?_)
  have hP : va_P D vwCl [(hm, .inr (8, [.int 0, .ref hby, .int 0, .int 1, .long 0, .int 255, .int mct, .int mvl, .int mpl, .int mcl, .int mrw, .int mqt, .int mlv, .int mtl, .int mbe, .int mch, .ref hpb, .ref hwa, .ref hmn, .ref hcf, .ref hsa, .ref hro]))] H := hP
  have hD : va_D A [(hm, .inr (8, [.int 0, .ref hby, .int 0, .int 1, .long 0, .int 255, .int mct, .int mvl, .int mpl, .int mcl, .int mrw, .int mqt, .int mlv, .int mtl, .int mbe, .int mch, .ref hpb, .ref hwa, .ref hmn, .ref hcf, .ref hsa, .ref hro]))] := hD
  refine lv_aload_n hx hb dX8_write_27 rfl (lv_at hl 0 rfl) ?_
  refine lv_bipush (v := 24) hx hb dX8_write_28 (by decide) ?_
  refine va_put (D := D) (ci := 8) (v := .int 24) (ty := .int) (C := RX8) (T := TX8) (N := 22) hx hb hts in_X8 tyX8 tyX8_ok nmX8 hown hK.1 hP hD hS 0 rfl rfl 6 (by decide) (hts _ mk_194) (fun _ h9 => h9) rfl (by decide +kernel) rfl rfl (Nat.le_of_ble_eq_true rfl) dX8_write_30 (fun H locs hP hD hS => ?_)
  have hP : va_P D vwCl [(hm, .inr (8, [.int 0, .ref hby, .int 0, .int 1, .long 0, .int 255, .int 24, .int mvl, .int mpl, .int mcl, .int mrw, .int mqt, .int mlv, .int mtl, .int mbe, .int mch, .ref hpb, .ref hwa, .ref hmn, .ref hcf, .ref hsa, .ref hro]))] H := hP
  have hD : va_D A [(hm, .inr (8, [.int 0, .ref hby, .int 0, .int 1, .long 0, .int 255, .int 24, .int mvl, .int mpl, .int mcl, .int mrw, .int mqt, .int mlv, .int mtl, .int mbe, .int mch, .ref hpb, .ref hwa, .ref hmn, .ref hcf, .ref hsa, .ref hro]))] := hD
  exact W.vret hx hb hr (fun t9 ht9 hW9 => ⟨⟨(), rfl, trivial, by rw [ht9]; exact hP, hD⟩, hS.F ht9⟩) hS.2.2 dX8_write_33
abbrev kw_X8_carry : List Cond := Cond.code yX8_carry cX8_carry 2 none :: kW
set_option maxHeartbeats 4000000 in
set_option maxRecDepth 100000 in
theorem lp_X8_carry_7 {p : Program} {l : Launch} {e : Env} {s : State} {m : MethodId} {args : Array Value} {below : List Frame} {meth : Method} {c : Code} {A : Nat → Prop} (D : va_G) (cI cJ cZ : ClassId) (hm hby hpb hwa hmn hcf hsa hro : Nat) (mrf : Int32) (msz : Int32) (mbg : Int32) (mrg : Int32) (mct : Int32) (mvl : Int32) (mpl : Int32) (mcl : Int32) (mrw : Int32) (mqt : Int32) (mlv : Int32) (mtl : Int32) (mbe : Int32) (mch : Int32) (mbt : Int64) (mby : Nat → Int32) (bsz : kB msz 0 600) (hx : p.tables.exec = Jvm.exec) (hb : c.code = cX8_carry) (hr : meth.sig.returnType = none) (hml : c.maxLocals = 2) (hown : s.vm.findClass RX8 = some m.cls) (hts : ∀ w ∈ kW, w.before args s = true) (hlocks : meth.locks = false) (hK : kK D cI cJ cZ s) (hA : ∀ q : Nat, s.heap.size ≤ q → A q) : ∀ n : Nat, ∀ (x1 : Int32) (mby2 : Nat → Int32), (x1.toInt + 1).toNat < n → (kB x1 (-1) 599) → (wCar (x1.toInt + 1).toNat mby2 = wCar msz.toInt.toNat mby) → ∀ (H : Heap) (locs : List Loc) (ls : Array Slot), va_P D vwCl [(hm, .inr (8, [.int mrf, .ref hby, .int msz, .int mbg, .long mbt, .int mrg, .int mct, .int mvl, .int mpl, .int mcl, .int mrw, .int mqt, .int mlv, .int mtl, .int mbe, .int mch, .ref hpb, .ref hwa, .ref hmn, .ref hcf, .ref hsa, .ref hro])), (hby, .inl (cI, 600, .inl mby2))] H → va_D A [(hm, .inr (8, [.int mrf, .ref hby, .int msz, .int mbg, .long mbt, .int mrg, .int mct, .int mvl, .int mpl, .int mcl, .int mrw, .int mqt, .int mlv, .int mtl, .int mbe, .int mch, .ref hpb, .ref hwa, .ref hmn, .ref hcf, .ref hsa, .ref hro])), (hby, .inl (cI, 600, .inl mby2))] → va_S A s.heap H locs → lv_has ls 2 [(0, .ref hm), (1, .int x1)] → W p l e (headSpec kw_X8_carry ({ frames := 0, cells := 0, slots := 0, locals := 0 })).room s m args below meth c H locs 0 0 (MQ below (va_Qv (fun (u : (Nat → Int32)) => (u = wCar msz.toInt.toNat mby)) (fun (u : (Nat → Int32)) (t : State) => va_P D vwCl [(hm, .inr (8, [.int mrf, .ref hby, .int msz, .int mbg, .long mbt, .int mrg, .int mct, .int mvl, .int mpl, .int mcl, .int mrw, .int mqt, .int mlv, .int mtl, .int mbe, .int mch, .ref hpb, .ref hwa, .ref hmn, .ref hcf, .ref hsa, .ref hro])), (hby, .inl (cI, 600, .inl u))] t.heap ∧ va_D A [(hm, .inr (8, [.int mrf, .ref hby, .int msz, .int mbg, .long mbt, .int mrg, .int mct, .int mvl, .int mpl, .int mcl, .int mrw, .int mqt, .int mlv, .int mtl, .int mbe, .int mch, .ref hpb, .ref hwa, .ref hmn, .ref hcf, .ref hsa, .ref hro])), (hby, .inl (cI, 600, .inl u))]) A) args s 0 0 A) (F0 m 7 ls []) := by
  intro n
  induction n with
  | zero => intro x1 mby2 hmeas; exact absurd hmeas (Nat.not_lt_zero _)
  | succ n ih =>
    intro x1 mby2 hmeas b1 hc H locs ls hP hD hS hl
    refine lv_iload_n hx hb dX8_carry_7 rfl (lv_at hl 1 rfl) ?_
    refine lv_if_lt (tgt := 36) hx hb dX8_carry_8 (by decide) (fun c8 => ?_) (fun c8 => ?_)
    · have c8x : kB x1 (-1) (-1) := kB_lt_l b1 kc_0 c8 (by decide)
      refine lv_iload_n hx hb dX8_carry_36 rfl (lv_at hl 1 rfl) ?_
      refine lv_if_lt (tgt := 50) hx hb dX8_carry_37 (by decide) (fun c37 => ?_) (fun c37 => ?_)
      · have pf_c : mby2 = wCar msz.toInt.toNat mby := (by rw [← hc, wCar_0 (by have := c8x.2; omega)])
        exact W.vret hx hb hr (fun t9 ht9 hW9 => ⟨⟨mby2, rfl, pf_c, by rw [ht9]; exact hP, hD⟩, hS.F ht9⟩) hS.2.2 dX8_carry_50
      · have c37n : 0 ≤ x1 := kN_lt c37
        have c37ny : kB x1 0 (-1) := kB_le_r kc_0 c8x c37n (by decide)
        exact absurd (Int.le_trans c37ny.1 c37ny.2) (by decide)
    · have c8n : 0 ≤ x1 := kN_lt c8
      have c8ny : kB x1 0 599 := kB_le_r kc_0 b1 c8n (by decide)
      refine lv_aload_n hx hb dX8_carry_11 rfl (lv_at hl 0 rfl) ?_
      refine va_get (D := D) (ci := 8) (v := .ref hby) (C := RX8) (T := TX8) (N := 22) hx hb hts in_X8 hown hK.1 hP 0 rfl rfl 1 (by decide) (hts _ mk_185) (fun _ h9 => h9) rfl dX8_carry_12 ?_
      refine lv_iload_n hx hb dX8_carry_15 rfl (lv_at hl 1 rfl) ?_
      refine va_iald hx hb hK.1 hP 1 0 rfl rfl (kB_in c8ny (by decide)) dX8_carry_16 ?_
      refine lv_topi (fun v16 e16 => ?_)
      refine lv_sipush (v := 255) hx hb dX8_carry_17 (by decide) ?_
      refine lv_icmp_ne (tgt := 36) hx hb dX8_carry_20 (by decide) (fun c20 => ?_) (fun c20 => ?_)
      · refine lv_iload_n hx hb dX8_carry_36 rfl (lv_at hl 1 rfl) ?_
        refine lv_if_lt (tgt := 50) hx hb dX8_carry_37 (by decide) (fun c37 => ?_) (fun c37 => ?_)
        · have c37x : kB x1 0 (-1) := kB_lt_l c8ny kc_0 c37 (by decide)
          exact absurd (Int.le_trans c37x.1 c37x.2) (by decide)
        · have c37n : 0 ≤ x1 := kN_lt c37
          refine lv_aload_n hx hb dX8_carry_40 rfl (lv_at hl 0 rfl) ?_
          refine va_get (D := D) (ci := 8) (v := .ref hby) (C := RX8) (T := TX8) (N := 22) hx hb hts in_X8 hown hK.1 hP 0 rfl rfl 1 (by decide) (hts _ mk_185) (fun _ h9 => h9) rfl dX8_carry_41 ?_
          refine lv_iload_n hx hb dX8_carry_44 rfl (lv_at hl 1 rfl) ?_
          refine lv_dup2_11 hx hb dX8_carry_45 rfl rfl ?_
          refine va_iald hx hb hK.1 hP 1 0 rfl rfl (kB_in c8ny (by decide)) dX8_carry_46 ?_
          refine lv_topi (fun v46 e46 => ?_)
          refine lv_iconst (v := 1) hx hb dX8_carry_47 (by decide) ?_
          refine lv_iadd hx hb dX8_carry_48 ?_
          refine lv_topi (fun v48 e48 => ?_)
          refine va_iast hx hb hK.1 hP hD hS 1 0 rfl rfl (kB_in c8ny (by decide)) dX8_carry_49 (fun H locs hP hD hS => ?_)
          have hP : va_P D vwCl [(hm, .inr (8, [.int mrf, .ref hby, .int msz, .int mbg, .long mbt, .int mrg, .int mct, .int mvl, .int mpl, .int mcl, .int mrw, .int mqt, .int mlv, .int mtl, .int mbe, .int mch, .ref hpb, .ref hwa, .ref hmn, .ref hcf, .ref hsa, .ref hro])), (hby, .inl (cI, 600, .inl (upd mby2 x1.toNatClampNeg v48)))] H := hP
          have hD : va_D A [(hm, .inr (8, [.int mrf, .ref hby, .int msz, .int mbg, .long mbt, .int mrg, .int mct, .int mvl, .int mpl, .int mcl, .int mrw, .int mqt, .int mlv, .int mtl, .int mbe, .int mch, .ref hpb, .ref hwa, .ref hmn, .ref hcf, .ref hsa, .ref hro])), (hby, .inl (cI, 600, .inl (upd mby2 x1.toNatClampNeg v48)))] := hD
          generalize hf49 : upd mby2 x1.toNatClampNeg v48 = f49 at hP hD
          have pf_c : f49 = wCar msz.toInt.toNat mby := (by rw [← hc, wCar_n c8ny.1 (by rw [← e16]; exact c20), ← hf49, e48, e46])
          exact W.vret hx hb hr (fun t9 ht9 hW9 => ⟨⟨f49, rfl, pf_c, by rw [ht9]; exact hP, hD⟩, hS.F ht9⟩) hS.2.2 dX8_carry_50
      · have c20x : kB v16 255 255 := kB_eq c20 kc_255
        refine lv_aload_n hx hb dX8_carry_23 rfl (lv_at hl 0 rfl) ?_
        refine va_get (D := D) (ci := 8) (v := .ref hby) (C := RX8) (T := TX8) (N := 22) hx hb hts in_X8 hown hK.1 hP 0 rfl rfl 1 (by decide) (hts _ mk_185) (fun _ h9 => h9) rfl dX8_carry_24 ?_
        refine lv_iload_n hx hb dX8_carry_27 rfl (lv_at hl 1 rfl) ?_
        refine lv_iconst (v := 0) hx hb dX8_carry_28 (by decide) ?_
        refine va_iast hx hb hK.1 hP hD hS 1 0 rfl rfl (kB_in c8ny (by decide)) dX8_carry_29 (fun H locs hP hD hS => ?_)
        have hP : va_P D vwCl [(hm, .inr (8, [.int mrf, .ref hby, .int msz, .int mbg, .long mbt, .int mrg, .int mct, .int mvl, .int mpl, .int mcl, .int mrw, .int mqt, .int mlv, .int mtl, .int mbe, .int mch, .ref hpb, .ref hwa, .ref hmn, .ref hcf, .ref hsa, .ref hro])), (hby, .inl (cI, 600, .inl (upd mby2 x1.toNatClampNeg 0)))] H := hP
        have hD : va_D A [(hm, .inr (8, [.int mrf, .ref hby, .int msz, .int mbg, .long mbt, .int mrg, .int mct, .int mvl, .int mpl, .int mcl, .int mrw, .int mqt, .int mlv, .int mtl, .int mbe, .int mch, .ref hpb, .ref hwa, .ref hmn, .ref hcf, .ref hsa, .ref hro])), (hby, .inl (cI, 600, .inl (upd mby2 x1.toNatClampNeg 0)))] := hD
        generalize hf29 : upd mby2 x1.toNatClampNeg 0 = f29 at hP hD
        obtain ⟨v30, e30⟩ : ∃ y : Int32, y = x1 + (-1) := ⟨_, rfl⟩
        refine lv_iinc (v := v30) (lv' := [(1, .int v30), (0, .ref hm)]) hx hb dX8_carry_30 hl (k := 1) rfl (by rw [e30]; rfl) (by decide) rfl (fun ls hl => ?_)
        have b30 : kB v30 (-1) 598 := kB_eq e30 (kB_add c8ny kc_m1 (by decide))
        have t30 : v30.toInt = x1.toInt + (-1) := by rw [e30]; exact kdec (kB_w c8ny (by decide) (by decide))
        refine lv_goto (tgt := 7) hx hb dX8_carry_33 (by decide) ?_
        exact ih v30 f29 (by have := b30.1; have := b30.2; have := c8ny.1; have := c8ny.2; omega) (kB_w b30 (by decide) (by decide)) (by rw [t30, show (x1.toInt + -1 + 1).toNat = x1.toInt.toNat by omega, ← hf29, ← wCar_255 c8ny.1 (by rw [← e16]; exact c20)]; exact hc) _ _ ls hP hD hS (lv_sub hl [1, 0] rfl)
set_option maxHeartbeats 4000000 in
set_option maxRecDepth 100000 in
theorem c_X8_carry (l : Launch) (D : va_G) (cI cJ cZ : ClassId) (hm hby hpb hwa hmn hcf hsa hro : Nat) (mrf : Int32) (msz : Int32) (mbg : Int32) (mrg : Int32) (mct : Int32) (mvl : Int32) (mpl : Int32) (mcl : Int32) (mrw : Int32) (mqt : Int32) (mlv : Int32) (mtl : Int32) (mbe : Int32) (mch : Int32) (mbt : Int64) (mby : Nat → Int32) (bsz : kB msz 0 600) (hpz : Nat) : Met l yX8_carry kw_X8_carry ({ frames := 0, cells := 0, slots := 0, locals := 0 }) (va_Pc [.ref hm] (fun U => U.heap.size = hpz ∧ va_P D vwCl [(hm, .inr (8, [.int mrf, .ref hby, .int msz, .int mbg, .long mbt, .int mrg, .int mct, .int mvl, .int mpl, .int mcl, .int mrw, .int mqt, .int mlv, .int mtl, .int mbe, .int mch, .ref hpb, .ref hwa, .ref hmn, .ref hcf, .ref hsa, .ref hro])), (hby, .inl (cI, 600, .inl mby))] U.heap ∧ kK D cI cJ cZ U ∧ va_D (fun _ => True) [(hm, .inr (8, [.int mrf, .ref hby, .int msz, .int mbg, .long mbt, .int mrg, .int mct, .int mvl, .int mpl, .int mcl, .int mrw, .int mqt, .int mlv, .int mtl, .int mbe, .int mch, .ref hpb, .ref hwa, .ref hmn, .ref hcf, .ref hsa, .ref hro])), (hby, .inl (cI, 600, .inl mby))])) (va_Qv (fun (u : (Nat → Int32)) => (u = wCar msz.toInt.toNat mby)) (fun (u : (Nat → Int32)) (t : State) => va_P D vwCl [(hm, .inr (8, [.int mrf, .ref hby, .int msz, .int mbg, .long mbt, .int mrg, .int mct, .int mvl, .int mpl, .int mcl, .int mrw, .int mqt, .int mlv, .int mtl, .int mbe, .int mch, .ref hpb, .ref hwa, .ref hmn, .ref hcf, .ref hsa, .ref hro])), (hby, .inl (cI, 600, .inl u))] t.heap ∧ va_D (va_A [(hm, .inr (8, [.int mrf, .ref hby, .int msz, .int mbg, .long mbt, .int mrg, .int mct, .int mvl, .int mpl, .int mcl, .int mrw, .int mqt, .int mlv, .int mtl, .int mbe, .int mch, .ref hpb, .ref hwa, .ref hmn, .ref hcf, .ref hsa, .ref hro])), (hby, .inl (cI, 600, .inl mby))] hpz) [(hm, .inr (8, [.int mrf, .ref hby, .int msz, .int mbg, .long mbt, .int mrg, .int mct, .int mvl, .int mpl, .int mcl, .int mrw, .int mqt, .int mlv, .int mtl, .int mbe, .int mch, .ref hpb, .ref hwa, .ref hmn, .ref hcf, .ref hsa, .ref hro])), (hby, .inl (cI, 600, .inl u))]) (va_A [(hm, .inr (8, [.int mrf, .ref hby, .int msz, .int mbg, .long mbt, .int mrg, .int mct, .int mvl, .int mpl, .int mcl, .int mrw, .int mqt, .int mlv, .int mtl, .int mbe, .int mch, .ref hpb, .ref hwa, .ref hmn, .ref hcf, .ref hsa, .ref hro])), (hby, .inl (cI, 600, .inl mby))] hpz)) 0 0 (va_A [(hm, .inr (8, [.int mrf, .ref hby, .int msz, .int mbg, .long mbt, .int mrg, .int mct, .int mvl, .int mpl, .int mcl, .int mrw, .int mqt, .int mlv, .int mtl, .int mbe, .int mch, .ref hpb, .ref hwa, .ref hmn, .ref hcf, .ref hsa, .ref hro])), (hby, .inl (cI, 600, .inl mby))] hpz) := by
  refine Met.ofW (cc := cX8_carry) (maxL := 2) (ret := none) (by decide) rfl ?_
  intro p e s m args below meth c s₁ B hml hv
  obtain ⟨rfl, hsz, hP, hK, hD0⟩ := hv
  have hx := B.exec
  have hb := B.bytes
  have hr := B.returns
  have hts := fun (w : Cond) (h : w ∈ kW) => atoms_spec (ws := kw_X8_carry) B.pre w (List.mem_cons_of_mem _ h)
  have hown : s.vm.findClass RX8 = some m.cls := findClass_of_methodNamed B.named
  have hlocks := B.notSynchronized
  subst hsz
  have hD := hD0.self (sz := s.heap.size)
  generalize hAe : va_A [(hm, .inr (8, [.int mrf, .ref hby, .int msz, .int mbg, .long mbt, .int mrg, .int mct, .int mvl, .int mpl, .int mcl, .int mrw, .int mqt, .int mlv, .int mtl, .int mbe, .int mch, .ref hpb, .ref hwa, .ref hmn, .ref hcf, .ref hsa, .ref hro])), (hby, .inl (cI, 600, .inl mby))] s.heap.size = A at hD ⊢
  have hA : ∀ q : Nat, s.heap.size ≤ q → A q := fun q h => by rw [← hAe]; exact Or.inr h
  have hS : va_S A s.heap s.heap [] := va_S.rf
  have hP : va_P D vwCl [(hm, .inr (8, [.int mrf, .ref hby, .int msz, .int mbg, .long mbt, .int mrg, .int mct, .int mvl, .int mpl, .int mcl, .int mrw, .int mqt, .int mlv, .int mtl, .int mbe, .int mch, .ref hpb, .ref hwa, .ref hmn, .ref hcf, .ref hsa, .ref hro])), (hby, .inl (cI, 600, .inl mby))] s.heap := hP
  have hl := lv_entry ([.ref hm]) (n := 2) (Nat.le_of_ble_eq_true rfl)
  rw [lg_entry_eq]
  generalize (lg_sl ([.ref hm]) ++ List.replicate (2 - (lg_sl ([.ref hm])).length) Slot.unset).toArray = ls at hl ⊢
  have hl : lv_has ls 2 [(0, .ref hm)] := hl
  refine lv_aload_n hx hb dX8_carry_0 rfl (lv_at hl 0 rfl) ?_
  refine va_get (D := D) (ci := 8) (v := .int msz) (C := RX8) (T := TX8) (N := 22) hx hb hts in_X8 hown hK.1 hP 0 rfl rfl 2 (by decide) (hts _ mk_184) (fun _ h9 => h9) rfl dX8_carry_1 ?_
  refine lv_iconst (v := 1) hx hb dX8_carry_4 (by decide) ?_
  refine lv_isub hx hb dX8_carry_5 ?_
  refine lv_topi (fun v5 e5 => ?_)
  have b5 : kB v5 (-1) 599 := kB_eq e5 (kB_sub bsz kc_1 (by decide))
  have X5 : v5.toInt = msz.toInt - 1 := by rw [e5]; exact kdec1 (kB_w bsz (by decide) (by decide))
  refine lv_istore_n (lv' := [(1, .int v5), (0, .ref hm)]) hx hb dX8_carry_6 rfl hl (by decide) rfl (fun ls hl => ?_)
  exact lp_X8_carry_7 D cI cJ cZ hm hby hpb hwa hmn hcf hsa hro mrf msz mbg mrg mct mvl mpl mcl mrw mqt mlv mtl mbe mch mbt mby bsz hx hb hr hml hown hts hlocks hK hA ((v5.toInt + 1).toNat + 1) v5 mby (Nat.lt_succ_self _) b5 (by rw [X5, show msz.toInt - 1 + 1 = msz.toInt by omega]) _ _ ls hP hD hS (lv_sub hl [1, 0] rfl)
abbrev kw_X8_append : List Cond := Cond.code yX8_append cX8_append 3 none :: kW
set_option maxHeartbeats 4000000 in
set_option maxRecDepth 100000 in
theorem c_X8_append (l : Launch) (D : va_G) (cI cJ cZ : ClassId) (hm hby hpb hwa hmn hcf hsa hro : Nat) (mrf : Int32) (msz : Int32) (mbg : Int32) (mrg : Int32) (mct : Int32) (mvl : Int32) (mpl : Int32) (mcl : Int32) (mrw : Int32) (mqt : Int32) (mlv : Int32) (mtl : Int32) (mbe : Int32) (mch : Int32) (mbt : Int64) (mby : Nat → Int32) (vv : Int64) (V : Nat) (bsz : kB msz 0 599) (hV : vv = lN V) (hV2 : V < 4294967296) (hpz : Nat) : Met l yX8_append kw_X8_append ({ frames := 0, cells := 0, slots := 0, locals := 0 }) (va_Pc [.ref hm, .long vv] (fun U => U.heap.size = hpz ∧ va_P D vwCl [(hm, .inr (8, [.int mrf, .ref hby, .int msz, .int mbg, .long mbt, .int mrg, .int mct, .int mvl, .int mpl, .int mcl, .int mrw, .int mqt, .int mlv, .int mtl, .int mbe, .int mch, .ref hpb, .ref hwa, .ref hmn, .ref hcf, .ref hsa, .ref hro])), (hby, .inl (cI, 600, .inl mby))] U.heap ∧ kK D cI cJ cZ U ∧ va_D (fun _ => True) [(hm, .inr (8, [.int mrf, .ref hby, .int msz, .int mbg, .long mbt, .int mrg, .int mct, .int mvl, .int mpl, .int mcl, .int mrw, .int mqt, .int mlv, .int mtl, .int mbe, .int mch, .ref hpb, .ref hwa, .ref hmn, .ref hcf, .ref hsa, .ref hro])), (hby, .inl (cI, 600, .inl mby))])) (va_Qv (fun (u : Int32 × (Nat → Int32)) => (kB u.1 0 600) ∧ (u.1.toInt = msz.toInt + 1) ∧ (u.2 = upd mby msz.toInt.toNat (nI (V / 16777216)))) (fun (u : Int32 × (Nat → Int32)) (t : State) => va_P D vwCl [(hm, .inr (8, [.int mrf, .ref hby, .int u.1, .int mbg, .long mbt, .int mrg, .int mct, .int mvl, .int mpl, .int mcl, .int mrw, .int mqt, .int mlv, .int mtl, .int mbe, .int mch, .ref hpb, .ref hwa, .ref hmn, .ref hcf, .ref hsa, .ref hro])), (hby, .inl (cI, 600, .inl u.2))] t.heap ∧ va_D (va_A [(hm, .inr (8, [.int mrf, .ref hby, .int msz, .int mbg, .long mbt, .int mrg, .int mct, .int mvl, .int mpl, .int mcl, .int mrw, .int mqt, .int mlv, .int mtl, .int mbe, .int mch, .ref hpb, .ref hwa, .ref hmn, .ref hcf, .ref hsa, .ref hro])), (hby, .inl (cI, 600, .inl mby))] hpz) [(hm, .inr (8, [.int mrf, .ref hby, .int u.1, .int mbg, .long mbt, .int mrg, .int mct, .int mvl, .int mpl, .int mcl, .int mrw, .int mqt, .int mlv, .int mtl, .int mbe, .int mch, .ref hpb, .ref hwa, .ref hmn, .ref hcf, .ref hsa, .ref hro])), (hby, .inl (cI, 600, .inl u.2))]) (va_A [(hm, .inr (8, [.int mrf, .ref hby, .int msz, .int mbg, .long mbt, .int mrg, .int mct, .int mvl, .int mpl, .int mcl, .int mrw, .int mqt, .int mlv, .int mtl, .int mbe, .int mch, .ref hpb, .ref hwa, .ref hmn, .ref hcf, .ref hsa, .ref hro])), (hby, .inl (cI, 600, .inl mby))] hpz)) 0 0 (va_A [(hm, .inr (8, [.int mrf, .ref hby, .int msz, .int mbg, .long mbt, .int mrg, .int mct, .int mvl, .int mpl, .int mcl, .int mrw, .int mqt, .int mlv, .int mtl, .int mbe, .int mch, .ref hpb, .ref hwa, .ref hmn, .ref hcf, .ref hsa, .ref hro])), (hby, .inl (cI, 600, .inl mby))] hpz) := by
  refine Met.ofW (cc := cX8_append) (maxL := 3) (ret := none) (by decide) rfl ?_
  intro p e s m args below meth c s₁ B hml hv
  obtain ⟨rfl, hsz, hP, hK, hD0⟩ := hv
  have hx := B.exec
  have hb := B.bytes
  have hr := B.returns
  have hts := fun (w : Cond) (h : w ∈ kW) => atoms_spec (ws := kw_X8_append) B.pre w (List.mem_cons_of_mem _ h)
  have hown : s.vm.findClass RX8 = some m.cls := findClass_of_methodNamed B.named
  have hlocks := B.notSynchronized
  subst hsz
  have hD := hD0.self (sz := s.heap.size)
  generalize hAe : va_A [(hm, .inr (8, [.int mrf, .ref hby, .int msz, .int mbg, .long mbt, .int mrg, .int mct, .int mvl, .int mpl, .int mcl, .int mrw, .int mqt, .int mlv, .int mtl, .int mbe, .int mch, .ref hpb, .ref hwa, .ref hmn, .ref hcf, .ref hsa, .ref hro])), (hby, .inl (cI, 600, .inl mby))] s.heap.size = A at hD ⊢
  have hA : ∀ q : Nat, s.heap.size ≤ q → A q := fun q h => by rw [← hAe]; exact Or.inr h
  have hS : va_S A s.heap s.heap [] := va_S.rf
  have hP : va_P D vwCl [(hm, .inr (8, [.int mrf, .ref hby, .int msz, .int mbg, .long mbt, .int mrg, .int mct, .int mvl, .int mpl, .int mcl, .int mrw, .int mqt, .int mlv, .int mtl, .int mbe, .int mch, .ref hpb, .ref hwa, .ref hmn, .ref hcf, .ref hsa, .ref hro])), (hby, .inl (cI, 600, .inl mby))] s.heap := hP
  have hl := lv_entry ([.ref hm, .long vv]) (n := 3) (Nat.le_of_ble_eq_true rfl)
  rw [lg_entry_eq]
  generalize (lg_sl ([.ref hm, .long vv]) ++ List.replicate (3 - (lg_sl ([.ref hm, .long vv])).length) Slot.unset).toArray = ls at hl ⊢
  have hl : lv_has ls 3 [(0, .ref hm), (1, .long vv)] := hl
  refine lv_aload_n hx hb dX8_append_0 rfl (lv_at hl 0 rfl) ?_
  refine va_get (D := D) (ci := 8) (v := .ref hby) (C := RX8) (T := TX8) (N := 22) hx hb hts in_X8 hown hK.1 hP 0 rfl rfl 1 (by decide) (hts _ mk_185) (fun _ h9 => h9) rfl dX8_append_1 ?_
  refine lv_aload_n hx hb dX8_append_4 rfl (lv_at hl 0 rfl) ?_
  refine va_get (D := D) (ci := 8) (v := .int msz) (C := RX8) (T := TX8) (N := 22) hx hb hts in_X8 hown hK.1 hP 0 rfl rfl 2 (by decide) (hts _ mk_184) (fun _ h9 => h9) rfl dX8_append_5 ?_
  refine lv_lload_n hx hb dX8_append_8 rfl (lv_at hl 1 rfl) ?_
  refine lv_bipush (v := 24) hx hb dX8_append_9 (by decide) ?_
  refine lv_lshr hx hb dX8_append_11 rfl ?_
  refine lv_topl (fun v11 e11 => ?_)
  refine lv_ldc2 (v := 255) hx hb hown (hts _ mk_205) dX8_append_12 ?_
  refine lv_land hx hb dX8_append_15 ?_
  refine lv_topl (fun v15 e15 => ?_)
  have V11 : v11 = lN (V / 16777216) := by rw [e11, hV]; exact pf_shr (d := 24) (by decide) (by omega)
  have V15 : v15 = lN (V / 16777216 % 256) := by rw [e15, V11]; exact lM_and (k := 8) (p := 256) (by decide) (by decide) (by decide) (by omega)
  refine lv_l2i hx hb dX8_append_16 rfl ?_
  refine lv_topi (fun v16 e16 => ?_)
  have V16 : v16 = nI (V / 16777216) := by rw [e16, V15, lN_i, Nat.mod_eq_of_lt (by omega)]
  refine va_iast hx hb hK.1 hP hD hS 1 0 rfl rfl (kB_in bsz (by decide)) dX8_append_17 (fun H locs hP hD hS => ?_)
  have hP : va_P D vwCl [(hm, .inr (8, [.int mrf, .ref hby, .int msz, .int mbg, .long mbt, .int mrg, .int mct, .int mvl, .int mpl, .int mcl, .int mrw, .int mqt, .int mlv, .int mtl, .int mbe, .int mch, .ref hpb, .ref hwa, .ref hmn, .ref hcf, .ref hsa, .ref hro])), (hby, .inl (cI, 600, .inl (upd mby msz.toNatClampNeg v16)))] H := hP
  have hD : va_D A [(hm, .inr (8, [.int mrf, .ref hby, .int msz, .int mbg, .long mbt, .int mrg, .int mct, .int mvl, .int mpl, .int mcl, .int mrw, .int mqt, .int mlv, .int mtl, .int mbe, .int mch, .ref hpb, .ref hwa, .ref hmn, .ref hcf, .ref hsa, .ref hro])), (hby, .inl (cI, 600, .inl (upd mby msz.toNatClampNeg v16)))] := hD
  generalize hf17 : upd mby msz.toNatClampNeg v16 = f17 at hP hD
  refine lv_aload_n hx hb dX8_append_18 rfl (lv_at hl 0 rfl) ?_
  refine lv_dup hx hb dX8_append_19 rfl ?_
  refine va_get (D := D) (ci := 8) (v := .int msz) (C := RX8) (T := TX8) (N := 22) hx hb hts in_X8 hown hK.1 hP 0 rfl rfl 2 (by decide) (hts _ mk_184) (fun _ h9 => h9) rfl dX8_append_20 ?_
  refine lv_iconst (v := 1) hx hb dX8_append_23 (by decide) ?_
  refine lv_iadd hx hb dX8_append_24 ?_
  refine lv_topi (fun v24 e24 => ?_)
  have b24 : kB v24 1 600 := kB_eq e24 (kB_add bsz kc_1 (by decide))
  refine va_put (D := D) (ci := 8) (v := .int v24) (ty := .int) (C := RX8) (T := TX8) (N := 22) hx hb hts in_X8 tyX8 tyX8_ok nmX8 hown hK.1 hP hD hS 0 rfl rfl 2 (by decide) (hts _ mk_184) (fun _ h9 => h9) rfl (by decide +kernel) rfl rfl (Nat.le_of_ble_eq_true rfl) dX8_append_25 (fun H locs hP hD hS => ?_)
  have hP : va_P D vwCl [(hm, .inr (8, [.int mrf, .ref hby, .int v24, .int mbg, .long mbt, .int mrg, .int mct, .int mvl, .int mpl, .int mcl, .int mrw, .int mqt, .int mlv, .int mtl, .int mbe, .int mch, .ref hpb, .ref hwa, .ref hmn, .ref hcf, .ref hsa, .ref hro])), (hby, .inl (cI, 600, .inl f17))] H := hP
  have hD : va_D A [(hm, .inr (8, [.int mrf, .ref hby, .int v24, .int mbg, .long mbt, .int mrg, .int mct, .int mvl, .int mpl, .int mcl, .int mrw, .int mqt, .int mlv, .int mtl, .int mbe, .int mch, .ref hpb, .ref hwa, .ref hmn, .ref hcf, .ref hsa, .ref hro])), (hby, .inl (cI, 600, .inl f17))] := hD
  have pf_b : kB v24 0 600 := (kB_w b24 (by decide) (by decide))
  have pf_x : v24.toInt = msz.toInt + 1 := (by rw [e24]; exact kinc (kB_w bsz (by decide) (by decide)))
  have pf_y : f17 = upd mby msz.toInt.toNat (nI (V / 16777216)) := (by rw [← hf17, V16]; rfl)
  exact W.vret hx hb hr (fun t9 ht9 hW9 => ⟨⟨(v24, f17), rfl, ⟨pf_b, pf_x, pf_y⟩, by rw [ht9]; exact hP, hD⟩, hS.F ht9⟩) hS.2.2 dX8_append_28
abbrev kw_X8_writeBit : List Cond := Cond.code yX8_writeBit cX8_writeBit 4 none :: kW
set_option maxHeartbeats 4000000 in
set_option maxRecDepth 100000 in
theorem lp_X8_writeBit_52 {p : Program} {l : Launch} {e : Env} {s : State} {m : MethodId} {args : Array Value} {below : List Frame} {meth : Method} {c : Code} {A : Nat → Prop} (D : va_G) (cI cJ cZ : ClassId) (hm hby hpb hwa hmn hcf hsa hro : Nat) (mrf : Int32) (msz : Int32) (mbg : Int32) (mrg : Int32) (mct : Int32) (mvl : Int32) (mpl : Int32) (mcl : Int32) (mrw : Int32) (mqt : Int32) (mlv : Int32) (mtl : Int32) (mbe : Int32) (mch : Int32) (mbt : Int64) (mby : Nat → Int32) (pp : Int32) (bt : Int32) (Bz : Nat) (brg : kB mrg 128 255) (bp : kB pp 0 255) (bsz : kB msz 0 592) (bct : kB mct 1 24) (nf : kNF mct.toInt msz.toInt) (hB : mbt = lN Bz) (hB2 : Bz < 4294967296) (hx : p.tables.exec = Jvm.exec) (hb : c.code = cX8_writeBit) (hr : meth.sig.returnType = none) (hml : c.maxLocals = 4) (hown : s.vm.findClass RX8 = some m.cls) (hts : ∀ w ∈ kW, w.before args s = true) (hlocks : meth.locks = false) (hK : kK D cI cJ cZ s) (hA : ∀ q : Nat, s.heap.size ≤ q → A q) : ∀ n : Nat, ∀ (msz2 : Int32) (mbt2 : Int64) (mrg2 : Int32) (mct2 : Int32) (mby2 : Nat → Int32) (B2 : Nat), (128 - mrg2.toInt).toNat < n → (kB mrg2 1 255) → (kB msz2 0 600) → (kB mct2 1 24) → (kNF mct2.toInt msz2.toInt) → (krn mrg2.toInt = krn (kr1 pp.toInt bt.toInt mrg.toInt)) → (kdl mrg2.toInt + (8 * msz2.toInt - mct2.toInt) = 8 * msz.toInt - mct.toInt + kdl (kr1 pp.toInt bt.toInt mrg.toInt)) → (mbt2 = lN B2) → (B2 < 4294967296) → (wIt (kdl mrg2.toInt).toNat (mct2.toInt, msz2.toInt, B2, mby2) = wIt (kdl (kr1 pp.toInt bt.toInt mrg.toInt)).toNat (mct.toInt, msz.toInt, wB1 pp.toInt bt.toInt mrg.toInt Bz, mby)) → ∀ (H : Heap) (locs : List Loc) (ls : Array Slot), va_P D vwCl [(hm, .inr (8, [.int mrf, .ref hby, .int msz2, .int mbg, .long mbt2, .int mrg2, .int mct2, .int mvl, .int mpl, .int mcl, .int mrw, .int mqt, .int mlv, .int mtl, .int mbe, .int mch, .ref hpb, .ref hwa, .ref hmn, .ref hcf, .ref hsa, .ref hro])), (hby, .inl (cI, 600, .inl mby2))] H → va_D A [(hm, .inr (8, [.int mrf, .ref hby, .int msz2, .int mbg, .long mbt2, .int mrg2, .int mct2, .int mvl, .int mpl, .int mcl, .int mrw, .int mqt, .int mlv, .int mtl, .int mbe, .int mch, .ref hpb, .ref hwa, .ref hmn, .ref hcf, .ref hsa, .ref hro])), (hby, .inl (cI, 600, .inl mby2))] → va_S A s.heap H locs → lv_has ls 4 [(0, .ref hm)] → W p l e (headSpec kw_X8_writeBit ({ frames := 1, cells := 0, slots := 0, locals := 22 })).room s m args below meth c H locs 0 0 (MQ below (va_Qv (fun (u : Int32 × Int64 × Int32 × Int32 × (Nat → Int32)) => (kB u.2.2.1 128 255) ∧ (kB u.1 0 600) ∧ (kB u.2.2.2.1 1 24) ∧ (kNF u.2.2.2.1.toInt u.1.toInt) ∧ (u.2.2.1.toInt = krn (kr1 pp.toInt bt.toInt mrg.toInt)) ∧ (8 * u.1.toInt - u.2.2.2.1.toInt = 8 * msz.toInt - mct.toInt + kdl (kr1 pp.toInt bt.toInt mrg.toInt)) ∧ (u.2.1 = lN (wIt (kdl (kr1 pp.toInt bt.toInt mrg.toInt)).toNat (mct.toInt, msz.toInt, wB1 pp.toInt bt.toInt mrg.toInt Bz, mby)).2.2.1) ∧ (u.2.2.2.1.toInt = (wIt (kdl (kr1 pp.toInt bt.toInt mrg.toInt)).toNat (mct.toInt, msz.toInt, wB1 pp.toInt bt.toInt mrg.toInt Bz, mby)).1) ∧ (u.1.toInt = (wIt (kdl (kr1 pp.toInt bt.toInt mrg.toInt)).toNat (mct.toInt, msz.toInt, wB1 pp.toInt bt.toInt mrg.toInt Bz, mby)).2.1) ∧ (u.2.2.2.2 = (wIt (kdl (kr1 pp.toInt bt.toInt mrg.toInt)).toNat (mct.toInt, msz.toInt, wB1 pp.toInt bt.toInt mrg.toInt Bz, mby)).2.2.2)) (fun (u : Int32 × Int64 × Int32 × Int32 × (Nat → Int32)) (t : State) => va_P D vwCl [(hm, .inr (8, [.int mrf, .ref hby, .int u.1, .int mbg, .long u.2.1, .int u.2.2.1, .int u.2.2.2.1, .int mvl, .int mpl, .int mcl, .int mrw, .int mqt, .int mlv, .int mtl, .int mbe, .int mch, .ref hpb, .ref hwa, .ref hmn, .ref hcf, .ref hsa, .ref hro])), (hby, .inl (cI, 600, .inl u.2.2.2.2))] t.heap ∧ va_D A [(hm, .inr (8, [.int mrf, .ref hby, .int u.1, .int mbg, .long u.2.1, .int u.2.2.1, .int u.2.2.2.1, .int mvl, .int mpl, .int mcl, .int mrw, .int mqt, .int mlv, .int mtl, .int mbe, .int mch, .ref hpb, .ref hwa, .ref hmn, .ref hcf, .ref hsa, .ref hro])), (hby, .inl (cI, 600, .inl u.2.2.2.2))]) A) args s 0 0 A) (F0 m 52 ls []) := by
  intro n
  induction n with
  | zero => intro msz2 mbt2 mrg2 mct2 mby2 B2 hmeas; exact absurd hmeas (Nat.not_lt_zero _)
  | succ n ih =>
    intro msz2 mbt2 mrg2 mct2 mby2 B2 hmeas brg2 bsz2 bct2 nf2 kr ph hb2 hb3 hit H locs ls hP hD hS hl
    refine lv_aload_n hx hb dX8_writeBit_52 rfl (lv_at hl 0 rfl) ?_
    refine va_get (D := D) (ci := 8) (v := .int mrg2) (C := RX8) (T := TX8) (N := 22) hx hb hts in_X8 hown hK.1 hP 0 rfl rfl 5 (by decide) (hts _ mk_193) (fun _ h9 => h9) rfl dX8_writeBit_53 ?_
    refine lv_sipush (v := 128) hx hb dX8_writeBit_56 (by decide) ?_
    refine lv_icmp_ge (tgt := 149) hx hb dX8_writeBit_59 (by decide) (fun c59 => ?_) (fun c59 => ?_)
    · have c59y : kB mrg2 128 255 := kB_le_r kc_128 brg2 c59 (by decide)
      have E1 := krn_0 c59y.1
      have E2 := kdl_0 c59y.1
      rw [wIt_0 c59y.1] at hit
      have pf_r_ : mrg2.toInt = krn (kr1 pp.toInt bt.toInt mrg.toInt) := (by omega)
      have pf_p : 8 * msz2.toInt - mct2.toInt = 8 * msz.toInt - mct.toInt + kdl (kr1 pp.toInt bt.toInt mrg.toInt) := (by omega)
      have pf_e1 : mbt2 = lN (wIt (kdl (kr1 pp.toInt bt.toInt mrg.toInt)).toNat (mct.toInt, msz.toInt, wB1 pp.toInt bt.toInt mrg.toInt Bz, mby)).2.2.1 := (by rw [← hit]; exact hb2)
      have pf_e2 : mct2.toInt = (wIt (kdl (kr1 pp.toInt bt.toInt mrg.toInt)).toNat (mct.toInt, msz.toInt, wB1 pp.toInt bt.toInt mrg.toInt Bz, mby)).1 := (by rw [← hit])
      have pf_e3 : msz2.toInt = (wIt (kdl (kr1 pp.toInt bt.toInt mrg.toInt)).toNat (mct.toInt, msz.toInt, wB1 pp.toInt bt.toInt mrg.toInt Bz, mby)).2.1 := (by rw [← hit])
      have pf_e4 : mby2 = (wIt (kdl (kr1 pp.toInt bt.toInt mrg.toInt)).toNat (mct.toInt, msz.toInt, wB1 pp.toInt bt.toInt mrg.toInt Bz, mby)).2.2.2 := (by rw [← hit])
      exact W.vret hx hb hr (fun t9 ht9 hW9 => ⟨⟨(msz2, mbt2, mrg2, mct2, mby2), rfl, ⟨c59y, bsz2, bct2, nf2, pf_r_, pf_p, pf_e1, pf_e2, pf_e3, pf_e4⟩, by rw [ht9]; exact hP, hD⟩, hS.F ht9⟩) hS.2.2 dX8_writeBit_149
    · have c59n : mrg2 < 128 := kN_le c59
      have c59nx : kB mrg2 1 127 := kB_lt_l brg2 kc_128 c59n (by decide)
      refine lv_aload_n hx hb dX8_writeBit_62 rfl (lv_at hl 0 rfl) ?_
      refine lv_iconst (v := 2) hx hb dX8_writeBit_63 (by decide) ?_
      refine lv_aload_n hx hb dX8_writeBit_64 rfl (lv_at hl 0 rfl) ?_
      refine va_get (D := D) (ci := 8) (v := .int mrg2) (C := RX8) (T := TX8) (N := 22) hx hb hts in_X8 hown hK.1 hP 0 rfl rfl 5 (by decide) (hts _ mk_193) (fun _ h9 => h9) rfl dX8_writeBit_65 ?_
      refine lv_imul hx hb dX8_writeBit_68 ?_
      refine lv_topi (fun v68 e68 => ?_)
      have b68 : kB v68 2 254 := kB_eq e68 (kB_cmul kc_2 c59nx (by decide))
      have K68 : v68.toInt = 2 * mrg2.toInt := by rw [e68]; exact kdbl2 (kB_w brg2 (by decide) (by decide))
      have D68 := kdl_dbl (r := mrg2.toInt) brg2.1 (by have := c59nx.2; omega)
      have N68 := krn_dbl (r := mrg2.toInt) brg2.1 (by have := c59nx.2; omega)
      have Y68 := (kdl_le (kr1 pp.toInt bt.toInt mrg.toInt)).2
      have Y69 := (kdl_le mrg2.toInt).1
      have B72 : kB msz2 0 599 := ⟨by omega, by omega⟩
      refine va_put (D := D) (ci := 8) (v := .int v68) (ty := .int) (C := RX8) (T := TX8) (N := 22) hx hb hts in_X8 tyX8 tyX8_ok nmX8 hown hK.1 hP hD hS 0 rfl rfl 5 (by decide) (hts _ mk_193) (fun _ h9 => h9) rfl (by decide +kernel) rfl rfl (Nat.le_of_ble_eq_true rfl) dX8_writeBit_69 (fun H locs hP hD hS => ?_)
      have hP : va_P D vwCl [(hm, .inr (8, [.int mrf, .ref hby, .int msz2, .int mbg, .long mbt2, .int v68, .int mct2, .int mvl, .int mpl, .int mcl, .int mrw, .int mqt, .int mlv, .int mtl, .int mbe, .int mch, .ref hpb, .ref hwa, .ref hmn, .ref hcf, .ref hsa, .ref hro])), (hby, .inl (cI, 600, .inl mby2))] H := hP
      have hD : va_D A [(hm, .inr (8, [.int mrf, .ref hby, .int msz2, .int mbg, .long mbt2, .int v68, .int mct2, .int mvl, .int mpl, .int mcl, .int mrw, .int mqt, .int mlv, .int mtl, .int mbe, .int mch, .ref hpb, .ref hwa, .ref hmn, .ref hcf, .ref hsa, .ref hro])), (hby, .inl (cI, 600, .inl mby2))] := hD
      refine lv_aload_n hx hb dX8_writeBit_72 rfl (lv_at hl 0 rfl) ?_
      refine va_get (D := D) (ci := 8) (v := .long mbt2) (C := RX8) (T := TX8) (N := 22) hx hb hts in_X8 hown hK.1 hP 0 rfl rfl 4 (by decide) (hts _ mk_356) (fun _ h9 => h9) rfl dX8_writeBit_73 ?_
      refine lv_ldc2 (v := 2147483648) hx hb hown (hts _ mk_358) dX8_writeBit_76 ?_
      refine W.lcmp hx hb dX8_writeBit_79 ?_
      refine lv_topi (fun v79 e79 => ?_)
      refine lv_if_lt (tgt := 87) hx hb dX8_writeBit_80 (by decide) (fun c80 => ?_) (fun c80 => ?_)
      · have c80a := kB_all v79
        have c80x : kB v79 (-2147483648) (-1) := kB_lt_l c80a kc_0 c80 (by decide)
        have CF : mby2 = wF msz2.toInt.toNat B2 mby2 := wF_n (fun h9 => by have h8 := (lM_lt (by omega) 2147483648 (by decide)).mp (show lg_cmp (lN B2) (lN 2147483648) < 0 by rw [← hb2]; rw [e79] at c80; exact c80); omega)
        refine lv_aload_n hx hb dX8_writeBit_87 rfl (lv_at hl 0 rfl) ?_
        refine lv_ldc2 (v := 2) hx hb hown (hts _ mk_359) dX8_writeBit_88 ?_
        refine lv_aload_n hx hb dX8_writeBit_91 rfl (lv_at hl 0 rfl) ?_
        refine va_get (D := D) (ci := 8) (v := .long mbt2) (C := RX8) (T := TX8) (N := 22) hx hb hts in_X8 hown hK.1 hP 0 rfl rfl 4 (by decide) (hts _ mk_356) (fun _ h9 => h9) rfl dX8_writeBit_92 ?_
        refine lv_lmul hx hb dX8_writeBit_95 ?_
        refine lv_topl (fun v95 e95 => ?_)
        refine lv_ldc2 (v := 4294967295) hx hb hown (hts _ mk_357) dX8_writeBit_96 ?_
        refine lv_land hx hb dX8_writeBit_99 ?_
        refine lv_topl (fun v99 e99 => ?_)
        have V99 : v99 = lN (2 * B2 % 4294967296) := by rw [e99, e95, hb2, show (2 : Int64) = lN 2 from by decide, lN_mul]; exact lM_and (k := 32) (p := 4294967296) (by decide) (by decide) (by decide) (by omega)
        refine va_put (D := D) (ci := 8) (v := .long v99) (ty := .long) (C := RX8) (T := TX8) (N := 22) hx hb hts in_X8 tyX8 tyX8_ok nmX8 hown hK.1 hP hD hS 0 rfl rfl 4 (by decide) (hts _ mk_356) (fun _ h9 => h9) rfl (by decide +kernel) rfl rfl (Nat.le_of_ble_eq_true rfl) dX8_writeBit_100 (fun H locs hP hD hS => ?_)
        have hP : va_P D vwCl [(hm, .inr (8, [.int mrf, .ref hby, .int msz2, .int mbg, .long v99, .int v68, .int mct2, .int mvl, .int mpl, .int mcl, .int mrw, .int mqt, .int mlv, .int mtl, .int mbe, .int mch, .ref hpb, .ref hwa, .ref hmn, .ref hcf, .ref hsa, .ref hro])), (hby, .inl (cI, 600, .inl mby2))] H := hP
        have hD : va_D A [(hm, .inr (8, [.int mrf, .ref hby, .int msz2, .int mbg, .long v99, .int v68, .int mct2, .int mvl, .int mpl, .int mcl, .int mrw, .int mqt, .int mlv, .int mtl, .int mbe, .int mch, .ref hpb, .ref hwa, .ref hmn, .ref hcf, .ref hsa, .ref hro])), (hby, .inl (cI, 600, .inl mby2))] := hD
        refine lv_aload_n hx hb dX8_writeBit_103 rfl (lv_at hl 0 rfl) ?_
        refine lv_dup hx hb dX8_writeBit_104 rfl ?_
        refine va_get (D := D) (ci := 8) (v := .int mct2) (C := RX8) (T := TX8) (N := 22) hx hb hts in_X8 hown hK.1 hP 0 rfl rfl 6 (by decide) (hts _ mk_194) (fun _ h9 => h9) rfl dX8_writeBit_105 ?_
        refine lv_iconst (v := 1) hx hb dX8_writeBit_108 (by decide) ?_
        refine lv_isub hx hb dX8_writeBit_109 ?_
        refine lv_topi (fun v109 e109 => ?_)
        have b109 : kB v109 0 23 := kB_eq e109 (kB_sub bct2 kc_1 (by decide))
        have K109 : v109.toInt = mct2.toInt - 1 := by rw [e109]; exact kdec1 (kB_w bct2 (by decide) (by decide))
        refine va_put (D := D) (ci := 8) (v := .int v109) (ty := .int) (C := RX8) (T := TX8) (N := 22) hx hb hts in_X8 tyX8 tyX8_ok nmX8 hown hK.1 hP hD hS 0 rfl rfl 6 (by decide) (hts _ mk_194) (fun _ h9 => h9) rfl (by decide +kernel) rfl rfl (Nat.le_of_ble_eq_true rfl) dX8_writeBit_110 (fun H locs hP hD hS => ?_)
        have hP : va_P D vwCl [(hm, .inr (8, [.int mrf, .ref hby, .int msz2, .int mbg, .long v99, .int v68, .int v109, .int mvl, .int mpl, .int mcl, .int mrw, .int mqt, .int mlv, .int mtl, .int mbe, .int mch, .ref hpb, .ref hwa, .ref hmn, .ref hcf, .ref hsa, .ref hro])), (hby, .inl (cI, 600, .inl mby2))] H := hP
        have hD : va_D A [(hm, .inr (8, [.int mrf, .ref hby, .int msz2, .int mbg, .long v99, .int v68, .int v109, .int mvl, .int mpl, .int mcl, .int mrw, .int mqt, .int mlv, .int mtl, .int mbe, .int mch, .ref hpb, .ref hwa, .ref hmn, .ref hcf, .ref hsa, .ref hro])), (hby, .inl (cI, 600, .inl mby2))] := hD
        refine lv_aload_n hx hb dX8_writeBit_113 rfl (lv_at hl 0 rfl) ?_
        refine va_get (D := D) (ci := 8) (v := .int v109) (C := RX8) (T := TX8) (N := 22) hx hb hts in_X8 hown hK.1 hP 0 rfl rfl 6 (by decide) (hts _ mk_194) (fun _ h9 => h9) rfl dX8_writeBit_114 ?_
        refine lv_if_ne (tgt := 52) hx hb dX8_writeBit_117 (by decide) (fun c117 => ?_) (fun c117 => ?_)
        · have c117x : kB v109 1 23 := kB_nlo b109 c117 kc_0 (by decide)
          have Z117 := kn0 c117
          have HSn : ¬ mct2.toInt = 1 := by omega
          have Q4 : v99 = lN (wSh (mct2.toInt, msz2.toInt, B2, mby2)).2.2.1 := by rw [wSh_n HSn]; exact V99
          have EQ : (wSh (mct2.toInt, msz2.toInt, B2, mby2)) = (v109.toInt, msz2.toInt, 2 * B2 % 4294967296, mby2) := by rw [wSh_n HSn, ← CF, K109]
          exact ih msz2 v99 v68 v109 mby2 ((wSh (mct2.toInt, msz2.toInt, B2, mby2)).2.2.1) (by rw [K68]; have := c59nx.2; have := brg2.1; omega) (kB_w b68 (by decide) (by decide)) (kB_w B72 (by decide) (by decide)) (kB_w c117x (by decide) (by decide)) (by omega) (by rw [K68, N68]; exact kr) (by rw [K68]; omega) Q4 (wSh_lt hb3) (by rw [K68]; rw [wIt_dbl brg2.1 (by have := c59nx.2; omega), EQ] at hit; rw [EQ]; first | exact hit | (rw [Z8]; exact hit)) _ _ ls hP hD hS (lv_sub hl [0] rfl)
        · have c117x : kB v109 0 0 := kB_eq c117 kc_0
          have Z117 := k0 c117
          have Z8 : (8 : Int32).toInt = 8 := by decide
          have HS1 : mct2.toInt = 1 := by omega
          refine lv_aload_n hx hb dX8_writeBit_120 rfl (lv_at hl 0 rfl) ?_
          refine lv_aload_n hx hb dX8_writeBit_121 rfl (lv_at hl 0 rfl) ?_
          refine va_get (D := D) (ci := 8) (v := .long v99) (C := RX8) (T := TX8) (N := 22) hx hb hts in_X8 hown hK.1 hP 0 rfl rfl 4 (by decide) (hts _ mk_356) (fun _ h9 => h9) rfl dX8_writeBit_122 ?_
          have hPc := hP.sub (ws' := [(hm, .inr (8, [.int mrf, .ref hby, .int msz2, .int mbg, .long v99, .int v68, .int v109, .int mvl, .int mpl, .int mcl, .int mrw, .int mqt, .int mlv, .int mtl, .int mbe, .int mch, .ref hpb, .ref hwa, .ref hmn, .ref hcf, .ref hsa, .ref hro])), (hby, .inl (cI, 600, .inl mby2))]) [0, 1] rfl
          have hDc := hD.sub (ws' := [(hm, .inr (8, [.int mrf, .ref hby, .int msz2, .int mbg, .long v99, .int v68, .int v109, .int mvl, .int mpl, .int mcl, .int mrw, .int mqt, .int mlv, .int mtl, .int mbe, .int mch, .ref hpb, .ref hwa, .ref hmn, .ref hcf, .ref hsa, .ref hro])), (hby, .inl (cI, 600, .inl mby2))]) [0, 1] (by decide) rfl
          have hFc := va_free (wc := [(hm, .inr (8, [.int mrf, .ref hby, .int msz2, .int mbg, .long v99, .int v68, .int v109, .int mvl, .int mpl, .int mcl, .int mrw, .int mqt, .int mlv, .int mtl, .int mbe, .int mch, .ref hpb, .ref hwa, .ref hmn, .ref hcf, .ref hsa, .ref hro])), (hby, .inl (cI, 600, .inl mby2))]) hD hS hA [0, 1] rfl
          refine va_callv (va_runV (As := [.long v99]) (rest := []) ⟨hx, hb, hml, hown, hts⟩ (c_X8_append l D cI cJ cZ hm hby hpb hwa hmn hcf hsa hro mrf msz2 mbg v68 v109 mvl mpl mcl mrw mqt mlv mtl mbe mch v99 mby2 v99 (2 * B2 % 4294967296) B72 V99 (Nat.mod_lt _ (by decide)) (H).size) (cwV 1 hts (kg_V mk_360 mk_361 mk_362 mk_189 mk_363) rfl rfl rfl (by decide +kernel) ⟨Nat.le_of_ble_eq_true rfl, Nat.le_of_ble_eq_true rfl⟩) ⟨fun a U g mk q => by obtain ⟨q0, q1, qP, qK, qD⟩ := q; exact ⟨q0, q1, qP, kK.call qK, qD⟩, va_recv hK.1 hPc (ci := 8) (q0 := 0) rfl rfl, fun U hU hW => ⟨rfl, by rw [hU], by rw [hU]; exact hPc, kK.warm hW hK, hDc.weaken (fun _ _ _ _ => trivial)⟩⟩ rfl rfl hl.1 rfl (lv_room (Nat.le_of_ble_eq_true rfl)) dX8_writeBit_125 ⟨Nat.zero_le _, Nat.zero_le _⟩) hS (fun q _ h => hFc q h) hFc (fun u t9 H1 locs ht9 hvm9 hw9 hB9 hz9 hk9 hS => ?_)
          obtain ⟨msz2_125, mby2_125⟩ := u
          obtain ⟨hP1, hD1⟩ := hB9
          rw [ht9] at hP1
          have hP1 : va_P D vwCl [(hm, .inr (8, [.int mrf, .ref hby, .int msz2_125, .int mbg, .long v99, .int v68, .int v109, .int mvl, .int mpl, .int mcl, .int mrw, .int mqt, .int mlv, .int mtl, .int mbe, .int mch, .ref hpb, .ref hwa, .ref hmn, .ref hcf, .ref hsa, .ref hro])), (hby, .inl (cI, 600, .inl mby2_125))] H1 := hP1
          obtain ⟨hP, hD⟩ := va_join (wr := []) (w1 := [(hm, .inr (8, [.int mrf, .ref hby, .int msz2_125, .int mbg, .long v99, .int v68, .int v109, .int mvl, .int mpl, .int mcl, .int mrw, .int mqt, .int mlv, .int mtl, .int mbe, .int mch, .ref hpb, .ref hwa, .ref hmn, .ref hcf, .ref hsa, .ref hro])), (hby, .inl (cI, 600, .inl mby2_125))]) hP hD [0, 1] [] rfl rfl (by decide) (by decide) hk9 hFc hP1 hD1
          have hP := hP.sub (ws' := [(hm, .inr (8, [.int mrf, .ref hby, .int msz2_125, .int mbg, .long v99, .int v68, .int v109, .int mvl, .int mpl, .int mcl, .int mrw, .int mqt, .int mlv, .int mtl, .int mbe, .int mch, .ref hpb, .ref hwa, .ref hmn, .ref hcf, .ref hsa, .ref hro])), (hby, .inl (cI, 600, .inl mby2_125))]) [0, 1] rfl
          have hD := hD.sub (ws' := [(hm, .inr (8, [.int mrf, .ref hby, .int msz2_125, .int mbg, .long v99, .int v68, .int v109, .int mvl, .int mpl, .int mcl, .int mrw, .int mqt, .int mlv, .int mtl, .int mbe, .int mch, .ref hpb, .ref hwa, .ref hmn, .ref hcf, .ref hsa, .ref hro])), (hby, .inl (cI, 600, .inl mby2_125))]) [0, 1] (by decide) rfl
          generalize H1 = H at hP hS ⊢
          obtain ⟨q125_0, q125_1, q125_2⟩ := hw9
          have q125_0 : kB msz2_125 0 600 := q125_0
          have q125_1 : msz2_125.toInt = msz2.toInt + 1 := q125_1
          have q125_2 : mby2_125 = upd mby2 msz2.toInt.toNat (nI ((2 * B2 % 4294967296) / 16777216)) := q125_2
          refine lv_aload_n hx hb dX8_writeBit_128 rfl (lv_at hl 0 rfl) ?_
          refine lv_aload_n hx hb dX8_writeBit_129 rfl (lv_at hl 0 rfl) ?_
          refine va_get (D := D) (ci := 8) (v := .long v99) (C := RX8) (T := TX8) (N := 22) hx hb hts in_X8 hown hK.1 hP 0 rfl rfl 4 (by decide) (hts _ mk_356) (fun _ h9 => h9) rfl dX8_writeBit_130 ?_
          refine lv_ldc2 (v := 16777215) hx hb hown (hts _ mk_364) dX8_writeBit_133 ?_
          refine lv_land hx hb dX8_writeBit_136 ?_
          refine lv_topl (fun v136 e136 => ?_)
          have V136 : v136 = lN (2 * B2 % 4294967296 % 16777216) := by rw [e136, V99]; exact lM_and (k := 24) (p := 16777216) (by decide) (by decide) (by decide) (by omega)
          have Q4 : v136 = lN (wSh (mct2.toInt, msz2.toInt, B2, mby2)).2.2.1 := by rw [wSh_1 HS1]; exact V136
          have EQ : (wSh (mct2.toInt, msz2.toInt, B2, mby2)) = (8, msz2_125.toInt, 2 * B2 % 4294967296 % 16777216, mby2_125) := by rw [wSh_1 HS1, q125_1, q125_2, ← CF]
          refine va_put (D := D) (ci := 8) (v := .long v136) (ty := .long) (C := RX8) (T := TX8) (N := 22) hx hb hts in_X8 tyX8 tyX8_ok nmX8 hown hK.1 hP hD hS 0 rfl rfl 4 (by decide) (hts _ mk_356) (fun _ h9 => h9) rfl (by decide +kernel) rfl rfl (Nat.le_of_ble_eq_true rfl) dX8_writeBit_137 (fun H locs hP hD hS => ?_)
          have hP : va_P D vwCl [(hm, .inr (8, [.int mrf, .ref hby, .int msz2_125, .int mbg, .long v136, .int v68, .int v109, .int mvl, .int mpl, .int mcl, .int mrw, .int mqt, .int mlv, .int mtl, .int mbe, .int mch, .ref hpb, .ref hwa, .ref hmn, .ref hcf, .ref hsa, .ref hro])), (hby, .inl (cI, 600, .inl mby2_125))] H := hP
          have hD : va_D A [(hm, .inr (8, [.int mrf, .ref hby, .int msz2_125, .int mbg, .long v136, .int v68, .int v109, .int mvl, .int mpl, .int mcl, .int mrw, .int mqt, .int mlv, .int mtl, .int mbe, .int mch, .ref hpb, .ref hwa, .ref hmn, .ref hcf, .ref hsa, .ref hro])), (hby, .inl (cI, 600, .inl mby2_125))] := hD
          refine lv_aload_n hx hb dX8_writeBit_140 rfl (lv_at hl 0 rfl) ?_
          refine lv_bipush (v := 8) hx hb dX8_writeBit_141 (by decide) ?_
          refine va_put (D := D) (ci := 8) (v := .int 8) (ty := .int) (C := RX8) (T := TX8) (N := 22) hx hb hts in_X8 tyX8 tyX8_ok nmX8 hown hK.1 hP hD hS 0 rfl rfl 6 (by decide) (hts _ mk_194) (fun _ h9 => h9) rfl (by decide +kernel) rfl rfl (Nat.le_of_ble_eq_true rfl) dX8_writeBit_143 (fun H locs hP hD hS => ?_)
          have hP : va_P D vwCl [(hm, .inr (8, [.int mrf, .ref hby, .int msz2_125, .int mbg, .long v136, .int v68, .int 8, .int mvl, .int mpl, .int mcl, .int mrw, .int mqt, .int mlv, .int mtl, .int mbe, .int mch, .ref hpb, .ref hwa, .ref hmn, .ref hcf, .ref hsa, .ref hro])), (hby, .inl (cI, 600, .inl mby2_125))] H := hP
          have hD : va_D A [(hm, .inr (8, [.int mrf, .ref hby, .int msz2_125, .int mbg, .long v136, .int v68, .int 8, .int mvl, .int mpl, .int mcl, .int mrw, .int mqt, .int mlv, .int mtl, .int mbe, .int mch, .ref hpb, .ref hwa, .ref hmn, .ref hcf, .ref hsa, .ref hro])), (hby, .inl (cI, 600, .inl mby2_125))] := hD
          refine lv_goto (tgt := 52) hx hb dX8_writeBit_146 (by decide) ?_
          exact ih msz2_125 v136 v68 8 mby2_125 ((wSh (mct2.toInt, msz2.toInt, B2, mby2)).2.2.1) (by rw [K68]; have := c59nx.2; have := brg2.1; omega) (kB_w b68 (by decide) (by decide)) q125_0 (kB_w kc_8 (by decide) (by decide)) (by omega) (by rw [K68, N68]; exact kr) (by rw [K68]; omega) Q4 (wSh_lt hb3) (by rw [K68]; rw [wIt_dbl brg2.1 (by have := c59nx.2; omega), EQ] at hit; rw [EQ]; first | exact hit | (rw [Z8]; exact hit)) _ _ ls hP hD hS (lv_sub hl [0] rfl)
      · have c80n : 0 ≤ v79 := kN_lt c80
        have c80nb := kB_all v79
        have c80ny : kB v79 0 2147483647 := kB_le_r kc_0 c80nb c80n (by decide)
        refine lv_aload_n hx hb dX8_writeBit_83 rfl (lv_at hl 0 rfl) ?_
        have hPc := hP.sub (ws' := [(hm, .inr (8, [.int mrf, .ref hby, .int msz2, .int mbg, .long mbt2, .int v68, .int mct2, .int mvl, .int mpl, .int mcl, .int mrw, .int mqt, .int mlv, .int mtl, .int mbe, .int mch, .ref hpb, .ref hwa, .ref hmn, .ref hcf, .ref hsa, .ref hro])), (hby, .inl (cI, 600, .inl mby2))]) [0, 1] rfl
        have hDc := hD.sub (ws' := [(hm, .inr (8, [.int mrf, .ref hby, .int msz2, .int mbg, .long mbt2, .int v68, .int mct2, .int mvl, .int mpl, .int mcl, .int mrw, .int mqt, .int mlv, .int mtl, .int mbe, .int mch, .ref hpb, .ref hwa, .ref hmn, .ref hcf, .ref hsa, .ref hro])), (hby, .inl (cI, 600, .inl mby2))]) [0, 1] (by decide) rfl
        have hFc := va_free (wc := [(hm, .inr (8, [.int mrf, .ref hby, .int msz2, .int mbg, .long mbt2, .int v68, .int mct2, .int mvl, .int mpl, .int mcl, .int mrw, .int mqt, .int mlv, .int mtl, .int mbe, .int mch, .ref hpb, .ref hwa, .ref hmn, .ref hcf, .ref hsa, .ref hro])), (hby, .inl (cI, 600, .inl mby2))]) hD hS hA [0, 1] rfl
        refine va_callv (va_runV (As := []) (rest := []) ⟨hx, hb, hml, hown, hts⟩ (c_X8_carry l D cI cJ cZ hm hby hpb hwa hmn hcf hsa hro mrf msz2 mbg v68 mct2 mvl mpl mcl mrw mqt mlv mtl mbe mch mbt2 mby2 (kB_w B72 (by decide) (by decide)) (H).size) (cwV 0 hts (kg_V mk_365 mk_366 mk_367 mk_189 mk_368) rfl rfl rfl (by decide +kernel) ⟨Nat.le_of_ble_eq_true rfl, Nat.le_of_ble_eq_true rfl⟩) ⟨fun a U g mk q => by obtain ⟨q0, q1, qP, qK, qD⟩ := q; exact ⟨q0, q1, qP, kK.call qK, qD⟩, va_recv hK.1 hPc (ci := 8) (q0 := 0) rfl rfl, fun U hU hW => ⟨rfl, by rw [hU], by rw [hU]; exact hPc, kK.warm hW hK, hDc.weaken (fun _ _ _ _ => trivial)⟩⟩ rfl rfl hl.1 rfl (lv_room (Nat.le_of_ble_eq_true rfl)) dX8_writeBit_84 ⟨Nat.zero_le _, Nat.zero_le _⟩) hS (fun q _ h => hFc q h) hFc (fun u t9 H1 locs ht9 hvm9 hw9 hB9 hz9 hk9 hS => ?_)
        obtain ⟨mby2_84, rfl⟩ : ∃ z, z = u := ⟨_, rfl⟩
        obtain ⟨hP1, hD1⟩ := hB9
        rw [ht9] at hP1
        have hP1 : va_P D vwCl [(hm, .inr (8, [.int mrf, .ref hby, .int msz2, .int mbg, .long mbt2, .int v68, .int mct2, .int mvl, .int mpl, .int mcl, .int mrw, .int mqt, .int mlv, .int mtl, .int mbe, .int mch, .ref hpb, .ref hwa, .ref hmn, .ref hcf, .ref hsa, .ref hro])), (hby, .inl (cI, 600, .inl mby2_84))] H1 := hP1
        obtain ⟨hP, hD⟩ := va_join (wr := []) (w1 := [(hm, .inr (8, [.int mrf, .ref hby, .int msz2, .int mbg, .long mbt2, .int v68, .int mct2, .int mvl, .int mpl, .int mcl, .int mrw, .int mqt, .int mlv, .int mtl, .int mbe, .int mch, .ref hpb, .ref hwa, .ref hmn, .ref hcf, .ref hsa, .ref hro])), (hby, .inl (cI, 600, .inl mby2_84))]) hP hD [0, 1] [] rfl rfl (by decide) (by decide) hk9 hFc hP1 hD1
        have hP := hP.sub (ws' := [(hm, .inr (8, [.int mrf, .ref hby, .int msz2, .int mbg, .long mbt2, .int v68, .int mct2, .int mvl, .int mpl, .int mcl, .int mrw, .int mqt, .int mlv, .int mtl, .int mbe, .int mch, .ref hpb, .ref hwa, .ref hmn, .ref hcf, .ref hsa, .ref hro])), (hby, .inl (cI, 600, .inl mby2_84))]) [0, 1] rfl
        have hD := hD.sub (ws' := [(hm, .inr (8, [.int mrf, .ref hby, .int msz2, .int mbg, .long mbt2, .int v68, .int mct2, .int mvl, .int mpl, .int mcl, .int mrw, .int mqt, .int mlv, .int mtl, .int mbe, .int mch, .ref hpb, .ref hwa, .ref hmn, .ref hcf, .ref hsa, .ref hro])), (hby, .inl (cI, 600, .inl mby2_84))]) [0, 1] (by decide) rfl
        generalize H1 = H at hP hS ⊢
        have q84_0 : mby2_84 = wCar msz2.toInt.toNat mby2 := hw9
        have CF : mby2_84 = wF msz2.toInt.toNat B2 mby2 := by rw [q84_0]; exact wF_y ((Nat.lt_or_ge B2 2147483648).elim (fun h9 => absurd ((lM_lt (by omega) 2147483648 (by decide)).mpr h9) (by rw [← hb2]; rw [e79] at c80; exact c80)) id)
        refine lv_aload_n hx hb dX8_writeBit_87 rfl (lv_at hl 0 rfl) ?_
        refine lv_ldc2 (v := 2) hx hb hown (hts _ mk_359) dX8_writeBit_88 ?_
        refine lv_aload_n hx hb dX8_writeBit_91 rfl (lv_at hl 0 rfl) ?_
        refine va_get (D := D) (ci := 8) (v := .long mbt2) (C := RX8) (T := TX8) (N := 22) hx hb hts in_X8 hown hK.1 hP 0 rfl rfl 4 (by decide) (hts _ mk_356) (fun _ h9 => h9) rfl dX8_writeBit_92 ?_
        refine lv_lmul hx hb dX8_writeBit_95 ?_
        refine lv_topl (fun v95 e95 => ?_)
        refine lv_ldc2 (v := 4294967295) hx hb hown (hts _ mk_357) dX8_writeBit_96 ?_
        refine lv_land hx hb dX8_writeBit_99 ?_
        refine lv_topl (fun v99 e99 => ?_)
        have V99 : v99 = lN (2 * B2 % 4294967296) := by rw [e99, e95, hb2, show (2 : Int64) = lN 2 from by decide, lN_mul]; exact lM_and (k := 32) (p := 4294967296) (by decide) (by decide) (by decide) (by omega)
        refine va_put (D := D) (ci := 8) (v := .long v99) (ty := .long) (C := RX8) (T := TX8) (N := 22) hx hb hts in_X8 tyX8 tyX8_ok nmX8 hown hK.1 hP hD hS 0 rfl rfl 4 (by decide) (hts _ mk_356) (fun _ h9 => h9) rfl (by decide +kernel) rfl rfl (Nat.le_of_ble_eq_true rfl) dX8_writeBit_100 (fun H locs hP hD hS => ?_)
        have hP : va_P D vwCl [(hm, .inr (8, [.int mrf, .ref hby, .int msz2, .int mbg, .long v99, .int v68, .int mct2, .int mvl, .int mpl, .int mcl, .int mrw, .int mqt, .int mlv, .int mtl, .int mbe, .int mch, .ref hpb, .ref hwa, .ref hmn, .ref hcf, .ref hsa, .ref hro])), (hby, .inl (cI, 600, .inl mby2_84))] H := hP
        have hD : va_D A [(hm, .inr (8, [.int mrf, .ref hby, .int msz2, .int mbg, .long v99, .int v68, .int mct2, .int mvl, .int mpl, .int mcl, .int mrw, .int mqt, .int mlv, .int mtl, .int mbe, .int mch, .ref hpb, .ref hwa, .ref hmn, .ref hcf, .ref hsa, .ref hro])), (hby, .inl (cI, 600, .inl mby2_84))] := hD
        refine lv_aload_n hx hb dX8_writeBit_103 rfl (lv_at hl 0 rfl) ?_
        refine lv_dup hx hb dX8_writeBit_104 rfl ?_
        refine va_get (D := D) (ci := 8) (v := .int mct2) (C := RX8) (T := TX8) (N := 22) hx hb hts in_X8 hown hK.1 hP 0 rfl rfl 6 (by decide) (hts _ mk_194) (fun _ h9 => h9) rfl dX8_writeBit_105 ?_
        refine lv_iconst (v := 1) hx hb dX8_writeBit_108 (by decide) ?_
        refine lv_isub hx hb dX8_writeBit_109 ?_
        refine lv_topi (fun v109 e109 => ?_)
        have b109 : kB v109 0 23 := kB_eq e109 (kB_sub bct2 kc_1 (by decide))
        have K109 : v109.toInt = mct2.toInt - 1 := by rw [e109]; exact kdec1 (kB_w bct2 (by decide) (by decide))
        refine va_put (D := D) (ci := 8) (v := .int v109) (ty := .int) (C := RX8) (T := TX8) (N := 22) hx hb hts in_X8 tyX8 tyX8_ok nmX8 hown hK.1 hP hD hS 0 rfl rfl 6 (by decide) (hts _ mk_194) (fun _ h9 => h9) rfl (by decide +kernel) rfl rfl (Nat.le_of_ble_eq_true rfl) dX8_writeBit_110 (fun H locs hP hD hS => ?_)
        have hP : va_P D vwCl [(hm, .inr (8, [.int mrf, .ref hby, .int msz2, .int mbg, .long v99, .int v68, .int v109, .int mvl, .int mpl, .int mcl, .int mrw, .int mqt, .int mlv, .int mtl, .int mbe, .int mch, .ref hpb, .ref hwa, .ref hmn, .ref hcf, .ref hsa, .ref hro])), (hby, .inl (cI, 600, .inl mby2_84))] H := hP
        have hD : va_D A [(hm, .inr (8, [.int mrf, .ref hby, .int msz2, .int mbg, .long v99, .int v68, .int v109, .int mvl, .int mpl, .int mcl, .int mrw, .int mqt, .int mlv, .int mtl, .int mbe, .int mch, .ref hpb, .ref hwa, .ref hmn, .ref hcf, .ref hsa, .ref hro])), (hby, .inl (cI, 600, .inl mby2_84))] := hD
        refine lv_aload_n hx hb dX8_writeBit_113 rfl (lv_at hl 0 rfl) ?_
        refine va_get (D := D) (ci := 8) (v := .int v109) (C := RX8) (T := TX8) (N := 22) hx hb hts in_X8 hown hK.1 hP 0 rfl rfl 6 (by decide) (hts _ mk_194) (fun _ h9 => h9) rfl dX8_writeBit_114 ?_
        refine lv_if_ne (tgt := 52) hx hb dX8_writeBit_117 (by decide) (fun c117 => ?_) (fun c117 => ?_)
        · have c117x : kB v109 1 23 := kB_nlo b109 c117 kc_0 (by decide)
          have Z117 := kn0 c117
          have HSn : ¬ mct2.toInt = 1 := by omega
          have Q4 : v99 = lN (wSh (mct2.toInt, msz2.toInt, B2, mby2)).2.2.1 := by rw [wSh_n HSn]; exact V99
          have EQ : (wSh (mct2.toInt, msz2.toInt, B2, mby2)) = (v109.toInt, msz2.toInt, 2 * B2 % 4294967296, mby2_84) := by rw [wSh_n HSn, ← CF, K109]
          exact ih msz2 v99 v68 v109 mby2_84 ((wSh (mct2.toInt, msz2.toInt, B2, mby2)).2.2.1) (by rw [K68]; have := c59nx.2; have := brg2.1; omega) (kB_w b68 (by decide) (by decide)) (kB_w B72 (by decide) (by decide)) (kB_w c117x (by decide) (by decide)) (by omega) (by rw [K68, N68]; exact kr) (by rw [K68]; omega) Q4 (wSh_lt hb3) (by rw [K68]; rw [wIt_dbl brg2.1 (by have := c59nx.2; omega), EQ] at hit; rw [EQ]; first | exact hit | (rw [Z8]; exact hit)) _ _ ls hP hD hS (lv_sub hl [0] rfl)
        · have c117x : kB v109 0 0 := kB_eq c117 kc_0
          have Z117 := k0 c117
          have Z8 : (8 : Int32).toInt = 8 := by decide
          have HS1 : mct2.toInt = 1 := by omega
          refine lv_aload_n hx hb dX8_writeBit_120 rfl (lv_at hl 0 rfl) ?_
          refine lv_aload_n hx hb dX8_writeBit_121 rfl (lv_at hl 0 rfl) ?_
          refine va_get (D := D) (ci := 8) (v := .long v99) (C := RX8) (T := TX8) (N := 22) hx hb hts in_X8 hown hK.1 hP 0 rfl rfl 4 (by decide) (hts _ mk_356) (fun _ h9 => h9) rfl dX8_writeBit_122 ?_
          have hPc := hP.sub (ws' := [(hm, .inr (8, [.int mrf, .ref hby, .int msz2, .int mbg, .long v99, .int v68, .int v109, .int mvl, .int mpl, .int mcl, .int mrw, .int mqt, .int mlv, .int mtl, .int mbe, .int mch, .ref hpb, .ref hwa, .ref hmn, .ref hcf, .ref hsa, .ref hro])), (hby, .inl (cI, 600, .inl mby2_84))]) [0, 1] rfl
          have hDc := hD.sub (ws' := [(hm, .inr (8, [.int mrf, .ref hby, .int msz2, .int mbg, .long v99, .int v68, .int v109, .int mvl, .int mpl, .int mcl, .int mrw, .int mqt, .int mlv, .int mtl, .int mbe, .int mch, .ref hpb, .ref hwa, .ref hmn, .ref hcf, .ref hsa, .ref hro])), (hby, .inl (cI, 600, .inl mby2_84))]) [0, 1] (by decide) rfl
          have hFc := va_free (wc := [(hm, .inr (8, [.int mrf, .ref hby, .int msz2, .int mbg, .long v99, .int v68, .int v109, .int mvl, .int mpl, .int mcl, .int mrw, .int mqt, .int mlv, .int mtl, .int mbe, .int mch, .ref hpb, .ref hwa, .ref hmn, .ref hcf, .ref hsa, .ref hro])), (hby, .inl (cI, 600, .inl mby2_84))]) hD hS hA [0, 1] rfl
          refine va_callv (va_runV (As := [.long v99]) (rest := []) ⟨hx, hb, hml, hown, hts⟩ (c_X8_append l D cI cJ cZ hm hby hpb hwa hmn hcf hsa hro mrf msz2 mbg v68 v109 mvl mpl mcl mrw mqt mlv mtl mbe mch v99 mby2_84 v99 (2 * B2 % 4294967296) B72 V99 (Nat.mod_lt _ (by decide)) (H).size) (cwV 1 hts (kg_V mk_360 mk_361 mk_362 mk_189 mk_363) rfl rfl rfl (by decide +kernel) ⟨Nat.le_of_ble_eq_true rfl, Nat.le_of_ble_eq_true rfl⟩) ⟨fun a U g mk q => by obtain ⟨q0, q1, qP, qK, qD⟩ := q; exact ⟨q0, q1, qP, kK.call qK, qD⟩, va_recv hK.1 hPc (ci := 8) (q0 := 0) rfl rfl, fun U hU hW => ⟨rfl, by rw [hU], by rw [hU]; exact hPc, kK.warm hW hK, hDc.weaken (fun _ _ _ _ => trivial)⟩⟩ rfl rfl hl.1 rfl (lv_room (Nat.le_of_ble_eq_true rfl)) dX8_writeBit_125 ⟨Nat.zero_le _, Nat.zero_le _⟩) hS (fun q _ h => hFc q h) hFc (fun u t9 H1 locs ht9 hvm9 hw9 hB9 hz9 hk9 hS => ?_)
          obtain ⟨msz2_125, mby2_125⟩ := u
          obtain ⟨hP1, hD1⟩ := hB9
          rw [ht9] at hP1
          have hP1 : va_P D vwCl [(hm, .inr (8, [.int mrf, .ref hby, .int msz2_125, .int mbg, .long v99, .int v68, .int v109, .int mvl, .int mpl, .int mcl, .int mrw, .int mqt, .int mlv, .int mtl, .int mbe, .int mch, .ref hpb, .ref hwa, .ref hmn, .ref hcf, .ref hsa, .ref hro])), (hby, .inl (cI, 600, .inl mby2_125))] H1 := hP1
          obtain ⟨hP, hD⟩ := va_join (wr := []) (w1 := [(hm, .inr (8, [.int mrf, .ref hby, .int msz2_125, .int mbg, .long v99, .int v68, .int v109, .int mvl, .int mpl, .int mcl, .int mrw, .int mqt, .int mlv, .int mtl, .int mbe, .int mch, .ref hpb, .ref hwa, .ref hmn, .ref hcf, .ref hsa, .ref hro])), (hby, .inl (cI, 600, .inl mby2_125))]) hP hD [0, 1] [] rfl rfl (by decide) (by decide) hk9 hFc hP1 hD1
          have hP := hP.sub (ws' := [(hm, .inr (8, [.int mrf, .ref hby, .int msz2_125, .int mbg, .long v99, .int v68, .int v109, .int mvl, .int mpl, .int mcl, .int mrw, .int mqt, .int mlv, .int mtl, .int mbe, .int mch, .ref hpb, .ref hwa, .ref hmn, .ref hcf, .ref hsa, .ref hro])), (hby, .inl (cI, 600, .inl mby2_125))]) [0, 1] rfl
          have hD := hD.sub (ws' := [(hm, .inr (8, [.int mrf, .ref hby, .int msz2_125, .int mbg, .long v99, .int v68, .int v109, .int mvl, .int mpl, .int mcl, .int mrw, .int mqt, .int mlv, .int mtl, .int mbe, .int mch, .ref hpb, .ref hwa, .ref hmn, .ref hcf, .ref hsa, .ref hro])), (hby, .inl (cI, 600, .inl mby2_125))]) [0, 1] (by decide) rfl
          generalize H1 = H at hP hS ⊢
          obtain ⟨q125_0, q125_1, q125_2⟩ := hw9
          have q125_0 : kB msz2_125 0 600 := q125_0
          have q125_1 : msz2_125.toInt = msz2.toInt + 1 := q125_1
          have q125_2 : mby2_125 = upd mby2_84 msz2.toInt.toNat (nI ((2 * B2 % 4294967296) / 16777216)) := q125_2
          refine lv_aload_n hx hb dX8_writeBit_128 rfl (lv_at hl 0 rfl) ?_
          refine lv_aload_n hx hb dX8_writeBit_129 rfl (lv_at hl 0 rfl) ?_
          refine va_get (D := D) (ci := 8) (v := .long v99) (C := RX8) (T := TX8) (N := 22) hx hb hts in_X8 hown hK.1 hP 0 rfl rfl 4 (by decide) (hts _ mk_356) (fun _ h9 => h9) rfl dX8_writeBit_130 ?_
          refine lv_ldc2 (v := 16777215) hx hb hown (hts _ mk_364) dX8_writeBit_133 ?_
          refine lv_land hx hb dX8_writeBit_136 ?_
          refine lv_topl (fun v136 e136 => ?_)
          have V136 : v136 = lN (2 * B2 % 4294967296 % 16777216) := by rw [e136, V99]; exact lM_and (k := 24) (p := 16777216) (by decide) (by decide) (by decide) (by omega)
          have Q4 : v136 = lN (wSh (mct2.toInt, msz2.toInt, B2, mby2)).2.2.1 := by rw [wSh_1 HS1]; exact V136
          have EQ : (wSh (mct2.toInt, msz2.toInt, B2, mby2)) = (8, msz2_125.toInt, 2 * B2 % 4294967296 % 16777216, mby2_125) := by rw [wSh_1 HS1, q125_1, q125_2, ← CF]
          refine va_put (D := D) (ci := 8) (v := .long v136) (ty := .long) (C := RX8) (T := TX8) (N := 22) hx hb hts in_X8 tyX8 tyX8_ok nmX8 hown hK.1 hP hD hS 0 rfl rfl 4 (by decide) (hts _ mk_356) (fun _ h9 => h9) rfl (by decide +kernel) rfl rfl (Nat.le_of_ble_eq_true rfl) dX8_writeBit_137 (fun H locs hP hD hS => ?_)
          have hP : va_P D vwCl [(hm, .inr (8, [.int mrf, .ref hby, .int msz2_125, .int mbg, .long v136, .int v68, .int v109, .int mvl, .int mpl, .int mcl, .int mrw, .int mqt, .int mlv, .int mtl, .int mbe, .int mch, .ref hpb, .ref hwa, .ref hmn, .ref hcf, .ref hsa, .ref hro])), (hby, .inl (cI, 600, .inl mby2_125))] H := hP
          have hD : va_D A [(hm, .inr (8, [.int mrf, .ref hby, .int msz2_125, .int mbg, .long v136, .int v68, .int v109, .int mvl, .int mpl, .int mcl, .int mrw, .int mqt, .int mlv, .int mtl, .int mbe, .int mch, .ref hpb, .ref hwa, .ref hmn, .ref hcf, .ref hsa, .ref hro])), (hby, .inl (cI, 600, .inl mby2_125))] := hD
          refine lv_aload_n hx hb dX8_writeBit_140 rfl (lv_at hl 0 rfl) ?_
          refine lv_bipush (v := 8) hx hb dX8_writeBit_141 (by decide) ?_
          refine va_put (D := D) (ci := 8) (v := .int 8) (ty := .int) (C := RX8) (T := TX8) (N := 22) hx hb hts in_X8 tyX8 tyX8_ok nmX8 hown hK.1 hP hD hS 0 rfl rfl 6 (by decide) (hts _ mk_194) (fun _ h9 => h9) rfl (by decide +kernel) rfl rfl (Nat.le_of_ble_eq_true rfl) dX8_writeBit_143 (fun H locs hP hD hS => ?_)
          have hP : va_P D vwCl [(hm, .inr (8, [.int mrf, .ref hby, .int msz2_125, .int mbg, .long v136, .int v68, .int 8, .int mvl, .int mpl, .int mcl, .int mrw, .int mqt, .int mlv, .int mtl, .int mbe, .int mch, .ref hpb, .ref hwa, .ref hmn, .ref hcf, .ref hsa, .ref hro])), (hby, .inl (cI, 600, .inl mby2_125))] H := hP
          have hD : va_D A [(hm, .inr (8, [.int mrf, .ref hby, .int msz2_125, .int mbg, .long v136, .int v68, .int 8, .int mvl, .int mpl, .int mcl, .int mrw, .int mqt, .int mlv, .int mtl, .int mbe, .int mch, .ref hpb, .ref hwa, .ref hmn, .ref hcf, .ref hsa, .ref hro])), (hby, .inl (cI, 600, .inl mby2_125))] := hD
          refine lv_goto (tgt := 52) hx hb dX8_writeBit_146 (by decide) ?_
          exact ih msz2_125 v136 v68 8 mby2_125 ((wSh (mct2.toInt, msz2.toInt, B2, mby2)).2.2.1) (by rw [K68]; have := c59nx.2; have := brg2.1; omega) (kB_w b68 (by decide) (by decide)) q125_0 (kB_w kc_8 (by decide) (by decide)) (by omega) (by rw [K68, N68]; exact kr) (by rw [K68]; omega) Q4 (wSh_lt hb3) (by rw [K68]; rw [wIt_dbl brg2.1 (by have := c59nx.2; omega), EQ] at hit; rw [EQ]; first | exact hit | (rw [Z8]; exact hit)) _ _ ls hP hD hS (lv_sub hl [0] rfl)
set_option maxHeartbeats 4000000 in
set_option maxRecDepth 100000 in
theorem c_X8_writeBit (l : Launch) (D : va_G) (cI cJ cZ : ClassId) (hm hby hpb hwa hmn hcf hsa hro : Nat) (mrf : Int32) (msz : Int32) (mbg : Int32) (mrg : Int32) (mct : Int32) (mvl : Int32) (mpl : Int32) (mcl : Int32) (mrw : Int32) (mqt : Int32) (mlv : Int32) (mtl : Int32) (mbe : Int32) (mch : Int32) (mbt : Int64) (mby : Nat → Int32) (pp : Int32) (bt : Int32) (Bz : Nat) (brg : kB mrg 128 255) (bp : kB pp 0 255) (bsz : kB msz 0 592) (bct : kB mct 1 24) (nf : kNF mct.toInt msz.toInt) (hB : mbt = lN Bz) (hB2 : Bz < 4294967296) (hpz : Nat) : Met l yX8_writeBit kw_X8_writeBit ({ frames := 1, cells := 0, slots := 0, locals := 22 }) (va_Pc [.ref hm, .int pp, .int bt] (fun U => U.heap.size = hpz ∧ va_P D vwCl [(hm, .inr (8, [.int mrf, .ref hby, .int msz, .int mbg, .long mbt, .int mrg, .int mct, .int mvl, .int mpl, .int mcl, .int mrw, .int mqt, .int mlv, .int mtl, .int mbe, .int mch, .ref hpb, .ref hwa, .ref hmn, .ref hcf, .ref hsa, .ref hro])), (hby, .inl (cI, 600, .inl mby))] U.heap ∧ kK D cI cJ cZ U ∧ va_D (fun _ => True) [(hm, .inr (8, [.int mrf, .ref hby, .int msz, .int mbg, .long mbt, .int mrg, .int mct, .int mvl, .int mpl, .int mcl, .int mrw, .int mqt, .int mlv, .int mtl, .int mbe, .int mch, .ref hpb, .ref hwa, .ref hmn, .ref hcf, .ref hsa, .ref hro])), (hby, .inl (cI, 600, .inl mby))])) (va_Qv (fun (u : Int32 × Int64 × Int32 × Int32 × (Nat → Int32)) => (kB u.2.2.1 128 255) ∧ (kB u.1 0 600) ∧ (kB u.2.2.2.1 1 24) ∧ (kNF u.2.2.2.1.toInt u.1.toInt) ∧ (u.2.2.1.toInt = krn (kr1 pp.toInt bt.toInt mrg.toInt)) ∧ (8 * u.1.toInt - u.2.2.2.1.toInt = 8 * msz.toInt - mct.toInt + kdl (kr1 pp.toInt bt.toInt mrg.toInt)) ∧ (u.2.1 = lN (wIt (kdl (kr1 pp.toInt bt.toInt mrg.toInt)).toNat (mct.toInt, msz.toInt, wB1 pp.toInt bt.toInt mrg.toInt Bz, mby)).2.2.1) ∧ (u.2.2.2.1.toInt = (wIt (kdl (kr1 pp.toInt bt.toInt mrg.toInt)).toNat (mct.toInt, msz.toInt, wB1 pp.toInt bt.toInt mrg.toInt Bz, mby)).1) ∧ (u.1.toInt = (wIt (kdl (kr1 pp.toInt bt.toInt mrg.toInt)).toNat (mct.toInt, msz.toInt, wB1 pp.toInt bt.toInt mrg.toInt Bz, mby)).2.1) ∧ (u.2.2.2.2 = (wIt (kdl (kr1 pp.toInt bt.toInt mrg.toInt)).toNat (mct.toInt, msz.toInt, wB1 pp.toInt bt.toInt mrg.toInt Bz, mby)).2.2.2)) (fun (u : Int32 × Int64 × Int32 × Int32 × (Nat → Int32)) (t : State) => va_P D vwCl [(hm, .inr (8, [.int mrf, .ref hby, .int u.1, .int mbg, .long u.2.1, .int u.2.2.1, .int u.2.2.2.1, .int mvl, .int mpl, .int mcl, .int mrw, .int mqt, .int mlv, .int mtl, .int mbe, .int mch, .ref hpb, .ref hwa, .ref hmn, .ref hcf, .ref hsa, .ref hro])), (hby, .inl (cI, 600, .inl u.2.2.2.2))] t.heap ∧ va_D (va_A [(hm, .inr (8, [.int mrf, .ref hby, .int msz, .int mbg, .long mbt, .int mrg, .int mct, .int mvl, .int mpl, .int mcl, .int mrw, .int mqt, .int mlv, .int mtl, .int mbe, .int mch, .ref hpb, .ref hwa, .ref hmn, .ref hcf, .ref hsa, .ref hro])), (hby, .inl (cI, 600, .inl mby))] hpz) [(hm, .inr (8, [.int mrf, .ref hby, .int u.1, .int mbg, .long u.2.1, .int u.2.2.1, .int u.2.2.2.1, .int mvl, .int mpl, .int mcl, .int mrw, .int mqt, .int mlv, .int mtl, .int mbe, .int mch, .ref hpb, .ref hwa, .ref hmn, .ref hcf, .ref hsa, .ref hro])), (hby, .inl (cI, 600, .inl u.2.2.2.2))]) (va_A [(hm, .inr (8, [.int mrf, .ref hby, .int msz, .int mbg, .long mbt, .int mrg, .int mct, .int mvl, .int mpl, .int mcl, .int mrw, .int mqt, .int mlv, .int mtl, .int mbe, .int mch, .ref hpb, .ref hwa, .ref hmn, .ref hcf, .ref hsa, .ref hro])), (hby, .inl (cI, 600, .inl mby))] hpz)) 0 0 (va_A [(hm, .inr (8, [.int mrf, .ref hby, .int msz, .int mbg, .long mbt, .int mrg, .int mct, .int mvl, .int mpl, .int mcl, .int mrw, .int mqt, .int mlv, .int mtl, .int mbe, .int mch, .ref hpb, .ref hwa, .ref hmn, .ref hcf, .ref hsa, .ref hro])), (hby, .inl (cI, 600, .inl mby))] hpz) := by
  refine Met.ofW (cc := cX8_writeBit) (maxL := 4) (ret := none) (by decide) rfl ?_
  intro p e s m args below meth c s₁ B hml hv
  obtain ⟨rfl, hsz, hP, hK, hD0⟩ := hv
  have hx := B.exec
  have hb := B.bytes
  have hr := B.returns
  have hts := fun (w : Cond) (h : w ∈ kW) => atoms_spec (ws := kw_X8_writeBit) B.pre w (List.mem_cons_of_mem _ h)
  have hown : s.vm.findClass RX8 = some m.cls := findClass_of_methodNamed B.named
  have hlocks := B.notSynchronized
  subst hsz
  have hD := hD0.self (sz := s.heap.size)
  generalize hAe : va_A [(hm, .inr (8, [.int mrf, .ref hby, .int msz, .int mbg, .long mbt, .int mrg, .int mct, .int mvl, .int mpl, .int mcl, .int mrw, .int mqt, .int mlv, .int mtl, .int mbe, .int mch, .ref hpb, .ref hwa, .ref hmn, .ref hcf, .ref hsa, .ref hro])), (hby, .inl (cI, 600, .inl mby))] s.heap.size = A at hD ⊢
  have hA : ∀ q : Nat, s.heap.size ≤ q → A q := fun q h => by rw [← hAe]; exact Or.inr h
  have hS : va_S A s.heap s.heap [] := va_S.rf
  have hP : va_P D vwCl [(hm, .inr (8, [.int mrf, .ref hby, .int msz, .int mbg, .long mbt, .int mrg, .int mct, .int mvl, .int mpl, .int mcl, .int mrw, .int mqt, .int mlv, .int mtl, .int mbe, .int mch, .ref hpb, .ref hwa, .ref hmn, .ref hcf, .ref hsa, .ref hro])), (hby, .inl (cI, 600, .inl mby))] s.heap := hP
  have hl := lv_entry ([.ref hm, .int pp, .int bt]) (n := 4) (Nat.le_of_ble_eq_true rfl)
  rw [lg_entry_eq]
  generalize (lg_sl ([.ref hm, .int pp, .int bt]) ++ List.replicate (4 - (lg_sl ([.ref hm, .int pp, .int bt])).length) Slot.unset).toArray = ls at hl ⊢
  have hl : lv_has ls 4 [(0, .ref hm), (1, .int pp), (2, .int bt)] := hl
  refine lv_iconst (v := 1) hx hb dX8_writeBit_0 (by decide) ?_
  refine lv_aload_n hx hb dX8_writeBit_1 rfl (lv_at hl 0 rfl) ?_
  refine va_get (D := D) (ci := 8) (v := .int mrg) (C := RX8) (T := TX8) (N := 22) hx hb hts in_X8 hown hK.1 hP 0 rfl rfl 5 (by decide) (hts _ mk_193) (fun _ h9 => h9) rfl dX8_writeBit_2 ?_
  refine lv_iconst (v := 1) hx hb dX8_writeBit_5 (by decide) ?_
  refine lv_isub hx hb dX8_writeBit_6 ?_
  refine lv_topi (fun v6 e6 => ?_)
  have b6 : kB v6 127 254 := kB_eq e6 (kB_sub brg kc_1 (by decide))
  refine lv_iload_n hx hb dX8_writeBit_7 rfl (lv_at hl 1 rfl) ?_
  refine lv_imul hx hb dX8_writeBit_8 ?_
  refine lv_topi (fun v8 e8 => ?_)
  have b8 : kB v8 0 64770 := kB_eq e8 (kB_mul b6 bp (by decide))
  refine lv_sipush (v := 256) hx hb dX8_writeBit_9 (by decide) ?_
  refine lv_idiv hx hb dX8_writeBit_12 (kB_ne0 kc_256 (Or.inl (by decide))) ?_
  refine lv_topi (fun v12 e12 => ?_)
  have b12 : kB v12 0 253 := kB_eq e12 (kB_div b8 kc_256 (by decide))
  refine lv_iadd hx hb dX8_writeBit_13 ?_
  refine lv_topi (fun v13 e13 => ?_)
  have b13 : kB v13 1 254 := kB_eq e13 (kB_add kc_1 b12 (by decide))
  have X13 : v13.toInt = 1 + (mrg.toInt - 1) * pp.toInt / 256 := by rw [e13, e12, e8, e6]; exact kspM_toInt brg bp
  have L13 := ksp_lt brg.1 brg.2 bp.1 bp.2
  have B13 : kB v13 1 254 := ⟨by rw [X13]; exact L13.1, by rw [X13]; have := L13.2; have := brg.2; omega⟩
  refine lv_istore_n (lv' := [(3, .int v13), (0, .ref hm), (1, .int pp), (2, .int bt)]) hx hb dX8_writeBit_14 rfl hl (by decide) rfl (fun ls hl => ?_)
  refine lv_iload_n hx hb dX8_writeBit_15 rfl (lv_at hl 3 rfl) ?_
  refine lv_if_ne (tgt := 27) hx hb dX8_writeBit_16 (by decide) (fun c16 => ?_) (fun c16 => ?_)
  · refine lv_aload_n hx hb dX8_writeBit_27 rfl (lv_at hl 1 rfl) ?_
    refine lv_aload_n hx hb dX8_writeBit_28 rfl (lv_at hl 1 rfl) ?_
    refine va_get (D := D) (ci := 8) (v := .long mbt) (C := RX8) (T := TX8) (N := 22) hx hb hts in_X8 hown hK.1 hP 0 rfl rfl 4 (by decide) (hts _ mk_356) (fun _ h9 => h9) rfl dX8_writeBit_29 ?_
    refine lv_iload_n hx hb dX8_writeBit_32 rfl (lv_at hl 0 rfl) ?_
    refine lv_i2l hx hb dX8_writeBit_33 rfl ?_
    refine lv_topl (fun v33 e33 => ?_)
    refine lv_ladd hx hb dX8_writeBit_34 ?_
    refine lv_topl (fun v34 e34 => ?_)
    refine lv_ldc2 (v := 4294967295) hx hb hown (hts _ mk_357) dX8_writeBit_35 ?_
    refine lv_land hx hb dX8_writeBit_38 ?_
    refine lv_topl (fun v38 e38 => ?_)
    refine va_put (D := D) (ci := 8) (v := .long v38) (ty := .long) (C := RX8) (T := TX8) (N := 22) hx hb hts in_X8 tyX8 tyX8_ok nmX8 hown hK.1 hP hD hS 0 rfl rfl 4 (by decide) (hts _ mk_356) (fun _ h9 => h9) rfl (by decide +kernel) rfl rfl (Nat.le_of_ble_eq_true rfl) dX8_writeBit_39 (fun H locs hP hD hS => ?_)
    have hP : va_P D vwCl [(hm, .inr (8, [.int mrf, .ref hby, .int msz, .int mbg, .long v38, .int mrg, .int mct, .int mvl, .int mpl, .int mcl, .int mrw, .int mqt, .int mlv, .int mtl, .int mbe, .int mch, .ref hpb, .ref hwa, .ref hmn, .ref hcf, .ref hsa, .ref hro])), (hby, .inl (cI, 600, .inl mby))] H := hP
    have hD : va_D A [(hm, .inr (8, [.int mrf, .ref hby, .int msz, .int mbg, .long v38, .int mrg, .int mct, .int mvl, .int mpl, .int mcl, .int mrw, .int mqt, .int mlv, .int mtl, .int mbe, .int mch, .ref hpb, .ref hwa, .ref hmn, .ref hcf, .ref hsa, .ref hro])), (hby, .inl (cI, 600, .inl mby))] := hD
    refine lv_aload_n hx hb dX8_writeBit_42 rfl (lv_at hl 1 rfl) ?_
    refine lv_aload_n hx hb dX8_writeBit_43 rfl (lv_at hl 1 rfl) ?_
    refine va_get (D := D) (ci := 8) (v := .int mrg) (C := RX8) (T := TX8) (N := 22) hx hb hts in_X8 hown hK.1 hP 0 rfl rfl 5 (by decide) (hts _ mk_193) (fun _ h9 => h9) rfl dX8_writeBit_44 ?_
    refine lv_iload_n hx hb dX8_writeBit_47 rfl (lv_at hl 0 rfl) ?_
    refine lv_isub hx hb dX8_writeBit_48 ?_
    refine lv_topi (fun v48 e48 => ?_)
    have b48 : kB v48 (-126) 254 := kB_eq e48 (kB_sub brg B13 (by decide))
    have X48 : v48.toInt = mrg.toInt - v13.toInt := by rw [e48, kI_sub (by have := B13.2; have := brg.1; omega) (by have := B13.1; have := brg.2; omega)]
    have B48 : kB v48 1 254 := ⟨by rw [X48, X13]; have := L13.2; omega, by rw [X48]; have := B13.1; have := brg.2; omega⟩
    have R1 : v48.toInt = (kr1 pp.toInt bt.toInt mrg.toInt) := by rw [X48, X13]; unfold kr1; rw [if_neg (kn0 c16)]
    have WB : wB1 pp.toInt bt.toInt mrg.toInt Bz = (Bz + (1 + (mrg.toInt - 1) * pp.toInt / 256).toNat) % 4294967296 := by unfold wB1; rw [if_neg (kn0 c16)]
    have HB : v38 = lN ((Bz + (1 + (mrg.toInt - 1) * pp.toInt / 256).toNat) % 4294967296) := by rw [e38, e34, hB, e33, lM_i (nI_of_toInt (x := v13) (by have := B13.1; omega)) (by have := B13.2; omega), lN_add, X13]; exact lM_and (k := 32) (p := 4294967296) (by decide) (by decide) (by decide) (by have := B13.2; omega)
    have HB3 : (Bz + (1 + (mrg.toInt - 1) * pp.toInt / 256).toNat) % 4294967296 < 4294967296 := Nat.mod_lt _ (by decide)
    refine va_put (D := D) (ci := 8) (v := .int v48) (ty := .int) (C := RX8) (T := TX8) (N := 22) hx hb hts in_X8 tyX8 tyX8_ok nmX8 hown hK.1 hP hD hS 0 rfl rfl 5 (by decide) (hts _ mk_193) (fun _ h9 => h9) rfl (by decide +kernel) rfl rfl (Nat.le_of_ble_eq_true rfl) dX8_writeBit_49 (fun H locs hP hD hS => ?_)
    have hP : va_P D vwCl [(hm, .inr (8, [.int mrf, .ref hby, .int msz, .int mbg, .long v38, .int v48, .int mct, .int mvl, .int mpl, .int mcl, .int mrw, .int mqt, .int mlv, .int mtl, .int mbe, .int mch, .ref hpb, .ref hwa, .ref hmn, .ref hcf, .ref hsa, .ref hro])), (hby, .inl (cI, 600, .inl mby))] H := hP
    have hD : va_D A [(hm, .inr (8, [.int mrf, .ref hby, .int msz, .int mbg, .long v38, .int v48, .int mct, .int mvl, .int mpl, .int mcl, .int mrw, .int mqt, .int mlv, .int mtl, .int mbe, .int mch, .ref hpb, .ref hwa, .ref hmn, .ref hcf, .ref hsa, .ref hro])), (hby, .inl (cI, 600, .inl mby))] := hD
    exact lp_X8_writeBit_52 D cI cJ cZ hm hby hpb hwa hmn hcf hsa hro mrf msz mbg mrg mct mvl mpl mcl mrw mqt mlv mtl mbe mch mbt mby pp bt Bz brg bp bsz bct nf hB hB2 hx hb hr hml hown hts hlocks hK hA ((128 - v48.toInt).toNat + 1) msz v38 v48 mct mby ((Bz + (1 + (mrg.toInt - 1) * pp.toInt / 256).toNat) % 4294967296) (Nat.lt_succ_self _) (kB_w B48 (by decide) (by decide)) (kB_w bsz (by decide) (by decide)) bct nf (by rw [R1]) (by rw [R1]; omega) HB HB3 (by rw [R1, WB]) _ _ ls hP hD hS (lv_sub hl [1] rfl)
  · have c16x : kB bt 0 0 := kB_eq c16 kc_0
    refine lv_aload_n hx hb dX8_writeBit_19 rfl (lv_at hl 1 rfl) ?_
    refine lv_iload_n hx hb dX8_writeBit_20 rfl (lv_at hl 0 rfl) ?_
    have R1 : v13.toInt = (kr1 pp.toInt bt.toInt mrg.toInt) := by rw [X13]; unfold kr1; rw [if_pos (k0 c16)]
    have WB : wB1 pp.toInt bt.toInt mrg.toInt Bz = Bz := by unfold wB1; rw [if_pos (k0 c16)]
    have HB : mbt = lN Bz := hB
    have HB3 : Bz < 4294967296 := hB2
    refine va_put (D := D) (ci := 8) (v := .int v13) (ty := .int) (C := RX8) (T := TX8) (N := 22) hx hb hts in_X8 tyX8 tyX8_ok nmX8 hown hK.1 hP hD hS 0 rfl rfl 5 (by decide) (hts _ mk_193) (fun _ h9 => h9) rfl (by decide +kernel) rfl rfl (Nat.le_of_ble_eq_true rfl) dX8_writeBit_21 (fun H locs hP hD hS => ?_)
    have hP : va_P D vwCl [(hm, .inr (8, [.int mrf, .ref hby, .int msz, .int mbg, .long mbt, .int v13, .int mct, .int mvl, .int mpl, .int mcl, .int mrw, .int mqt, .int mlv, .int mtl, .int mbe, .int mch, .ref hpb, .ref hwa, .ref hmn, .ref hcf, .ref hsa, .ref hro])), (hby, .inl (cI, 600, .inl mby))] H := hP
    have hD : va_D A [(hm, .inr (8, [.int mrf, .ref hby, .int msz, .int mbg, .long mbt, .int v13, .int mct, .int mvl, .int mpl, .int mcl, .int mrw, .int mqt, .int mlv, .int mtl, .int mbe, .int mch, .ref hpb, .ref hwa, .ref hmn, .ref hcf, .ref hsa, .ref hro])), (hby, .inl (cI, 600, .inl mby))] := hD
    refine lv_goto (tgt := 52) hx hb dX8_writeBit_24 (by decide) ?_
    exact lp_X8_writeBit_52 D cI cJ cZ hm hby hpb hwa hmn hcf hsa hro mrf msz mbg mrg mct mvl mpl mcl mrw mqt mlv mtl mbe mch mbt mby pp bt Bz brg bp bsz bct nf hB hB2 hx hb hr hml hown hts hlocks hK hA ((128 - v13.toInt).toNat + 1) msz mbt v13 mct mby Bz (Nat.lt_succ_self _) (kB_w B13 (by decide) (by decide)) (kB_w bsz (by decide) (by decide)) bct nf (by rw [R1]) (by rw [R1]; omega) HB HB3 (by rw [R1, WB]) _ _ ls hP hD hS (lv_sub hl [1] rfl)
