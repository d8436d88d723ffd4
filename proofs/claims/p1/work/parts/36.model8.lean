abbrev kw_X8_get : List Cond := Cond.code yX8_get cX8_get 4 (some .int) :: kW
set_option maxHeartbeats 4000000 in
set_option maxRecDepth 100000 in
theorem c_X8_get (l : Launch) (D : va_G) (cI cJ cZ : ClassId) (hm hby hpb hwa hmn hcf hsa hro : Nat) (mrf : Int32) (msz : Int32) (mbg : Int32) (mrg : Int32) (mct : Int32) (mvl : Int32) (mpl : Int32) (mcl : Int32) (mrw : Int32) (mqt : Int32) (mlv : Int32) (mtl : Int32) (mbe : Int32) (mch : Int32) (mbt : Int64) (mby : Nat → Int32) (pp : Int32) (mn : Int32) (bsz : kB msz 0 600) (hrd_ : mbg = 2 → kB mrg 128 255 ∧ kB mct 0 7 ∧ 0 ≤ mpl.toInt ∧ mpl.toInt ≤ 998000000) (hpz : Nat) : Met l yX8_get kw_X8_get ({ frames := 3, cells := 0, slots := 0, locals := 68 }) (va_Pc [.ref hm, .int pp, .int mn] (fun U => U.heap.size = hpz ∧ va_P D vwCl [(hm, .inr (8, [.int mrf, .ref hby, .int msz, .int mbg, .long mbt, .int mrg, .int mct, .int mvl, .int mpl, .int mcl, .int mrw, .int mqt, .int mlv, .int mtl, .int mbe, .int mch, .ref hpb, .ref hwa, .ref hmn, .ref hcf, .ref hsa, .ref hro])), (hby, .inl (cI, 600, .inl mby))] U.heap ∧ kK D cI cJ cZ U ∧ va_D (fun _ => True) [(hm, .inr (8, [.int mrf, .ref hby, .int msz, .int mbg, .long mbt, .int mrg, .int mct, .int mvl, .int mpl, .int mcl, .int mrw, .int mqt, .int mlv, .int mtl, .int mbe, .int mch, .ref hpb, .ref hwa, .ref hmn, .ref hcf, .ref hsa, .ref hro])), (hby, .inl (cI, 600, .inl mby))])) (va_Qi (fun (r : Int32) (u : Int32 × Int32 × Int32 × Int32 × Int32) => (mbg = 2 → kB u.2.1 128 255 ∧ kB u.2.2.1 0 7 ∧ 0 ≤ u.2.2.2.2.toInt ∧ u.2.2.2.2.toInt ≤ mpl.toInt + 224) ∧ (¬ mbg = 2 → u.2.1 = mrg ∧ u.2.2.1 = mct) ∧ ((u.1 = 1 ∧ ¬ ((1 ≤ pp.toInt ∧ pp.toInt ≤ 255) ∧ (0 ≤ mn.toInt ∧ mn.toInt ≤ 32))) ∨ (u.1 = 2 ∧ ((1 ≤ pp.toInt ∧ pp.toInt ≤ 255) ∧ (0 ≤ mn.toInt ∧ mn.toInt ≤ 32)) ∧ ¬ mbg = 2) ∨ (u.1 = 0 ∧ mbg = 2))) (fun (u : Int32 × Int32 × Int32 × Int32 × Int32) (t : State) => va_P D vwCl [(hm, .inr (8, [.int u.1, .ref hby, .int msz, .int mbg, .long mbt, .int u.2.1, .int u.2.2.1, .int u.2.2.2.1, .int u.2.2.2.2, .int mcl, .int mrw, .int mqt, .int mlv, .int mtl, .int mbe, .int mch, .ref hpb, .ref hwa, .ref hmn, .ref hcf, .ref hsa, .ref hro])), (hby, .inl (cI, 600, .inl mby))] t.heap ∧ va_D (va_A [(hm, .inr (8, [.int mrf, .ref hby, .int msz, .int mbg, .long mbt, .int mrg, .int mct, .int mvl, .int mpl, .int mcl, .int mrw, .int mqt, .int mlv, .int mtl, .int mbe, .int mch, .ref hpb, .ref hwa, .ref hmn, .ref hcf, .ref hsa, .ref hro])), (hby, .inl (cI, 600, .inl mby))] hpz) [(hm, .inr (8, [.int u.1, .ref hby, .int msz, .int mbg, .long mbt, .int u.2.1, .int u.2.2.1, .int u.2.2.2.1, .int u.2.2.2.2, .int mcl, .int mrw, .int mqt, .int mlv, .int mtl, .int mbe, .int mch, .ref hpb, .ref hwa, .ref hmn, .ref hcf, .ref hsa, .ref hro])), (hby, .inl (cI, 600, .inl mby))]) (va_A [(hm, .inr (8, [.int mrf, .ref hby, .int msz, .int mbg, .long mbt, .int mrg, .int mct, .int mvl, .int mpl, .int mcl, .int mrw, .int mqt, .int mlv, .int mtl, .int mbe, .int mch, .ref hpb, .ref hwa, .ref hmn, .ref hcf, .ref hsa, .ref hro])), (hby, .inl (cI, 600, .inl mby))] hpz)) 0 0 (va_A [(hm, .inr (8, [.int mrf, .ref hby, .int msz, .int mbg, .long mbt, .int mrg, .int mct, .int mvl, .int mpl, .int mcl, .int mrw, .int mqt, .int mlv, .int mtl, .int mbe, .int mch, .ref hpb, .ref hwa, .ref hmn, .ref hcf, .ref hsa, .ref hro])), (hby, .inl (cI, 600, .inl mby))] hpz) := by
  refine Met.ofW (cc := cX8_get) (maxL := 4) (ret := (some .int)) (by decide) rfl ?_
  intro p e s m args below meth c s₁ B hml hv
  obtain ⟨rfl, hsz, hP, hK, hD0⟩ := hv
  have hx := B.exec
  have hb := B.bytes
  have hr := B.returns
  have hts := fun (w : Cond) (h : w ∈ kW) => atoms_spec (ws := kw_X8_get) B.pre w (List.mem_cons_of_mem _ h)
  have hown : s.vm.findClass RX8 = some m.cls := findClass_of_methodNamed B.named
  have hlocks := B.notSynchronized
  subst hsz
  have hD := hD0.self (sz := s.heap.size)
  generalize hAe : va_A [(hm, .inr (8, [.int mrf, .ref hby, .int msz, .int mbg, .long mbt, .int mrg, .int mct, .int mvl, .int mpl, .int mcl, .int mrw, .int mqt, .int mlv, .int mtl, .int mbe, .int mch, .ref hpb, .ref hwa, .ref hmn, .ref hcf, .ref hsa, .ref hro])), (hby, .inl (cI, 600, .inl mby))] s.heap.size = A at hD ⊢
  have hA : ∀ q : Nat, s.heap.size ≤ q → A q := fun q h => by rw [← hAe]; exact Or.inr h
  have hS : va_S A s.heap s.heap [] := va_S.rf
  have hP : va_P D vwCl [(hm, .inr (8, [.int mrf, .ref hby, .int msz, .int mbg, .long mbt, .int mrg, .int mct, .int mvl, .int mpl, .int mcl, .int mrw, .int mqt, .int mlv, .int mtl, .int mbe, .int mch, .ref hpb, .ref hwa, .ref hmn, .ref hcf, .ref hsa, .ref hro])), (hby, .inl (cI, 600, .inl mby))] s.heap := hP
  have hl := lv_entry ([.ref hm, .int pp, .int mn]) (n := 4) (Nat.le_of_ble_eq_true rfl)
  rw [lg_entry_eq]
  generalize (lg_sl ([.ref hm, .int pp, .int mn]) ++ List.replicate (4 - (lg_sl ([.ref hm, .int pp, .int mn])).length) Slot.unset).toArray = ls at hl ⊢
  have hl : lv_has ls 4 [(0, .ref hm), (1, .int pp), (2, .int mn)] := hl
  refine lv_iload_n hx hb dX8_get_0 rfl (lv_at hl 1 rfl) ?_
  refine lv_iconst (v := 1) hx hb dX8_get_1 (by decide) ?_
  refine lv_sipush (v := 255) hx hb dX8_get_2 (by decide) ?_
  have hPc := hP.sub (ws' := []) [] rfl
  have hDc := hD.sub (ws' := []) [] (by decide) rfl
  have hFc := va_free (wc := []) hD hS hA [] rfl
  refine va_calli (va_runS (As := [.int pp, .int 1, .int 255]) (rest := []) ⟨hx, hb, hml, hown, hts⟩ (c_X8_isIn l D cI cJ cZ pp 1 255 (s.heap).size) (cwS 3 hts (kg_S mk_369 mk_370 mk_189 mk_371) rfl rfl rfl (by decide +kernel) ⟨Nat.le_of_ble_eq_true rfl, Nat.le_of_ble_eq_true rfl⟩) ⟨fun a U g mk q => by obtain ⟨q0, q1, qP, qK, qD⟩ := q; exact ⟨q0, q1, qP, kK.call qK, qD⟩, fun U hU hW => ⟨rfl, by rw [hU], by rw [hU]; exact hPc, kK.warm hW hK, hDc.weaken (fun _ _ _ _ => trivial)⟩⟩ rfl rfl hl.1 rfl (lv_room (Nat.le_of_ble_eq_true rfl)) dX8_get_5 ⟨Nat.zero_le _, Nat.zero_le _⟩) hS (fun q _ h => hFc q h) hFc (fun r5 u t9 H1 locs ht9 hvm9 hw9 hB9 hz9 hk9 hS => ?_)
  obtain ⟨hP1, hD1⟩ := hB9
  rw [ht9] at hP1
  have hP1 : va_P D vwCl [] H1 := hP1
  obtain ⟨hP, hD⟩ := va_join (wr := [(hm, .inr (8, [.int mrf, .ref hby, .int msz, .int mbg, .long mbt, .int mrg, .int mct, .int mvl, .int mpl, .int mcl, .int mrw, .int mqt, .int mlv, .int mtl, .int mbe, .int mch, .ref hpb, .ref hwa, .ref hmn, .ref hcf, .ref hsa, .ref hro])), (hby, .inl (cI, 600, .inl mby))]) (w1 := []) hP hD [] [0, 1] rfl rfl (by decide) (by decide) hk9 hFc hP1 hD1
  have hP := hP.sub (ws' := [(hm, .inr (8, [.int mrf, .ref hby, .int msz, .int mbg, .long mbt, .int mrg, .int mct, .int mvl, .int mpl, .int mcl, .int mrw, .int mqt, .int mlv, .int mtl, .int mbe, .int mch, .ref hpb, .ref hwa, .ref hmn, .ref hcf, .ref hsa, .ref hro])), (hby, .inl (cI, 600, .inl mby))]) [0, 1] rfl
  have hD := hD.sub (ws' := [(hm, .inr (8, [.int mrf, .ref hby, .int msz, .int mbg, .long mbt, .int mrg, .int mct, .int mvl, .int mpl, .int mcl, .int mrw, .int mqt, .int mlv, .int mtl, .int mbe, .int mch, .ref hpb, .ref hwa, .ref hmn, .ref hcf, .ref hsa, .ref hro])), (hby, .inl (cI, 600, .inl mby))]) [0, 1] (by decide) rfl
  generalize H1 = H at hP hS ⊢
  obtain ⟨q5_0, q5_1, q5_2⟩ := hw9
  have q5_0 : kB r5 0 1 := q5_0
  have q5_1 : r5 = if (1 : Int32).toInt ≤ pp.toInt ∧ pp.toInt ≤ (255 : Int32).toInt then 1 else 0 := q5_1
  have q5_2 : ¬ r5 = 0 → (1 : Int32).toInt ≤ pp.toInt ∧ pp.toInt ≤ (255 : Int32).toInt := q5_2
  refine lv_if_eq (tgt := 25) hx hb dX8_get_8 (by decide) (fun c8 => ?_) (fun c8 => ?_)
  · have c8x : kB r5 0 0 := kB_eq c8 kc_0
    have HP : ¬ (1 ≤ pp.toInt ∧ pp.toInt ≤ 255) := fun h9 => by have h8 := q5_1; rw [if_pos (by rw [show (1 : Int32).toInt = 1 from by decide, show (255 : Int32).toInt = 255 from by decide]; exact h9), c8] at h8; exact absurd h8 (by decide)
    have HS : ¬ ((1 ≤ pp.toInt ∧ pp.toInt ≤ 255) ∧ (0 ≤ mn.toInt ∧ mn.toInt ≤ 32)) := fun h9 => by first | exact HN h9.2 | exact HP h9.1
    refine lv_iconst (v := 0) hx hb dX8_get_25 (by decide) ?_
    refine lv_istore_n (lv' := [(3, .int 0), (0, .ref hm), (1, .int pp), (2, .int mn)]) hx hb dX8_get_26 rfl hl (by decide) rfl (fun ls hl => ?_)
    refine lv_aload_n hx hb dX8_get_27 rfl (lv_at hl 1 rfl) ?_
    refine lv_iload_n hx hb dX8_get_28 rfl (lv_at hl 0 rfl) ?_
    refine lv_if_ne (tgt := 36) hx hb dX8_get_29 (by decide) (fun c29 => ?_) (fun c29 => ?_)
    · exact absurd rfl c29
    · refine lv_iconst (v := 1) hx hb dX8_get_32 (by decide) ?_
      refine lv_goto (tgt := 49) hx hb dX8_get_33 (by decide) ?_
      have hPc := hP.sub (ws' := [(hm, .inr (8, [.int mrf, .ref hby, .int msz, .int mbg, .long mbt, .int mrg, .int mct, .int mvl, .int mpl, .int mcl, .int mrw, .int mqt, .int mlv, .int mtl, .int mbe, .int mch, .ref hpb, .ref hwa, .ref hmn, .ref hcf, .ref hsa, .ref hro]))]) [0] rfl
      have hDc := hD.sub (ws' := [(hm, .inr (8, [.int mrf, .ref hby, .int msz, .int mbg, .long mbt, .int mrg, .int mct, .int mvl, .int mpl, .int mcl, .int mrw, .int mqt, .int mlv, .int mtl, .int mbe, .int mch, .ref hpb, .ref hwa, .ref hmn, .ref hcf, .ref hsa, .ref hro]))]) [0] (by decide) rfl
      have hFc := va_free (wc := [(hm, .inr (8, [.int mrf, .ref hby, .int msz, .int mbg, .long mbt, .int mrg, .int mct, .int mvl, .int mpl, .int mcl, .int mrw, .int mqt, .int mlv, .int mtl, .int mbe, .int mch, .ref hpb, .ref hwa, .ref hmn, .ref hcf, .ref hsa, .ref hro]))]) hD hS hA [0] rfl
      refine va_calli (va_runV (As := [.int 1]) (rest := []) ⟨hx, hb, hml, hown, hts⟩ (c_X8_refused l D cI cJ cZ hm hby hpb hwa hmn hcf hsa hro mrf msz mbg mrg mct mvl mpl mcl mrw mqt mlv mtl mbe mch mbt 1 (H).size) (cwV 1 hts (kg_V mk_372 mk_373 mk_374 mk_189 mk_375) rfl rfl rfl (by decide +kernel) ⟨Nat.le_of_ble_eq_true rfl, Nat.le_of_ble_eq_true rfl⟩) ⟨fun a U g mk q => by obtain ⟨q0, q1, qP, qK, qD⟩ := q; exact ⟨q0, q1, qP, kK.call qK, qD⟩, va_recv hK.1 hPc (ci := 8) (q0 := 0) rfl rfl, fun U hU hW => ⟨rfl, by rw [hU], by rw [hU]; exact hPc, kK.warm hW hK, hDc.weaken (fun _ _ _ _ => trivial)⟩⟩ rfl rfl hl.1 rfl (lv_room (Nat.le_of_ble_eq_true rfl)) dX8_get_49 ⟨Nat.zero_le _, Nat.zero_le _⟩) hS (fun q _ h => hFc q h) hFc (fun r49 u t9 H1 locs ht9 hvm9 hw9 hB9 hz9 hk9 hS => ?_)
      obtain ⟨hP1, hD1⟩ := hB9
      rw [ht9] at hP1
      have hP1 : va_P D vwCl [(hm, .inr (8, [.int 1, .ref hby, .int msz, .int mbg, .long mbt, .int mrg, .int mct, .int mvl, .int mpl, .int mcl, .int mrw, .int mqt, .int mlv, .int mtl, .int mbe, .int mch, .ref hpb, .ref hwa, .ref hmn, .ref hcf, .ref hsa, .ref hro]))] H1 := hP1
      obtain ⟨hP, hD⟩ := va_join (wr := [(hby, .inl (cI, 600, .inl mby))]) (w1 := [(hm, .inr (8, [.int 1, .ref hby, .int msz, .int mbg, .long mbt, .int mrg, .int mct, .int mvl, .int mpl, .int mcl, .int mrw, .int mqt, .int mlv, .int mtl, .int mbe, .int mch, .ref hpb, .ref hwa, .ref hmn, .ref hcf, .ref hsa, .ref hro]))]) hP hD [0] [1] rfl rfl (by decide) (by decide) hk9 hFc hP1 hD1
      have hP := hP.sub (ws' := [(hm, .inr (8, [.int 1, .ref hby, .int msz, .int mbg, .long mbt, .int mrg, .int mct, .int mvl, .int mpl, .int mcl, .int mrw, .int mqt, .int mlv, .int mtl, .int mbe, .int mch, .ref hpb, .ref hwa, .ref hmn, .ref hcf, .ref hsa, .ref hro])), (hby, .inl (cI, 600, .inl mby))]) [1, 0] rfl
      have hD := hD.sub (ws' := [(hm, .inr (8, [.int 1, .ref hby, .int msz, .int mbg, .long mbt, .int mrg, .int mct, .int mvl, .int mpl, .int mcl, .int mrw, .int mqt, .int mlv, .int mtl, .int mbe, .int mch, .ref hpb, .ref hwa, .ref hmn, .ref hcf, .ref hsa, .ref hro])), (hby, .inl (cI, 600, .inl mby))]) [1, 0] (by decide) rfl
      generalize H1 = H at hP hS ⊢
      obtain ⟨q49_0, q49_1⟩ := hw9
      have q49_0 : kB r49 0 1 := q49_0
      have q49_1 : r49 = if 0 < (1 : Int32).toInt then 1 else 0 := q49_1
      have RB49 : kB r49 1 1 := by rw [q49_1]; decide
      refine lv_if_eq (tgt := 57) hx hb dX8_get_52 (by decide) (fun c52 => ?_) (fun c52 => ?_)
      · have c52x : kB r49 0 0 := kB_eq c52 kc_0
        exact absurd (Int.le_trans RB49.1 c52x.2) (by decide)
      · refine lv_iconst (v := 0) hx hb dX8_get_55 (by decide) ?_
        have pf_x : mbg = 2 → kB mrg 128 255 ∧ kB mct 0 7 ∧ 0 ≤ mpl.toInt ∧ mpl.toInt ≤ mpl.toInt + 224 := (fun h => ⟨(hrd_ h).1, (hrd_ h).2.1, (hrd_ h).2.2.1, by omega⟩)
        have pf_y : ¬ mbg = 2 → mrg = mrg ∧ mct = mct := (fun _ => ⟨rfl, rfl⟩)
        have pf_z : ((1 : Int32) = 1 ∧ ¬ ((1 ≤ pp.toInt ∧ pp.toInt ≤ 255) ∧ (0 ≤ mn.toInt ∧ mn.toInt ≤ 32))) ∨ ((1 : Int32) = 2 ∧ ((1 ≤ pp.toInt ∧ pp.toInt ≤ 255) ∧ (0 ≤ mn.toInt ∧ mn.toInt ≤ 32)) ∧ ¬ mbg = 2) ∨ ((1 : Int32) = 0 ∧ mbg = 2) := (Or.inl ⟨rfl, HS⟩)
        exact W.iret (v := 0) hx hb hr (fun t9 ht9 hW9 => ⟨⟨0, (1, mrg, mct, mvl, mpl), rfl, ⟨pf_x, pf_y, pf_z⟩, by rw [ht9]; exact hP, hD⟩, hS.F ht9⟩) hS.2.2 dX8_get_56
  · have c8x : kB r5 1 1 := kB_nlo q5_0 c8 kc_0 (by decide)
    have HP : (1 ≤ pp.toInt ∧ pp.toInt ≤ 255) := by have h9 := q5_2 c8; rw [show (1 : Int32).toInt = 1 from by decide, show (255 : Int32).toInt = 255 from by decide] at h9; exact h9
    refine lv_iload_n hx hb dX8_get_11 rfl (lv_at hl 2 rfl) ?_
    refine lv_iconst (v := 0) hx hb dX8_get_12 (by decide) ?_
    refine lv_bipush (v := 32) hx hb dX8_get_13 (by decide) ?_
    have hPc := hP.sub (ws' := []) [] rfl
    have hDc := hD.sub (ws' := []) [] (by decide) rfl
    have hFc := va_free (wc := []) hD hS hA [] rfl
    refine va_calli (va_runS (As := [.int mn, .int 0, .int 32]) (rest := []) ⟨hx, hb, hml, hown, hts⟩ (c_X8_isIn l D cI cJ cZ mn 0 32 (H).size) (cwS 3 hts (kg_S mk_369 mk_370 mk_189 mk_371) rfl rfl rfl (by decide +kernel) ⟨Nat.le_of_ble_eq_true rfl, Nat.le_of_ble_eq_true rfl⟩) ⟨fun a U g mk q => by obtain ⟨q0, q1, qP, qK, qD⟩ := q; exact ⟨q0, q1, qP, kK.call qK, qD⟩, fun U hU hW => ⟨rfl, by rw [hU], by rw [hU]; exact hPc, kK.warm hW hK, hDc.weaken (fun _ _ _ _ => trivial)⟩⟩ rfl rfl hl.1 rfl (lv_room (Nat.le_of_ble_eq_true rfl)) dX8_get_15 ⟨Nat.zero_le _, Nat.zero_le _⟩) hS (fun q _ h => hFc q h) hFc (fun r15 u t9 H1 locs ht9 hvm9 hw9 hB9 hz9 hk9 hS => ?_)
    obtain ⟨hP1, hD1⟩ := hB9
    rw [ht9] at hP1
    have hP1 : va_P D vwCl [] H1 := hP1
    obtain ⟨hP, hD⟩ := va_join (wr := [(hm, .inr (8, [.int mrf, .ref hby, .int msz, .int mbg, .long mbt, .int mrg, .int mct, .int mvl, .int mpl, .int mcl, .int mrw, .int mqt, .int mlv, .int mtl, .int mbe, .int mch, .ref hpb, .ref hwa, .ref hmn, .ref hcf, .ref hsa, .ref hro])), (hby, .inl (cI, 600, .inl mby))]) (w1 := []) hP hD [] [0, 1] rfl rfl (by decide) (by decide) hk9 hFc hP1 hD1
    have hP := hP.sub (ws' := [(hm, .inr (8, [.int mrf, .ref hby, .int msz, .int mbg, .long mbt, .int mrg, .int mct, .int mvl, .int mpl, .int mcl, .int mrw, .int mqt, .int mlv, .int mtl, .int mbe, .int mch, .ref hpb, .ref hwa, .ref hmn, .ref hcf, .ref hsa, .ref hro])), (hby, .inl (cI, 600, .inl mby))]) [0, 1] rfl
    have hD := hD.sub (ws' := [(hm, .inr (8, [.int mrf, .ref hby, .int msz, .int mbg, .long mbt, .int mrg, .int mct, .int mvl, .int mpl, .int mcl, .int mrw, .int mqt, .int mlv, .int mtl, .int mbe, .int mch, .ref hpb, .ref hwa, .ref hmn, .ref hcf, .ref hsa, .ref hro])), (hby, .inl (cI, 600, .inl mby))]) [0, 1] (by decide) rfl
    generalize H1 = H at hP hS ⊢
    obtain ⟨q15_0, q15_1, q15_2⟩ := hw9
    have q15_0 : kB r15 0 1 := q15_0
    have q15_1 : r15 = if (0 : Int32).toInt ≤ mn.toInt ∧ mn.toInt ≤ (32 : Int32).toInt then 1 else 0 := q15_1
    have q15_2 : ¬ r15 = 0 → (0 : Int32).toInt ≤ mn.toInt ∧ mn.toInt ≤ (32 : Int32).toInt := q15_2
    refine lv_if_eq (tgt := 25) hx hb dX8_get_18 (by decide) (fun c18 => ?_) (fun c18 => ?_)
    · have c18x : kB r15 0 0 := kB_eq c18 kc_0
      have HN : ¬ (0 ≤ mn.toInt ∧ mn.toInt ≤ 32) := fun h9 => by have h8 := q15_1; rw [if_pos (by rw [show (0 : Int32).toInt = 0 from by decide, show (32 : Int32).toInt = 32 from by decide]; exact h9), c18] at h8; exact absurd h8 (by decide)
      have HS : ¬ ((1 ≤ pp.toInt ∧ pp.toInt ≤ 255) ∧ (0 ≤ mn.toInt ∧ mn.toInt ≤ 32)) := fun h9 => by first | exact HN h9.2 | exact HP h9.1
      refine lv_iconst (v := 0) hx hb dX8_get_25 (by decide) ?_
      refine lv_istore_n (lv' := [(3, .int 0), (0, .ref hm), (1, .int pp), (2, .int mn)]) hx hb dX8_get_26 rfl hl (by decide) rfl (fun ls hl => ?_)
      refine lv_aload_n hx hb dX8_get_27 rfl (lv_at hl 1 rfl) ?_
      refine lv_iload_n hx hb dX8_get_28 rfl (lv_at hl 0 rfl) ?_
      refine lv_if_ne (tgt := 36) hx hb dX8_get_29 (by decide) (fun c29 => ?_) (fun c29 => ?_)
      · exact absurd rfl c29
      · refine lv_iconst (v := 1) hx hb dX8_get_32 (by decide) ?_
        refine lv_goto (tgt := 49) hx hb dX8_get_33 (by decide) ?_
        have hPc := hP.sub (ws' := [(hm, .inr (8, [.int mrf, .ref hby, .int msz, .int mbg, .long mbt, .int mrg, .int mct, .int mvl, .int mpl, .int mcl, .int mrw, .int mqt, .int mlv, .int mtl, .int mbe, .int mch, .ref hpb, .ref hwa, .ref hmn, .ref hcf, .ref hsa, .ref hro]))]) [0] rfl
        have hDc := hD.sub (ws' := [(hm, .inr (8, [.int mrf, .ref hby, .int msz, .int mbg, .long mbt, .int mrg, .int mct, .int mvl, .int mpl, .int mcl, .int mrw, .int mqt, .int mlv, .int mtl, .int mbe, .int mch, .ref hpb, .ref hwa, .ref hmn, .ref hcf, .ref hsa, .ref hro]))]) [0] (by decide) rfl
        have hFc := va_free (wc := [(hm, .inr (8, [.int mrf, .ref hby, .int msz, .int mbg, .long mbt, .int mrg, .int mct, .int mvl, .int mpl, .int mcl, .int mrw, .int mqt, .int mlv, .int mtl, .int mbe, .int mch, .ref hpb, .ref hwa, .ref hmn, .ref hcf, .ref hsa, .ref hro]))]) hD hS hA [0] rfl
        refine va_calli (va_runV (As := [.int 1]) (rest := []) ⟨hx, hb, hml, hown, hts⟩ (c_X8_refused l D cI cJ cZ hm hby hpb hwa hmn hcf hsa hro mrf msz mbg mrg mct mvl mpl mcl mrw mqt mlv mtl mbe mch mbt 1 (H).size) (cwV 1 hts (kg_V mk_372 mk_373 mk_374 mk_189 mk_375) rfl rfl rfl (by decide +kernel) ⟨Nat.le_of_ble_eq_true rfl, Nat.le_of_ble_eq_true rfl⟩) ⟨fun a U g mk q => by obtain ⟨q0, q1, qP, qK, qD⟩ := q; exact ⟨q0, q1, qP, kK.call qK, qD⟩, va_recv hK.1 hPc (ci := 8) (q0 := 0) rfl rfl, fun U hU hW => ⟨rfl, by rw [hU], by rw [hU]; exact hPc, kK.warm hW hK, hDc.weaken (fun _ _ _ _ => trivial)⟩⟩ rfl rfl hl.1 rfl (lv_room (Nat.le_of_ble_eq_true rfl)) dX8_get_49 ⟨Nat.zero_le _, Nat.zero_le _⟩) hS (fun q _ h => hFc q h) hFc (fun r49 u t9 H1 locs ht9 hvm9 hw9 hB9 hz9 hk9 hS => ?_)
        obtain ⟨hP1, hD1⟩ := hB9
        rw [ht9] at hP1
        have hP1 : va_P D vwCl [(hm, .inr (8, [.int 1, .ref hby, .int msz, .int mbg, .long mbt, .int mrg, .int mct, .int mvl, .int mpl, .int mcl, .int mrw, .int mqt, .int mlv, .int mtl, .int mbe, .int mch, .ref hpb, .ref hwa, .ref hmn, .ref hcf, .ref hsa, .ref hro]))] H1 := hP1
        obtain ⟨hP, hD⟩ := va_join (wr := [(hby, .inl (cI, 600, .inl mby))]) (w1 := [(hm, .inr (8, [.int 1, .ref hby, .int msz, .int mbg, .long mbt, .int mrg, .int mct, .int mvl, .int mpl, .int mcl, .int mrw, .int mqt, .int mlv, .int mtl, .int mbe, .int mch, .ref hpb, .ref hwa, .ref hmn, .ref hcf, .ref hsa, .ref hro]))]) hP hD [0] [1] rfl rfl (by decide) (by decide) hk9 hFc hP1 hD1
        have hP := hP.sub (ws' := [(hm, .inr (8, [.int 1, .ref hby, .int msz, .int mbg, .long mbt, .int mrg, .int mct, .int mvl, .int mpl, .int mcl, .int mrw, .int mqt, .int mlv, .int mtl, .int mbe, .int mch, .ref hpb, .ref hwa, .ref hmn, .ref hcf, .ref hsa, .ref hro])), (hby, .inl (cI, 600, .inl mby))]) [1, 0] rfl
        have hD := hD.sub (ws' := [(hm, .inr (8, [.int 1, .ref hby, .int msz, .int mbg, .long mbt, .int mrg, .int mct, .int mvl, .int mpl, .int mcl, .int mrw, .int mqt, .int mlv, .int mtl, .int mbe, .int mch, .ref hpb, .ref hwa, .ref hmn, .ref hcf, .ref hsa, .ref hro])), (hby, .inl (cI, 600, .inl mby))]) [1, 0] (by decide) rfl
        generalize H1 = H at hP hS ⊢
        obtain ⟨q49_0, q49_1⟩ := hw9
        have q49_0 : kB r49 0 1 := q49_0
        have q49_1 : r49 = if 0 < (1 : Int32).toInt then 1 else 0 := q49_1
        have RB49 : kB r49 1 1 := by rw [q49_1]; decide
        refine lv_if_eq (tgt := 57) hx hb dX8_get_52 (by decide) (fun c52 => ?_) (fun c52 => ?_)
        · have c52x : kB r49 0 0 := kB_eq c52 kc_0
          exact absurd (Int.le_trans RB49.1 c52x.2) (by decide)
        · refine lv_iconst (v := 0) hx hb dX8_get_55 (by decide) ?_
          have pf_x : mbg = 2 → kB mrg 128 255 ∧ kB mct 0 7 ∧ 0 ≤ mpl.toInt ∧ mpl.toInt ≤ mpl.toInt + 224 := (fun h => ⟨(hrd_ h).1, (hrd_ h).2.1, (hrd_ h).2.2.1, by omega⟩)
          have pf_y : ¬ mbg = 2 → mrg = mrg ∧ mct = mct := (fun _ => ⟨rfl, rfl⟩)
          have pf_z : ((1 : Int32) = 1 ∧ ¬ ((1 ≤ pp.toInt ∧ pp.toInt ≤ 255) ∧ (0 ≤ mn.toInt ∧ mn.toInt ≤ 32))) ∨ ((1 : Int32) = 2 ∧ ((1 ≤ pp.toInt ∧ pp.toInt ≤ 255) ∧ (0 ≤ mn.toInt ∧ mn.toInt ≤ 32)) ∧ ¬ mbg = 2) ∨ ((1 : Int32) = 0 ∧ mbg = 2) := (Or.inl ⟨rfl, HS⟩)
          exact W.iret (v := 0) hx hb hr (fun t9 ht9 hW9 => ⟨⟨0, (1, mrg, mct, mvl, mpl), rfl, ⟨pf_x, pf_y, pf_z⟩, by rw [ht9]; exact hP, hD⟩, hS.F ht9⟩) hS.2.2 dX8_get_56
    · have c18x : kB r15 1 1 := kB_nlo q15_0 c18 kc_0 (by decide)
      have HN : (0 ≤ mn.toInt ∧ mn.toInt ≤ 32) := by have h9 := q15_2 c18; rw [show (0 : Int32).toInt = 0 from by decide, show (32 : Int32).toInt = 32 from by decide] at h9; exact h9
      have HS : ((1 ≤ pp.toInt ∧ pp.toInt ≤ 255) ∧ (0 ≤ mn.toInt ∧ mn.toInt ≤ 32)) := ⟨HP, HN⟩
      refine lv_iconst (v := 1) hx hb dX8_get_21 (by decide) ?_
      refine lv_goto (tgt := 26) hx hb dX8_get_22 (by decide) ?_
      refine lv_istore_n (lv' := [(3, .int 1), (0, .ref hm), (1, .int pp), (2, .int mn)]) hx hb dX8_get_26 rfl hl (by decide) rfl (fun ls hl => ?_)
      refine lv_aload_n hx hb dX8_get_27 rfl (lv_at hl 1 rfl) ?_
      refine lv_iload_n hx hb dX8_get_28 rfl (lv_at hl 0 rfl) ?_
      refine lv_if_ne (tgt := 36) hx hb dX8_get_29 (by decide) (fun c29 => ?_) (fun c29 => ?_)
      · refine lv_aload_n hx hb dX8_get_36 rfl (lv_at hl 1 rfl) ?_
        refine va_get (D := D) (ci := 8) (v := .int mbg) (C := RX8) (T := TX8) (N := 22) hx hb hts in_X8 hown hK.1 hP 0 rfl rfl 3 (by decide) (hts _ mk_195) (fun _ h9 => h9) rfl dX8_get_37 ?_
        refine lv_iconst (v := 2) hx hb dX8_get_40 (by decide) ?_
        refine lv_icmp_eq (tgt := 48) hx hb dX8_get_41 (by decide) (fun c41 => ?_) (fun c41 => ?_)
        · have c41x : kB mbg 2 2 := kB_eq c41 kc_2
          refine lv_iconst (v := 0) hx hb dX8_get_48 (by decide) ?_
          have hPc := hP.sub (ws' := [(hm, .inr (8, [.int mrf, .ref hby, .int msz, .int mbg, .long mbt, .int mrg, .int mct, .int mvl, .int mpl, .int mcl, .int mrw, .int mqt, .int mlv, .int mtl, .int mbe, .int mch, .ref hpb, .ref hwa, .ref hmn, .ref hcf, .ref hsa, .ref hro]))]) [0] rfl
          have hDc := hD.sub (ws' := [(hm, .inr (8, [.int mrf, .ref hby, .int msz, .int mbg, .long mbt, .int mrg, .int mct, .int mvl, .int mpl, .int mcl, .int mrw, .int mqt, .int mlv, .int mtl, .int mbe, .int mch, .ref hpb, .ref hwa, .ref hmn, .ref hcf, .ref hsa, .ref hro]))]) [0] (by decide) rfl
          have hFc := va_free (wc := [(hm, .inr (8, [.int mrf, .ref hby, .int msz, .int mbg, .long mbt, .int mrg, .int mct, .int mvl, .int mpl, .int mcl, .int mrw, .int mqt, .int mlv, .int mtl, .int mbe, .int mch, .ref hpb, .ref hwa, .ref hmn, .ref hcf, .ref hsa, .ref hro]))]) hD hS hA [0] rfl
          refine va_calli (va_runV (As := [.int 0]) (rest := []) ⟨hx, hb, hml, hown, hts⟩ (c_X8_refused l D cI cJ cZ hm hby hpb hwa hmn hcf hsa hro mrf msz mbg mrg mct mvl mpl mcl mrw mqt mlv mtl mbe mch mbt 0 (H).size) (cwV 1 hts (kg_V mk_372 mk_373 mk_374 mk_189 mk_375) rfl rfl rfl (by decide +kernel) ⟨Nat.le_of_ble_eq_true rfl, Nat.le_of_ble_eq_true rfl⟩) ⟨fun a U g mk q => by obtain ⟨q0, q1, qP, qK, qD⟩ := q; exact ⟨q0, q1, qP, kK.call qK, qD⟩, va_recv hK.1 hPc (ci := 8) (q0 := 0) rfl rfl, fun U hU hW => ⟨rfl, by rw [hU], by rw [hU]; exact hPc, kK.warm hW hK, hDc.weaken (fun _ _ _ _ => trivial)⟩⟩ rfl rfl hl.1 rfl (lv_room (Nat.le_of_ble_eq_true rfl)) dX8_get_49 ⟨Nat.zero_le _, Nat.zero_le _⟩) hS (fun q _ h => hFc q h) hFc (fun r49 u t9 H1 locs ht9 hvm9 hw9 hB9 hz9 hk9 hS => ?_)
          obtain ⟨hP1, hD1⟩ := hB9
          rw [ht9] at hP1
          have hP1 : va_P D vwCl [(hm, .inr (8, [.int 0, .ref hby, .int msz, .int mbg, .long mbt, .int mrg, .int mct, .int mvl, .int mpl, .int mcl, .int mrw, .int mqt, .int mlv, .int mtl, .int mbe, .int mch, .ref hpb, .ref hwa, .ref hmn, .ref hcf, .ref hsa, .ref hro]))] H1 := hP1
          obtain ⟨hP, hD⟩ := va_join (wr := [(hby, .inl (cI, 600, .inl mby))]) (w1 := [(hm, .inr (8, [.int 0, .ref hby, .int msz, .int mbg, .long mbt, .int mrg, .int mct, .int mvl, .int mpl, .int mcl, .int mrw, .int mqt, .int mlv, .int mtl, .int mbe, .int mch, .ref hpb, .ref hwa, .ref hmn, .ref hcf, .ref hsa, .ref hro]))]) hP hD [0] [1] rfl rfl (by decide) (by decide) hk9 hFc hP1 hD1
          have hP := hP.sub (ws' := [(hm, .inr (8, [.int 0, .ref hby, .int msz, .int mbg, .long mbt, .int mrg, .int mct, .int mvl, .int mpl, .int mcl, .int mrw, .int mqt, .int mlv, .int mtl, .int mbe, .int mch, .ref hpb, .ref hwa, .ref hmn, .ref hcf, .ref hsa, .ref hro])), (hby, .inl (cI, 600, .inl mby))]) [1, 0] rfl
          have hD := hD.sub (ws' := [(hm, .inr (8, [.int 0, .ref hby, .int msz, .int mbg, .long mbt, .int mrg, .int mct, .int mvl, .int mpl, .int mcl, .int mrw, .int mqt, .int mlv, .int mtl, .int mbe, .int mch, .ref hpb, .ref hwa, .ref hmn, .ref hcf, .ref hsa, .ref hro])), (hby, .inl (cI, 600, .inl mby))]) [1, 0] (by decide) rfl
          generalize H1 = H at hP hS ⊢
          obtain ⟨q49_0, q49_1⟩ := hw9
          have q49_0 : kB r49 0 1 := q49_0
          have q49_1 : r49 = if 0 < (0 : Int32).toInt then 1 else 0 := q49_1
          have RB49 : kB r49 0 0 := by rw [q49_1]; decide
          refine lv_if_eq (tgt := 57) hx hb dX8_get_52 (by decide) (fun c52 => ?_) (fun c52 => ?_)
          · obtain ⟨brg0, bct0, hp1, hp2⟩ := hrd_ c41
            have bp0 : kB pp 0 255 := ⟨by have := HP.1; omega, HP.2⟩
            have bmn0 : kB mn 0 32 := HN
            have brg1 : kB mrg 128 255 := brg0
            have bct1 : kB mct 0 7 := bct0
            refine lv_aload_n hx hb dX8_get_57 rfl (lv_at hl 1 rfl) ?_
            refine lv_iload_n hx hb dX8_get_58 rfl (lv_at hl 2 rfl) ?_
            refine lv_iload_n hx hb dX8_get_59 rfl (lv_at hl 3 rfl) ?_
            have hPc := hP.sub (ws' := [(hm, .inr (8, [.int 0, .ref hby, .int msz, .int mbg, .long mbt, .int mrg, .int mct, .int mvl, .int mpl, .int mcl, .int mrw, .int mqt, .int mlv, .int mtl, .int mbe, .int mch, .ref hpb, .ref hwa, .ref hmn, .ref hcf, .ref hsa, .ref hro])), (hby, .inl (cI, 600, .inl mby))]) [0, 1] rfl
            have hDc := hD.sub (ws' := [(hm, .inr (8, [.int 0, .ref hby, .int msz, .int mbg, .long mbt, .int mrg, .int mct, .int mvl, .int mpl, .int mcl, .int mrw, .int mqt, .int mlv, .int mtl, .int mbe, .int mch, .ref hpb, .ref hwa, .ref hmn, .ref hcf, .ref hsa, .ref hro])), (hby, .inl (cI, 600, .inl mby))]) [0, 1] (by decide) rfl
            have hFc := va_free (wc := [(hm, .inr (8, [.int 0, .ref hby, .int msz, .int mbg, .long mbt, .int mrg, .int mct, .int mvl, .int mpl, .int mcl, .int mrw, .int mqt, .int mlv, .int mtl, .int mbe, .int mch, .ref hpb, .ref hwa, .ref hmn, .ref hcf, .ref hsa, .ref hro])), (hby, .inl (cI, 600, .inl mby))]) hD hS hA [0, 1] rfl
            refine va_calli (va_runV (As := [.int pp, .int mn]) (rest := []) ⟨hx, hb, hml, hown, hts⟩ (c_X8_readMany l D cI cJ cZ hm hby hpb hwa hmn hcf hsa hro 0 msz mbg mrg mct mvl mpl mcl mrw mqt mlv mtl mbe mch mbt mby pp mn brg1 bct1 bsz bp0 bmn0 (by first | assumption | omega) (H).size) (cwV 2 hts (kg_V mk_288 mk_289 mk_290 mk_189 mk_291) rfl rfl rfl (by decide +kernel) ⟨Nat.le_of_ble_eq_true rfl, Nat.le_of_ble_eq_true rfl⟩) ⟨fun a U g mk q => by obtain ⟨q0, q1, qP, qK, qD⟩ := q; exact ⟨q0, q1, qP, kK.call qK, qD⟩, va_recv hK.1 hPc (ci := 8) (q0 := 0) rfl rfl, fun U hU hW => ⟨rfl, by rw [hU], by rw [hU]; exact hPc, kK.warm hW hK, hDc.weaken (fun _ _ _ _ => trivial)⟩⟩ rfl rfl hl.1 rfl (lv_room (Nat.le_of_ble_eq_true rfl)) dX8_get_60 ⟨Nat.zero_le _, Nat.zero_le _⟩) hS (fun q _ h => hFc q h) hFc (fun r60 u t9 H1 locs ht9 hvm9 hw9 hB9 hz9 hk9 hS => ?_)
            obtain ⟨mrg2_60, mct2_60, mvl2_60, mpl2_60⟩ := u
            obtain ⟨hP1, hD1⟩ := hB9
            rw [ht9] at hP1
            have hP1 : va_P D vwCl [(hm, .inr (8, [.int 0, .ref hby, .int msz, .int mbg, .long mbt, .int mrg2_60, .int mct2_60, .int mvl2_60, .int mpl2_60, .int mcl, .int mrw, .int mqt, .int mlv, .int mtl, .int mbe, .int mch, .ref hpb, .ref hwa, .ref hmn, .ref hcf, .ref hsa, .ref hro])), (hby, .inl (cI, 600, .inl mby))] H1 := hP1
            obtain ⟨hP, hD⟩ := va_join (wr := []) (w1 := [(hm, .inr (8, [.int 0, .ref hby, .int msz, .int mbg, .long mbt, .int mrg2_60, .int mct2_60, .int mvl2_60, .int mpl2_60, .int mcl, .int mrw, .int mqt, .int mlv, .int mtl, .int mbe, .int mch, .ref hpb, .ref hwa, .ref hmn, .ref hcf, .ref hsa, .ref hro])), (hby, .inl (cI, 600, .inl mby))]) hP hD [0, 1] [] rfl rfl (by decide) (by decide) hk9 hFc hP1 hD1
            have hP := hP.sub (ws' := [(hm, .inr (8, [.int 0, .ref hby, .int msz, .int mbg, .long mbt, .int mrg2_60, .int mct2_60, .int mvl2_60, .int mpl2_60, .int mcl, .int mrw, .int mqt, .int mlv, .int mtl, .int mbe, .int mch, .ref hpb, .ref hwa, .ref hmn, .ref hcf, .ref hsa, .ref hro])), (hby, .inl (cI, 600, .inl mby))]) [0, 1] rfl
            have hD := hD.sub (ws' := [(hm, .inr (8, [.int 0, .ref hby, .int msz, .int mbg, .long mbt, .int mrg2_60, .int mct2_60, .int mvl2_60, .int mpl2_60, .int mcl, .int mrw, .int mqt, .int mlv, .int mtl, .int mbe, .int mch, .ref hpb, .ref hwa, .ref hmn, .ref hcf, .ref hsa, .ref hro])), (hby, .inl (cI, 600, .inl mby))]) [0, 1] (by decide) rfl
            generalize H1 = H at hP hS ⊢
            obtain ⟨q60_0, q60_1, q60_2, q60_3, q60_4⟩ := hw9
            have q60_0 : kB mrg2_60 128 255 := q60_0
            have q60_1 : kB mct2_60 0 7 := q60_1
            have q60_2 : 0 ≤ mpl2_60.toInt ∧ mpl2_60.toInt ≤ mpl.toInt + 224 := q60_2
            have q60_3 : mn.toInt ≤ 16 → 0 ≤ r60.toInt ∧ r60.toInt < pw2 mn.toInt := q60_3
            have q60_4 : kIf (pp.toInt = 128 ∧ mn.toInt = 2 ∧ 0 ≤ mvl.toInt ∧ mvl.toInt ≤ 500000 ∧ mct.toInt ≤ 4) ((r60.toInt, mvl2_60.toInt, mrg2_60.toInt, mct2_60.toInt) = rI 2 (0, mvl.toInt, mrg.toInt, mct.toInt)) := q60_4
            have pf_x : mbg = 2 → kB mrg2_60 128 255 ∧ kB mct2_60 0 7 ∧ 0 ≤ mpl2_60.toInt ∧ mpl2_60.toInt ≤ mpl.toInt + 224 := (fun _ => ⟨q60_0, q60_1, q60_2.1, q60_2.2⟩)
            have pf_y : ¬ mbg = 2 → mrg2_60 = mrg ∧ mct2_60 = mct := (fun h => absurd c41 h)
            have pf_z : ((0 : Int32) = 1 ∧ ¬ ((1 ≤ pp.toInt ∧ pp.toInt ≤ 255) ∧ (0 ≤ mn.toInt ∧ mn.toInt ≤ 32))) ∨ ((0 : Int32) = 2 ∧ ((1 ≤ pp.toInt ∧ pp.toInt ≤ 255) ∧ (0 ≤ mn.toInt ∧ mn.toInt ≤ 32)) ∧ ¬ mbg = 2) ∨ ((0 : Int32) = 0 ∧ mbg = 2) := (Or.inr (Or.inr ⟨rfl, c41⟩))
            exact W.iret (v := r60) hx hb hr (fun t9 ht9 hW9 => ⟨⟨r60, (0, mrg2_60, mct2_60, mvl2_60, mpl2_60), rfl, ⟨pf_x, pf_y, pf_z⟩, by rw [ht9]; exact hP, hD⟩, hS.F ht9⟩) hS.2.2 dX8_get_63
          · have c52x : kB r49 1 0 := kB_nlo RB49 c52 kc_0 (by decide)
            exact absurd (Int.le_trans c52x.1 c52x.2) (by decide)
        · refine lv_iconst (v := 2) hx hb dX8_get_44 (by decide) ?_
          refine lv_goto (tgt := 49) hx hb dX8_get_45 (by decide) ?_
          have hPc := hP.sub (ws' := [(hm, .inr (8, [.int mrf, .ref hby, .int msz, .int mbg, .long mbt, .int mrg, .int mct, .int mvl, .int mpl, .int mcl, .int mrw, .int mqt, .int mlv, .int mtl, .int mbe, .int mch, .ref hpb, .ref hwa, .ref hmn, .ref hcf, .ref hsa, .ref hro]))]) [0] rfl
          have hDc := hD.sub (ws' := [(hm, .inr (8, [.int mrf, .ref hby, .int msz, .int mbg, .long mbt, .int mrg, .int mct, .int mvl, .int mpl, .int mcl, .int mrw, .int mqt, .int mlv, .int mtl, .int mbe, .int mch, .ref hpb, .ref hwa, .ref hmn, .ref hcf, .ref hsa, .ref hro]))]) [0] (by decide) rfl
          have hFc := va_free (wc := [(hm, .inr (8, [.int mrf, .ref hby, .int msz, .int mbg, .long mbt, .int mrg, .int mct, .int mvl, .int mpl, .int mcl, .int mrw, .int mqt, .int mlv, .int mtl, .int mbe, .int mch, .ref hpb, .ref hwa, .ref hmn, .ref hcf, .ref hsa, .ref hro]))]) hD hS hA [0] rfl
          refine va_calli (va_runV (As := [.int 2]) (rest := []) ⟨hx, hb, hml, hown, hts⟩ (c_X8_refused l D cI cJ cZ hm hby hpb hwa hmn hcf hsa hro mrf msz mbg mrg mct mvl mpl mcl mrw mqt mlv mtl mbe mch mbt 2 (H).size) (cwV 1 hts (kg_V mk_372 mk_373 mk_374 mk_189 mk_375) rfl rfl rfl (by decide +kernel) ⟨Nat.le_of_ble_eq_true rfl, Nat.le_of_ble_eq_true rfl⟩) ⟨fun a U g mk q => by obtain ⟨q0, q1, qP, qK, qD⟩ := q; exact ⟨q0, q1, qP, kK.call qK, qD⟩, va_recv hK.1 hPc (ci := 8) (q0 := 0) rfl rfl, fun U hU hW => ⟨rfl, by rw [hU], by rw [hU]; exact hPc, kK.warm hW hK, hDc.weaken (fun _ _ _ _ => trivial)⟩⟩ rfl rfl hl.1 rfl (lv_room (Nat.le_of_ble_eq_true rfl)) dX8_get_49 ⟨Nat.zero_le _, Nat.zero_le _⟩) hS (fun q _ h => hFc q h) hFc (fun r49 u t9 H1 locs ht9 hvm9 hw9 hB9 hz9 hk9 hS => ?_)
          obtain ⟨hP1, hD1⟩ := hB9
          rw [ht9] at hP1
          have hP1 : va_P D vwCl [(hm, .inr (8, [.int 2, .ref hby, .int msz, .int mbg, .long mbt, .int mrg, .int mct, .int mvl, .int mpl, .int mcl, .int mrw, .int mqt, .int mlv, .int mtl, .int mbe, .int mch, .ref hpb, .ref hwa, .ref hmn, .ref hcf, .ref hsa, .ref hro]))] H1 := hP1
          obtain ⟨hP, hD⟩ := va_join (wr := [(hby, .inl (cI, 600, .inl mby))]) (w1 := [(hm, .inr (8, [.int 2, .ref hby, .int msz, .int mbg, .long mbt, .int mrg, .int mct, .int mvl, .int mpl, .int mcl, .int mrw, .int mqt, .int mlv, .int mtl, .int mbe, .int mch, .ref hpb, .ref hwa, .ref hmn, .ref hcf, .ref hsa, .ref hro]))]) hP hD [0] [1] rfl rfl (by decide) (by decide) hk9 hFc hP1 hD1
          have hP := hP.sub (ws' := [(hm, .inr (8, [.int 2, .ref hby, .int msz, .int mbg, .long mbt, .int mrg, .int mct, .int mvl, .int mpl, .int mcl, .int mrw, .int mqt, .int mlv, .int mtl, .int mbe, .int mch, .ref hpb, .ref hwa, .ref hmn, .ref hcf, .ref hsa, .ref hro])), (hby, .inl (cI, 600, .inl mby))]) [1, 0] rfl
          have hD := hD.sub (ws' := [(hm, .inr (8, [.int 2, .ref hby, .int msz, .int mbg, .long mbt, .int mrg, .int mct, .int mvl, .int mpl, .int mcl, .int mrw, .int mqt, .int mlv, .int mtl, .int mbe, .int mch, .ref hpb, .ref hwa, .ref hmn, .ref hcf, .ref hsa, .ref hro])), (hby, .inl (cI, 600, .inl mby))]) [1, 0] (by decide) rfl
          generalize H1 = H at hP hS ⊢
          obtain ⟨q49_0, q49_1⟩ := hw9
          have q49_0 : kB r49 0 1 := q49_0
          have q49_1 : r49 = if 0 < (2 : Int32).toInt then 1 else 0 := q49_1
          have RB49 : kB r49 1 1 := by rw [q49_1]; decide
          refine lv_if_eq (tgt := 57) hx hb dX8_get_52 (by decide) (fun c52 => ?_) (fun c52 => ?_)
          · have c52x : kB r49 0 0 := kB_eq c52 kc_0
            exact absurd (Int.le_trans RB49.1 c52x.2) (by decide)
          · refine lv_iconst (v := 0) hx hb dX8_get_55 (by decide) ?_
            have pf_x : mbg = 2 → kB mrg 128 255 ∧ kB mct 0 7 ∧ 0 ≤ mpl.toInt ∧ mpl.toInt ≤ mpl.toInt + 224 := (fun h => ⟨(hrd_ h).1, (hrd_ h).2.1, (hrd_ h).2.2.1, by omega⟩)
            have pf_y : ¬ mbg = 2 → mrg = mrg ∧ mct = mct := (fun _ => ⟨rfl, rfl⟩)
            have pf_z : ((2 : Int32) = 1 ∧ ¬ ((1 ≤ pp.toInt ∧ pp.toInt ≤ 255) ∧ (0 ≤ mn.toInt ∧ mn.toInt ≤ 32))) ∨ ((2 : Int32) = 2 ∧ ((1 ≤ pp.toInt ∧ pp.toInt ≤ 255) ∧ (0 ≤ mn.toInt ∧ mn.toInt ≤ 32)) ∧ ¬ mbg = 2) ∨ ((2 : Int32) = 0 ∧ mbg = 2) := (Or.inr (Or.inl ⟨rfl, HS, c41⟩))
            exact W.iret (v := 0) hx hb hr (fun t9 ht9 hW9 => ⟨⟨0, (2, mrg, mct, mvl, mpl), rfl, ⟨pf_x, pf_y, pf_z⟩, by rw [ht9]; exact hP, hD⟩, hS.F ht9⟩) hS.2.2 dX8_get_56
      · exact absurd c29 (by decide)
abbrev kw_X8_octet : List Cond := Cond.code yX8_octet cX8_octet 2 (some .int) :: kW
set_option maxHeartbeats 4000000 in
set_option maxRecDepth 100000 in
theorem c_X8_octet (l : Launch) (D : va_G) (cI cJ cZ : ClassId) (hm hby hpb hwa hmn hcf hsa hro : Nat) (mrf : Int32) (msz : Int32) (mbg : Int32) (mrg : Int32) (mct : Int32) (mvl : Int32) (mpl : Int32) (mcl : Int32) (mrw : Int32) (mqt : Int32) (mlv : Int32) (mtl : Int32) (mbe : Int32) (mch : Int32) (mbt : Int64) (mby : Nat → Int32) (k : Int32) (bsz : kB msz 0 600) (hpz : Nat) : Met l yX8_octet kw_X8_octet ({ frames := 1, cells := 0, slots := 0, locals := 22 }) (va_Pc [.ref hm, .int k] (fun U => U.heap.size = hpz ∧ va_P D vwCl [(hm, .inr (8, [.int mrf, .ref hby, .int msz, .int mbg, .long mbt, .int mrg, .int mct, .int mvl, .int mpl, .int mcl, .int mrw, .int mqt, .int mlv, .int mtl, .int mbe, .int mch, .ref hpb, .ref hwa, .ref hmn, .ref hcf, .ref hsa, .ref hro])), (hby, .inl (cI, 600, .inl mby))] U.heap ∧ kK D cI cJ cZ U ∧ va_D (fun _ => True) [(hm, .inr (8, [.int mrf, .ref hby, .int msz, .int mbg, .long mbt, .int mrg, .int mct, .int mvl, .int mpl, .int mcl, .int mrw, .int mqt, .int mlv, .int mtl, .int mbe, .int mch, .ref hpb, .ref hwa, .ref hmn, .ref hcf, .ref hsa, .ref hro])), (hby, .inl (cI, 600, .inl mby))])) (va_Qi (fun (r : Int32) (u : Unit) => (r = if 0 ≤ k.toInt ∧ k.toInt < msz.toInt then mby k.toNatClampNeg else (-1))) (fun (u : Unit) (t : State) => va_P D vwCl [(hm, .inr (8, [.int 0, .ref hby, .int msz, .int mbg, .long mbt, .int mrg, .int mct, .int mvl, .int mpl, .int mcl, .int mrw, .int mqt, .int mlv, .int mtl, .int mbe, .int mch, .ref hpb, .ref hwa, .ref hmn, .ref hcf, .ref hsa, .ref hro])), (hby, .inl (cI, 600, .inl mby))] t.heap ∧ va_D (va_A [(hm, .inr (8, [.int mrf, .ref hby, .int msz, .int mbg, .long mbt, .int mrg, .int mct, .int mvl, .int mpl, .int mcl, .int mrw, .int mqt, .int mlv, .int mtl, .int mbe, .int mch, .ref hpb, .ref hwa, .ref hmn, .ref hcf, .ref hsa, .ref hro])), (hby, .inl (cI, 600, .inl mby))] hpz) [(hm, .inr (8, [.int 0, .ref hby, .int msz, .int mbg, .long mbt, .int mrg, .int mct, .int mvl, .int mpl, .int mcl, .int mrw, .int mqt, .int mlv, .int mtl, .int mbe, .int mch, .ref hpb, .ref hwa, .ref hmn, .ref hcf, .ref hsa, .ref hro])), (hby, .inl (cI, 600, .inl mby))]) (va_A [(hm, .inr (8, [.int mrf, .ref hby, .int msz, .int mbg, .long mbt, .int mrg, .int mct, .int mvl, .int mpl, .int mcl, .int mrw, .int mqt, .int mlv, .int mtl, .int mbe, .int mch, .ref hpb, .ref hwa, .ref hmn, .ref hcf, .ref hsa, .ref hro])), (hby, .inl (cI, 600, .inl mby))] hpz)) 0 0 (va_A [(hm, .inr (8, [.int mrf, .ref hby, .int msz, .int mbg, .long mbt, .int mrg, .int mct, .int mvl, .int mpl, .int mcl, .int mrw, .int mqt, .int mlv, .int mtl, .int mbe, .int mch, .ref hpb, .ref hwa, .ref hmn, .ref hcf, .ref hsa, .ref hro])), (hby, .inl (cI, 600, .inl mby))] hpz) := by
  refine Met.ofW (cc := cX8_octet) (maxL := 2) (ret := (some .int)) (by decide) rfl ?_
  intro p e s m args below meth c s₁ B hml hv
  obtain ⟨rfl, hsz, hP, hK, hD0⟩ := hv
  have hx := B.exec
  have hb := B.bytes
  have hr := B.returns
  have hts := fun (w : Cond) (h : w ∈ kW) => atoms_spec (ws := kw_X8_octet) B.pre w (List.mem_cons_of_mem _ h)
  have hown : s.vm.findClass RX8 = some m.cls := findClass_of_methodNamed B.named
  have hlocks := B.notSynchronized
  subst hsz
  have hD := hD0.self (sz := s.heap.size)
  generalize hAe : va_A [(hm, .inr (8, [.int mrf, .ref hby, .int msz, .int mbg, .long mbt, .int mrg, .int mct, .int mvl, .int mpl, .int mcl, .int mrw, .int mqt, .int mlv, .int mtl, .int mbe, .int mch, .ref hpb, .ref hwa, .ref hmn, .ref hcf, .ref hsa, .ref hro])), (hby, .inl (cI, 600, .inl mby))] s.heap.size = A at hD ⊢
  have hA : ∀ q : Nat, s.heap.size ≤ q → A q := fun q h => by rw [← hAe]; exact Or.inr h
  have hS : va_S A s.heap s.heap [] := va_S.rf
  have hP : va_P D vwCl [(hm, .inr (8, [.int mrf, .ref hby, .int msz, .int mbg, .long mbt, .int mrg, .int mct, .int mvl, .int mpl, .int mcl, .int mrw, .int mqt, .int mlv, .int mtl, .int mbe, .int mch, .ref hpb, .ref hwa, .ref hmn, .ref hcf, .ref hsa, .ref hro])), (hby, .inl (cI, 600, .inl mby))] s.heap := hP
  have hl := lv_entry ([.ref hm, .int k]) (n := 2) (Nat.le_of_ble_eq_true rfl)
  rw [lg_entry_eq]
  generalize (lg_sl ([.ref hm, .int k]) ++ List.replicate (2 - (lg_sl ([.ref hm, .int k])).length) Slot.unset).toArray = ls at hl ⊢
  have hl : lv_has ls 2 [(0, .ref hm), (1, .int k)] := hl
  refine lv_aload_n hx hb dX8_octet_0 rfl (lv_at hl 0 rfl) ?_
  refine lv_iconst (v := 0) hx hb dX8_octet_1 (by decide) ?_
  refine va_put (D := D) (ci := 8) (v := .int 0) (ty := .int) (C := RX8) (T := TX8) (N := 22) hx hb hts in_X8 tyX8 tyX8_ok nmX8 hown hK.1 hP hD hS 0 rfl rfl 0 (by decide) (hts _ mk_183) (fun _ h9 => h9) rfl (by decide +kernel) rfl rfl (Nat.le_of_ble_eq_true rfl) dX8_octet_2 (fun H locs hP hD hS => ?_)
  have hP : va_P D vwCl [(hm, .inr (8, [.int 0, .ref hby, .int msz, .int mbg, .long mbt, .int mrg, .int mct, .int mvl, .int mpl, .int mcl, .int mrw, .int mqt, .int mlv, .int mtl, .int mbe, .int mch, .ref hpb, .ref hwa, .ref hmn, .ref hcf, .ref hsa, .ref hro])), (hby, .inl (cI, 600, .inl mby))] H := hP
  have hD : va_D A [(hm, .inr (8, [.int 0, .ref hby, .int msz, .int mbg, .long mbt, .int mrg, .int mct, .int mvl, .int mpl, .int mcl, .int mrw, .int mqt, .int mlv, .int mtl, .int mbe, .int mch, .ref hpb, .ref hwa, .ref hmn, .ref hcf, .ref hsa, .ref hro])), (hby, .inl (cI, 600, .inl mby))] := hD
  refine lv_iload_n hx hb dX8_octet_5 rfl (lv_at hl 1 rfl) ?_
  refine lv_iconst (v := 0) hx hb dX8_octet_6 (by decide) ?_
  refine lv_aload_n hx hb dX8_octet_7 rfl (lv_at hl 0 rfl) ?_
  refine va_get (D := D) (ci := 8) (v := .int msz) (C := RX8) (T := TX8) (N := 22) hx hb hts in_X8 hown hK.1 hP 0 rfl rfl 2 (by decide) (hts _ mk_184) (fun _ h9 => h9) rfl dX8_octet_8 ?_
  refine lv_iconst (v := 1) hx hb dX8_octet_11 (by decide) ?_
  refine lv_isub hx hb dX8_octet_12 ?_
  refine lv_topi (fun v12 e12 => ?_)
  have b12 : kB v12 (-1) 599 := kB_eq e12 (kB_sub bsz kc_1 (by decide))
  have X12 : v12.toInt = msz.toInt - 1 := by rw [e12]; exact kdec1 (kB_w bsz (by decide) (by decide))
  have hPc := hP.sub (ws' := []) [] rfl
  have hDc := hD.sub (ws' := []) [] (by decide) rfl
  have hFc := va_free (wc := []) hD hS hA [] rfl
  refine va_calli (va_runS (As := [.int k, .int 0, .int v12]) (rest := []) ⟨hx, hb, hml, hown, hts⟩ (c_X8_isIn l D cI cJ cZ k 0 v12 (H).size) (cwS 3 hts (kg_S mk_369 mk_370 mk_189 mk_371) rfl rfl rfl (by decide +kernel) ⟨Nat.le_of_ble_eq_true rfl, Nat.le_of_ble_eq_true rfl⟩) ⟨fun a U g mk q => by obtain ⟨q0, q1, qP, qK, qD⟩ := q; exact ⟨q0, q1, qP, kK.call qK, qD⟩, fun U hU hW => ⟨rfl, by rw [hU], by rw [hU]; exact hPc, kK.warm hW hK, hDc.weaken (fun _ _ _ _ => trivial)⟩⟩ rfl rfl hl.1 rfl (lv_room (Nat.le_of_ble_eq_true rfl)) dX8_octet_13 ⟨Nat.zero_le _, Nat.zero_le _⟩) hS (fun q _ h => hFc q h) hFc (fun r13 u t9 H1 locs ht9 hvm9 hw9 hB9 hz9 hk9 hS => ?_)
  obtain ⟨hP1, hD1⟩ := hB9
  rw [ht9] at hP1
  have hP1 : va_P D vwCl [] H1 := hP1
  obtain ⟨hP, hD⟩ := va_join (wr := [(hm, .inr (8, [.int 0, .ref hby, .int msz, .int mbg, .long mbt, .int mrg, .int mct, .int mvl, .int mpl, .int mcl, .int mrw, .int mqt, .int mlv, .int mtl, .int mbe, .int mch, .ref hpb, .ref hwa, .ref hmn, .ref hcf, .ref hsa, .ref hro])), (hby, .inl (cI, 600, .inl mby))]) (w1 := []) hP hD [] [0, 1] rfl rfl (by decide) (by decide) hk9 hFc hP1 hD1
  have hP := hP.sub (ws' := [(hm, .inr (8, [.int 0, .ref hby, .int msz, .int mbg, .long mbt, .int mrg, .int mct, .int mvl, .int mpl, .int mcl, .int mrw, .int mqt, .int mlv, .int mtl, .int mbe, .int mch, .ref hpb, .ref hwa, .ref hmn, .ref hcf, .ref hsa, .ref hro])), (hby, .inl (cI, 600, .inl mby))]) [0, 1] rfl
  have hD := hD.sub (ws' := [(hm, .inr (8, [.int 0, .ref hby, .int msz, .int mbg, .long mbt, .int mrg, .int mct, .int mvl, .int mpl, .int mcl, .int mrw, .int mqt, .int mlv, .int mtl, .int mbe, .int mch, .ref hpb, .ref hwa, .ref hmn, .ref hcf, .ref hsa, .ref hro])), (hby, .inl (cI, 600, .inl mby))]) [0, 1] (by decide) rfl
  generalize H1 = H at hP hS ⊢
  obtain ⟨q13_0, q13_1, q13_2⟩ := hw9
  have q13_0 : kB r13 0 1 := q13_0
  have q13_1 : r13 = if (0 : Int32).toInt ≤ k.toInt ∧ k.toInt ≤ v12.toInt then 1 else 0 := q13_1
  have q13_2 : ¬ r13 = 0 → (0 : Int32).toInt ≤ k.toInt ∧ k.toInt ≤ v12.toInt := q13_2
  refine lv_if_eq (tgt := 28) hx hb dX8_octet_16 (by decide) (fun c16 => ?_) (fun c16 => ?_)
  · have c16x : kB r13 0 0 := kB_eq c16 kc_0
    have K1 : ¬ (0 ≤ k.toInt ∧ k.toInt < msz.toInt) := fun h9 => by have h8 := q13_1; rw [if_pos (by rw [show (0 : Int32).toInt = 0 from by decide, X12]; omega), c16] at h8; exact absurd h8 (by decide)
    refine lv_iconst (v := (-1)) hx hb dX8_octet_28 (by decide) ?_
    have pf_x : (-1 : Int32) = if 0 ≤ k.toInt ∧ k.toInt < msz.toInt then mby k.toNatClampNeg else (-1) := (by rw [if_neg K1])
    exact W.iret (v := (-1)) hx hb hr (fun t9 ht9 hW9 => ⟨⟨(-1), (), rfl, pf_x, by rw [ht9]; exact hP, hD⟩, hS.F ht9⟩) hS.2.2 dX8_octet_29
  · have c16x : kB r13 1 1 := kB_nlo q13_0 c16 kc_0 (by decide)
    have K1 : 0 ≤ k.toInt ∧ k.toInt < msz.toInt := by have h9 := q13_2 c16; rw [show (0 : Int32).toInt = 0 from by decide, X12] at h9; omega
    have BK : kB k 0 599 := ⟨K1.1, by have := K1.2; omega⟩
    refine lv_aload_n hx hb dX8_octet_19 rfl (lv_at hl 0 rfl) ?_
    refine va_get (D := D) (ci := 8) (v := .ref hby) (C := RX8) (T := TX8) (N := 22) hx hb hts in_X8 hown hK.1 hP 0 rfl rfl 1 (by decide) (hts _ mk_185) (fun _ h9 => h9) rfl dX8_octet_20 ?_
    refine lv_iload_n hx hb dX8_octet_23 rfl (lv_at hl 1 rfl) ?_
    refine va_iald hx hb hK.1 hP 1 0 rfl rfl (kB_in BK (by decide)) dX8_octet_24 ?_
    refine lv_topi (fun v24 e24 => ?_)
    refine lv_goto (tgt := 29) hx hb dX8_octet_25 (by decide) ?_
    have pf_x : v24 = if 0 ≤ k.toInt ∧ k.toInt < msz.toInt then mby k.toNatClampNeg else (-1) := (by rw [if_pos K1, e24])
    exact W.iret (v := v24) hx hb hr (fun t9 ht9 hW9 => ⟨⟨v24, (), rfl, pf_x, by rw [ht9]; exact hP, hD⟩, hS.F ht9⟩) hS.2.2 dX8_octet_29
abbrev kw_X8_sample : List Cond := Cond.code yX8_sample cX8_sample 3 (some .int) :: kW
set_option maxHeartbeats 4000000 in
set_option maxRecDepth 100000 in
theorem c_X8_sample (l : Launch) (D : va_G) (cI cJ cZ : ClassId) (hm hby hpb hwa hmn hcf hsa hro : Nat) (mrf : Int32) (msz : Int32) (mbg : Int32) (mrg : Int32) (mct : Int32) (mvl : Int32) (mpl : Int32) (mcl : Int32) (mrw : Int32) (mqt : Int32) (mlv : Int32) (mtl : Int32) (mbe : Int32) (mch : Int32) (mbt : Int64) (msa : Nat → Int32) (x : Int32) (y : Int32) (bcl : kB mcl 0 4) (brw : kB mrw 0 4) (hpz : Nat) : Met l yX8_sample kw_X8_sample ({ frames := 1, cells := 0, slots := 0, locals := 22 }) (va_Pc [.ref hm, .int x, .int y] (fun U => U.heap.size = hpz ∧ va_P D vwCl [(hm, .inr (8, [.int mrf, .ref hby, .int msz, .int mbg, .long mbt, .int mrg, .int mct, .int mvl, .int mpl, .int mcl, .int mrw, .int mqt, .int mlv, .int mtl, .int mbe, .int mch, .ref hpb, .ref hwa, .ref hmn, .ref hcf, .ref hsa, .ref hro])), (hsa, .inl (cI, 256, .inl msa))] U.heap ∧ kK D cI cJ cZ U ∧ va_D (fun _ => True) [(hm, .inr (8, [.int mrf, .ref hby, .int msz, .int mbg, .long mbt, .int mrg, .int mct, .int mvl, .int mpl, .int mcl, .int mrw, .int mqt, .int mlv, .int mtl, .int mbe, .int mch, .ref hpb, .ref hwa, .ref hmn, .ref hcf, .ref hsa, .ref hro])), (hsa, .inl (cI, 256, .inl msa))])) (va_Qi (fun (r : Int32) (u : Unit) => (kIf (mcl = 0) (r = -1))) (fun (u : Unit) (t : State) => va_P D vwCl [(hm, .inr (8, [.int 0, .ref hby, .int msz, .int mbg, .long mbt, .int mrg, .int mct, .int mvl, .int mpl, .int mcl, .int mrw, .int mqt, .int mlv, .int mtl, .int mbe, .int mch, .ref hpb, .ref hwa, .ref hmn, .ref hcf, .ref hsa, .ref hro])), (hsa, .inl (cI, 256, .inl msa))] t.heap ∧ va_D (va_A [(hm, .inr (8, [.int mrf, .ref hby, .int msz, .int mbg, .long mbt, .int mrg, .int mct, .int mvl, .int mpl, .int mcl, .int mrw, .int mqt, .int mlv, .int mtl, .int mbe, .int mch, .ref hpb, .ref hwa, .ref hmn, .ref hcf, .ref hsa, .ref hro])), (hsa, .inl (cI, 256, .inl msa))] hpz) [(hm, .inr (8, [.int 0, .ref hby, .int msz, .int mbg, .long mbt, .int mrg, .int mct, .int mvl, .int mpl, .int mcl, .int mrw, .int mqt, .int mlv, .int mtl, .int mbe, .int mch, .ref hpb, .ref hwa, .ref hmn, .ref hcf, .ref hsa, .ref hro])), (hsa, .inl (cI, 256, .inl msa))]) (va_A [(hm, .inr (8, [.int mrf, .ref hby, .int msz, .int mbg, .long mbt, .int mrg, .int mct, .int mvl, .int mpl, .int mcl, .int mrw, .int mqt, .int mlv, .int mtl, .int mbe, .int mch, .ref hpb, .ref hwa, .ref hmn, .ref hcf, .ref hsa, .ref hro])), (hsa, .inl (cI, 256, .inl msa))] hpz)) 0 0 (va_A [(hm, .inr (8, [.int mrf, .ref hby, .int msz, .int mbg, .long mbt, .int mrg, .int mct, .int mvl, .int mpl, .int mcl, .int mrw, .int mqt, .int mlv, .int mtl, .int mbe, .int mch, .ref hpb, .ref hwa, .ref hmn, .ref hcf, .ref hsa, .ref hro])), (hsa, .inl (cI, 256, .inl msa))] hpz) := by
  refine Met.ofW (cc := cX8_sample) (maxL := 3) (ret := (some .int)) (by decide) rfl ?_
  intro p e s m args below meth c s₁ B hml hv
  obtain ⟨rfl, hsz, hP, hK, hD0⟩ := hv
  have hx := B.exec
  have hb := B.bytes
  have hr := B.returns
  have hts := fun (w : Cond) (h : w ∈ kW) => atoms_spec (ws := kw_X8_sample) B.pre w (List.mem_cons_of_mem _ h)
  have hown : s.vm.findClass RX8 = some m.cls := findClass_of_methodNamed B.named
  have hlocks := B.notSynchronized
  subst hsz
  have hD := hD0.self (sz := s.heap.size)
  generalize hAe : va_A [(hm, .inr (8, [.int mrf, .ref hby, .int msz, .int mbg, .long mbt, .int mrg, .int mct, .int mvl, .int mpl, .int mcl, .int mrw, .int mqt, .int mlv, .int mtl, .int mbe, .int mch, .ref hpb, .ref hwa, .ref hmn, .ref hcf, .ref hsa, .ref hro])), (hsa, .inl (cI, 256, .inl msa))] s.heap.size = A at hD ⊢
  have hA : ∀ q : Nat, s.heap.size ≤ q → A q := fun q h => by rw [← hAe]; exact Or.inr h
  have hS : va_S A s.heap s.heap [] := va_S.rf
  have hP : va_P D vwCl [(hm, .inr (8, [.int mrf, .ref hby, .int msz, .int mbg, .long mbt, .int mrg, .int mct, .int mvl, .int mpl, .int mcl, .int mrw, .int mqt, .int mlv, .int mtl, .int mbe, .int mch, .ref hpb, .ref hwa, .ref hmn, .ref hcf, .ref hsa, .ref hro])), (hsa, .inl (cI, 256, .inl msa))] s.heap := hP
  have hl := lv_entry ([.ref hm, .int x, .int y]) (n := 3) (Nat.le_of_ble_eq_true rfl)
  rw [lg_entry_eq]
  generalize (lg_sl ([.ref hm, .int x, .int y]) ++ List.replicate (3 - (lg_sl ([.ref hm, .int x, .int y])).length) Slot.unset).toArray = ls at hl ⊢
  have hl : lv_has ls 3 [(0, .ref hm), (1, .int x), (2, .int y)] := hl
  refine lv_aload_n hx hb dX8_sample_0 rfl (lv_at hl 0 rfl) ?_
  refine lv_iconst (v := 0) hx hb dX8_sample_1 (by decide) ?_
  refine va_put (D := D) (ci := 8) (v := .int 0) (ty := .int) (C := RX8) (T := TX8) (N := 22) hx hb hts in_X8 tyX8 tyX8_ok nmX8 hown hK.1 hP hD hS 0 rfl rfl 0 (by decide) (hts _ mk_183) (fun _ h9 => h9) rfl (by decide +kernel) rfl rfl (Nat.le_of_ble_eq_true rfl) dX8_sample_2 (fun H locs hP hD hS => ?_)
  have hP : va_P D vwCl [(hm, .inr (8, [.int 0, .ref hby, .int msz, .int mbg, .long mbt, .int mrg, .int mct, .int mvl, .int mpl, .int mcl, .int mrw, .int mqt, .int mlv, .int mtl, .int mbe, .int mch, .ref hpb, .ref hwa, .ref hmn, .ref hcf, .ref hsa, .ref hro])), (hsa, .inl (cI, 256, .inl msa))] H := hP
  have hD : va_D A [(hm, .inr (8, [.int 0, .ref hby, .int msz, .int mbg, .long mbt, .int mrg, .int mct, .int mvl, .int mpl, .int mcl, .int mrw, .int mqt, .int mlv, .int mtl, .int mbe, .int mch, .ref hpb, .ref hwa, .ref hmn, .ref hcf, .ref hsa, .ref hro])), (hsa, .inl (cI, 256, .inl msa))] := hD
  refine lv_iload_n hx hb dX8_sample_5 rfl (lv_at hl 1 rfl) ?_
  refine lv_iconst (v := 0) hx hb dX8_sample_6 (by decide) ?_
  refine lv_iconst (v := 4) hx hb dX8_sample_7 (by decide) ?_
  refine lv_aload_n hx hb dX8_sample_8 rfl (lv_at hl 0 rfl) ?_
  refine va_get (D := D) (ci := 8) (v := .int mcl) (C := RX8) (T := TX8) (N := 22) hx hb hts in_X8 hown hK.1 hP 0 rfl rfl 9 (by decide) (hts _ mk_227) (fun _ h9 => h9) rfl dX8_sample_9 ?_
  refine lv_imul hx hb dX8_sample_12 ?_
  refine lv_topi (fun v12 e12 => ?_)
  have b12 : kB v12 0 16 := kB_eq e12 (kB_cmul kc_4 bcl (by decide))
  refine lv_iconst (v := 1) hx hb dX8_sample_13 (by decide) ?_
  refine lv_isub hx hb dX8_sample_14 ?_
  refine lv_topi (fun v14 e14 => ?_)
  have b14 : kB v14 (-1) 15 := kB_eq e14 (kB_sub b12 kc_1 (by decide))
  have hPc := hP.sub (ws' := []) [] rfl
  have hDc := hD.sub (ws' := []) [] (by decide) rfl
  have hFc := va_free (wc := []) hD hS hA [] rfl
  refine va_calli (va_runS (As := [.int x, .int 0, .int v14]) (rest := []) ⟨hx, hb, hml, hown, hts⟩ (c_X8_isIn l D cI cJ cZ x 0 v14 (H).size) (cwS 3 hts (kg_S mk_369 mk_370 mk_189 mk_371) rfl rfl rfl (by decide +kernel) ⟨Nat.le_of_ble_eq_true rfl, Nat.le_of_ble_eq_true rfl⟩) ⟨fun a U g mk q => by obtain ⟨q0, q1, qP, qK, qD⟩ := q; exact ⟨q0, q1, qP, kK.call qK, qD⟩, fun U hU hW => ⟨rfl, by rw [hU], by rw [hU]; exact hPc, kK.warm hW hK, hDc.weaken (fun _ _ _ _ => trivial)⟩⟩ rfl rfl hl.1 rfl (lv_room (Nat.le_of_ble_eq_true rfl)) dX8_sample_15 ⟨Nat.zero_le _, Nat.zero_le _⟩) hS (fun q _ h => hFc q h) hFc (fun r15 u t9 H1 locs ht9 hvm9 hw9 hB9 hz9 hk9 hS => ?_)
  obtain ⟨hP1, hD1⟩ := hB9
  rw [ht9] at hP1
  have hP1 : va_P D vwCl [] H1 := hP1
  obtain ⟨hP, hD⟩ := va_join (wr := [(hm, .inr (8, [.int 0, .ref hby, .int msz, .int mbg, .long mbt, .int mrg, .int mct, .int mvl, .int mpl, .int mcl, .int mrw, .int mqt, .int mlv, .int mtl, .int mbe, .int mch, .ref hpb, .ref hwa, .ref hmn, .ref hcf, .ref hsa, .ref hro])), (hsa, .inl (cI, 256, .inl msa))]) (w1 := []) hP hD [] [0, 1] rfl rfl (by decide) (by decide) hk9 hFc hP1 hD1
  have hP := hP.sub (ws' := [(hm, .inr (8, [.int 0, .ref hby, .int msz, .int mbg, .long mbt, .int mrg, .int mct, .int mvl, .int mpl, .int mcl, .int mrw, .int mqt, .int mlv, .int mtl, .int mbe, .int mch, .ref hpb, .ref hwa, .ref hmn, .ref hcf, .ref hsa, .ref hro])), (hsa, .inl (cI, 256, .inl msa))]) [0, 1] rfl
  have hD := hD.sub (ws' := [(hm, .inr (8, [.int 0, .ref hby, .int msz, .int mbg, .long mbt, .int mrg, .int mct, .int mvl, .int mpl, .int mcl, .int mrw, .int mqt, .int mlv, .int mtl, .int mbe, .int mch, .ref hpb, .ref hwa, .ref hmn, .ref hcf, .ref hsa, .ref hro])), (hsa, .inl (cI, 256, .inl msa))]) [0, 1] (by decide) rfl
  generalize H1 = H at hP hS ⊢
  obtain ⟨q15_0, q15_1, q15_2⟩ := hw9
  have q15_0 : kB r15 0 1 := q15_0
  have q15_1 : r15 = if (0 : Int32).toInt ≤ x.toInt ∧ x.toInt ≤ v14.toInt then 1 else 0 := q15_1
  have q15_2 : ¬ r15 = 0 → (0 : Int32).toInt ≤ x.toInt ∧ x.toInt ≤ v14.toInt := q15_2
  refine lv_if_eq (tgt := 51) hx hb dX8_sample_18 (by decide) (fun c18 => ?_) (fun c18 => ?_)
  · have c18x : kB r15 0 0 := kB_eq c18 kc_0
    refine lv_iconst (v := (-1)) hx hb dX8_sample_51 (by decide) ?_
    have pf_fr : kIf (mcl = 0) ((-1 : Int32) = -1) := (fun _ => rfl)
    exact W.iret (v := (-1)) hx hb hr (fun t9 ht9 hW9 => ⟨⟨(-1), (), rfl, pf_fr, by rw [ht9]; exact hP, hD⟩, hS.F ht9⟩) hS.2.2 dX8_sample_52
  · have c18x : kB r15 1 1 := kB_nlo q15_0 c18 kc_0 (by decide)
    have BI15 : kB x 0 15 := (by have h9 := q15_2 c18; rw [show (0 : Int32).toInt = 0 from by decide] at h9; exact ⟨h9.1, by omega⟩)
    refine lv_iload_n hx hb dX8_sample_21 rfl (lv_at hl 2 rfl) ?_
    refine lv_iconst (v := 0) hx hb dX8_sample_22 (by decide) ?_
    refine lv_iconst (v := 4) hx hb dX8_sample_23 (by decide) ?_
    refine lv_aload_n hx hb dX8_sample_24 rfl (lv_at hl 0 rfl) ?_
    refine va_get (D := D) (ci := 8) (v := .int mrw) (C := RX8) (T := TX8) (N := 22) hx hb hts in_X8 hown hK.1 hP 0 rfl rfl 10 (by decide) (hts _ mk_287) (fun _ h9 => h9) rfl dX8_sample_25 ?_
    refine lv_imul hx hb dX8_sample_28 ?_
    refine lv_topi (fun v28 e28 => ?_)
    have b28 : kB v28 0 16 := kB_eq e28 (kB_cmul kc_4 brw (by decide))
    refine lv_iconst (v := 1) hx hb dX8_sample_29 (by decide) ?_
    refine lv_isub hx hb dX8_sample_30 ?_
    refine lv_topi (fun v30 e30 => ?_)
    have b30 : kB v30 (-1) 15 := kB_eq e30 (kB_sub b28 kc_1 (by decide))
    have hPc := hP.sub (ws' := []) [] rfl
    have hDc := hD.sub (ws' := []) [] (by decide) rfl
    have hFc := va_free (wc := []) hD hS hA [] rfl
    refine va_calli (va_runS (As := [.int y, .int 0, .int v30]) (rest := []) ⟨hx, hb, hml, hown, hts⟩ (c_X8_isIn l D cI cJ cZ y 0 v30 (H).size) (cwS 3 hts (kg_S mk_369 mk_370 mk_189 mk_371) rfl rfl rfl (by decide +kernel) ⟨Nat.le_of_ble_eq_true rfl, Nat.le_of_ble_eq_true rfl⟩) ⟨fun a U g mk q => by obtain ⟨q0, q1, qP, qK, qD⟩ := q; exact ⟨q0, q1, qP, kK.call qK, qD⟩, fun U hU hW => ⟨rfl, by rw [hU], by rw [hU]; exact hPc, kK.warm hW hK, hDc.weaken (fun _ _ _ _ => trivial)⟩⟩ rfl rfl hl.1 rfl (lv_room (Nat.le_of_ble_eq_true rfl)) dX8_sample_31 ⟨Nat.zero_le _, Nat.zero_le _⟩) hS (fun q _ h => hFc q h) hFc (fun r31 u t9 H1 locs ht9 hvm9 hw9 hB9 hz9 hk9 hS => ?_)
    obtain ⟨hP1, hD1⟩ := hB9
    rw [ht9] at hP1
    have hP1 : va_P D vwCl [] H1 := hP1
    obtain ⟨hP, hD⟩ := va_join (wr := [(hm, .inr (8, [.int 0, .ref hby, .int msz, .int mbg, .long mbt, .int mrg, .int mct, .int mvl, .int mpl, .int mcl, .int mrw, .int mqt, .int mlv, .int mtl, .int mbe, .int mch, .ref hpb, .ref hwa, .ref hmn, .ref hcf, .ref hsa, .ref hro])), (hsa, .inl (cI, 256, .inl msa))]) (w1 := []) hP hD [] [0, 1] rfl rfl (by decide) (by decide) hk9 hFc hP1 hD1
    have hP := hP.sub (ws' := [(hm, .inr (8, [.int 0, .ref hby, .int msz, .int mbg, .long mbt, .int mrg, .int mct, .int mvl, .int mpl, .int mcl, .int mrw, .int mqt, .int mlv, .int mtl, .int mbe, .int mch, .ref hpb, .ref hwa, .ref hmn, .ref hcf, .ref hsa, .ref hro])), (hsa, .inl (cI, 256, .inl msa))]) [0, 1] rfl
    have hD := hD.sub (ws' := [(hm, .inr (8, [.int 0, .ref hby, .int msz, .int mbg, .long mbt, .int mrg, .int mct, .int mvl, .int mpl, .int mcl, .int mrw, .int mqt, .int mlv, .int mtl, .int mbe, .int mch, .ref hpb, .ref hwa, .ref hmn, .ref hcf, .ref hsa, .ref hro])), (hsa, .inl (cI, 256, .inl msa))]) [0, 1] (by decide) rfl
    generalize H1 = H at hP hS ⊢
    obtain ⟨q31_0, q31_1, q31_2⟩ := hw9
    have q31_0 : kB r31 0 1 := q31_0
    have q31_1 : r31 = if (0 : Int32).toInt ≤ y.toInt ∧ y.toInt ≤ v30.toInt then 1 else 0 := q31_1
    have q31_2 : ¬ r31 = 0 → (0 : Int32).toInt ≤ y.toInt ∧ y.toInt ≤ v30.toInt := q31_2
    refine lv_if_eq (tgt := 51) hx hb dX8_sample_34 (by decide) (fun c34 => ?_) (fun c34 => ?_)
    · have c34x : kB r31 0 0 := kB_eq c34 kc_0
      refine lv_iconst (v := (-1)) hx hb dX8_sample_51 (by decide) ?_
      have pf_fr : kIf (mcl = 0) ((-1 : Int32) = -1) := (fun _ => rfl)
      exact W.iret (v := (-1)) hx hb hr (fun t9 ht9 hW9 => ⟨⟨(-1), (), rfl, pf_fr, by rw [ht9]; exact hP, hD⟩, hS.F ht9⟩) hS.2.2 dX8_sample_52
    · have c34x : kB r31 1 1 := kB_nlo q31_0 c34 kc_0 (by decide)
      have BI31 : kB y 0 15 := (by have h9 := q31_2 c34; rw [show (0 : Int32).toInt = 0 from by decide] at h9; exact ⟨h9.1, by omega⟩)
      refine lv_aload_n hx hb dX8_sample_37 rfl (lv_at hl 0 rfl) ?_
      refine va_get (D := D) (ci := 8) (v := .ref hsa) (C := RX8) (T := TX8) (N := 22) hx hb hts in_X8 hown hK.1 hP 0 rfl rfl 20 (by decide) (hts _ mk_258) (fun _ h9 => h9) rfl dX8_sample_38 ?_
      refine lv_bipush (v := 16) hx hb dX8_sample_41 (by decide) ?_
      refine lv_iload_n hx hb dX8_sample_43 rfl (lv_at hl 2 rfl) ?_
      refine lv_imul hx hb dX8_sample_44 ?_
      refine lv_topi (fun v44 e44 => ?_)
      have b44 : kB v44 0 240 := kB_eq e44 (kB_cmul kc_16 BI31 (by decide))
      refine lv_iload_n hx hb dX8_sample_45 rfl (lv_at hl 1 rfl) ?_
      refine lv_iadd hx hb dX8_sample_46 ?_
      refine lv_topi (fun v46 e46 => ?_)
      have b46 : kB v46 0 255 := kB_eq e46 (kB_add b44 BI15 (by decide))
      refine va_iald hx hb hK.1 hP 1 0 rfl rfl (kB_in b46 (by decide)) dX8_sample_47 ?_
      refine lv_topi (fun v47 e47 => ?_)
      refine lv_goto (tgt := 52) hx hb dX8_sample_48 (by decide) ?_
      have pf_fr : kIf (mcl = 0) (v47 = -1) := (fun h9 => absurd (q15_2 c18) (by rw [e14, e12, h9]; intro h8; have := h8.1; have h6 : x.toInt ≤ -1 := h8.2; rw [show (0 : Int32).toInt = 0 from by decide] at this; omega))
      exact W.iret (v := v47) hx hb hr (fun t9 ht9 hW9 => ⟨⟨v47, (), rfl, pf_fr, by rw [ht9]; exact hP, hD⟩, hS.F ht9⟩) hS.2.2 dX8_sample_52
abbrev kw_X8_block : List Cond := Cond.code yX8_block cX8_block 3 (some .int) :: kW
set_option maxHeartbeats 4000000 in
set_option maxRecDepth 100000 in
theorem c_X8_block (l : Launch) (D : va_G) (cI cJ cZ : ClassId) (hm hby hpb hwa hmn hcf hsa hro : Nat) (mrf : Int32) (msz : Int32) (mbg : Int32) (mrg : Int32) (mct : Int32) (mvl : Int32) (mpl : Int32) (mcl : Int32) (mrw : Int32) (mqt : Int32) (mlv : Int32) (mtl : Int32) (mbe : Int32) (mch : Int32) (mbt : Int64) (mwa : Nat → Int32) (mmn : Nat → Int32) (mcf : Nat → Int32) (k : Int32) (wt : Int32) (bcl : kB mcl 0 4) (brw : kB mrw 0 4) (hpz : Nat) : Met l yX8_block kw_X8_block ({ frames := 1, cells := 0, slots := 0, locals := 22 }) (va_Pc [.ref hm, .int k, .int wt] (fun U => U.heap.size = hpz ∧ va_P D vwCl [(hm, .inr (8, [.int mrf, .ref hby, .int msz, .int mbg, .long mbt, .int mrg, .int mct, .int mvl, .int mpl, .int mcl, .int mrw, .int mqt, .int mlv, .int mtl, .int mbe, .int mch, .ref hpb, .ref hwa, .ref hmn, .ref hcf, .ref hsa, .ref hro])), (hwa, .inl (cI, 16, .inl mwa)), (hmn, .inl (cI, 16, .inl mmn)), (hcf, .inl (cI, 256, .inl mcf))] U.heap ∧ kK D cI cJ cZ U ∧ va_D (fun _ => True) [(hm, .inr (8, [.int mrf, .ref hby, .int msz, .int mbg, .long mbt, .int mrg, .int mct, .int mvl, .int mpl, .int mcl, .int mrw, .int mqt, .int mlv, .int mtl, .int mbe, .int mch, .ref hpb, .ref hwa, .ref hmn, .ref hcf, .ref hsa, .ref hro])), (hwa, .inl (cI, 16, .inl mwa)), (hmn, .inl (cI, 16, .inl mmn)), (hcf, .inl (cI, 256, .inl mcf))])) (va_Qi (fun (r : Int32) (u : Int32) => ((u = 1 ∧ ¬ (0 ≤ wt.toInt ∧ wt.toInt ≤ 17)) ∨ (u = 0 ∧ (0 ≤ wt.toInt ∧ wt.toInt ≤ 17))) ∧ (kIf (u = 0 ∧ mcl = 0) (r = if wt.toInt < 2 then (-1 : Int32) else 0))) (fun (u : Int32) (t : State) => va_P D vwCl [(hm, .inr (8, [.int u, .ref hby, .int msz, .int mbg, .long mbt, .int mrg, .int mct, .int mvl, .int mpl, .int mcl, .int mrw, .int mqt, .int mlv, .int mtl, .int mbe, .int mch, .ref hpb, .ref hwa, .ref hmn, .ref hcf, .ref hsa, .ref hro])), (hwa, .inl (cI, 16, .inl mwa)), (hmn, .inl (cI, 16, .inl mmn)), (hcf, .inl (cI, 256, .inl mcf))] t.heap ∧ va_D (va_A [(hm, .inr (8, [.int mrf, .ref hby, .int msz, .int mbg, .long mbt, .int mrg, .int mct, .int mvl, .int mpl, .int mcl, .int mrw, .int mqt, .int mlv, .int mtl, .int mbe, .int mch, .ref hpb, .ref hwa, .ref hmn, .ref hcf, .ref hsa, .ref hro])), (hwa, .inl (cI, 16, .inl mwa)), (hmn, .inl (cI, 16, .inl mmn)), (hcf, .inl (cI, 256, .inl mcf))] hpz) [(hm, .inr (8, [.int u, .ref hby, .int msz, .int mbg, .long mbt, .int mrg, .int mct, .int mvl, .int mpl, .int mcl, .int mrw, .int mqt, .int mlv, .int mtl, .int mbe, .int mch, .ref hpb, .ref hwa, .ref hmn, .ref hcf, .ref hsa, .ref hro])), (hwa, .inl (cI, 16, .inl mwa)), (hmn, .inl (cI, 16, .inl mmn)), (hcf, .inl (cI, 256, .inl mcf))]) (va_A [(hm, .inr (8, [.int mrf, .ref hby, .int msz, .int mbg, .long mbt, .int mrg, .int mct, .int mvl, .int mpl, .int mcl, .int mrw, .int mqt, .int mlv, .int mtl, .int mbe, .int mch, .ref hpb, .ref hwa, .ref hmn, .ref hcf, .ref hsa, .ref hro])), (hwa, .inl (cI, 16, .inl mwa)), (hmn, .inl (cI, 16, .inl mmn)), (hcf, .inl (cI, 256, .inl mcf))] hpz)) 0 0 (va_A [(hm, .inr (8, [.int mrf, .ref hby, .int msz, .int mbg, .long mbt, .int mrg, .int mct, .int mvl, .int mpl, .int mcl, .int mrw, .int mqt, .int mlv, .int mtl, .int mbe, .int mch, .ref hpb, .ref hwa, .ref hmn, .ref hcf, .ref hsa, .ref hro])), (hwa, .inl (cI, 16, .inl mwa)), (hmn, .inl (cI, 16, .inl mmn)), (hcf, .inl (cI, 256, .inl mcf))] hpz) := by
  refine Met.ofW (cc := cX8_block) (maxL := 3) (ret := (some .int)) (by decide) rfl ?_
  intro p e s m args below meth c s₁ B hml hv
  obtain ⟨rfl, hsz, hP, hK, hD0⟩ := hv
  have hx := B.exec
  have hb := B.bytes
  have hr := B.returns
  have hts := fun (w : Cond) (h : w ∈ kW) => atoms_spec (ws := kw_X8_block) B.pre w (List.mem_cons_of_mem _ h)
  have hown : s.vm.findClass RX8 = some m.cls := findClass_of_methodNamed B.named
  have hlocks := B.notSynchronized
  subst hsz
  have hD := hD0.self (sz := s.heap.size)
  generalize hAe : va_A [(hm, .inr (8, [.int mrf, .ref hby, .int msz, .int mbg, .long mbt, .int mrg, .int mct, .int mvl, .int mpl, .int mcl, .int mrw, .int mqt, .int mlv, .int mtl, .int mbe, .int mch, .ref hpb, .ref hwa, .ref hmn, .ref hcf, .ref hsa, .ref hro])), (hwa, .inl (cI, 16, .inl mwa)), (hmn, .inl (cI, 16, .inl mmn)), (hcf, .inl (cI, 256, .inl mcf))] s.heap.size = A at hD ⊢
  have hA : ∀ q : Nat, s.heap.size ≤ q → A q := fun q h => by rw [← hAe]; exact Or.inr h
  have hS : va_S A s.heap s.heap [] := va_S.rf
  have hP : va_P D vwCl [(hm, .inr (8, [.int mrf, .ref hby, .int msz, .int mbg, .long mbt, .int mrg, .int mct, .int mvl, .int mpl, .int mcl, .int mrw, .int mqt, .int mlv, .int mtl, .int mbe, .int mch, .ref hpb, .ref hwa, .ref hmn, .ref hcf, .ref hsa, .ref hro])), (hwa, .inl (cI, 16, .inl mwa)), (hmn, .inl (cI, 16, .inl mmn)), (hcf, .inl (cI, 256, .inl mcf))] s.heap := hP
  have hl := lv_entry ([.ref hm, .int k, .int wt]) (n := 3) (Nat.le_of_ble_eq_true rfl)
  rw [lg_entry_eq]
  generalize (lg_sl ([.ref hm, .int k, .int wt]) ++ List.replicate (3 - (lg_sl ([.ref hm, .int k, .int wt])).length) Slot.unset).toArray = ls at hl ⊢
  have hl : lv_has ls 3 [(0, .ref hm), (1, .int k), (2, .int wt)] := hl
  refine lv_aload_n hx hb dX8_block_0 rfl (lv_at hl 0 rfl) ?_
  refine lv_iload_n hx hb dX8_block_1 rfl (lv_at hl 2 rfl) ?_
  refine lv_iconst (v := 0) hx hb dX8_block_2 (by decide) ?_
  refine lv_bipush (v := 17) hx hb dX8_block_3 (by decide) ?_
  have hPc := hP.sub (ws' := []) [] rfl
  have hDc := hD.sub (ws' := []) [] (by decide) rfl
  have hFc := va_free (wc := []) hD hS hA [] rfl
  refine va_calli (va_runS (As := [.int wt, .int 0, .int 17]) (rest := [.ref hm]) ⟨hx, hb, hml, hown, hts⟩ (c_X8_isIn l D cI cJ cZ wt 0 17 (s.heap).size) (cwS 3 hts (kg_S mk_369 mk_370 mk_189 mk_371) rfl rfl rfl (by decide +kernel) ⟨Nat.le_of_ble_eq_true rfl, Nat.le_of_ble_eq_true rfl⟩) ⟨fun a U g mk q => by obtain ⟨q0, q1, qP, qK, qD⟩ := q; exact ⟨q0, q1, qP, kK.call qK, qD⟩, fun U hU hW => ⟨rfl, by rw [hU], by rw [hU]; exact hPc, kK.warm hW hK, hDc.weaken (fun _ _ _ _ => trivial)⟩⟩ rfl rfl hl.1 rfl (lv_room (Nat.le_of_ble_eq_true rfl)) dX8_block_5 ⟨Nat.zero_le _, Nat.zero_le _⟩) hS (fun q _ h => hFc q h) hFc (fun r5 u t9 H1 locs ht9 hvm9 hw9 hB9 hz9 hk9 hS => ?_)
  obtain ⟨hP1, hD1⟩ := hB9
  rw [ht9] at hP1
  have hP1 : va_P D vwCl [] H1 := hP1
  obtain ⟨hP, hD⟩ := va_join (wr := [(hm, .inr (8, [.int mrf, .ref hby, .int msz, .int mbg, .long mbt, .int mrg, .int mct, .int mvl, .int mpl, .int mcl, .int mrw, .int mqt, .int mlv, .int mtl, .int mbe, .int mch, .ref hpb, .ref hwa, .ref hmn, .ref hcf, .ref hsa, .ref hro])), (hwa, .inl (cI, 16, .inl mwa)), (hmn, .inl (cI, 16, .inl mmn)), (hcf, .inl (cI, 256, .inl mcf))]) (w1 := []) hP hD [] [0, 1, 2, 3] rfl rfl (by decide) (by decide) hk9 hFc hP1 hD1
  have hP := hP.sub (ws' := [(hm, .inr (8, [.int mrf, .ref hby, .int msz, .int mbg, .long mbt, .int mrg, .int mct, .int mvl, .int mpl, .int mcl, .int mrw, .int mqt, .int mlv, .int mtl, .int mbe, .int mch, .ref hpb, .ref hwa, .ref hmn, .ref hcf, .ref hsa, .ref hro])), (hwa, .inl (cI, 16, .inl mwa)), (hmn, .inl (cI, 16, .inl mmn)), (hcf, .inl (cI, 256, .inl mcf))]) [0, 1, 2, 3] rfl
  have hD := hD.sub (ws' := [(hm, .inr (8, [.int mrf, .ref hby, .int msz, .int mbg, .long mbt, .int mrg, .int mct, .int mvl, .int mpl, .int mcl, .int mrw, .int mqt, .int mlv, .int mtl, .int mbe, .int mch, .ref hpb, .ref hwa, .ref hmn, .ref hcf, .ref hsa, .ref hro])), (hwa, .inl (cI, 16, .inl mwa)), (hmn, .inl (cI, 16, .inl mmn)), (hcf, .inl (cI, 256, .inl mcf))]) [0, 1, 2, 3] (by decide) rfl
  generalize H1 = H at hP hS ⊢
  obtain ⟨q5_0, q5_1, q5_2⟩ := hw9
  have q5_0 : kB r5 0 1 := q5_0
  have q5_1 : r5 = if (0 : Int32).toInt ≤ wt.toInt ∧ wt.toInt ≤ (17 : Int32).toInt then 1 else 0 := q5_1
  have q5_2 : ¬ r5 = 0 → (0 : Int32).toInt ≤ wt.toInt ∧ wt.toInt ≤ (17 : Int32).toInt := q5_2
  refine lv_if_eq (tgt := 15) hx hb dX8_block_8 (by decide) (fun c8 => ?_) (fun c8 => ?_)
  · have c8x : kB r5 0 0 := kB_eq c8 kc_0
    have HW : ¬ (0 ≤ wt.toInt ∧ wt.toInt ≤ 17) := fun h9 => by have h8 := q5_1; rw [if_pos (by rw [show (0 : Int32).toInt = 0 from by decide, show (17 : Int32).toInt = 17 from by decide]; exact h9), c8] at h8; exact absurd h8 (by decide)
    refine lv_iconst (v := 1) hx hb dX8_block_15 (by decide) ?_
    have hPc := hP.sub (ws' := [(hm, .inr (8, [.int mrf, .ref hby, .int msz, .int mbg, .long mbt, .int mrg, .int mct, .int mvl, .int mpl, .int mcl, .int mrw, .int mqt, .int mlv, .int mtl, .int mbe, .int mch, .ref hpb, .ref hwa, .ref hmn, .ref hcf, .ref hsa, .ref hro]))]) [0] rfl
    have hDc := hD.sub (ws' := [(hm, .inr (8, [.int mrf, .ref hby, .int msz, .int mbg, .long mbt, .int mrg, .int mct, .int mvl, .int mpl, .int mcl, .int mrw, .int mqt, .int mlv, .int mtl, .int mbe, .int mch, .ref hpb, .ref hwa, .ref hmn, .ref hcf, .ref hsa, .ref hro]))]) [0] (by decide) rfl
    have hFc := va_free (wc := [(hm, .inr (8, [.int mrf, .ref hby, .int msz, .int mbg, .long mbt, .int mrg, .int mct, .int mvl, .int mpl, .int mcl, .int mrw, .int mqt, .int mlv, .int mtl, .int mbe, .int mch, .ref hpb, .ref hwa, .ref hmn, .ref hcf, .ref hsa, .ref hro]))]) hD hS hA [0] rfl
    refine va_calli (va_runV (As := [.int 1]) (rest := []) ⟨hx, hb, hml, hown, hts⟩ (c_X8_refused l D cI cJ cZ hm hby hpb hwa hmn hcf hsa hro mrf msz mbg mrg mct mvl mpl mcl mrw mqt mlv mtl mbe mch mbt 1 (H).size) (cwV 1 hts (kg_V mk_372 mk_373 mk_374 mk_189 mk_375) rfl rfl rfl (by decide +kernel) ⟨Nat.le_of_ble_eq_true rfl, Nat.le_of_ble_eq_true rfl⟩) ⟨fun a U g mk q => by obtain ⟨q0, q1, qP, qK, qD⟩ := q; exact ⟨q0, q1, qP, kK.call qK, qD⟩, va_recv hK.1 hPc (ci := 8) (q0 := 0) rfl rfl, fun U hU hW => ⟨rfl, by rw [hU], by rw [hU]; exact hPc, kK.warm hW hK, hDc.weaken (fun _ _ _ _ => trivial)⟩⟩ rfl rfl hl.1 rfl (lv_room (Nat.le_of_ble_eq_true rfl)) dX8_block_16 ⟨Nat.zero_le _, Nat.zero_le _⟩) hS (fun q _ h => hFc q h) hFc (fun r16 u t9 H1 locs ht9 hvm9 hw9 hB9 hz9 hk9 hS => ?_)
    obtain ⟨hP1, hD1⟩ := hB9
    rw [ht9] at hP1
    have hP1 : va_P D vwCl [(hm, .inr (8, [.int 1, .ref hby, .int msz, .int mbg, .long mbt, .int mrg, .int mct, .int mvl, .int mpl, .int mcl, .int mrw, .int mqt, .int mlv, .int mtl, .int mbe, .int mch, .ref hpb, .ref hwa, .ref hmn, .ref hcf, .ref hsa, .ref hro]))] H1 := hP1
    obtain ⟨hP, hD⟩ := va_join (wr := [(hwa, .inl (cI, 16, .inl mwa)), (hmn, .inl (cI, 16, .inl mmn)), (hcf, .inl (cI, 256, .inl mcf))]) (w1 := [(hm, .inr (8, [.int 1, .ref hby, .int msz, .int mbg, .long mbt, .int mrg, .int mct, .int mvl, .int mpl, .int mcl, .int mrw, .int mqt, .int mlv, .int mtl, .int mbe, .int mch, .ref hpb, .ref hwa, .ref hmn, .ref hcf, .ref hsa, .ref hro]))]) hP hD [0] [1, 2, 3] rfl rfl (by decide) (by decide) hk9 hFc hP1 hD1
    have hP := hP.sub (ws' := [(hm, .inr (8, [.int 1, .ref hby, .int msz, .int mbg, .long mbt, .int mrg, .int mct, .int mvl, .int mpl, .int mcl, .int mrw, .int mqt, .int mlv, .int mtl, .int mbe, .int mch, .ref hpb, .ref hwa, .ref hmn, .ref hcf, .ref hsa, .ref hro])), (hwa, .inl (cI, 16, .inl mwa)), (hmn, .inl (cI, 16, .inl mmn)), (hcf, .inl (cI, 256, .inl mcf))]) [3, 0, 1, 2] rfl
    have hD := hD.sub (ws' := [(hm, .inr (8, [.int 1, .ref hby, .int msz, .int mbg, .long mbt, .int mrg, .int mct, .int mvl, .int mpl, .int mcl, .int mrw, .int mqt, .int mlv, .int mtl, .int mbe, .int mch, .ref hpb, .ref hwa, .ref hmn, .ref hcf, .ref hsa, .ref hro])), (hwa, .inl (cI, 16, .inl mwa)), (hmn, .inl (cI, 16, .inl mmn)), (hcf, .inl (cI, 256, .inl mcf))]) [3, 0, 1, 2] (by decide) rfl
    generalize H1 = H at hP hS ⊢
    obtain ⟨q16_0, q16_1⟩ := hw9
    have q16_0 : kB r16 0 1 := q16_0
    have q16_1 : r16 = if 0 < (1 : Int32).toInt then 1 else 0 := q16_1
    have RB16 : kB r16 1 1 := by rw [q16_1]; decide
    refine lv_if_eq (tgt := 24) hx hb dX8_block_19 (by decide) (fun c19 => ?_) (fun c19 => ?_)
    · have c19x : kB r16 0 0 := kB_eq c19 kc_0
      exact absurd (Int.le_trans RB16.1 c19x.2) (by decide)
    · refine lv_iconst (v := 0) hx hb dX8_block_22 (by decide) ?_
      have pf_x : ((1 : Int32) = 1 ∧ ¬ (0 ≤ wt.toInt ∧ wt.toInt ≤ 17)) ∨ ((1 : Int32) = 0 ∧ (0 ≤ wt.toInt ∧ wt.toInt ≤ 17)) := (Or.inl ⟨rfl, HW⟩)
      have pf_fr : kIf ((1 : Int32) = 0 ∧ mcl = 0) ((0 : Int32) = if wt.toInt < 2 then (-1 : Int32) else 0) := (fun h9 => absurd h9.1 (by decide))
      exact W.iret (v := 0) hx hb hr (fun t9 ht9 hW9 => ⟨⟨0, 1, rfl, ⟨pf_x, pf_fr⟩, by rw [ht9]; exact hP, hD⟩, hS.F ht9⟩) hS.2.2 dX8_block_23
  · have c8x : kB r5 1 1 := kB_nlo q5_0 c8 kc_0 (by decide)
    have BW : kB wt 0 17 := (by have h9 := q5_2 c8; rw [show (0 : Int32).toInt = 0 from by decide, show (17 : Int32).toInt = 17 from by decide] at h9; exact h9)
    have HW : (0 ≤ wt.toInt ∧ wt.toInt ≤ 17) := by have h9 := q5_2 c8; rw [show (0 : Int32).toInt = 0 from by decide, show (17 : Int32).toInt = 17 from by decide] at h9; exact h9
    refine lv_iconst (v := 0) hx hb dX8_block_11 (by decide) ?_
    refine lv_goto (tgt := 16) hx hb dX8_block_12 (by decide) ?_
    have hPc := hP.sub (ws' := [(hm, .inr (8, [.int mrf, .ref hby, .int msz, .int mbg, .long mbt, .int mrg, .int mct, .int mvl, .int mpl, .int mcl, .int mrw, .int mqt, .int mlv, .int mtl, .int mbe, .int mch, .ref hpb, .ref hwa, .ref hmn, .ref hcf, .ref hsa, .ref hro]))]) [0] rfl
    have hDc := hD.sub (ws' := [(hm, .inr (8, [.int mrf, .ref hby, .int msz, .int mbg, .long mbt, .int mrg, .int mct, .int mvl, .int mpl, .int mcl, .int mrw, .int mqt, .int mlv, .int mtl, .int mbe, .int mch, .ref hpb, .ref hwa, .ref hmn, .ref hcf, .ref hsa, .ref hro]))]) [0] (by decide) rfl
    have hFc := va_free (wc := [(hm, .inr (8, [.int mrf, .ref hby, .int msz, .int mbg, .long mbt, .int mrg, .int mct, .int mvl, .int mpl, .int mcl, .int mrw, .int mqt, .int mlv, .int mtl, .int mbe, .int mch, .ref hpb, .ref hwa, .ref hmn, .ref hcf, .ref hsa, .ref hro]))]) hD hS hA [0] rfl
    refine va_calli (va_runV (As := [.int 0]) (rest := []) ⟨hx, hb, hml, hown, hts⟩ (c_X8_refused l D cI cJ cZ hm hby hpb hwa hmn hcf hsa hro mrf msz mbg mrg mct mvl mpl mcl mrw mqt mlv mtl mbe mch mbt 0 (H).size) (cwV 1 hts (kg_V mk_372 mk_373 mk_374 mk_189 mk_375) rfl rfl rfl (by decide +kernel) ⟨Nat.le_of_ble_eq_true rfl, Nat.le_of_ble_eq_true rfl⟩) ⟨fun a U g mk q => by obtain ⟨q0, q1, qP, qK, qD⟩ := q; exact ⟨q0, q1, qP, kK.call qK, qD⟩, va_recv hK.1 hPc (ci := 8) (q0 := 0) rfl rfl, fun U hU hW => ⟨rfl, by rw [hU], by rw [hU]; exact hPc, kK.warm hW hK, hDc.weaken (fun _ _ _ _ => trivial)⟩⟩ rfl rfl hl.1 rfl (lv_room (Nat.le_of_ble_eq_true rfl)) dX8_block_16 ⟨Nat.zero_le _, Nat.zero_le _⟩) hS (fun q _ h => hFc q h) hFc (fun r16 u t9 H1 locs ht9 hvm9 hw9 hB9 hz9 hk9 hS => ?_)
    obtain ⟨hP1, hD1⟩ := hB9
    rw [ht9] at hP1
    have hP1 : va_P D vwCl [(hm, .inr (8, [.int 0, .ref hby, .int msz, .int mbg, .long mbt, .int mrg, .int mct, .int mvl, .int mpl, .int mcl, .int mrw, .int mqt, .int mlv, .int mtl, .int mbe, .int mch, .ref hpb, .ref hwa, .ref hmn, .ref hcf, .ref hsa, .ref hro]))] H1 := hP1
    obtain ⟨hP, hD⟩ := va_join (wr := [(hwa, .inl (cI, 16, .inl mwa)), (hmn, .inl (cI, 16, .inl mmn)), (hcf, .inl (cI, 256, .inl mcf))]) (w1 := [(hm, .inr (8, [.int 0, .ref hby, .int msz, .int mbg, .long mbt, .int mrg, .int mct, .int mvl, .int mpl, .int mcl, .int mrw, .int mqt, .int mlv, .int mtl, .int mbe, .int mch, .ref hpb, .ref hwa, .ref hmn, .ref hcf, .ref hsa, .ref hro]))]) hP hD [0] [1, 2, 3] rfl rfl (by decide) (by decide) hk9 hFc hP1 hD1
    have hP := hP.sub (ws' := [(hm, .inr (8, [.int 0, .ref hby, .int msz, .int mbg, .long mbt, .int mrg, .int mct, .int mvl, .int mpl, .int mcl, .int mrw, .int mqt, .int mlv, .int mtl, .int mbe, .int mch, .ref hpb, .ref hwa, .ref hmn, .ref hcf, .ref hsa, .ref hro])), (hwa, .inl (cI, 16, .inl mwa)), (hmn, .inl (cI, 16, .inl mmn)), (hcf, .inl (cI, 256, .inl mcf))]) [3, 0, 1, 2] rfl
    have hD := hD.sub (ws' := [(hm, .inr (8, [.int 0, .ref hby, .int msz, .int mbg, .long mbt, .int mrg, .int mct, .int mvl, .int mpl, .int mcl, .int mrw, .int mqt, .int mlv, .int mtl, .int mbe, .int mch, .ref hpb, .ref hwa, .ref hmn, .ref hcf, .ref hsa, .ref hro])), (hwa, .inl (cI, 16, .inl mwa)), (hmn, .inl (cI, 16, .inl mmn)), (hcf, .inl (cI, 256, .inl mcf))]) [3, 0, 1, 2] (by decide) rfl
    generalize H1 = H at hP hS ⊢
    obtain ⟨q16_0, q16_1⟩ := hw9
    have q16_0 : kB r16 0 1 := q16_0
    have q16_1 : r16 = if 0 < (0 : Int32).toInt then 1 else 0 := q16_1
    have RB16 : kB r16 0 0 := by rw [q16_1]; decide
    refine lv_if_eq (tgt := 24) hx hb dX8_block_19 (by decide) (fun c19 => ?_) (fun c19 => ?_)
    · refine lv_iload_n hx hb dX8_block_24 rfl (lv_at hl 1 rfl) ?_
      refine lv_iconst (v := 0) hx hb dX8_block_25 (by decide) ?_
      refine lv_aload_n hx hb dX8_block_26 rfl (lv_at hl 0 rfl) ?_
      refine va_get (D := D) (ci := 8) (v := .int mcl) (C := RX8) (T := TX8) (N := 22) hx hb hts in_X8 hown hK.1 hP 0 rfl rfl 9 (by decide) (hts _ mk_227) (fun _ h9 => h9) rfl dX8_block_27 ?_
      refine lv_aload_n hx hb dX8_block_30 rfl (lv_at hl 0 rfl) ?_
      refine va_get (D := D) (ci := 8) (v := .int mrw) (C := RX8) (T := TX8) (N := 22) hx hb hts in_X8 hown hK.1 hP 0 rfl rfl 10 (by decide) (hts _ mk_287) (fun _ h9 => h9) rfl dX8_block_31 ?_
      refine lv_imul hx hb dX8_block_34 ?_
      refine lv_topi (fun v34 e34 => ?_)
      have b34 : kB v34 0 16 := kB_eq e34 (kB_mul bcl brw (by decide))
      refine lv_iconst (v := 1) hx hb dX8_block_35 (by decide) ?_
      refine lv_isub hx hb dX8_block_36 ?_
      refine lv_topi (fun v36 e36 => ?_)
      have b36 : kB v36 (-1) 15 := kB_eq e36 (kB_sub b34 kc_1 (by decide))
      have hPc := hP.sub (ws' := []) [] rfl
      have hDc := hD.sub (ws' := []) [] (by decide) rfl
      have hFc := va_free (wc := []) hD hS hA [] rfl
      refine va_calli (va_runS (As := [.int k, .int 0, .int v36]) (rest := []) ⟨hx, hb, hml, hown, hts⟩ (c_X8_isIn l D cI cJ cZ k 0 v36 (H).size) (cwS 3 hts (kg_S mk_369 mk_370 mk_189 mk_371) rfl rfl rfl (by decide +kernel) ⟨Nat.le_of_ble_eq_true rfl, Nat.le_of_ble_eq_true rfl⟩) ⟨fun a U g mk q => by obtain ⟨q0, q1, qP, qK, qD⟩ := q; exact ⟨q0, q1, qP, kK.call qK, qD⟩, fun U hU hW => ⟨rfl, by rw [hU], by rw [hU]; exact hPc, kK.warm hW hK, hDc.weaken (fun _ _ _ _ => trivial)⟩⟩ rfl rfl hl.1 rfl (lv_room (Nat.le_of_ble_eq_true rfl)) dX8_block_37 ⟨Nat.zero_le _, Nat.zero_le _⟩) hS (fun q _ h => hFc q h) hFc (fun r37 u t9 H1 locs ht9 hvm9 hw9 hB9 hz9 hk9 hS => ?_)
      obtain ⟨hP1, hD1⟩ := hB9
      rw [ht9] at hP1
      have hP1 : va_P D vwCl [] H1 := hP1
      obtain ⟨hP, hD⟩ := va_join (wr := [(hm, .inr (8, [.int 0, .ref hby, .int msz, .int mbg, .long mbt, .int mrg, .int mct, .int mvl, .int mpl, .int mcl, .int mrw, .int mqt, .int mlv, .int mtl, .int mbe, .int mch, .ref hpb, .ref hwa, .ref hmn, .ref hcf, .ref hsa, .ref hro])), (hwa, .inl (cI, 16, .inl mwa)), (hmn, .inl (cI, 16, .inl mmn)), (hcf, .inl (cI, 256, .inl mcf))]) (w1 := []) hP hD [] [0, 1, 2, 3] rfl rfl (by decide) (by decide) hk9 hFc hP1 hD1
      have hP := hP.sub (ws' := [(hm, .inr (8, [.int 0, .ref hby, .int msz, .int mbg, .long mbt, .int mrg, .int mct, .int mvl, .int mpl, .int mcl, .int mrw, .int mqt, .int mlv, .int mtl, .int mbe, .int mch, .ref hpb, .ref hwa, .ref hmn, .ref hcf, .ref hsa, .ref hro])), (hwa, .inl (cI, 16, .inl mwa)), (hmn, .inl (cI, 16, .inl mmn)), (hcf, .inl (cI, 256, .inl mcf))]) [0, 1, 2, 3] rfl
      have hD := hD.sub (ws' := [(hm, .inr (8, [.int 0, .ref hby, .int msz, .int mbg, .long mbt, .int mrg, .int mct, .int mvl, .int mpl, .int mcl, .int mrw, .int mqt, .int mlv, .int mtl, .int mbe, .int mch, .ref hpb, .ref hwa, .ref hmn, .ref hcf, .ref hsa, .ref hro])), (hwa, .inl (cI, 16, .inl mwa)), (hmn, .inl (cI, 16, .inl mmn)), (hcf, .inl (cI, 256, .inl mcf))]) [0, 1, 2, 3] (by decide) rfl
      generalize H1 = H at hP hS ⊢
      obtain ⟨q37_0, q37_1, q37_2⟩ := hw9
      have q37_0 : kB r37 0 1 := q37_0
      have q37_1 : r37 = if (0 : Int32).toInt ≤ k.toInt ∧ k.toInt ≤ v36.toInt then 1 else 0 := q37_1
      have q37_2 : ¬ r37 = 0 → (0 : Int32).toInt ≤ k.toInt ∧ k.toInt ≤ v36.toInt := q37_2
      refine lv_if_ne (tgt := 54) hx hb dX8_block_40 (by decide) (fun c40 => ?_) (fun c40 => ?_)
      · have c40x : kB r37 1 1 := kB_nlo q37_0 c40 kc_0 (by decide)
        have BI37 : kB k 0 15 := (by have h9 := q37_2 c40; rw [show (0 : Int32).toInt = 0 from by decide] at h9; exact ⟨h9.1, by omega⟩)
        refine lv_iload_n hx hb dX8_block_54 rfl (lv_at hl 2 rfl) ?_
        refine lv_if_ne (tgt := 67) hx hb dX8_block_55 (by decide) (fun c55 => ?_) (fun c55 => ?_)
        · have c55x : kB wt 1 17 := kB_nlo BW c55 kc_0 (by decide)
          refine lv_iload_n hx hb dX8_block_67 rfl (lv_at hl 2 rfl) ?_
          refine lv_iconst (v := 1) hx hb dX8_block_68 (by decide) ?_
          refine lv_icmp_ne (tgt := 81) hx hb dX8_block_69 (by decide) (fun c69 => ?_) (fun c69 => ?_)
          · have c69x : kB wt 2 17 := kB_nlo c55x c69 kc_1 (by decide)
            have BW2 : kB wt 2 17 := ⟨by have := kn0 c55; have h7 : ¬ wt.toInt = 1 := fun h => c69 (Int32.toInt_inj.mp (by rw [h]; decide)); omega, BW.2⟩
            refine lv_aload_n hx hb dX8_block_81 rfl (lv_at hl 0 rfl) ?_
            refine va_get (D := D) (ci := 8) (v := .ref hcf) (C := RX8) (T := TX8) (N := 22) hx hb hts in_X8 hown hK.1 hP 0 rfl rfl 19 (by decide) (hts _ mk_226) (fun _ h9 => h9) rfl dX8_block_82 ?_
            refine lv_bipush (v := 16) hx hb dX8_block_85 (by decide) ?_
            refine lv_iload_n hx hb dX8_block_87 rfl (lv_at hl 1 rfl) ?_
            refine lv_imul hx hb dX8_block_88 ?_
            refine lv_topi (fun v88 e88 => ?_)
            have b88 : kB v88 0 240 := kB_eq e88 (kB_cmul kc_16 BI37 (by decide))
            refine lv_iload_n hx hb dX8_block_89 rfl (lv_at hl 2 rfl) ?_
            refine lv_iadd hx hb dX8_block_90 ?_
            refine lv_topi (fun v90 e90 => ?_)
            have b90 : kB v90 2 257 := kB_eq e90 (kB_add b88 BW2 (by decide))
            refine lv_iconst (v := 2) hx hb dX8_block_91 (by decide) ?_
            refine lv_isub hx hb dX8_block_92 ?_
            refine lv_topi (fun v92 e92 => ?_)
            have b92 : kB v92 0 255 := kB_eq e92 (kB_sub b90 kc_2 (by decide))
            refine va_iald hx hb hK.1 hP 3 0 rfl rfl (kB_in b92 (by decide)) dX8_block_93 ?_
            refine lv_topi (fun v93 e93 => ?_)
            have pf_x : ((0 : Int32) = 1 ∧ ¬ (0 ≤ wt.toInt ∧ wt.toInt ≤ 17)) ∨ ((0 : Int32) = 0 ∧ (0 ≤ wt.toInt ∧ wt.toInt ≤ 17)) := (Or.inr ⟨rfl, HW⟩)
            have pf_fr : kIf ((0 : Int32) = 0 ∧ mcl = 0) (v93 = if wt.toInt < 2 then (-1 : Int32) else 0) := (fun h9 => absurd (q37_2 c40) (by rw [e36, e34, h9.2, Int32.zero_mul, show ((0 : Int32) - 1).toInt = -1 from by decide, show (0 : Int32).toInt = 0 from by decide]; omega))
            exact W.iret (v := v93) hx hb hr (fun t9 ht9 hW9 => ⟨⟨v93, 0, rfl, ⟨pf_x, pf_fr⟩, by rw [ht9]; exact hP, hD⟩, hS.F ht9⟩) hS.2.2 dX8_block_94
          · have c69x : kB wt 1 1 := kB_eq c69 kc_1
            refine lv_aload_n hx hb dX8_block_72 rfl (lv_at hl 0 rfl) ?_
            refine va_get (D := D) (ci := 8) (v := .ref hmn) (C := RX8) (T := TX8) (N := 22) hx hb hts in_X8 hown hK.1 hP 0 rfl rfl 18 (by decide) (hts _ mk_232) (fun _ h9 => h9) rfl dX8_block_73 ?_
            refine lv_iload_n hx hb dX8_block_76 rfl (lv_at hl 1 rfl) ?_
            refine va_iald hx hb hK.1 hP 2 0 rfl rfl (kB_in BI37 (by decide)) dX8_block_77 ?_
            refine lv_topi (fun v77 e77 => ?_)
            refine lv_goto (tgt := 94) hx hb dX8_block_78 (by decide) ?_
            have pf_x : ((0 : Int32) = 1 ∧ ¬ (0 ≤ wt.toInt ∧ wt.toInt ≤ 17)) ∨ ((0 : Int32) = 0 ∧ (0 ≤ wt.toInt ∧ wt.toInt ≤ 17)) := (Or.inr ⟨rfl, HW⟩)
            have pf_fr : kIf ((0 : Int32) = 0 ∧ mcl = 0) (v77 = if wt.toInt < 2 then (-1 : Int32) else 0) := (fun h9 => absurd (q37_2 c40) (by rw [e36, e34, h9.2, Int32.zero_mul, show ((0 : Int32) - 1).toInt = -1 from by decide, show (0 : Int32).toInt = 0 from by decide]; omega))
            exact W.iret (v := v77) hx hb hr (fun t9 ht9 hW9 => ⟨⟨v77, 0, rfl, ⟨pf_x, pf_fr⟩, by rw [ht9]; exact hP, hD⟩, hS.F ht9⟩) hS.2.2 dX8_block_94
        · have c55x : kB wt 0 0 := kB_eq c55 kc_0
          refine lv_aload_n hx hb dX8_block_58 rfl (lv_at hl 0 rfl) ?_
          refine va_get (D := D) (ci := 8) (v := .ref hwa) (C := RX8) (T := TX8) (N := 22) hx hb hts in_X8 hown hK.1 hP 0 rfl rfl 17 (by decide) (hts _ mk_270) (fun _ h9 => h9) rfl dX8_block_59 ?_
          refine lv_iload_n hx hb dX8_block_62 rfl (lv_at hl 1 rfl) ?_
          refine va_iald hx hb hK.1 hP 1 0 rfl rfl (kB_in BI37 (by decide)) dX8_block_63 ?_
          refine lv_topi (fun v63 e63 => ?_)
          refine lv_goto (tgt := 94) hx hb dX8_block_64 (by decide) ?_
          have pf_x : ((0 : Int32) = 1 ∧ ¬ (0 ≤ wt.toInt ∧ wt.toInt ≤ 17)) ∨ ((0 : Int32) = 0 ∧ (0 ≤ wt.toInt ∧ wt.toInt ≤ 17)) := (Or.inr ⟨rfl, HW⟩)
          have pf_fr : kIf ((0 : Int32) = 0 ∧ mcl = 0) (v63 = if wt.toInt < 2 then (-1 : Int32) else 0) := (fun h9 => absurd (q37_2 c40) (by rw [e36, e34, h9.2, Int32.zero_mul, show ((0 : Int32) - 1).toInt = -1 from by decide, show (0 : Int32).toInt = 0 from by decide]; omega))
          exact W.iret (v := v63) hx hb hr (fun t9 ht9 hW9 => ⟨⟨v63, 0, rfl, ⟨pf_x, pf_fr⟩, by rw [ht9]; exact hP, hD⟩, hS.F ht9⟩) hS.2.2 dX8_block_94
      · have c40x : kB r37 0 0 := kB_eq c40 kc_0
        refine lv_iload_n hx hb dX8_block_43 rfl (lv_at hl 2 rfl) ?_
        refine lv_iconst (v := 2) hx hb dX8_block_44 (by decide) ?_
        refine lv_icmp_ge (tgt := 52) hx hb dX8_block_45 (by decide) (fun c45 => ?_) (fun c45 => ?_)
        · have c45y : kB wt 2 17 := kB_le_r kc_2 BW c45 (by decide)
          have W45 : ¬ wt.toInt < 2 := by have h9 := Int32.le_iff_toInt_le.mp c45; rw [show (2 : Int32).toInt = 2 from by decide] at h9; omega
          refine lv_iconst (v := 0) hx hb dX8_block_52 (by decide) ?_
          have pf_x : ((0 : Int32) = 1 ∧ ¬ (0 ≤ wt.toInt ∧ wt.toInt ≤ 17)) ∨ ((0 : Int32) = 0 ∧ (0 ≤ wt.toInt ∧ wt.toInt ≤ 17)) := (Or.inr ⟨rfl, HW⟩)
          have pf_fr : kIf ((0 : Int32) = 0 ∧ mcl = 0) ((0 : Int32) = if wt.toInt < 2 then (-1 : Int32) else 0) := (fun _ => (if_neg W45).symm)
          exact W.iret (v := 0) hx hb hr (fun t9 ht9 hW9 => ⟨⟨0, 0, rfl, ⟨pf_x, pf_fr⟩, by rw [ht9]; exact hP, hD⟩, hS.F ht9⟩) hS.2.2 dX8_block_53
        · have c45n : wt < 2 := kN_le c45
          have c45nx : kB wt 0 1 := kB_lt_l BW kc_2 c45n (by decide)
          have W45 : wt.toInt < 2 := by have h9 := Int32.lt_iff_toInt_lt.mp c45n; rw [show (2 : Int32).toInt = 2 from by decide] at h9; omega
          refine lv_iconst (v := (-1)) hx hb dX8_block_48 (by decide) ?_
          refine lv_goto (tgt := 53) hx hb dX8_block_49 (by decide) ?_
          have pf_x : ((0 : Int32) = 1 ∧ ¬ (0 ≤ wt.toInt ∧ wt.toInt ≤ 17)) ∨ ((0 : Int32) = 0 ∧ (0 ≤ wt.toInt ∧ wt.toInt ≤ 17)) := (Or.inr ⟨rfl, HW⟩)
          have pf_fr : kIf ((0 : Int32) = 0 ∧ mcl = 0) ((-1 : Int32) = if wt.toInt < 2 then (-1 : Int32) else 0) := (fun _ => (if_pos W45).symm)
          exact W.iret (v := (-1)) hx hb hr (fun t9 ht9 hW9 => ⟨⟨(-1), 0, rfl, ⟨pf_x, pf_fr⟩, by rw [ht9]; exact hP, hD⟩, hS.F ht9⟩) hS.2.2 dX8_block_53
    · have c19x : kB r16 1 0 := kB_nlo RB16 c19 kc_0 (by decide)
      exact absurd (Int.le_trans c19x.1 c19x.2) (by decide)
abbrev kw_X8_count : List Cond := Cond.code yX8_count cX8_count 2 (some .int) :: kW
set_option maxHeartbeats 4000000 in
set_option maxRecDepth 100000 in
theorem c_X8_count (l : Launch) (D : va_G) (cI cJ cZ : ClassId) (hm hby hpb hwa hmn hcf hsa hro : Nat) (mrf : Int32) (msz : Int32) (mbg : Int32) (mrg : Int32) (mct : Int32) (mvl : Int32) (mpl : Int32) (mcl : Int32) (mrw : Int32) (mqt : Int32) (mlv : Int32) (mtl : Int32) (mbe : Int32) (mch : Int32) (mbt : Int64) (wt : Int32) (hpz : Nat) : Met l yX8_count kw_X8_count ({ frames := 1, cells := 0, slots := 0, locals := 22 }) (va_Pc [.ref hm, .int wt] (fun U => U.heap.size = hpz ∧ va_P D vwCl [(hm, .inr (8, [.int mrf, .ref hby, .int msz, .int mbg, .long mbt, .int mrg, .int mct, .int mvl, .int mpl, .int mcl, .int mrw, .int mqt, .int mlv, .int mtl, .int mbe, .int mch, .ref hpb, .ref hwa, .ref hmn, .ref hcf, .ref hsa, .ref hro]))] U.heap ∧ kK D cI cJ cZ U ∧ va_D (fun _ => True) [(hm, .inr (8, [.int mrf, .ref hby, .int msz, .int mbg, .long mbt, .int mrg, .int mct, .int mvl, .int mpl, .int mcl, .int mrw, .int mqt, .int mlv, .int mtl, .int mbe, .int mch, .ref hpb, .ref hwa, .ref hmn, .ref hcf, .ref hsa, .ref hro]))])) (va_Qi (fun (r : Int32) (u : Int32) => ((u = 1 ∧ ¬ (0 ≤ wt.toInt ∧ wt.toInt ≤ 6)) ∨ (u = 0 ∧ (0 ≤ wt.toInt ∧ wt.toInt ≤ 6))) ∧ (kIf (u = 0 ∧ mcl = 0 ∧ mrw = 0 ∧ mqt = 0 ∧ mlv = 0 ∧ mtl = 0 ∧ mbe = 0 ∧ mch = 0) (r = 0))) (fun (u : Int32) (t : State) => va_P D vwCl [(hm, .inr (8, [.int u, .ref hby, .int msz, .int mbg, .long mbt, .int mrg, .int mct, .int mvl, .int mpl, .int mcl, .int mrw, .int mqt, .int mlv, .int mtl, .int mbe, .int mch, .ref hpb, .ref hwa, .ref hmn, .ref hcf, .ref hsa, .ref hro]))] t.heap ∧ va_D (va_A [(hm, .inr (8, [.int mrf, .ref hby, .int msz, .int mbg, .long mbt, .int mrg, .int mct, .int mvl, .int mpl, .int mcl, .int mrw, .int mqt, .int mlv, .int mtl, .int mbe, .int mch, .ref hpb, .ref hwa, .ref hmn, .ref hcf, .ref hsa, .ref hro]))] hpz) [(hm, .inr (8, [.int u, .ref hby, .int msz, .int mbg, .long mbt, .int mrg, .int mct, .int mvl, .int mpl, .int mcl, .int mrw, .int mqt, .int mlv, .int mtl, .int mbe, .int mch, .ref hpb, .ref hwa, .ref hmn, .ref hcf, .ref hsa, .ref hro]))]) (va_A [(hm, .inr (8, [.int mrf, .ref hby, .int msz, .int mbg, .long mbt, .int mrg, .int mct, .int mvl, .int mpl, .int mcl, .int mrw, .int mqt, .int mlv, .int mtl, .int mbe, .int mch, .ref hpb, .ref hwa, .ref hmn, .ref hcf, .ref hsa, .ref hro]))] hpz)) 0 0 (va_A [(hm, .inr (8, [.int mrf, .ref hby, .int msz, .int mbg, .long mbt, .int mrg, .int mct, .int mvl, .int mpl, .int mcl, .int mrw, .int mqt, .int mlv, .int mtl, .int mbe, .int mch, .ref hpb, .ref hwa, .ref hmn, .ref hcf, .ref hsa, .ref hro]))] hpz) := by
  refine Met.ofW (cc := cX8_count) (maxL := 2) (ret := (some .int)) (by decide) rfl ?_
  intro p e s m args below meth c s₁ B hml hv
  obtain ⟨rfl, hsz, hP, hK, hD0⟩ := hv
  have hx := B.exec
  have hb := B.bytes
  have hr := B.returns
  have hts := fun (w : Cond) (h : w ∈ kW) => atoms_spec (ws := kw_X8_count) B.pre w (List.mem_cons_of_mem _ h)
  have hown : s.vm.findClass RX8 = some m.cls := findClass_of_methodNamed B.named
  have hlocks := B.notSynchronized
  subst hsz
  have hD := hD0.self (sz := s.heap.size)
  generalize hAe : va_A [(hm, .inr (8, [.int mrf, .ref hby, .int msz, .int mbg, .long mbt, .int mrg, .int mct, .int mvl, .int mpl, .int mcl, .int mrw, .int mqt, .int mlv, .int mtl, .int mbe, .int mch, .ref hpb, .ref hwa, .ref hmn, .ref hcf, .ref hsa, .ref hro]))] s.heap.size = A at hD ⊢
  have hA : ∀ q : Nat, s.heap.size ≤ q → A q := fun q h => by rw [← hAe]; exact Or.inr h
  have hS : va_S A s.heap s.heap [] := va_S.rf
  have hP : va_P D vwCl [(hm, .inr (8, [.int mrf, .ref hby, .int msz, .int mbg, .long mbt, .int mrg, .int mct, .int mvl, .int mpl, .int mcl, .int mrw, .int mqt, .int mlv, .int mtl, .int mbe, .int mch, .ref hpb, .ref hwa, .ref hmn, .ref hcf, .ref hsa, .ref hro]))] s.heap := hP
  have hl := lv_entry ([.ref hm, .int wt]) (n := 2) (Nat.le_of_ble_eq_true rfl)
  rw [lg_entry_eq]
  generalize (lg_sl ([.ref hm, .int wt]) ++ List.replicate (2 - (lg_sl ([.ref hm, .int wt])).length) Slot.unset).toArray = ls at hl ⊢
  have hl : lv_has ls 2 [(0, .ref hm), (1, .int wt)] := hl
  refine lv_aload_n hx hb dX8_count_0 rfl (lv_at hl 0 rfl) ?_
  refine lv_iload_n hx hb dX8_count_1 rfl (lv_at hl 1 rfl) ?_
  refine lv_iconst (v := 0) hx hb dX8_count_2 (by decide) ?_
  refine lv_bipush (v := 6) hx hb dX8_count_3 (by decide) ?_
  have hPc := hP.sub (ws' := []) [] rfl
  have hDc := hD.sub (ws' := []) [] (by decide) rfl
  have hFc := va_free (wc := []) hD hS hA [] rfl
  refine va_calli (va_runS (As := [.int wt, .int 0, .int 6]) (rest := [.ref hm]) ⟨hx, hb, hml, hown, hts⟩ (c_X8_isIn l D cI cJ cZ wt 0 6 (s.heap).size) (cwS 3 hts (kg_S mk_369 mk_370 mk_189 mk_371) rfl rfl rfl (by decide +kernel) ⟨Nat.le_of_ble_eq_true rfl, Nat.le_of_ble_eq_true rfl⟩) ⟨fun a U g mk q => by obtain ⟨q0, q1, qP, qK, qD⟩ := q; exact ⟨q0, q1, qP, kK.call qK, qD⟩, fun U hU hW => ⟨rfl, by rw [hU], by rw [hU]; exact hPc, kK.warm hW hK, hDc.weaken (fun _ _ _ _ => trivial)⟩⟩ rfl rfl hl.1 rfl (lv_room (Nat.le_of_ble_eq_true rfl)) dX8_count_5 ⟨Nat.zero_le _, Nat.zero_le _⟩) hS (fun q _ h => hFc q h) hFc (fun r5 u t9 H1 locs ht9 hvm9 hw9 hB9 hz9 hk9 hS => ?_)
  obtain ⟨hP1, hD1⟩ := hB9
  rw [ht9] at hP1
  have hP1 : va_P D vwCl [] H1 := hP1
  obtain ⟨hP, hD⟩ := va_join (wr := [(hm, .inr (8, [.int mrf, .ref hby, .int msz, .int mbg, .long mbt, .int mrg, .int mct, .int mvl, .int mpl, .int mcl, .int mrw, .int mqt, .int mlv, .int mtl, .int mbe, .int mch, .ref hpb, .ref hwa, .ref hmn, .ref hcf, .ref hsa, .ref hro]))]) (w1 := []) hP hD [] [0] rfl rfl (by decide) (by decide) hk9 hFc hP1 hD1
  have hP := hP.sub (ws' := [(hm, .inr (8, [.int mrf, .ref hby, .int msz, .int mbg, .long mbt, .int mrg, .int mct, .int mvl, .int mpl, .int mcl, .int mrw, .int mqt, .int mlv, .int mtl, .int mbe, .int mch, .ref hpb, .ref hwa, .ref hmn, .ref hcf, .ref hsa, .ref hro]))]) [0] rfl
  have hD := hD.sub (ws' := [(hm, .inr (8, [.int mrf, .ref hby, .int msz, .int mbg, .long mbt, .int mrg, .int mct, .int mvl, .int mpl, .int mcl, .int mrw, .int mqt, .int mlv, .int mtl, .int mbe, .int mch, .ref hpb, .ref hwa, .ref hmn, .ref hcf, .ref hsa, .ref hro]))]) [0] (by decide) rfl
  generalize H1 = H at hP hS ⊢
  obtain ⟨q5_0, q5_1, q5_2⟩ := hw9
  have q5_0 : kB r5 0 1 := q5_0
  have q5_1 : r5 = if (0 : Int32).toInt ≤ wt.toInt ∧ wt.toInt ≤ (6 : Int32).toInt then 1 else 0 := q5_1
  have q5_2 : ¬ r5 = 0 → (0 : Int32).toInt ≤ wt.toInt ∧ wt.toInt ≤ (6 : Int32).toInt := q5_2
  refine lv_if_eq (tgt := 15) hx hb dX8_count_8 (by decide) (fun c8 => ?_) (fun c8 => ?_)
  · have c8x : kB r5 0 0 := kB_eq c8 kc_0
    have HW : ¬ (0 ≤ wt.toInt ∧ wt.toInt ≤ 6) := fun h9 => by have h8 := q5_1; rw [if_pos (by rw [show (0 : Int32).toInt = 0 from by decide, show (6 : Int32).toInt = 6 from by decide]; exact h9), c8] at h8; exact absurd h8 (by decide)
    refine lv_iconst (v := 1) hx hb dX8_count_15 (by decide) ?_
    have hPc := hP.sub (ws' := [(hm, .inr (8, [.int mrf, .ref hby, .int msz, .int mbg, .long mbt, .int mrg, .int mct, .int mvl, .int mpl, .int mcl, .int mrw, .int mqt, .int mlv, .int mtl, .int mbe, .int mch, .ref hpb, .ref hwa, .ref hmn, .ref hcf, .ref hsa, .ref hro]))]) [0] rfl
    have hDc := hD.sub (ws' := [(hm, .inr (8, [.int mrf, .ref hby, .int msz, .int mbg, .long mbt, .int mrg, .int mct, .int mvl, .int mpl, .int mcl, .int mrw, .int mqt, .int mlv, .int mtl, .int mbe, .int mch, .ref hpb, .ref hwa, .ref hmn, .ref hcf, .ref hsa, .ref hro]))]) [0] (by decide) rfl
    have hFc := va_free (wc := [(hm, .inr (8, [.int mrf, .ref hby, .int msz, .int mbg, .long mbt, .int mrg, .int mct, .int mvl, .int mpl, .int mcl, .int mrw, .int mqt, .int mlv, .int mtl, .int mbe, .int mch, .ref hpb, .ref hwa, .ref hmn, .ref hcf, .ref hsa, .ref hro]))]) hD hS hA [0] rfl
    refine va_calli (va_runV (As := [.int 1]) (rest := []) ⟨hx, hb, hml, hown, hts⟩ (c_X8_refused l D cI cJ cZ hm hby hpb hwa hmn hcf hsa hro mrf msz mbg mrg mct mvl mpl mcl mrw mqt mlv mtl mbe mch mbt 1 (H).size) (cwV 1 hts (kg_V mk_372 mk_373 mk_374 mk_189 mk_375) rfl rfl rfl (by decide +kernel) ⟨Nat.le_of_ble_eq_true rfl, Nat.le_of_ble_eq_true rfl⟩) ⟨fun a U g mk q => by obtain ⟨q0, q1, qP, qK, qD⟩ := q; exact ⟨q0, q1, qP, kK.call qK, qD⟩, va_recv hK.1 hPc (ci := 8) (q0 := 0) rfl rfl, fun U hU hW => ⟨rfl, by rw [hU], by rw [hU]; exact hPc, kK.warm hW hK, hDc.weaken (fun _ _ _ _ => trivial)⟩⟩ rfl rfl hl.1 rfl (lv_room (Nat.le_of_ble_eq_true rfl)) dX8_count_16 ⟨Nat.zero_le _, Nat.zero_le _⟩) hS (fun q _ h => hFc q h) hFc (fun r16 u t9 H1 locs ht9 hvm9 hw9 hB9 hz9 hk9 hS => ?_)
    obtain ⟨hP1, hD1⟩ := hB9
    rw [ht9] at hP1
    have hP1 : va_P D vwCl [(hm, .inr (8, [.int 1, .ref hby, .int msz, .int mbg, .long mbt, .int mrg, .int mct, .int mvl, .int mpl, .int mcl, .int mrw, .int mqt, .int mlv, .int mtl, .int mbe, .int mch, .ref hpb, .ref hwa, .ref hmn, .ref hcf, .ref hsa, .ref hro]))] H1 := hP1
    obtain ⟨hP, hD⟩ := va_join (wr := []) (w1 := [(hm, .inr (8, [.int 1, .ref hby, .int msz, .int mbg, .long mbt, .int mrg, .int mct, .int mvl, .int mpl, .int mcl, .int mrw, .int mqt, .int mlv, .int mtl, .int mbe, .int mch, .ref hpb, .ref hwa, .ref hmn, .ref hcf, .ref hsa, .ref hro]))]) hP hD [0] [] rfl rfl (by decide) (by decide) hk9 hFc hP1 hD1
    have hP := hP.sub (ws' := [(hm, .inr (8, [.int 1, .ref hby, .int msz, .int mbg, .long mbt, .int mrg, .int mct, .int mvl, .int mpl, .int mcl, .int mrw, .int mqt, .int mlv, .int mtl, .int mbe, .int mch, .ref hpb, .ref hwa, .ref hmn, .ref hcf, .ref hsa, .ref hro]))]) [0] rfl
    have hD := hD.sub (ws' := [(hm, .inr (8, [.int 1, .ref hby, .int msz, .int mbg, .long mbt, .int mrg, .int mct, .int mvl, .int mpl, .int mcl, .int mrw, .int mqt, .int mlv, .int mtl, .int mbe, .int mch, .ref hpb, .ref hwa, .ref hmn, .ref hcf, .ref hsa, .ref hro]))]) [0] (by decide) rfl
    generalize H1 = H at hP hS ⊢
    obtain ⟨q16_0, q16_1⟩ := hw9
    have q16_0 : kB r16 0 1 := q16_0
    have q16_1 : r16 = if 0 < (1 : Int32).toInt then 1 else 0 := q16_1
    have RB16 : kB r16 1 1 := by rw [q16_1]; decide
    refine lv_if_eq (tgt := 24) hx hb dX8_count_19 (by decide) (fun c19 => ?_) (fun c19 => ?_)
    · have c19x : kB r16 0 0 := kB_eq c19 kc_0
      exact absurd (Int.le_trans RB16.1 c19x.2) (by decide)
    · refine lv_iconst (v := 0) hx hb dX8_count_22 (by decide) ?_
      have pf_x : ((1 : Int32) = 1 ∧ ¬ (0 ≤ wt.toInt ∧ wt.toInt ≤ 6)) ∨ ((1 : Int32) = 0 ∧ (0 ≤ wt.toInt ∧ wt.toInt ≤ 6)) := (Or.inl ⟨rfl, HW⟩)
      have pf_fr : kIf ((1 : Int32) = 0 ∧ mcl = 0 ∧ mrw = 0 ∧ mqt = 0 ∧ mlv = 0 ∧ mtl = 0 ∧ mbe = 0 ∧ mch = 0) ((0 : Int32) = 0) := (fun h9 => absurd h9.1 (by decide))
      exact W.iret (v := 0) hx hb hr (fun t9 ht9 hW9 => ⟨⟨0, 1, rfl, ⟨pf_x, pf_fr⟩, by rw [ht9]; exact hP, hD⟩, hS.F ht9⟩) hS.2.2 dX8_count_23
  · have c8x : kB r5 1 1 := kB_nlo q5_0 c8 kc_0 (by decide)
    have HW : (0 ≤ wt.toInt ∧ wt.toInt ≤ 6) := by have h9 := q5_2 c8; rw [show (0 : Int32).toInt = 0 from by decide, show (6 : Int32).toInt = 6 from by decide] at h9; exact h9
    have BW : kB wt 0 6 := HW
    refine lv_iconst (v := 0) hx hb dX8_count_11 (by decide) ?_
    refine lv_goto (tgt := 16) hx hb dX8_count_12 (by decide) ?_
    have hPc := hP.sub (ws' := [(hm, .inr (8, [.int mrf, .ref hby, .int msz, .int mbg, .long mbt, .int mrg, .int mct, .int mvl, .int mpl, .int mcl, .int mrw, .int mqt, .int mlv, .int mtl, .int mbe, .int mch, .ref hpb, .ref hwa, .ref hmn, .ref hcf, .ref hsa, .ref hro]))]) [0] rfl
    have hDc := hD.sub (ws' := [(hm, .inr (8, [.int mrf, .ref hby, .int msz, .int mbg, .long mbt, .int mrg, .int mct, .int mvl, .int mpl, .int mcl, .int mrw, .int mqt, .int mlv, .int mtl, .int mbe, .int mch, .ref hpb, .ref hwa, .ref hmn, .ref hcf, .ref hsa, .ref hro]))]) [0] (by decide) rfl
    have hFc := va_free (wc := [(hm, .inr (8, [.int mrf, .ref hby, .int msz, .int mbg, .long mbt, .int mrg, .int mct, .int mvl, .int mpl, .int mcl, .int mrw, .int mqt, .int mlv, .int mtl, .int mbe, .int mch, .ref hpb, .ref hwa, .ref hmn, .ref hcf, .ref hsa, .ref hro]))]) hD hS hA [0] rfl
    refine va_calli (va_runV (As := [.int 0]) (rest := []) ⟨hx, hb, hml, hown, hts⟩ (c_X8_refused l D cI cJ cZ hm hby hpb hwa hmn hcf hsa hro mrf msz mbg mrg mct mvl mpl mcl mrw mqt mlv mtl mbe mch mbt 0 (H).size) (cwV 1 hts (kg_V mk_372 mk_373 mk_374 mk_189 mk_375) rfl rfl rfl (by decide +kernel) ⟨Nat.le_of_ble_eq_true rfl, Nat.le_of_ble_eq_true rfl⟩) ⟨fun a U g mk q => by obtain ⟨q0, q1, qP, qK, qD⟩ := q; exact ⟨q0, q1, qP, kK.call qK, qD⟩, va_recv hK.1 hPc (ci := 8) (q0 := 0) rfl rfl, fun U hU hW => ⟨rfl, by rw [hU], by rw [hU]; exact hPc, kK.warm hW hK, hDc.weaken (fun _ _ _ _ => trivial)⟩⟩ rfl rfl hl.1 rfl (lv_room (Nat.le_of_ble_eq_true rfl)) dX8_count_16 ⟨Nat.zero_le _, Nat.zero_le _⟩) hS (fun q _ h => hFc q h) hFc (fun r16 u t9 H1 locs ht9 hvm9 hw9 hB9 hz9 hk9 hS => ?_)
    obtain ⟨hP1, hD1⟩ := hB9
    rw [ht9] at hP1
    have hP1 : va_P D vwCl [(hm, .inr (8, [.int 0, .ref hby, .int msz, .int mbg, .long mbt, .int mrg, .int mct, .int mvl, .int mpl, .int mcl, .int mrw, .int mqt, .int mlv, .int mtl, .int mbe, .int mch, .ref hpb, .ref hwa, .ref hmn, .ref hcf, .ref hsa, .ref hro]))] H1 := hP1
    obtain ⟨hP, hD⟩ := va_join (wr := []) (w1 := [(hm, .inr (8, [.int 0, .ref hby, .int msz, .int mbg, .long mbt, .int mrg, .int mct, .int mvl, .int mpl, .int mcl, .int mrw, .int mqt, .int mlv, .int mtl, .int mbe, .int mch, .ref hpb, .ref hwa, .ref hmn, .ref hcf, .ref hsa, .ref hro]))]) hP hD [0] [] rfl rfl (by decide) (by decide) hk9 hFc hP1 hD1
    have hP := hP.sub (ws' := [(hm, .inr (8, [.int 0, .ref hby, .int msz, .int mbg, .long mbt, .int mrg, .int mct, .int mvl, .int mpl, .int mcl, .int mrw, .int mqt, .int mlv, .int mtl, .int mbe, .int mch, .ref hpb, .ref hwa, .ref hmn, .ref hcf, .ref hsa, .ref hro]))]) [0] rfl
    have hD := hD.sub (ws' := [(hm, .inr (8, [.int 0, .ref hby, .int msz, .int mbg, .long mbt, .int mrg, .int mct, .int mvl, .int mpl, .int mcl, .int mrw, .int mqt, .int mlv, .int mtl, .int mbe, .int mch, .ref hpb, .ref hwa, .ref hmn, .ref hcf, .ref hsa, .ref hro]))]) [0] (by decide) rfl
    generalize H1 = H at hP hS ⊢
    obtain ⟨q16_0, q16_1⟩ := hw9
    have q16_0 : kB r16 0 1 := q16_0
    have q16_1 : r16 = if 0 < (0 : Int32).toInt then 1 else 0 := q16_1
    have RB16 : kB r16 0 0 := by rw [q16_1]; decide
    refine lv_if_eq (tgt := 24) hx hb dX8_count_19 (by decide) (fun c19 => ?_) (fun c19 => ?_)
    · refine lv_iload_n hx hb dX8_count_24 rfl (lv_at hl 1 rfl) ?_
      by_cases h25 : wt.toInt < 0 ∨ 5 < wt.toInt
      · refine lv_tableOut (tgt := 94) hx hb dX8_count_25 h25 (by decide) ?_
        refine lv_aload_n hx hb dX8_count_94 rfl (lv_at hl 0 rfl) ?_
        refine va_get (D := D) (ci := 8) (v := .int mch) (C := RX8) (T := TX8) (N := 22) hx hb hts in_X8 hown hK.1 hP 0 rfl rfl 15 (by decide) (hts _ mk_282) (fun _ h9 => h9) rfl dX8_count_95 ?_
        have pf_x : ((0 : Int32) = 1 ∧ ¬ (0 ≤ wt.toInt ∧ wt.toInt ≤ 6)) ∨ ((0 : Int32) = 0 ∧ (0 ≤ wt.toInt ∧ wt.toInt ≤ 6)) := (Or.inr ⟨rfl, HW⟩)
        have pf_fr : kIf ((0 : Int32) = 0 ∧ mcl = 0 ∧ mrw = 0 ∧ mqt = 0 ∧ mlv = 0 ∧ mtl = 0 ∧ mbe = 0 ∧ mch = 0) (mch = 0) := (fun h9 => h9.2.2.2.2.2.2.2)
        exact W.iret (v := mch) hx hb hr (fun t9 ht9 hW9 => ⟨⟨mch, 0, rfl, ⟨pf_x, pf_fr⟩, by rw [ht9]; exact hP, hD⟩, hS.F ht9⟩) hS.2.2 dX8_count_98
      · have g25 : wt.toInt = 0 ∨ wt.toInt = 1 ∨ wt.toInt = 2 ∨ wt.toInt = 3 ∨ wt.toInt = 4 ∨ wt.toInt = 5 := by omega
        rcases g25 with k25 | k25 | k25 | k25 | k25 | k25
        · have x25 : kB wt 0 0 := ⟨Int.le_of_eq k25.symm, Int.le_of_eq k25⟩
          refine lv_tableIn (tgt := 64) (off := 39) hx hb dX8_count_25 (by omega) (by omega) (by rw [k25]; rfl) (by decide) ?_
          refine lv_aload_n hx hb dX8_count_64 rfl (lv_at hl 0 rfl) ?_
          refine va_get (D := D) (ci := 8) (v := .int mcl) (C := RX8) (T := TX8) (N := 22) hx hb hts in_X8 hown hK.1 hP 0 rfl rfl 9 (by decide) (hts _ mk_227) (fun _ h9 => h9) rfl dX8_count_65 ?_
          have pf_x : ((0 : Int32) = 1 ∧ ¬ (0 ≤ wt.toInt ∧ wt.toInt ≤ 6)) ∨ ((0 : Int32) = 0 ∧ (0 ≤ wt.toInt ∧ wt.toInt ≤ 6)) := (Or.inr ⟨rfl, HW⟩)
          have pf_fr : kIf ((0 : Int32) = 0 ∧ mcl = 0 ∧ mrw = 0 ∧ mqt = 0 ∧ mlv = 0 ∧ mtl = 0 ∧ mbe = 0 ∧ mch = 0) (mcl = 0) := (fun h9 => h9.2.1)
          exact W.iret (v := mcl) hx hb hr (fun t9 ht9 hW9 => ⟨⟨mcl, 0, rfl, ⟨pf_x, pf_fr⟩, by rw [ht9]; exact hP, hD⟩, hS.F ht9⟩) hS.2.2 dX8_count_68
        · have x25 : kB wt 1 1 := ⟨Int.le_of_eq k25.symm, Int.le_of_eq k25⟩
          refine lv_tableIn (tgt := 69) (off := 44) hx hb dX8_count_25 (by omega) (by omega) (by rw [k25]; rfl) (by decide) ?_
          refine lv_aload_n hx hb dX8_count_69 rfl (lv_at hl 0 rfl) ?_
          refine va_get (D := D) (ci := 8) (v := .int mrw) (C := RX8) (T := TX8) (N := 22) hx hb hts in_X8 hown hK.1 hP 0 rfl rfl 10 (by decide) (hts _ mk_287) (fun _ h9 => h9) rfl dX8_count_70 ?_
          have pf_x : ((0 : Int32) = 1 ∧ ¬ (0 ≤ wt.toInt ∧ wt.toInt ≤ 6)) ∨ ((0 : Int32) = 0 ∧ (0 ≤ wt.toInt ∧ wt.toInt ≤ 6)) := (Or.inr ⟨rfl, HW⟩)
          have pf_fr : kIf ((0 : Int32) = 0 ∧ mcl = 0 ∧ mrw = 0 ∧ mqt = 0 ∧ mlv = 0 ∧ mtl = 0 ∧ mbe = 0 ∧ mch = 0) (mrw = 0) := (fun h9 => h9.2.2.1)
          exact W.iret (v := mrw) hx hb hr (fun t9 ht9 hW9 => ⟨⟨mrw, 0, rfl, ⟨pf_x, pf_fr⟩, by rw [ht9]; exact hP, hD⟩, hS.F ht9⟩) hS.2.2 dX8_count_73
        · have x25 : kB wt 2 2 := ⟨Int.le_of_eq k25.symm, Int.le_of_eq k25⟩
          refine lv_tableIn (tgt := 74) (off := 49) hx hb dX8_count_25 (by omega) (by omega) (by rw [k25]; rfl) (by decide) ?_
          refine lv_aload_n hx hb dX8_count_74 rfl (lv_at hl 0 rfl) ?_
          refine va_get (D := D) (ci := 8) (v := .int mqt) (C := RX8) (T := TX8) (N := 22) hx hb hts in_X8 hown hK.1 hP 0 rfl rfl 11 (by decide) (hts _ mk_254) (fun _ h9 => h9) rfl dX8_count_75 ?_
          have pf_x : ((0 : Int32) = 1 ∧ ¬ (0 ≤ wt.toInt ∧ wt.toInt ≤ 6)) ∨ ((0 : Int32) = 0 ∧ (0 ≤ wt.toInt ∧ wt.toInt ≤ 6)) := (Or.inr ⟨rfl, HW⟩)
          have pf_fr : kIf ((0 : Int32) = 0 ∧ mcl = 0 ∧ mrw = 0 ∧ mqt = 0 ∧ mlv = 0 ∧ mtl = 0 ∧ mbe = 0 ∧ mch = 0) (mqt = 0) := (fun h9 => h9.2.2.2.1)
          exact W.iret (v := mqt) hx hb hr (fun t9 ht9 hW9 => ⟨⟨mqt, 0, rfl, ⟨pf_x, pf_fr⟩, by rw [ht9]; exact hP, hD⟩, hS.F ht9⟩) hS.2.2 dX8_count_78
        · have x25 : kB wt 3 3 := ⟨Int.le_of_eq k25.symm, Int.le_of_eq k25⟩
          refine lv_tableIn (tgt := 79) (off := 54) hx hb dX8_count_25 (by omega) (by omega) (by rw [k25]; rfl) (by decide) ?_
          refine lv_aload_n hx hb dX8_count_79 rfl (lv_at hl 0 rfl) ?_
          refine va_get (D := D) (ci := 8) (v := .int mlv) (C := RX8) (T := TX8) (N := 22) hx hb hts in_X8 hown hK.1 hP 0 rfl rfl 12 (by decide) (hts _ mk_278) (fun _ h9 => h9) rfl dX8_count_80 ?_
          have pf_x : ((0 : Int32) = 1 ∧ ¬ (0 ≤ wt.toInt ∧ wt.toInt ≤ 6)) ∨ ((0 : Int32) = 0 ∧ (0 ≤ wt.toInt ∧ wt.toInt ≤ 6)) := (Or.inr ⟨rfl, HW⟩)
          have pf_fr : kIf ((0 : Int32) = 0 ∧ mcl = 0 ∧ mrw = 0 ∧ mqt = 0 ∧ mlv = 0 ∧ mtl = 0 ∧ mbe = 0 ∧ mch = 0) (mlv = 0) := (fun h9 => h9.2.2.2.2.1)
          exact W.iret (v := mlv) hx hb hr (fun t9 ht9 hW9 => ⟨⟨mlv, 0, rfl, ⟨pf_x, pf_fr⟩, by rw [ht9]; exact hP, hD⟩, hS.F ht9⟩) hS.2.2 dX8_count_83
        · have x25 : kB wt 4 4 := ⟨Int.le_of_eq k25.symm, Int.le_of_eq k25⟩
          refine lv_tableIn (tgt := 84) (off := 59) hx hb dX8_count_25 (by omega) (by omega) (by rw [k25]; rfl) (by decide) ?_
          refine lv_aload_n hx hb dX8_count_84 rfl (lv_at hl 0 rfl) ?_
          refine va_get (D := D) (ci := 8) (v := .int mtl) (C := RX8) (T := TX8) (N := 22) hx hb hts in_X8 hown hK.1 hP 0 rfl rfl 13 (by decide) (hts _ mk_292) (fun _ h9 => h9) rfl dX8_count_85 ?_
          have pf_x : ((0 : Int32) = 1 ∧ ¬ (0 ≤ wt.toInt ∧ wt.toInt ≤ 6)) ∨ ((0 : Int32) = 0 ∧ (0 ≤ wt.toInt ∧ wt.toInt ≤ 6)) := (Or.inr ⟨rfl, HW⟩)
          have pf_fr : kIf ((0 : Int32) = 0 ∧ mcl = 0 ∧ mrw = 0 ∧ mqt = 0 ∧ mlv = 0 ∧ mtl = 0 ∧ mbe = 0 ∧ mch = 0) (mtl = 0) := (fun h9 => h9.2.2.2.2.2.1)
          exact W.iret (v := mtl) hx hb hr (fun t9 ht9 hW9 => ⟨⟨mtl, 0, rfl, ⟨pf_x, pf_fr⟩, by rw [ht9]; exact hP, hD⟩, hS.F ht9⟩) hS.2.2 dX8_count_88
        · have x25 : kB wt 5 5 := ⟨Int.le_of_eq k25.symm, Int.le_of_eq k25⟩
          refine lv_tableIn (tgt := 89) (off := 64) hx hb dX8_count_25 (by omega) (by omega) (by rw [k25]; rfl) (by decide) ?_
          refine lv_aload_n hx hb dX8_count_89 rfl (lv_at hl 0 rfl) ?_
          refine va_get (D := D) (ci := 8) (v := .int mbe) (C := RX8) (T := TX8) (N := 22) hx hb hts in_X8 hown hK.1 hP 0 rfl rfl 14 (by decide) (hts _ mk_293) (fun _ h9 => h9) rfl dX8_count_90 ?_
          have pf_x : ((0 : Int32) = 1 ∧ ¬ (0 ≤ wt.toInt ∧ wt.toInt ≤ 6)) ∨ ((0 : Int32) = 0 ∧ (0 ≤ wt.toInt ∧ wt.toInt ≤ 6)) := (Or.inr ⟨rfl, HW⟩)
          have pf_fr : kIf ((0 : Int32) = 0 ∧ mcl = 0 ∧ mrw = 0 ∧ mqt = 0 ∧ mlv = 0 ∧ mtl = 0 ∧ mbe = 0 ∧ mch = 0) (mbe = 0) := (fun h9 => h9.2.2.2.2.2.2.1)
          exact W.iret (v := mbe) hx hb hr (fun t9 ht9 hW9 => ⟨⟨mbe, 0, rfl, ⟨pf_x, pf_fr⟩, by rw [ht9]; exact hP, hD⟩, hS.F ht9⟩) hS.2.2 dX8_count_93
    · have c19x : kB r16 1 0 := kB_nlo RB16 c19 kc_0 (by decide)
      exact absurd (Int.le_trans c19x.1 c19x.2) (by decide)
abbrev kw_X8_thrown : List Cond := Cond.code yX8_thrown cX8_thrown 1 (some .int) :: kW
set_option maxHeartbeats 4000000 in
set_option maxRecDepth 100000 in
theorem c_X8_thrown (l : Launch) (D : va_G) (cI cJ cZ : ClassId) (hm hby hpb hwa hmn hcf hsa hro : Nat) (mrf : Int32) (msz : Int32) (mbg : Int32) (mrg : Int32) (mct : Int32) (mvl : Int32) (mpl : Int32) (mcl : Int32) (mrw : Int32) (mqt : Int32) (mlv : Int32) (mtl : Int32) (mbe : Int32) (mch : Int32) (mbt : Int64) (hpz : Nat) : Met l yX8_thrown kw_X8_thrown ({ frames := 0, cells := 0, slots := 0, locals := 0 }) (va_Pc [.ref hm] (fun U => U.heap.size = hpz ∧ va_P D vwCl [(hm, .inr (8, [.int mrf, .ref hby, .int msz, .int mbg, .long mbt, .int mrg, .int mct, .int mvl, .int mpl, .int mcl, .int mrw, .int mqt, .int mlv, .int mtl, .int mbe, .int mch, .ref hpb, .ref hwa, .ref hmn, .ref hcf, .ref hsa, .ref hro]))] U.heap ∧ kK D cI cJ cZ U ∧ va_D (fun _ => True) [(hm, .inr (8, [.int mrf, .ref hby, .int msz, .int mbg, .long mbt, .int mrg, .int mct, .int mvl, .int mpl, .int mcl, .int mrw, .int mqt, .int mlv, .int mtl, .int mbe, .int mch, .ref hpb, .ref hwa, .ref hmn, .ref hcf, .ref hsa, .ref hro]))])) (va_Qi (fun (r : Int32) (u : Unit) => (r = mrf)) (fun (u : Unit) (t : State) => va_P D vwCl [(hm, .inr (8, [.int mrf, .ref hby, .int msz, .int mbg, .long mbt, .int mrg, .int mct, .int mvl, .int mpl, .int mcl, .int mrw, .int mqt, .int mlv, .int mtl, .int mbe, .int mch, .ref hpb, .ref hwa, .ref hmn, .ref hcf, .ref hsa, .ref hro]))] t.heap ∧ va_D (va_A [(hm, .inr (8, [.int mrf, .ref hby, .int msz, .int mbg, .long mbt, .int mrg, .int mct, .int mvl, .int mpl, .int mcl, .int mrw, .int mqt, .int mlv, .int mtl, .int mbe, .int mch, .ref hpb, .ref hwa, .ref hmn, .ref hcf, .ref hsa, .ref hro]))] hpz) [(hm, .inr (8, [.int mrf, .ref hby, .int msz, .int mbg, .long mbt, .int mrg, .int mct, .int mvl, .int mpl, .int mcl, .int mrw, .int mqt, .int mlv, .int mtl, .int mbe, .int mch, .ref hpb, .ref hwa, .ref hmn, .ref hcf, .ref hsa, .ref hro]))]) (va_A [(hm, .inr (8, [.int mrf, .ref hby, .int msz, .int mbg, .long mbt, .int mrg, .int mct, .int mvl, .int mpl, .int mcl, .int mrw, .int mqt, .int mlv, .int mtl, .int mbe, .int mch, .ref hpb, .ref hwa, .ref hmn, .ref hcf, .ref hsa, .ref hro]))] hpz)) 0 0 (va_A [(hm, .inr (8, [.int mrf, .ref hby, .int msz, .int mbg, .long mbt, .int mrg, .int mct, .int mvl, .int mpl, .int mcl, .int mrw, .int mqt, .int mlv, .int mtl, .int mbe, .int mch, .ref hpb, .ref hwa, .ref hmn, .ref hcf, .ref hsa, .ref hro]))] hpz) := by
  refine Met.ofW (cc := cX8_thrown) (maxL := 1) (ret := (some .int)) (by decide) rfl ?_
  intro p e s m args below meth c s₁ B hml hv
  obtain ⟨rfl, hsz, hP, hK, hD0⟩ := hv
  have hx := B.exec
  have hb := B.bytes
  have hr := B.returns
  have hts := fun (w : Cond) (h : w ∈ kW) => atoms_spec (ws := kw_X8_thrown) B.pre w (List.mem_cons_of_mem _ h)
  have hown : s.vm.findClass RX8 = some m.cls := findClass_of_methodNamed B.named
  have hlocks := B.notSynchronized
  subst hsz
  have hD := hD0.self (sz := s.heap.size)
  generalize hAe : va_A [(hm, .inr (8, [.int mrf, .ref hby, .int msz, .int mbg, .long mbt, .int mrg, .int mct, .int mvl, .int mpl, .int mcl, .int mrw, .int mqt, .int mlv, .int mtl, .int mbe, .int mch, .ref hpb, .ref hwa, .ref hmn, .ref hcf, .ref hsa, .ref hro]))] s.heap.size = A at hD ⊢
  have hA : ∀ q : Nat, s.heap.size ≤ q → A q := fun q h => by rw [← hAe]; exact Or.inr h
  have hS : va_S A s.heap s.heap [] := va_S.rf
  have hP : va_P D vwCl [(hm, .inr (8, [.int mrf, .ref hby, .int msz, .int mbg, .long mbt, .int mrg, .int mct, .int mvl, .int mpl, .int mcl, .int mrw, .int mqt, .int mlv, .int mtl, .int mbe, .int mch, .ref hpb, .ref hwa, .ref hmn, .ref hcf, .ref hsa, .ref hro]))] s.heap := hP
  have hl := lv_entry ([.ref hm]) (n := 1) (Nat.le_of_ble_eq_true rfl)
  rw [lg_entry_eq]
  generalize (lg_sl ([.ref hm]) ++ List.replicate (1 - (lg_sl ([.ref hm])).length) Slot.unset).toArray = ls at hl ⊢
  have hl : lv_has ls 1 [(0, .ref hm)] := hl
  refine lv_aload_n hx hb dX8_thrown_0 rfl (lv_at hl 0 rfl) ?_
  refine va_get (D := D) (ci := 8) (v := .int mrf) (C := RX8) (T := TX8) (N := 22) hx hb hts in_X8 hown hK.1 hP 0 rfl rfl 0 (by decide) (hts _ mk_183) (fun _ h9 => h9) rfl dX8_thrown_1 ?_
  exact W.iret (v := mrf) hx hb hr (fun t9 ht9 hW9 => ⟨⟨mrf, (), rfl, rfl, by rw [ht9]; exact hP, hD⟩, hS.F ht9⟩) hS.2.2 dX8_thrown_4
