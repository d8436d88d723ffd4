abbrev kw_X4_blocks : List Cond := Cond.code yX4_blocks cX4_blocks 1 (some .int) :: kW
set_option maxHeartbeats 4000000 in
set_option maxRecDepth 100000 in
theorem c_X4_blocks (l : Launch) (D : va_G) (cI cJ cZ : ClassId) (hp ht htr hpl hw hcr hco hhs : Nat) (cols : Int32) (rows : Int32) (q : Int32) (lev : Int32) (ta : Int32) (ob : Int32) (fch : Int32) (bcols : kB cols 0 4) (brows : kB rows 0 4) (hpz : Nat) : Met l yX4_blocks kw_X4_blocks ({ frames := 0, cells := 0, slots := 0, locals := 0 }) (va_Pc [.ref hp] (fun U => U.heap.size = hpz ∧ va_P D vwCl [(hp, .inr (4, [.ref ht, .ref htr, .ref hpl, .ref hw, .ref hcr, .ref hco, .ref hhs, .int cols, .int rows, .int q, .int lev, .int ta, .int ob, .int fch]))] U.heap ∧ kK D cI cJ cZ U ∧ va_D (fun _ => True) [(hp, .inr (4, [.ref ht, .ref htr, .ref hpl, .ref hw, .ref hcr, .ref hco, .ref hhs, .int cols, .int rows, .int q, .int lev, .int ta, .int ob, .int fch]))])) (va_Qi (fun (r : Int32) (u : Unit) => (kB r 0 16) ∧ (r = cols * rows)) (fun (u : Unit) (t : State) => va_P D vwCl [(hp, .inr (4, [.ref ht, .ref htr, .ref hpl, .ref hw, .ref hcr, .ref hco, .ref hhs, .int cols, .int rows, .int q, .int lev, .int ta, .int ob, .int fch]))] t.heap ∧ va_D (va_A [(hp, .inr (4, [.ref ht, .ref htr, .ref hpl, .ref hw, .ref hcr, .ref hco, .ref hhs, .int cols, .int rows, .int q, .int lev, .int ta, .int ob, .int fch]))] hpz) [(hp, .inr (4, [.ref ht, .ref htr, .ref hpl, .ref hw, .ref hcr, .ref hco, .ref hhs, .int cols, .int rows, .int q, .int lev, .int ta, .int ob, .int fch]))]) (va_A [(hp, .inr (4, [.ref ht, .ref htr, .ref hpl, .ref hw, .ref hcr, .ref hco, .ref hhs, .int cols, .int rows, .int q, .int lev, .int ta, .int ob, .int fch]))] hpz)) 0 0 (va_A [(hp, .inr (4, [.ref ht, .ref htr, .ref hpl, .ref hw, .ref hcr, .ref hco, .ref hhs, .int cols, .int rows, .int q, .int lev, .int ta, .int ob, .int fch]))] hpz) := by
  refine Met.ofW (cc := cX4_blocks) (maxL := 1) (ret := (some .int)) (by decide) rfl ?_
  intro p e s m args below meth c s₁ B hml hv
  obtain ⟨rfl, hsz, hP, hK, hD0⟩ := hv
  have hx := B.exec
  have hb := B.bytes
  have hr := B.returns
  have hts := fun (w : Cond) (h : w ∈ kW) => atoms_spec (ws := kw_X4_blocks) B.pre w (List.mem_cons_of_mem _ h)
  have hown : s.vm.findClass RX4 = some m.cls := findClass_of_methodNamed B.named
  have hlocks := B.notSynchronized
  subst hsz
  have hD := hD0.self (sz := s.heap.size)
  generalize hAe : va_A [(hp, .inr (4, [.ref ht, .ref htr, .ref hpl, .ref hw, .ref hcr, .ref hco, .ref hhs, .int cols, .int rows, .int q, .int lev, .int ta, .int ob, .int fch]))] s.heap.size = A at hD ⊢
  have hA : ∀ q : Nat, s.heap.size ≤ q → A q := fun q h => by rw [← hAe]; exact Or.inr h
  have hS : va_S A s.heap s.heap [] := va_S.rf
  have hP : va_P D vwCl [(hp, .inr (4, [.ref ht, .ref htr, .ref hpl, .ref hw, .ref hcr, .ref hco, .ref hhs, .int cols, .int rows, .int q, .int lev, .int ta, .int ob, .int fch]))] s.heap := hP
  have hl := lv_entry ([.ref hp]) (n := 1) (Nat.le_of_ble_eq_true rfl)
  rw [lg_entry_eq]
  generalize (lg_sl ([.ref hp]) ++ List.replicate (1 - (lg_sl ([.ref hp])).length) Slot.unset).toArray = ls at hl ⊢
  have hl : lv_has ls 1 [(0, .ref hp)] := hl
  refine lv_aload_n hx hb dX4_blocks_0 rfl (lv_at hl 0 rfl) ?_
  refine va_get (D := D) (ci := 4) (v := .int cols) (C := RX4) (T := TX4) (N := 14) hx hb hts in_X4 hown hK.1 hP 0 rfl rfl 7 (by decide) (hts _ mk_114) (fun _ h9 => h9) rfl dX4_blocks_1 ?_
  refine lv_aload_n hx hb dX4_blocks_4 rfl (lv_at hl 0 rfl) ?_
  refine va_get (D := D) (ci := 4) (v := .int rows) (C := RX4) (T := TX4) (N := 14) hx hb hts in_X4 hown hK.1 hP 0 rfl rfl 8 (by decide) (hts _ mk_115) (fun _ h9 => h9) rfl dX4_blocks_5 ?_
  refine lv_imul hx hb dX4_blocks_8 ?_
  refine lv_topi (fun v8 e8 => ?_)
  have b8 : kB v8 0 16 := kB_eq e8 (kB_mul bcols brows (by decide))
  exact W.iret (v := v8) hx hb hr (fun t9 ht9 hW9 => ⟨⟨v8, (), rfl, ⟨b8, e8⟩, by rw [ht9]; exact hP, hD⟩, hS.F ht9⟩) hS.2.2 dX4_blocks_9
abbrev kw_X4_hasBlock : List Cond := Cond.code yX4_hasBlock cX4_hasBlock 2 (some .boolean) :: kW
set_option maxHeartbeats 4000000 in
set_option maxRecDepth 100000 in
theorem c_X4_hasBlock (l : Launch) (D : va_G) (cI cJ cZ : ClassId) (hp ht htr hpl hw hcr hco hhs : Nat) (cols : Int32) (rows : Int32) (q : Int32) (lev : Int32) (ta : Int32) (ob : Int32) (fch : Int32) (k : Int32) (bcols : kB cols 0 4) (brows : kB rows 0 4) (hpz : Nat) : Met l yX4_hasBlock kw_X4_hasBlock ({ frames := 1, cells := 0, slots := 0, locals := 20 }) (va_Pc [.ref hp, .int k] (fun U => U.heap.size = hpz ∧ va_P D vwCl [(hp, .inr (4, [.ref ht, .ref htr, .ref hpl, .ref hw, .ref hcr, .ref hco, .ref hhs, .int cols, .int rows, .int q, .int lev, .int ta, .int ob, .int fch]))] U.heap ∧ kK D cI cJ cZ U ∧ va_D (fun _ => True) [(hp, .inr (4, [.ref ht, .ref htr, .ref hpl, .ref hw, .ref hcr, .ref hco, .ref hhs, .int cols, .int rows, .int q, .int lev, .int ta, .int ob, .int fch]))])) (va_Qi (fun (r : Int32) (u : Unit) => (kB r 0 1) ∧ (r = 1 → kB k 0 15) ∧ (r = if 0 ≤ k.toInt ∧ k.toInt < (cols * rows).toInt then 1 else 0)) (fun (u : Unit) (t : State) => va_P D vwCl [(hp, .inr (4, [.ref ht, .ref htr, .ref hpl, .ref hw, .ref hcr, .ref hco, .ref hhs, .int cols, .int rows, .int q, .int lev, .int ta, .int ob, .int fch]))] t.heap ∧ va_D (va_A [(hp, .inr (4, [.ref ht, .ref htr, .ref hpl, .ref hw, .ref hcr, .ref hco, .ref hhs, .int cols, .int rows, .int q, .int lev, .int ta, .int ob, .int fch]))] hpz) [(hp, .inr (4, [.ref ht, .ref htr, .ref hpl, .ref hw, .ref hcr, .ref hco, .ref hhs, .int cols, .int rows, .int q, .int lev, .int ta, .int ob, .int fch]))]) (va_A [(hp, .inr (4, [.ref ht, .ref htr, .ref hpl, .ref hw, .ref hcr, .ref hco, .ref hhs, .int cols, .int rows, .int q, .int lev, .int ta, .int ob, .int fch]))] hpz)) 0 0 (va_A [(hp, .inr (4, [.ref ht, .ref htr, .ref hpl, .ref hw, .ref hcr, .ref hco, .ref hhs, .int cols, .int rows, .int q, .int lev, .int ta, .int ob, .int fch]))] hpz) := by
  refine Met.ofW (cc := cX4_hasBlock) (maxL := 2) (ret := (some .boolean)) (by decide) rfl ?_
  intro p e s m args below meth c s₁ B hml hv
  obtain ⟨rfl, hsz, hP, hK, hD0⟩ := hv
  have hx := B.exec
  have hb := B.bytes
  have hr := B.returns
  have hts := fun (w : Cond) (h : w ∈ kW) => atoms_spec (ws := kw_X4_hasBlock) B.pre w (List.mem_cons_of_mem _ h)
  have hown : s.vm.findClass RX4 = some m.cls := findClass_of_methodNamed B.named
  have hlocks := B.notSynchronized
  subst hsz
  have hD := hD0.self (sz := s.heap.size)
  generalize hAe : va_A [(hp, .inr (4, [.ref ht, .ref htr, .ref hpl, .ref hw, .ref hcr, .ref hco, .ref hhs, .int cols, .int rows, .int q, .int lev, .int ta, .int ob, .int fch]))] s.heap.size = A at hD ⊢
  have hA : ∀ q : Nat, s.heap.size ≤ q → A q := fun q h => by rw [← hAe]; exact Or.inr h
  have hS : va_S A s.heap s.heap [] := va_S.rf
  have hP : va_P D vwCl [(hp, .inr (4, [.ref ht, .ref htr, .ref hpl, .ref hw, .ref hcr, .ref hco, .ref hhs, .int cols, .int rows, .int q, .int lev, .int ta, .int ob, .int fch]))] s.heap := hP
  have hl := lv_entry ([.ref hp, .int k]) (n := 2) (Nat.le_of_ble_eq_true rfl)
  rw [lg_entry_eq]
  generalize (lg_sl ([.ref hp, .int k]) ++ List.replicate (2 - (lg_sl ([.ref hp, .int k])).length) Slot.unset).toArray = ls at hl ⊢
  have hl : lv_has ls 2 [(0, .ref hp), (1, .int k)] := hl
  refine lv_iload_n hx hb dX4_hasBlock_0 rfl (lv_at hl 1 rfl) ?_
  refine lv_if_lt (tgt := 16) hx hb dX4_hasBlock_1 (by decide) (fun c1 => ?_) (fun c1 => ?_)
  · have c1a := kB_all k
    have c1x : kB k (-2147483648) (-1) := kB_lt_l c1a kc_0 c1 (by decide)
    have K1 : ¬ (0 ≤ k.toInt ∧ k.toInt < (cols * rows).toInt) := fun h => by have := Int32.lt_iff_toInt_lt.mp c1; rw [show (0 : Int32).toInt = 0 from by decide] at this; omega
    refine lv_iconst (v := 0) hx hb dX4_hasBlock_16 (by decide) ?_
    have pf_b : kB (0 : Int32) 0 1 := (kB_w kc_0 (by decide) (by decide))
    have pf_x : (0 : Int32) = 1 → kB k 0 15 := (fun h => absurd h (by decide))
    have pf_y : (0 : Int32) = if 0 ≤ k.toInt ∧ k.toInt < (cols * rows).toInt then 1 else 0 := (by rw [if_neg K1])
    exact W.zret (v := 0) hx hb hr (kB_nz (kB_w kc_0 (by decide) (by decide))) (fun t9 ht9 hW9 => ⟨⟨0, (), rfl, ⟨pf_b, pf_x, pf_y⟩, by rw [ht9]; exact hP, hD⟩, hS.F ht9⟩) hS.2.2 dX4_hasBlock_17
  · have c1n : 0 ≤ k := kN_lt c1
    have c1nb := kB_all k
    have c1ny : kB k 0 2147483647 := kB_le_r kc_0 c1nb c1n (by decide)
    refine lv_iload_n hx hb dX4_hasBlock_4 rfl (lv_at hl 1 rfl) ?_
    refine lv_aload_n hx hb dX4_hasBlock_5 rfl (lv_at hl 0 rfl) ?_
    have hPc := hP.sub (ws' := [(hp, .inr (4, [.ref ht, .ref htr, .ref hpl, .ref hw, .ref hcr, .ref hco, .ref hhs, .int cols, .int rows, .int q, .int lev, .int ta, .int ob, .int fch]))]) [0] rfl
    have hDc := hD.sub (ws' := [(hp, .inr (4, [.ref ht, .ref htr, .ref hpl, .ref hw, .ref hcr, .ref hco, .ref hhs, .int cols, .int rows, .int q, .int lev, .int ta, .int ob, .int fch]))]) [0] (by decide) rfl
    have hFc := va_free (wc := [(hp, .inr (4, [.ref ht, .ref htr, .ref hpl, .ref hw, .ref hcr, .ref hco, .ref hhs, .int cols, .int rows, .int q, .int lev, .int ta, .int ob, .int fch]))]) hD hS hA [0] rfl
    refine va_calli (va_runV (As := []) (rest := [.int k]) ⟨hx, hb, hml, hown, hts⟩ (c_X4_blocks l D cI cJ cZ hp ht htr hpl hw hcr hco hhs cols rows q lev ta ob fch bcols brows (s.heap).size) (cwV 0 hts (kg_V mk_116 mk_117 mk_118 mk_119 mk_120) rfl rfl rfl (by decide +kernel) ⟨Nat.le_of_ble_eq_true rfl, Nat.le_of_ble_eq_true rfl⟩) ⟨fun a U g mk q => by obtain ⟨q0, q1, qP, qK, qD⟩ := q; exact ⟨q0, q1, qP, kK.call qK, qD⟩, va_recv hK.1 hPc (ci := 4) (q0 := 0) rfl rfl, fun U hU hW => ⟨rfl, by rw [hU], by rw [hU]; exact hPc, kK.warm hW hK, hDc.weaken (fun _ _ _ _ => trivial)⟩⟩ rfl rfl hl.1 rfl (lv_room (Nat.le_of_ble_eq_true rfl)) dX4_hasBlock_6 ⟨Nat.zero_le _, Nat.zero_le _⟩) hS (fun q _ h => hFc q h) hFc (fun r6 u t9 H1 locs ht9 hvm9 hw9 hB9 hz9 hk9 hS => ?_)
    obtain ⟨hP1, hD1⟩ := hB9
    rw [ht9] at hP1
    have hP1 : va_P D vwCl [(hp, .inr (4, [.ref ht, .ref htr, .ref hpl, .ref hw, .ref hcr, .ref hco, .ref hhs, .int cols, .int rows, .int q, .int lev, .int ta, .int ob, .int fch]))] H1 := hP1
    obtain ⟨hP, hD⟩ := va_join (wr := []) (w1 := [(hp, .inr (4, [.ref ht, .ref htr, .ref hpl, .ref hw, .ref hcr, .ref hco, .ref hhs, .int cols, .int rows, .int q, .int lev, .int ta, .int ob, .int fch]))]) hP hD [0] [] rfl rfl (by decide) (by decide) hk9 hFc hP1 hD1
    have hP := hP.sub (ws' := [(hp, .inr (4, [.ref ht, .ref htr, .ref hpl, .ref hw, .ref hcr, .ref hco, .ref hhs, .int cols, .int rows, .int q, .int lev, .int ta, .int ob, .int fch]))]) [0] rfl
    have hD := hD.sub (ws' := [(hp, .inr (4, [.ref ht, .ref htr, .ref hpl, .ref hw, .ref hcr, .ref hco, .ref hhs, .int cols, .int rows, .int q, .int lev, .int ta, .int ob, .int fch]))]) [0] (by decide) rfl
    generalize H1 = H at hP hS ⊢
    obtain ⟨q6_0, q6_1⟩ := hw9
    have q6_0 : kB r6 0 16 := q6_0
    have q6_1 : r6 = cols * rows := q6_1
    refine lv_icmp_ge (tgt := 16) hx hb dX4_hasBlock_9 (by decide) (fun c9 => ?_) (fun c9 => ?_)
    · have K1 : ¬ (0 ≤ k.toInt ∧ k.toInt < (cols * rows).toInt) := fun h => by have := Int32.le_iff_toInt_le.mp c9; rw [q6_1] at this; omega
      refine lv_iconst (v := 0) hx hb dX4_hasBlock_16 (by decide) ?_
      have pf_b : kB (0 : Int32) 0 1 := (kB_w kc_0 (by decide) (by decide))
      have pf_x : (0 : Int32) = 1 → kB k 0 15 := (fun h => absurd h (by decide))
      have pf_y : (0 : Int32) = if 0 ≤ k.toInt ∧ k.toInt < (cols * rows).toInt then 1 else 0 := (by rw [if_neg K1])
      exact W.zret (v := 0) hx hb hr (kB_nz (kB_w kc_0 (by decide) (by decide))) (fun t9 ht9 hW9 => ⟨⟨0, (), rfl, ⟨pf_b, pf_x, pf_y⟩, by rw [ht9]; exact hP, hD⟩, hS.F ht9⟩) hS.2.2 dX4_hasBlock_17
    · have c9n : k < r6 := kN_le c9
      have c9nx : kB k 0 15 := kB_lt_l c1ny q6_0 c9n (by decide)
      have c9ny : kB r6 1 16 := kB_lt_r c1ny q6_0 c9n (by decide)
      have K1 : 0 ≤ k.toInt ∧ k.toInt < (cols * rows).toInt := ⟨c1ny.1, by have := Int32.lt_iff_toInt_lt.mp c9n; rw [q6_1] at this; exact this⟩
      refine lv_iconst (v := 1) hx hb dX4_hasBlock_12 (by decide) ?_
      refine lv_goto (tgt := 17) hx hb dX4_hasBlock_13 (by decide) ?_
      have pf_b : kB (1 : Int32) 0 1 := (kB_w kc_1 (by decide) (by decide))
      have pf_x : (1 : Int32) = 1 → kB k 0 15 := (fun _ => c9nx)
      have pf_y : (1 : Int32) = if 0 ≤ k.toInt ∧ k.toInt < (cols * rows).toInt then 1 else 0 := (by rw [if_pos K1])
      exact W.zret (v := 1) hx hb hr (kB_nz (kB_w kc_1 (by decide) (by decide))) (fun t9 ht9 hW9 => ⟨⟨1, (), rfl, ⟨pf_b, pf_x, pf_y⟩, by rw [ht9]; exact hP, hD⟩, hS.F ht9⟩) hS.2.2 dX4_hasBlock_17
abbrev kw_X4_wayOf : List Cond := Cond.code yX4_wayOf cX4_wayOf 2 (some .int) :: kW
set_option maxHeartbeats 4000000 in
set_option maxRecDepth 100000 in
theorem c_X4_wayOf (l : Launch) (D : va_G) (cI cJ cZ : ClassId) (hp ht htr hpl hw hcr hco hhs : Nat) (cols : Int32) (rows : Int32) (q : Int32) (lev : Int32) (ta : Int32) (ob : Int32) (fch : Int32) (wy : Nat → Int32) (k : Int32) (bcols : kB cols 0 4) (brows : kB rows 0 4) (hpz : Nat) : Met l yX4_wayOf kw_X4_wayOf ({ frames := 2, cells := 0, slots := 0, locals := 41 }) (va_Pc [.ref hp, .int k] (fun U => U.heap.size = hpz ∧ va_P D vwCl [(hp, .inr (4, [.ref ht, .ref htr, .ref hpl, .ref hw, .ref hcr, .ref hco, .ref hhs, .int cols, .int rows, .int q, .int lev, .int ta, .int ob, .int fch])), (hw, .inl (cI, 16, .inl wy))] U.heap ∧ kK D cI cJ cZ U ∧ va_D (fun _ => True) [(hp, .inr (4, [.ref ht, .ref htr, .ref hpl, .ref hw, .ref hcr, .ref hco, .ref hhs, .int cols, .int rows, .int q, .int lev, .int ta, .int ob, .int fch])), (hw, .inl (cI, 16, .inl wy))])) (va_Qi (fun (r : Int32) (u : Unit) => (kIf (cols = 0) (r = -1))) (fun (u : Unit) (t : State) => va_P D vwCl [(hp, .inr (4, [.ref ht, .ref htr, .ref hpl, .ref hw, .ref hcr, .ref hco, .ref hhs, .int cols, .int rows, .int q, .int lev, .int ta, .int ob, .int fch])), (hw, .inl (cI, 16, .inl wy))] t.heap ∧ va_D (va_A [(hp, .inr (4, [.ref ht, .ref htr, .ref hpl, .ref hw, .ref hcr, .ref hco, .ref hhs, .int cols, .int rows, .int q, .int lev, .int ta, .int ob, .int fch])), (hw, .inl (cI, 16, .inl wy))] hpz) [(hp, .inr (4, [.ref ht, .ref htr, .ref hpl, .ref hw, .ref hcr, .ref hco, .ref hhs, .int cols, .int rows, .int q, .int lev, .int ta, .int ob, .int fch])), (hw, .inl (cI, 16, .inl wy))]) (va_A [(hp, .inr (4, [.ref ht, .ref htr, .ref hpl, .ref hw, .ref hcr, .ref hco, .ref hhs, .int cols, .int rows, .int q, .int lev, .int ta, .int ob, .int fch])), (hw, .inl (cI, 16, .inl wy))] hpz)) 0 0 (va_A [(hp, .inr (4, [.ref ht, .ref htr, .ref hpl, .ref hw, .ref hcr, .ref hco, .ref hhs, .int cols, .int rows, .int q, .int lev, .int ta, .int ob, .int fch])), (hw, .inl (cI, 16, .inl wy))] hpz) := by
  refine Met.ofW (cc := cX4_wayOf) (maxL := 2) (ret := (some .int)) (by decide) rfl ?_
  intro p e s m args below meth c s₁ B hml hv
  obtain ⟨rfl, hsz, hP, hK, hD0⟩ := hv
  have hx := B.exec
  have hb := B.bytes
  have hr := B.returns
  have hts := fun (w : Cond) (h : w ∈ kW) => atoms_spec (ws := kw_X4_wayOf) B.pre w (List.mem_cons_of_mem _ h)
  have hown : s.vm.findClass RX4 = some m.cls := findClass_of_methodNamed B.named
  have hlocks := B.notSynchronized
  subst hsz
  have hD := hD0.self (sz := s.heap.size)
  generalize hAe : va_A [(hp, .inr (4, [.ref ht, .ref htr, .ref hpl, .ref hw, .ref hcr, .ref hco, .ref hhs, .int cols, .int rows, .int q, .int lev, .int ta, .int ob, .int fch])), (hw, .inl (cI, 16, .inl wy))] s.heap.size = A at hD ⊢
  have hA : ∀ q : Nat, s.heap.size ≤ q → A q := fun q h => by rw [← hAe]; exact Or.inr h
  have hS : va_S A s.heap s.heap [] := va_S.rf
  have hP : va_P D vwCl [(hp, .inr (4, [.ref ht, .ref htr, .ref hpl, .ref hw, .ref hcr, .ref hco, .ref hhs, .int cols, .int rows, .int q, .int lev, .int ta, .int ob, .int fch])), (hw, .inl (cI, 16, .inl wy))] s.heap := hP
  have hl := lv_entry ([.ref hp, .int k]) (n := 2) (Nat.le_of_ble_eq_true rfl)
  rw [lg_entry_eq]
  generalize (lg_sl ([.ref hp, .int k]) ++ List.replicate (2 - (lg_sl ([.ref hp, .int k])).length) Slot.unset).toArray = ls at hl ⊢
  have hl : lv_has ls 2 [(0, .ref hp), (1, .int k)] := hl
  refine lv_aload_n hx hb dX4_wayOf_0 rfl (lv_at hl 0 rfl) ?_
  refine lv_iload_n hx hb dX4_wayOf_1 rfl (lv_at hl 1 rfl) ?_
  have hPc := hP.sub (ws' := [(hp, .inr (4, [.ref ht, .ref htr, .ref hpl, .ref hw, .ref hcr, .ref hco, .ref hhs, .int cols, .int rows, .int q, .int lev, .int ta, .int ob, .int fch]))]) [0] rfl
  have hDc := hD.sub (ws' := [(hp, .inr (4, [.ref ht, .ref htr, .ref hpl, .ref hw, .ref hcr, .ref hco, .ref hhs, .int cols, .int rows, .int q, .int lev, .int ta, .int ob, .int fch]))]) [0] (by decide) rfl
  have hFc := va_free (wc := [(hp, .inr (4, [.ref ht, .ref htr, .ref hpl, .ref hw, .ref hcr, .ref hco, .ref hhs, .int cols, .int rows, .int q, .int lev, .int ta, .int ob, .int fch]))]) hD hS hA [0] rfl
  refine va_calli (va_runV (As := [.int k]) (rest := []) ⟨hx, hb, hml, hown, hts⟩ (c_X4_hasBlock l D cI cJ cZ hp ht htr hpl hw hcr hco hhs cols rows q lev ta ob fch k bcols brows (s.heap).size) (cwV 1 hts (kg_V mk_121 mk_122 mk_123 mk_119 mk_124) rfl rfl rfl (by decide +kernel) ⟨Nat.le_of_ble_eq_true rfl, Nat.le_of_ble_eq_true rfl⟩) ⟨fun a U g mk q => by obtain ⟨q0, q1, qP, qK, qD⟩ := q; exact ⟨q0, q1, qP, kK.call qK, qD⟩, va_recv hK.1 hPc (ci := 4) (q0 := 0) rfl rfl, fun U hU hW => ⟨rfl, by rw [hU], by rw [hU]; exact hPc, kK.warm hW hK, hDc.weaken (fun _ _ _ _ => trivial)⟩⟩ rfl rfl hl.1 rfl (lv_room (Nat.le_of_ble_eq_true rfl)) dX4_wayOf_2 ⟨Nat.zero_le _, Nat.zero_le _⟩) hS (fun q _ h => hFc q h) hFc (fun r2 u t9 H1 locs ht9 hvm9 hw9 hB9 hz9 hk9 hS => ?_)
  obtain ⟨hP1, hD1⟩ := hB9
  rw [ht9] at hP1
  have hP1 : va_P D vwCl [(hp, .inr (4, [.ref ht, .ref htr, .ref hpl, .ref hw, .ref hcr, .ref hco, .ref hhs, .int cols, .int rows, .int q, .int lev, .int ta, .int ob, .int fch]))] H1 := hP1
  obtain ⟨hP, hD⟩ := va_join (wr := [(hw, .inl (cI, 16, .inl wy))]) (w1 := [(hp, .inr (4, [.ref ht, .ref htr, .ref hpl, .ref hw, .ref hcr, .ref hco, .ref hhs, .int cols, .int rows, .int q, .int lev, .int ta, .int ob, .int fch]))]) hP hD [0] [1] rfl rfl (by decide) (by decide) hk9 hFc hP1 hD1
  have hP := hP.sub (ws' := [(hp, .inr (4, [.ref ht, .ref htr, .ref hpl, .ref hw, .ref hcr, .ref hco, .ref hhs, .int cols, .int rows, .int q, .int lev, .int ta, .int ob, .int fch])), (hw, .inl (cI, 16, .inl wy))]) [1, 0] rfl
  have hD := hD.sub (ws' := [(hp, .inr (4, [.ref ht, .ref htr, .ref hpl, .ref hw, .ref hcr, .ref hco, .ref hhs, .int cols, .int rows, .int q, .int lev, .int ta, .int ob, .int fch])), (hw, .inl (cI, 16, .inl wy))]) [1, 0] (by decide) rfl
  generalize H1 = H at hP hS ⊢
  obtain ⟨q2_0, q2_1, q2_2⟩ := hw9
  have q2_0 : kB r2 0 1 := q2_0
  have q2_1 : r2 = 1 → kB k 0 15 := q2_1
  have q2_2 : r2 = if 0 ≤ k.toInt ∧ k.toInt < (cols * rows).toInt then 1 else 0 := q2_2
  refine lv_if_eq (tgt := 17) hx hb dX4_wayOf_5 (by decide) (fun c5 => ?_) (fun c5 => ?_)
  · have c5x : kB r2 0 0 := kB_eq c5 kc_0
    refine lv_iconst (v := (-1)) hx hb dX4_wayOf_17 (by decide) ?_
    have pf_fr : kIf (cols = 0) ((-1 : Int32) = -1) := (fun _ => rfl)
    exact W.iret (v := (-1)) hx hb hr (fun t9 ht9 hW9 => ⟨⟨(-1), (), rfl, pf_fr, by rw [ht9]; exact hP, hD⟩, hS.F ht9⟩) hS.2.2 dX4_wayOf_18
  · have c5x : kB r2 1 1 := kB_nlo q2_0 c5 kc_0 (by decide)
    have B5 : kB k 0 15 := q2_1 (by rcases kB_01 q2_0 with h | h; exact absurd h c5; exact h)
    refine lv_aload_n hx hb dX4_wayOf_8 rfl (lv_at hl 0 rfl) ?_
    refine va_get (D := D) (ci := 4) (v := .ref hw) (C := RX4) (T := TX4) (N := 14) hx hb hts in_X4 hown hK.1 hP 0 rfl rfl 3 (by decide) (hts _ mk_125) (fun _ h9 => h9) rfl dX4_wayOf_9 ?_
    refine lv_iload_n hx hb dX4_wayOf_12 rfl (lv_at hl 1 rfl) ?_
    refine va_iald hx hb hK.1 hP 1 0 rfl rfl (kB_in B5 (by decide)) dX4_wayOf_13 ?_
    refine lv_topi (fun v13 e13 => ?_)
    refine lv_goto (tgt := 18) hx hb dX4_wayOf_14 (by decide) ?_
    have pf_fr : kIf (cols = 0) (v13 = -1) := (fun h9 => absurd (by rw [q2_2, if_neg (fun h8 => by rw [h9, Int32.zero_mul, show (0 : Int32).toInt = 0 from by decide] at h8; omega)]) c5)
    exact W.iret (v := v13) hx hb hr (fun t9 ht9 hW9 => ⟨⟨v13, (), rfl, pf_fr, by rw [ht9]; exact hP, hD⟩, hS.F ht9⟩) hS.2.2 dX4_wayOf_18
abbrev kw_X4_coefficientsReadOf : List Cond := Cond.code yX4_coefficientsReadOf cX4_coefficientsReadOf 2 (some .int) :: kW
set_option maxHeartbeats 4000000 in
set_option maxRecDepth 100000 in
theorem c_X4_coefficientsReadOf (l : Launch) (D : va_G) (cI cJ cZ : ClassId) (hp ht htr hpl hw hcr hco hhs : Nat) (cols : Int32) (rows : Int32) (q : Int32) (lev : Int32) (ta : Int32) (ob : Int32) (fch : Int32) (cr : Nat → Int32) (k : Int32) (bcols : kB cols 0 4) (brows : kB rows 0 4) (hpz : Nat) : Met l yX4_coefficientsReadOf kw_X4_coefficientsReadOf ({ frames := 2, cells := 0, slots := 0, locals := 41 }) (va_Pc [.ref hp, .int k] (fun U => U.heap.size = hpz ∧ va_P D vwCl [(hp, .inr (4, [.ref ht, .ref htr, .ref hpl, .ref hw, .ref hcr, .ref hco, .ref hhs, .int cols, .int rows, .int q, .int lev, .int ta, .int ob, .int fch])), (hcr, .inl (cI, 16, .inl cr))] U.heap ∧ kK D cI cJ cZ U ∧ va_D (fun _ => True) [(hp, .inr (4, [.ref ht, .ref htr, .ref hpl, .ref hw, .ref hcr, .ref hco, .ref hhs, .int cols, .int rows, .int q, .int lev, .int ta, .int ob, .int fch])), (hcr, .inl (cI, 16, .inl cr))])) (va_Qi (fun (r : Int32) (u : Unit) => (kIf (cols = 0) (r = -1))) (fun (u : Unit) (t : State) => va_P D vwCl [(hp, .inr (4, [.ref ht, .ref htr, .ref hpl, .ref hw, .ref hcr, .ref hco, .ref hhs, .int cols, .int rows, .int q, .int lev, .int ta, .int ob, .int fch])), (hcr, .inl (cI, 16, .inl cr))] t.heap ∧ va_D (va_A [(hp, .inr (4, [.ref ht, .ref htr, .ref hpl, .ref hw, .ref hcr, .ref hco, .ref hhs, .int cols, .int rows, .int q, .int lev, .int ta, .int ob, .int fch])), (hcr, .inl (cI, 16, .inl cr))] hpz) [(hp, .inr (4, [.ref ht, .ref htr, .ref hpl, .ref hw, .ref hcr, .ref hco, .ref hhs, .int cols, .int rows, .int q, .int lev, .int ta, .int ob, .int fch])), (hcr, .inl (cI, 16, .inl cr))]) (va_A [(hp, .inr (4, [.ref ht, .ref htr, .ref hpl, .ref hw, .ref hcr, .ref hco, .ref hhs, .int cols, .int rows, .int q, .int lev, .int ta, .int ob, .int fch])), (hcr, .inl (cI, 16, .inl cr))] hpz)) 0 0 (va_A [(hp, .inr (4, [.ref ht, .ref htr, .ref hpl, .ref hw, .ref hcr, .ref hco, .ref hhs, .int cols, .int rows, .int q, .int lev, .int ta, .int ob, .int fch])), (hcr, .inl (cI, 16, .inl cr))] hpz) := by
  refine Met.ofW (cc := cX4_coefficientsReadOf) (maxL := 2) (ret := (some .int)) (by decide) rfl ?_
  intro p e s m args below meth c s₁ B hml hv
  obtain ⟨rfl, hsz, hP, hK, hD0⟩ := hv
  have hx := B.exec
  have hb := B.bytes
  have hr := B.returns
  have hts := fun (w : Cond) (h : w ∈ kW) => atoms_spec (ws := kw_X4_coefficientsReadOf) B.pre w (List.mem_cons_of_mem _ h)
  have hown : s.vm.findClass RX4 = some m.cls := findClass_of_methodNamed B.named
  have hlocks := B.notSynchronized
  subst hsz
  have hD := hD0.self (sz := s.heap.size)
  generalize hAe : va_A [(hp, .inr (4, [.ref ht, .ref htr, .ref hpl, .ref hw, .ref hcr, .ref hco, .ref hhs, .int cols, .int rows, .int q, .int lev, .int ta, .int ob, .int fch])), (hcr, .inl (cI, 16, .inl cr))] s.heap.size = A at hD ⊢
  have hA : ∀ q : Nat, s.heap.size ≤ q → A q := fun q h => by rw [← hAe]; exact Or.inr h
  have hS : va_S A s.heap s.heap [] := va_S.rf
  have hP : va_P D vwCl [(hp, .inr (4, [.ref ht, .ref htr, .ref hpl, .ref hw, .ref hcr, .ref hco, .ref hhs, .int cols, .int rows, .int q, .int lev, .int ta, .int ob, .int fch])), (hcr, .inl (cI, 16, .inl cr))] s.heap := hP
  have hl := lv_entry ([.ref hp, .int k]) (n := 2) (Nat.le_of_ble_eq_true rfl)
  rw [lg_entry_eq]
  generalize (lg_sl ([.ref hp, .int k]) ++ List.replicate (2 - (lg_sl ([.ref hp, .int k])).length) Slot.unset).toArray = ls at hl ⊢
  have hl : lv_has ls 2 [(0, .ref hp), (1, .int k)] := hl
  refine lv_aload_n hx hb dX4_coefficientsReadOf_0 rfl (lv_at hl 0 rfl) ?_
  refine lv_iload_n hx hb dX4_coefficientsReadOf_1 rfl (lv_at hl 1 rfl) ?_
  have hPc := hP.sub (ws' := [(hp, .inr (4, [.ref ht, .ref htr, .ref hpl, .ref hw, .ref hcr, .ref hco, .ref hhs, .int cols, .int rows, .int q, .int lev, .int ta, .int ob, .int fch]))]) [0] rfl
  have hDc := hD.sub (ws' := [(hp, .inr (4, [.ref ht, .ref htr, .ref hpl, .ref hw, .ref hcr, .ref hco, .ref hhs, .int cols, .int rows, .int q, .int lev, .int ta, .int ob, .int fch]))]) [0] (by decide) rfl
  have hFc := va_free (wc := [(hp, .inr (4, [.ref ht, .ref htr, .ref hpl, .ref hw, .ref hcr, .ref hco, .ref hhs, .int cols, .int rows, .int q, .int lev, .int ta, .int ob, .int fch]))]) hD hS hA [0] rfl
  refine va_calli (va_runV (As := [.int k]) (rest := []) ⟨hx, hb, hml, hown, hts⟩ (c_X4_hasBlock l D cI cJ cZ hp ht htr hpl hw hcr hco hhs cols rows q lev ta ob fch k bcols brows (s.heap).size) (cwV 1 hts (kg_V mk_121 mk_122 mk_123 mk_119 mk_124) rfl rfl rfl (by decide +kernel) ⟨Nat.le_of_ble_eq_true rfl, Nat.le_of_ble_eq_true rfl⟩) ⟨fun a U g mk q => by obtain ⟨q0, q1, qP, qK, qD⟩ := q; exact ⟨q0, q1, qP, kK.call qK, qD⟩, va_recv hK.1 hPc (ci := 4) (q0 := 0) rfl rfl, fun U hU hW => ⟨rfl, by rw [hU], by rw [hU]; exact hPc, kK.warm hW hK, hDc.weaken (fun _ _ _ _ => trivial)⟩⟩ rfl rfl hl.1 rfl (lv_room (Nat.le_of_ble_eq_true rfl)) dX4_coefficientsReadOf_2 ⟨Nat.zero_le _, Nat.zero_le _⟩) hS (fun q _ h => hFc q h) hFc (fun r2 u t9 H1 locs ht9 hvm9 hw9 hB9 hz9 hk9 hS => ?_)
  obtain ⟨hP1, hD1⟩ := hB9
  rw [ht9] at hP1
  have hP1 : va_P D vwCl [(hp, .inr (4, [.ref ht, .ref htr, .ref hpl, .ref hw, .ref hcr, .ref hco, .ref hhs, .int cols, .int rows, .int q, .int lev, .int ta, .int ob, .int fch]))] H1 := hP1
  obtain ⟨hP, hD⟩ := va_join (wr := [(hcr, .inl (cI, 16, .inl cr))]) (w1 := [(hp, .inr (4, [.ref ht, .ref htr, .ref hpl, .ref hw, .ref hcr, .ref hco, .ref hhs, .int cols, .int rows, .int q, .int lev, .int ta, .int ob, .int fch]))]) hP hD [0] [1] rfl rfl (by decide) (by decide) hk9 hFc hP1 hD1
  have hP := hP.sub (ws' := [(hp, .inr (4, [.ref ht, .ref htr, .ref hpl, .ref hw, .ref hcr, .ref hco, .ref hhs, .int cols, .int rows, .int q, .int lev, .int ta, .int ob, .int fch])), (hcr, .inl (cI, 16, .inl cr))]) [1, 0] rfl
  have hD := hD.sub (ws' := [(hp, .inr (4, [.ref ht, .ref htr, .ref hpl, .ref hw, .ref hcr, .ref hco, .ref hhs, .int cols, .int rows, .int q, .int lev, .int ta, .int ob, .int fch])), (hcr, .inl (cI, 16, .inl cr))]) [1, 0] (by decide) rfl
  generalize H1 = H at hP hS ⊢
  obtain ⟨q2_0, q2_1, q2_2⟩ := hw9
  have q2_0 : kB r2 0 1 := q2_0
  have q2_1 : r2 = 1 → kB k 0 15 := q2_1
  have q2_2 : r2 = if 0 ≤ k.toInt ∧ k.toInt < (cols * rows).toInt then 1 else 0 := q2_2
  refine lv_if_eq (tgt := 17) hx hb dX4_coefficientsReadOf_5 (by decide) (fun c5 => ?_) (fun c5 => ?_)
  · have c5x : kB r2 0 0 := kB_eq c5 kc_0
    refine lv_iconst (v := (-1)) hx hb dX4_coefficientsReadOf_17 (by decide) ?_
    have pf_fr : kIf (cols = 0) ((-1 : Int32) = -1) := (fun _ => rfl)
    exact W.iret (v := (-1)) hx hb hr (fun t9 ht9 hW9 => ⟨⟨(-1), (), rfl, pf_fr, by rw [ht9]; exact hP, hD⟩, hS.F ht9⟩) hS.2.2 dX4_coefficientsReadOf_18
  · have c5x : kB r2 1 1 := kB_nlo q2_0 c5 kc_0 (by decide)
    have B5 : kB k 0 15 := q2_1 (by rcases kB_01 q2_0 with h | h; exact absurd h c5; exact h)
    refine lv_aload_n hx hb dX4_coefficientsReadOf_8 rfl (lv_at hl 0 rfl) ?_
    refine va_get (D := D) (ci := 4) (v := .ref hcr) (C := RX4) (T := TX4) (N := 14) hx hb hts in_X4 hown hK.1 hP 0 rfl rfl 4 (by decide) (hts _ mk_126) (fun _ h9 => h9) rfl dX4_coefficientsReadOf_9 ?_
    refine lv_iload_n hx hb dX4_coefficientsReadOf_12 rfl (lv_at hl 1 rfl) ?_
    refine va_iald hx hb hK.1 hP 1 0 rfl rfl (kB_in B5 (by decide)) dX4_coefficientsReadOf_13 ?_
    refine lv_topi (fun v13 e13 => ?_)
    refine lv_goto (tgt := 18) hx hb dX4_coefficientsReadOf_14 (by decide) ?_
    have pf_fr : kIf (cols = 0) (v13 = -1) := (fun h9 => absurd (by rw [q2_2, if_neg (fun h8 => by rw [h9, Int32.zero_mul, show (0 : Int32).toInt = 0 from by decide] at h8; omega)]) c5)
    exact W.iret (v := v13) hx hb hr (fun t9 ht9 hW9 => ⟨⟨v13, (), rfl, pf_fr, by rw [ht9]; exact hP, hD⟩, hS.F ht9⟩) hS.2.2 dX4_coefficientsReadOf_18
abbrev kw_X4_coefficientOf : List Cond := Cond.code yX4_coefficientOf cX4_coefficientOf 3 (some .int) :: kW
set_option maxHeartbeats 4000000 in
set_option maxRecDepth 100000 in
theorem c_X4_coefficientOf (l : Launch) (D : va_G) (cI cJ cZ : ClassId) (hp ht htr hpl hw hcr hco hhs : Nat) (cols : Int32) (rows : Int32) (q : Int32) (lev : Int32) (ta : Int32) (ob : Int32) (fch : Int32) (co : Nat → Int32) (k : Int32) (ps : Int32) (bcols : kB cols 0 4) (brows : kB rows 0 4) (bps : kB ps 0 15) (hpz : Nat) : Met l yX4_coefficientOf kw_X4_coefficientOf ({ frames := 2, cells := 0, slots := 0, locals := 41 }) (va_Pc [.ref hp, .int k, .int ps] (fun U => U.heap.size = hpz ∧ va_P D vwCl [(hp, .inr (4, [.ref ht, .ref htr, .ref hpl, .ref hw, .ref hcr, .ref hco, .ref hhs, .int cols, .int rows, .int q, .int lev, .int ta, .int ob, .int fch])), (hco, .inl (cI, 256, .inl co))] U.heap ∧ kK D cI cJ cZ U ∧ va_D (fun _ => True) [(hp, .inr (4, [.ref ht, .ref htr, .ref hpl, .ref hw, .ref hcr, .ref hco, .ref hhs, .int cols, .int rows, .int q, .int lev, .int ta, .int ob, .int fch])), (hco, .inl (cI, 256, .inl co))])) (va_Qi (fun (r : Int32) (u : Unit) => (kIf (cols = 0) (r = 0))) (fun (u : Unit) (t : State) => va_P D vwCl [(hp, .inr (4, [.ref ht, .ref htr, .ref hpl, .ref hw, .ref hcr, .ref hco, .ref hhs, .int cols, .int rows, .int q, .int lev, .int ta, .int ob, .int fch])), (hco, .inl (cI, 256, .inl co))] t.heap ∧ va_D (va_A [(hp, .inr (4, [.ref ht, .ref htr, .ref hpl, .ref hw, .ref hcr, .ref hco, .ref hhs, .int cols, .int rows, .int q, .int lev, .int ta, .int ob, .int fch])), (hco, .inl (cI, 256, .inl co))] hpz) [(hp, .inr (4, [.ref ht, .ref htr, .ref hpl, .ref hw, .ref hcr, .ref hco, .ref hhs, .int cols, .int rows, .int q, .int lev, .int ta, .int ob, .int fch])), (hco, .inl (cI, 256, .inl co))]) (va_A [(hp, .inr (4, [.ref ht, .ref htr, .ref hpl, .ref hw, .ref hcr, .ref hco, .ref hhs, .int cols, .int rows, .int q, .int lev, .int ta, .int ob, .int fch])), (hco, .inl (cI, 256, .inl co))] hpz)) 0 0 (va_A [(hp, .inr (4, [.ref ht, .ref htr, .ref hpl, .ref hw, .ref hcr, .ref hco, .ref hhs, .int cols, .int rows, .int q, .int lev, .int ta, .int ob, .int fch])), (hco, .inl (cI, 256, .inl co))] hpz) := by
  refine Met.ofW (cc := cX4_coefficientOf) (maxL := 3) (ret := (some .int)) (by decide) rfl ?_
  intro p e s m args below meth c s₁ B hml hv
  obtain ⟨rfl, hsz, hP, hK, hD0⟩ := hv
  have hx := B.exec
  have hb := B.bytes
  have hr := B.returns
  have hts := fun (w : Cond) (h : w ∈ kW) => atoms_spec (ws := kw_X4_coefficientOf) B.pre w (List.mem_cons_of_mem _ h)
  have hown : s.vm.findClass RX4 = some m.cls := findClass_of_methodNamed B.named
  have hlocks := B.notSynchronized
  subst hsz
  have hD := hD0.self (sz := s.heap.size)
  generalize hAe : va_A [(hp, .inr (4, [.ref ht, .ref htr, .ref hpl, .ref hw, .ref hcr, .ref hco, .ref hhs, .int cols, .int rows, .int q, .int lev, .int ta, .int ob, .int fch])), (hco, .inl (cI, 256, .inl co))] s.heap.size = A at hD ⊢
  have hA : ∀ q : Nat, s.heap.size ≤ q → A q := fun q h => by rw [← hAe]; exact Or.inr h
  have hS : va_S A s.heap s.heap [] := va_S.rf
  have hP : va_P D vwCl [(hp, .inr (4, [.ref ht, .ref htr, .ref hpl, .ref hw, .ref hcr, .ref hco, .ref hhs, .int cols, .int rows, .int q, .int lev, .int ta, .int ob, .int fch])), (hco, .inl (cI, 256, .inl co))] s.heap := hP
  have hl := lv_entry ([.ref hp, .int k, .int ps]) (n := 3) (Nat.le_of_ble_eq_true rfl)
  rw [lg_entry_eq]
  generalize (lg_sl ([.ref hp, .int k, .int ps]) ++ List.replicate (3 - (lg_sl ([.ref hp, .int k, .int ps])).length) Slot.unset).toArray = ls at hl ⊢
  have hl : lv_has ls 3 [(0, .ref hp), (1, .int k), (2, .int ps)] := hl
  refine lv_aload_n hx hb dX4_coefficientOf_0 rfl (lv_at hl 0 rfl) ?_
  refine lv_iload_n hx hb dX4_coefficientOf_1 rfl (lv_at hl 1 rfl) ?_
  have hPc := hP.sub (ws' := [(hp, .inr (4, [.ref ht, .ref htr, .ref hpl, .ref hw, .ref hcr, .ref hco, .ref hhs, .int cols, .int rows, .int q, .int lev, .int ta, .int ob, .int fch]))]) [0] rfl
  have hDc := hD.sub (ws' := [(hp, .inr (4, [.ref ht, .ref htr, .ref hpl, .ref hw, .ref hcr, .ref hco, .ref hhs, .int cols, .int rows, .int q, .int lev, .int ta, .int ob, .int fch]))]) [0] (by decide) rfl
  have hFc := va_free (wc := [(hp, .inr (4, [.ref ht, .ref htr, .ref hpl, .ref hw, .ref hcr, .ref hco, .ref hhs, .int cols, .int rows, .int q, .int lev, .int ta, .int ob, .int fch]))]) hD hS hA [0] rfl
  refine va_calli (va_runV (As := [.int k]) (rest := []) ⟨hx, hb, hml, hown, hts⟩ (c_X4_hasBlock l D cI cJ cZ hp ht htr hpl hw hcr hco hhs cols rows q lev ta ob fch k bcols brows (s.heap).size) (cwV 1 hts (kg_V mk_121 mk_122 mk_123 mk_119 mk_124) rfl rfl rfl (by decide +kernel) ⟨Nat.le_of_ble_eq_true rfl, Nat.le_of_ble_eq_true rfl⟩) ⟨fun a U g mk q => by obtain ⟨q0, q1, qP, qK, qD⟩ := q; exact ⟨q0, q1, qP, kK.call qK, qD⟩, va_recv hK.1 hPc (ci := 4) (q0 := 0) rfl rfl, fun U hU hW => ⟨rfl, by rw [hU], by rw [hU]; exact hPc, kK.warm hW hK, hDc.weaken (fun _ _ _ _ => trivial)⟩⟩ rfl rfl hl.1 rfl (lv_room (Nat.le_of_ble_eq_true rfl)) dX4_coefficientOf_2 ⟨Nat.zero_le _, Nat.zero_le _⟩) hS (fun q _ h => hFc q h) hFc (fun r2 u t9 H1 locs ht9 hvm9 hw9 hB9 hz9 hk9 hS => ?_)
  obtain ⟨hP1, hD1⟩ := hB9
  rw [ht9] at hP1
  have hP1 : va_P D vwCl [(hp, .inr (4, [.ref ht, .ref htr, .ref hpl, .ref hw, .ref hcr, .ref hco, .ref hhs, .int cols, .int rows, .int q, .int lev, .int ta, .int ob, .int fch]))] H1 := hP1
  obtain ⟨hP, hD⟩ := va_join (wr := [(hco, .inl (cI, 256, .inl co))]) (w1 := [(hp, .inr (4, [.ref ht, .ref htr, .ref hpl, .ref hw, .ref hcr, .ref hco, .ref hhs, .int cols, .int rows, .int q, .int lev, .int ta, .int ob, .int fch]))]) hP hD [0] [1] rfl rfl (by decide) (by decide) hk9 hFc hP1 hD1
  have hP := hP.sub (ws' := [(hp, .inr (4, [.ref ht, .ref htr, .ref hpl, .ref hw, .ref hcr, .ref hco, .ref hhs, .int cols, .int rows, .int q, .int lev, .int ta, .int ob, .int fch])), (hco, .inl (cI, 256, .inl co))]) [1, 0] rfl
  have hD := hD.sub (ws' := [(hp, .inr (4, [.ref ht, .ref htr, .ref hpl, .ref hw, .ref hcr, .ref hco, .ref hhs, .int cols, .int rows, .int q, .int lev, .int ta, .int ob, .int fch])), (hco, .inl (cI, 256, .inl co))]) [1, 0] (by decide) rfl
  generalize H1 = H at hP hS ⊢
  obtain ⟨q2_0, q2_1, q2_2⟩ := hw9
  have q2_0 : kB r2 0 1 := q2_0
  have q2_1 : r2 = 1 → kB k 0 15 := q2_1
  have q2_2 : r2 = if 0 ≤ k.toInt ∧ k.toInt < (cols * rows).toInt then 1 else 0 := q2_2
  refine lv_if_eq (tgt := 22) hx hb dX4_coefficientOf_5 (by decide) (fun c5 => ?_) (fun c5 => ?_)
  · have c5x : kB r2 0 0 := kB_eq c5 kc_0
    refine lv_iconst (v := 0) hx hb dX4_coefficientOf_22 (by decide) ?_
    have pf_fr : kIf (cols = 0) ((0 : Int32) = 0) := (fun _ => rfl)
    exact W.iret (v := 0) hx hb hr (fun t9 ht9 hW9 => ⟨⟨0, (), rfl, pf_fr, by rw [ht9]; exact hP, hD⟩, hS.F ht9⟩) hS.2.2 dX4_coefficientOf_23
  · have c5x : kB r2 1 1 := kB_nlo q2_0 c5 kc_0 (by decide)
    have B5 : kB k 0 15 := q2_1 (by rcases kB_01 q2_0 with h | h; exact absurd h c5; exact h)
    refine lv_aload_n hx hb dX4_coefficientOf_8 rfl (lv_at hl 0 rfl) ?_
    refine va_get (D := D) (ci := 4) (v := .ref hco) (C := RX4) (T := TX4) (N := 14) hx hb hts in_X4 hown hK.1 hP 0 rfl rfl 5 (by decide) (hts _ mk_127) (fun _ h9 => h9) rfl dX4_coefficientOf_9 ?_
    refine lv_iload_n hx hb dX4_coefficientOf_12 rfl (lv_at hl 1 rfl) ?_
    refine lv_bipush (v := 16) hx hb dX4_coefficientOf_13 (by decide) ?_
    refine lv_imul hx hb dX4_coefficientOf_15 ?_
    refine lv_topi (fun v15 e15 => ?_)
    have b15 : kB v15 0 240 := kB_eq e15 (kB_mulc B5 kc_16 (by decide))
    refine lv_iload_n hx hb dX4_coefficientOf_16 rfl (lv_at hl 2 rfl) ?_
    refine lv_iadd hx hb dX4_coefficientOf_17 ?_
    refine lv_topi (fun v17 e17 => ?_)
    have b17 : kB v17 0 255 := kB_eq e17 (kB_add b15 bps (by decide))
    refine va_iald hx hb hK.1 hP 1 0 rfl rfl (kB_in b17 (by decide)) dX4_coefficientOf_18 ?_
    refine lv_topi (fun v18 e18 => ?_)
    refine lv_goto (tgt := 23) hx hb dX4_coefficientOf_19 (by decide) ?_
    have pf_fr : kIf (cols = 0) (v18 = 0) := (fun h9 => absurd (by rw [q2_2, if_neg (fun h8 => by rw [h9, Int32.zero_mul, show (0 : Int32).toInt = 0 from by decide] at h8; omega)]) c5)
    exact W.iret (v := v18) hx hb hr (fun t9 ht9 hW9 => ⟨⟨v18, (), rfl, pf_fr, by rw [ht9]; exact hP, hD⟩, hS.F ht9⟩) hS.2.2 dX4_coefficientOf_23
abbrev kw_X4_sampleAt : List Cond := Cond.code yX4_sampleAt cX4_sampleAt 4 (some .int) :: kW
set_option maxHeartbeats 4000000 in
set_option maxRecDepth 100000 in
theorem c_X4_sampleAt (l : Launch) (D : va_G) (cI cJ cZ : ClassId) (hp ht htr hpl hw hcr hco hhs hs : Nat) (cols : Int32) (rows : Int32) (q : Int32) (lev : Int32) (ta : Int32) (ob : Int32) (fch : Int32) (sm : Nat → Int32) (x : Int32) (y : Int32) (bcols : kB cols 0 4) (brows : kB rows 0 4) (hpz : Nat) : Met l yX4_sampleAt kw_X4_sampleAt ({ frames := 1, cells := 0, slots := 0, locals := 22 }) (va_Pc [.ref hp, .int x, .int y] (fun U => U.heap.size = hpz ∧ va_P D vwCl [(hp, .inr (4, [.ref ht, .ref htr, .ref hpl, .ref hw, .ref hcr, .ref hco, .ref hhs, .int cols, .int rows, .int q, .int lev, .int ta, .int ob, .int fch])), (hpl, .inr (5, [.ref hs])), (hs, .inl (cI, 256, .inl sm))] U.heap ∧ kK D cI cJ cZ U ∧ va_D (fun _ => True) [(hp, .inr (4, [.ref ht, .ref htr, .ref hpl, .ref hw, .ref hcr, .ref hco, .ref hhs, .int cols, .int rows, .int q, .int lev, .int ta, .int ob, .int fch])), (hpl, .inr (5, [.ref hs])), (hs, .inl (cI, 256, .inl sm))])) (va_Qi (fun (r : Int32) (u : Unit) => (kIf (cols = 0) (r = -1))) (fun (u : Unit) (t : State) => va_P D vwCl [(hp, .inr (4, [.ref ht, .ref htr, .ref hpl, .ref hw, .ref hcr, .ref hco, .ref hhs, .int cols, .int rows, .int q, .int lev, .int ta, .int ob, .int fch])), (hpl, .inr (5, [.ref hs])), (hs, .inl (cI, 256, .inl sm))] t.heap ∧ va_D (va_A [(hp, .inr (4, [.ref ht, .ref htr, .ref hpl, .ref hw, .ref hcr, .ref hco, .ref hhs, .int cols, .int rows, .int q, .int lev, .int ta, .int ob, .int fch])), (hpl, .inr (5, [.ref hs])), (hs, .inl (cI, 256, .inl sm))] hpz) [(hp, .inr (4, [.ref ht, .ref htr, .ref hpl, .ref hw, .ref hcr, .ref hco, .ref hhs, .int cols, .int rows, .int q, .int lev, .int ta, .int ob, .int fch])), (hpl, .inr (5, [.ref hs])), (hs, .inl (cI, 256, .inl sm))]) (va_A [(hp, .inr (4, [.ref ht, .ref htr, .ref hpl, .ref hw, .ref hcr, .ref hco, .ref hhs, .int cols, .int rows, .int q, .int lev, .int ta, .int ob, .int fch])), (hpl, .inr (5, [.ref hs])), (hs, .inl (cI, 256, .inl sm))] hpz)) 0 0 (va_A [(hp, .inr (4, [.ref ht, .ref htr, .ref hpl, .ref hw, .ref hcr, .ref hco, .ref hhs, .int cols, .int rows, .int q, .int lev, .int ta, .int ob, .int fch])), (hpl, .inr (5, [.ref hs])), (hs, .inl (cI, 256, .inl sm))] hpz) := by
  refine Met.ofW (cc := cX4_sampleAt) (maxL := 4) (ret := (some .int)) (by decide) rfl ?_
  intro p e s m args below meth c s₁ B hml hv
  obtain ⟨rfl, hsz, hP, hK, hD0⟩ := hv
  have hx := B.exec
  have hb := B.bytes
  have hr := B.returns
  have hts := fun (w : Cond) (h : w ∈ kW) => atoms_spec (ws := kw_X4_sampleAt) B.pre w (List.mem_cons_of_mem _ h)
  have hown : s.vm.findClass RX4 = some m.cls := findClass_of_methodNamed B.named
  have hlocks := B.notSynchronized
  subst hsz
  have hD := hD0.self (sz := s.heap.size)
  generalize hAe : va_A [(hp, .inr (4, [.ref ht, .ref htr, .ref hpl, .ref hw, .ref hcr, .ref hco, .ref hhs, .int cols, .int rows, .int q, .int lev, .int ta, .int ob, .int fch])), (hpl, .inr (5, [.ref hs])), (hs, .inl (cI, 256, .inl sm))] s.heap.size = A at hD ⊢
  have hA : ∀ q : Nat, s.heap.size ≤ q → A q := fun q h => by rw [← hAe]; exact Or.inr h
  have hS : va_S A s.heap s.heap [] := va_S.rf
  have hP : va_P D vwCl [(hp, .inr (4, [.ref ht, .ref htr, .ref hpl, .ref hw, .ref hcr, .ref hco, .ref hhs, .int cols, .int rows, .int q, .int lev, .int ta, .int ob, .int fch])), (hpl, .inr (5, [.ref hs])), (hs, .inl (cI, 256, .inl sm))] s.heap := hP
  have hl := lv_entry ([.ref hp, .int x, .int y]) (n := 4) (Nat.le_of_ble_eq_true rfl)
  rw [lg_entry_eq]
  generalize (lg_sl ([.ref hp, .int x, .int y]) ++ List.replicate (4 - (lg_sl ([.ref hp, .int x, .int y])).length) Slot.unset).toArray = ls at hl ⊢
  have hl : lv_has ls 4 [(0, .ref hp), (1, .int x), (2, .int y)] := hl
  refine lv_iload_n hx hb dX4_sampleAt_0 rfl (lv_at hl 1 rfl) ?_
  refine lv_if_lt (tgt := 32) hx hb dX4_sampleAt_1 (by decide) (fun c1 => ?_) (fun c1 => ?_)
  · have c1a := kB_all x
    have c1x : kB x (-2147483648) (-1) := kB_lt_l c1a kc_0 c1 (by decide)
    refine lv_iconst (v := 0) hx hb dX4_sampleAt_32 (by decide) ?_
    refine lv_istore_n (lv' := [(3, .int 0), (0, .ref hp), (1, .int x), (2, .int y)]) hx hb dX4_sampleAt_33 rfl hl (by decide) rfl (fun ls hl => ?_)
    refine lv_iload_n hx hb dX4_sampleAt_34 rfl (lv_at hl 0 rfl) ?_
    refine lv_if_eq (tgt := 50) hx hb dX4_sampleAt_35 (by decide) (fun c35 => ?_) (fun c35 => ?_)
    · refine lv_iconst (v := (-1)) hx hb dX4_sampleAt_50 (by decide) ?_
      have pf_fr : kIf (cols = 0) ((-1 : Int32) = -1) := (fun _ => rfl)
      exact W.iret (v := (-1)) hx hb hr (fun t9 ht9 hW9 => ⟨⟨(-1), (), rfl, pf_fr, by rw [ht9]; exact hP, hD⟩, hS.F ht9⟩) hS.2.2 dX4_sampleAt_51
    · exact absurd (by decide) c35
  · have c1n : 0 ≤ x := kN_lt c1
    have c1nb := kB_all x
    have c1ny : kB x 0 2147483647 := kB_le_r kc_0 c1nb c1n (by decide)
    refine lv_iload_n hx hb dX4_sampleAt_4 rfl (lv_at hl 1 rfl) ?_
    refine lv_iconst (v := 4) hx hb dX4_sampleAt_5 (by decide) ?_
    refine lv_aload_n hx hb dX4_sampleAt_6 rfl (lv_at hl 0 rfl) ?_
    refine va_get (D := D) (ci := 4) (v := .int cols) (C := RX4) (T := TX4) (N := 14) hx hb hts in_X4 hown hK.1 hP 0 rfl rfl 7 (by decide) (hts _ mk_114) (fun _ h9 => h9) rfl dX4_sampleAt_7 ?_
    refine lv_imul hx hb dX4_sampleAt_10 ?_
    refine lv_topi (fun v10 e10 => ?_)
    have b10 : kB v10 0 16 := kB_eq e10 (kB_cmul kc_4 bcols (by decide))
    refine lv_icmp_ge (tgt := 32) hx hb dX4_sampleAt_11 (by decide) (fun c11 => ?_) (fun c11 => ?_)
    · refine lv_iconst (v := 0) hx hb dX4_sampleAt_32 (by decide) ?_
      refine lv_istore_n (lv' := [(3, .int 0), (0, .ref hp), (1, .int x), (2, .int y)]) hx hb dX4_sampleAt_33 rfl hl (by decide) rfl (fun ls hl => ?_)
      refine lv_iload_n hx hb dX4_sampleAt_34 rfl (lv_at hl 0 rfl) ?_
      refine lv_if_eq (tgt := 50) hx hb dX4_sampleAt_35 (by decide) (fun c35 => ?_) (fun c35 => ?_)
      · refine lv_iconst (v := (-1)) hx hb dX4_sampleAt_50 (by decide) ?_
        have pf_fr : kIf (cols = 0) ((-1 : Int32) = -1) := (fun _ => rfl)
        exact W.iret (v := (-1)) hx hb hr (fun t9 ht9 hW9 => ⟨⟨(-1), (), rfl, pf_fr, by rw [ht9]; exact hP, hD⟩, hS.F ht9⟩) hS.2.2 dX4_sampleAt_51
      · exact absurd (by decide) c35
    · have c11n : x < v10 := kN_le c11
      have c11nx : kB x 0 15 := kB_lt_l c1ny b10 c11n (by decide)
      have c11ny : kB v10 1 16 := kB_lt_r c1ny b10 c11n (by decide)
      refine lv_iload_n hx hb dX4_sampleAt_14 rfl (lv_at hl 2 rfl) ?_
      refine lv_if_lt (tgt := 32) hx hb dX4_sampleAt_15 (by decide) (fun c15 => ?_) (fun c15 => ?_)
      · have c15a := kB_all y
        have c15x : kB y (-2147483648) (-1) := kB_lt_l c15a kc_0 c15 (by decide)
        refine lv_iconst (v := 0) hx hb dX4_sampleAt_32 (by decide) ?_
        refine lv_istore_n (lv' := [(3, .int 0), (0, .ref hp), (1, .int x), (2, .int y)]) hx hb dX4_sampleAt_33 rfl hl (by decide) rfl (fun ls hl => ?_)
        refine lv_iload_n hx hb dX4_sampleAt_34 rfl (lv_at hl 0 rfl) ?_
        refine lv_if_eq (tgt := 50) hx hb dX4_sampleAt_35 (by decide) (fun c35 => ?_) (fun c35 => ?_)
        · refine lv_iconst (v := (-1)) hx hb dX4_sampleAt_50 (by decide) ?_
          have pf_fr : kIf (cols = 0) ((-1 : Int32) = -1) := (fun _ => rfl)
          exact W.iret (v := (-1)) hx hb hr (fun t9 ht9 hW9 => ⟨⟨(-1), (), rfl, pf_fr, by rw [ht9]; exact hP, hD⟩, hS.F ht9⟩) hS.2.2 dX4_sampleAt_51
        · exact absurd (by decide) c35
      · have c15n : 0 ≤ y := kN_lt c15
        have c15nb := kB_all y
        have c15ny : kB y 0 2147483647 := kB_le_r kc_0 c15nb c15n (by decide)
        refine lv_iload_n hx hb dX4_sampleAt_18 rfl (lv_at hl 2 rfl) ?_
        refine lv_iconst (v := 4) hx hb dX4_sampleAt_19 (by decide) ?_
        refine lv_aload_n hx hb dX4_sampleAt_20 rfl (lv_at hl 0 rfl) ?_
        refine va_get (D := D) (ci := 4) (v := .int rows) (C := RX4) (T := TX4) (N := 14) hx hb hts in_X4 hown hK.1 hP 0 rfl rfl 8 (by decide) (hts _ mk_115) (fun _ h9 => h9) rfl dX4_sampleAt_21 ?_
        refine lv_imul hx hb dX4_sampleAt_24 ?_
        refine lv_topi (fun v24 e24 => ?_)
        have b24 : kB v24 0 16 := kB_eq e24 (kB_cmul kc_4 brows (by decide))
        refine lv_icmp_ge (tgt := 32) hx hb dX4_sampleAt_25 (by decide) (fun c25 => ?_) (fun c25 => ?_)
        · refine lv_iconst (v := 0) hx hb dX4_sampleAt_32 (by decide) ?_
          refine lv_istore_n (lv' := [(3, .int 0), (0, .ref hp), (1, .int x), (2, .int y)]) hx hb dX4_sampleAt_33 rfl hl (by decide) rfl (fun ls hl => ?_)
          refine lv_iload_n hx hb dX4_sampleAt_34 rfl (lv_at hl 0 rfl) ?_
          refine lv_if_eq (tgt := 50) hx hb dX4_sampleAt_35 (by decide) (fun c35 => ?_) (fun c35 => ?_)
          · refine lv_iconst (v := (-1)) hx hb dX4_sampleAt_50 (by decide) ?_
            have pf_fr : kIf (cols = 0) ((-1 : Int32) = -1) := (fun _ => rfl)
            exact W.iret (v := (-1)) hx hb hr (fun t9 ht9 hW9 => ⟨⟨(-1), (), rfl, pf_fr, by rw [ht9]; exact hP, hD⟩, hS.F ht9⟩) hS.2.2 dX4_sampleAt_51
          · exact absurd (by decide) c35
        · have c25n : y < v24 := kN_le c25
          have c25nx : kB y 0 15 := kB_lt_l c15ny b24 c25n (by decide)
          have c25ny : kB v24 1 16 := kB_lt_r c15ny b24 c25n (by decide)
          refine lv_iconst (v := 1) hx hb dX4_sampleAt_28 (by decide) ?_
          refine lv_goto (tgt := 33) hx hb dX4_sampleAt_29 (by decide) ?_
          refine lv_istore_n (lv' := [(3, .int 1), (0, .ref hp), (1, .int x), (2, .int y)]) hx hb dX4_sampleAt_33 rfl hl (by decide) rfl (fun ls hl => ?_)
          refine lv_iload_n hx hb dX4_sampleAt_34 rfl (lv_at hl 0 rfl) ?_
          refine lv_if_eq (tgt := 50) hx hb dX4_sampleAt_35 (by decide) (fun c35 => ?_) (fun c35 => ?_)
          · exact absurd c35 (by decide)
          · refine lv_aload_n hx hb dX4_sampleAt_38 rfl (lv_at hl 1 rfl) ?_
            refine va_get (D := D) (ci := 4) (v := .ref hpl) (C := RX4) (T := TX4) (N := 14) hx hb hts in_X4 hown hK.1 hP 0 rfl rfl 2 (by decide) (hts _ mk_128) (fun _ h9 => h9) rfl dX4_sampleAt_39 ?_
            refine lv_iload_n hx hb dX4_sampleAt_42 rfl (lv_at hl 2 rfl) ?_
            refine lv_iload_n hx hb dX4_sampleAt_43 rfl (lv_at hl 3 rfl) ?_
            have hPc := hP.sub (ws' := [(hpl, .inr (5, [.ref hs])), (hs, .inl (cI, 256, .inl sm))]) [1, 2] rfl
            have hDc := hD.sub (ws' := [(hpl, .inr (5, [.ref hs])), (hs, .inl (cI, 256, .inl sm))]) [1, 2] (by decide) rfl
            have hFc := va_free (wc := [(hpl, .inr (5, [.ref hs])), (hs, .inl (cI, 256, .inl sm))]) hD hS hA [1, 2] rfl
            refine va_calli (va_runV (As := [.int x, .int y]) (rest := []) ⟨hx, hb, hml, hown, hts⟩ (c_X5_at l D cI cJ cZ hpl hs sm x y c11nx c25nx (s.heap).size) (cwV 2 hts (kg_V mk_129 mk_78 mk_79 mk_80 mk_81) rfl rfl rfl (by decide +kernel) ⟨Nat.le_of_ble_eq_true rfl, Nat.le_of_ble_eq_true rfl⟩) ⟨fun a U g mk q => by obtain ⟨q0, q1, qP, qK, qD⟩ := q; exact ⟨q0, q1, qP, kK.call qK, qD⟩, va_recv hK.1 hPc (ci := 5) (q0 := 0) rfl rfl, fun U hU hW => ⟨rfl, by rw [hU], by rw [hU]; exact hPc, kK.warm hW hK, hDc.weaken (fun _ _ _ _ => trivial)⟩⟩ rfl rfl hl.1 rfl (lv_room (Nat.le_of_ble_eq_true rfl)) dX4_sampleAt_44 ⟨Nat.zero_le _, Nat.zero_le _⟩) hS (fun q _ h => hFc q h) hFc (fun r44 u t9 H1 locs ht9 hvm9 hw9 hB9 hz9 hk9 hS => ?_)
            obtain ⟨hP1, hD1⟩ := hB9
            rw [ht9] at hP1
            have hP1 : va_P D vwCl [(hpl, .inr (5, [.ref hs])), (hs, .inl (cI, 256, .inl sm))] H1 := hP1
            obtain ⟨hP, hD⟩ := va_join (wr := [(hp, .inr (4, [.ref ht, .ref htr, .ref hpl, .ref hw, .ref hcr, .ref hco, .ref hhs, .int cols, .int rows, .int q, .int lev, .int ta, .int ob, .int fch]))]) (w1 := [(hpl, .inr (5, [.ref hs])), (hs, .inl (cI, 256, .inl sm))]) hP hD [1, 2] [0] rfl rfl (by decide) (by decide) hk9 hFc hP1 hD1
            have hP := hP.sub (ws' := [(hp, .inr (4, [.ref ht, .ref htr, .ref hpl, .ref hw, .ref hcr, .ref hco, .ref hhs, .int cols, .int rows, .int q, .int lev, .int ta, .int ob, .int fch])), (hpl, .inr (5, [.ref hs])), (hs, .inl (cI, 256, .inl sm))]) [0, 1, 2] rfl
            have hD := hD.sub (ws' := [(hp, .inr (4, [.ref ht, .ref htr, .ref hpl, .ref hw, .ref hcr, .ref hco, .ref hhs, .int cols, .int rows, .int q, .int lev, .int ta, .int ob, .int fch])), (hpl, .inr (5, [.ref hs])), (hs, .inl (cI, 256, .inl sm))]) [0, 1, 2] (by decide) rfl
            generalize H1 = H at hP hS ⊢
            refine lv_goto (tgt := 51) hx hb dX4_sampleAt_47 (by decide) ?_
            have pf_fr : kIf (cols = 0) (r44 = -1) := (fun h9 => absurd (show v10.toInt = 0 by { rw [e10, h9]; decide }) (by have := Int32.lt_iff_toInt_lt.mp c11n; have := c1ny.1; omega))
            exact W.iret (v := r44) hx hb hr (fun t9 ht9 hW9 => ⟨⟨r44, (), rfl, pf_fr, by rw [ht9]; exact hP, hD⟩, hS.F ht9⟩) hS.2.2 dX4_sampleAt_51
abbrev kw_X4_readWay : List Cond := Cond.code yX4_readWay cX4_readWay 1 (some .int) :: kW
set_option maxHeartbeats 4000000 in
set_option maxRecDepth 100000 in
theorem c_X4_readWay (l : Launch) (D : va_G) (cI cJ cZ : ClassId) (hrd ho hh : Nat) (va : Int32) (rg : Int32) (sh : Int32) (nx : Int32) (sz : Int32) (f : Nat → Int32) (brg : kB rg 128 255) (bsh : kB sh 0 7) (bsz : kB sz 0 600) (hpz : Nat) : Met l yX4_readWay kw_X4_readWay ({ frames := 2, cells := 0, slots := 0, locals := 48 }) (va_Pc [.ref hrd] (fun U => U.heap.size = hpz ∧ va_P D vwCl [(hrd, .inr (0, [.ref ho, .int va, .int rg, .int sh, .int nx])), (ho, .inr (3, [.ref hh, .int sz])), (hh, .inl (cI, 600, .inl f))] U.heap ∧ kK D cI cJ cZ U ∧ va_D (fun _ => True) [(hrd, .inr (0, [.ref ho, .int va, .int rg, .int sh, .int nx])), (ho, .inr (3, [.ref hh, .int sz])), (hh, .inl (cI, 600, .inl f))])) (va_Qi (fun (r : Int32) (u : Int32 × Int32 × Int32 × Int32) => (kB u.2.1 128 255) ∧ (kB u.2.2.1 0 7) ∧ (kB r 0 3)) (fun (u : Int32 × Int32 × Int32 × Int32) (t : State) => va_P D vwCl [(hrd, .inr (0, [.ref ho, .int u.1, .int u.2.1, .int u.2.2.1, .int u.2.2.2])), (ho, .inr (3, [.ref hh, .int sz])), (hh, .inl (cI, 600, .inl f))] t.heap ∧ va_D (va_A [(hrd, .inr (0, [.ref ho, .int va, .int rg, .int sh, .int nx])), (ho, .inr (3, [.ref hh, .int sz])), (hh, .inl (cI, 600, .inl f))] hpz) [(hrd, .inr (0, [.ref ho, .int u.1, .int u.2.1, .int u.2.2.1, .int u.2.2.2])), (ho, .inr (3, [.ref hh, .int sz])), (hh, .inl (cI, 600, .inl f))]) (va_A [(hrd, .inr (0, [.ref ho, .int va, .int rg, .int sh, .int nx])), (ho, .inr (3, [.ref hh, .int sz])), (hh, .inl (cI, 600, .inl f))] hpz)) 0 0 (va_A [(hrd, .inr (0, [.ref ho, .int va, .int rg, .int sh, .int nx])), (ho, .inr (3, [.ref hh, .int sz])), (hh, .inl (cI, 600, .inl f))] hpz) := by
  refine Met.ofW (cc := cX4_readWay) (maxL := 1) (ret := (some .int)) (by decide) rfl ?_
  intro p e s m args below meth c s₁ B hml hv
  obtain ⟨rfl, hsz, hP, hK, hD0⟩ := hv
  have hx := B.exec
  have hb := B.bytes
  have hr := B.returns
  have hts := fun (w : Cond) (h : w ∈ kW) => atoms_spec (ws := kw_X4_readWay) B.pre w (List.mem_cons_of_mem _ h)
  have hown : s.vm.findClass RX4 = some m.cls := findClass_of_methodNamed B.named
  have hlocks := B.notSynchronized
  subst hsz
  have hD := hD0.self (sz := s.heap.size)
  generalize hAe : va_A [(hrd, .inr (0, [.ref ho, .int va, .int rg, .int sh, .int nx])), (ho, .inr (3, [.ref hh, .int sz])), (hh, .inl (cI, 600, .inl f))] s.heap.size = A at hD ⊢
  have hA : ∀ q : Nat, s.heap.size ≤ q → A q := fun q h => by rw [← hAe]; exact Or.inr h
  have hS : va_S A s.heap s.heap [] := va_S.rf
  have hP : va_P D vwCl [(hrd, .inr (0, [.ref ho, .int va, .int rg, .int sh, .int nx])), (ho, .inr (3, [.ref hh, .int sz])), (hh, .inl (cI, 600, .inl f))] s.heap := hP
  have hl := lv_entry ([.ref hrd]) (n := 1) (Nat.le_of_ble_eq_true rfl)
  rw [lg_entry_eq]
  generalize (lg_sl ([.ref hrd]) ++ List.replicate (1 - (lg_sl ([.ref hrd])).length) Slot.unset).toArray = ls at hl ⊢
  have hl : lv_has ls 1 [(0, .ref hrd)] := hl
  refine lv_aload_n hx hb dX4_readWay_0 rfl (lv_at hl 0 rfl) ?_
  refine lv_bipush (v := 112) hx hb dX4_readWay_1 (by decide) ?_
  have hPc := hP.sub (ws' := [(hrd, .inr (0, [.ref ho, .int va, .int rg, .int sh, .int nx])), (ho, .inr (3, [.ref hh, .int sz])), (hh, .inl (cI, 600, .inl f))]) [0, 1, 2] rfl
  have hDc := hD.sub (ws' := [(hrd, .inr (0, [.ref ho, .int va, .int rg, .int sh, .int nx])), (ho, .inr (3, [.ref hh, .int sz])), (hh, .inl (cI, 600, .inl f))]) [0, 1, 2] (by decide) rfl
  have hFc := va_free (wc := [(hrd, .inr (0, [.ref ho, .int va, .int rg, .int sh, .int nx])), (ho, .inr (3, [.ref hh, .int sz])), (hh, .inl (cI, 600, .inl f))]) hD hS hA [0, 1, 2] rfl
  refine va_calli (va_runV (As := [.int 112]) (rest := []) ⟨hx, hb, hml, hown, hts⟩ (c_X0_readBit l D cI cJ cZ hrd ho hh va rg sh nx sz f 112 brg bsh (kB_w kc_112 (by decide) (by decide)) bsz (s.heap).size) (cwV 1 hts (kg_V mk_130 mk_21 mk_22 mk_23 mk_24) rfl rfl rfl (by decide +kernel) ⟨Nat.le_of_ble_eq_true rfl, Nat.le_of_ble_eq_true rfl⟩) ⟨fun a U g mk q => by obtain ⟨q0, q1, qP, qK, qD⟩ := q; exact ⟨q0, q1, qP, kK.call qK, qD⟩, va_recv hK.1 hPc (ci := 0) (q0 := 0) rfl rfl, fun U hU hW => ⟨rfl, by rw [hU], by rw [hU]; exact hPc, kK.warm hW hK, hDc.weaken (fun _ _ _ _ => trivial)⟩⟩ rfl rfl hl.1 rfl (lv_room (Nat.le_of_ble_eq_true rfl)) dX4_readWay_3 ⟨Nat.zero_le _, Nat.zero_le _⟩) hS (fun q _ h => hFc q h) hFc (fun r3 u t9 H1 locs ht9 hvm9 hw9 hB9 hz9 hk9 hS => ?_)
  obtain ⟨va2_3, rg2_3, sh2_3, nx2_3⟩ := u
  obtain ⟨hP1, hD1⟩ := hB9
  rw [ht9] at hP1
  have hP1 : va_P D vwCl [(hrd, .inr (0, [.ref ho, .int va2_3, .int rg2_3, .int sh2_3, .int nx2_3])), (ho, .inr (3, [.ref hh, .int sz])), (hh, .inl (cI, 600, .inl f))] H1 := hP1
  obtain ⟨hP, hD⟩ := va_join (wr := []) (w1 := [(hrd, .inr (0, [.ref ho, .int va2_3, .int rg2_3, .int sh2_3, .int nx2_3])), (ho, .inr (3, [.ref hh, .int sz])), (hh, .inl (cI, 600, .inl f))]) hP hD [0, 1, 2] [] rfl rfl (by decide) (by decide) hk9 hFc hP1 hD1
  have hP := hP.sub (ws' := [(hrd, .inr (0, [.ref ho, .int va2_3, .int rg2_3, .int sh2_3, .int nx2_3])), (ho, .inr (3, [.ref hh, .int sz])), (hh, .inl (cI, 600, .inl f))]) [0, 1, 2] rfl
  have hD := hD.sub (ws' := [(hrd, .inr (0, [.ref ho, .int va2_3, .int rg2_3, .int sh2_3, .int nx2_3])), (ho, .inr (3, [.ref hh, .int sz])), (hh, .inl (cI, 600, .inl f))]) [0, 1, 2] (by decide) rfl
  generalize H1 = H at hP hS ⊢
  obtain ⟨q3_0, q3_1, q3_2, q3_3⟩ := hw9
  have q3_0 : kB r3 0 1 := q3_0
  have q3_1 : kB rg2_3 128 255 := q3_1
  have q3_2 : kB sh2_3 0 7 := q3_2
  have q3_3 : kIf ((112 : Int32).toInt = 128 ∧ 0 ≤ va.toInt ∧ va.toInt ≤ 2000000 ∧ sh.toInt ≤ 6) (r3.toInt = rBt va.toInt rg.toInt ∧ (va2_3.toInt, rg2_3.toInt, sh2_3.toInt) = rNx va.toInt rg.toInt sh.toInt) := q3_3
  refine lv_if_ne (tgt := 11) hx hb dX4_readWay_6 (by decide) (fun c6 => ?_) (fun c6 => ?_)
  · have c6x : kB r3 1 1 := kB_nlo q3_0 c6 kc_0 (by decide)
    refine lv_aload_n hx hb dX4_readWay_11 rfl (lv_at hl 0 rfl) ?_
    refine lv_bipush (v := 86) hx hb dX4_readWay_12 (by decide) ?_
    have hPc := hP.sub (ws' := [(hrd, .inr (0, [.ref ho, .int va2_3, .int rg2_3, .int sh2_3, .int nx2_3])), (ho, .inr (3, [.ref hh, .int sz])), (hh, .inl (cI, 600, .inl f))]) [0, 1, 2] rfl
    have hDc := hD.sub (ws' := [(hrd, .inr (0, [.ref ho, .int va2_3, .int rg2_3, .int sh2_3, .int nx2_3])), (ho, .inr (3, [.ref hh, .int sz])), (hh, .inl (cI, 600, .inl f))]) [0, 1, 2] (by decide) rfl
    have hFc := va_free (wc := [(hrd, .inr (0, [.ref ho, .int va2_3, .int rg2_3, .int sh2_3, .int nx2_3])), (ho, .inr (3, [.ref hh, .int sz])), (hh, .inl (cI, 600, .inl f))]) hD hS hA [0, 1, 2] rfl
    refine va_calli (va_runV (As := [.int 86]) (rest := []) ⟨hx, hb, hml, hown, hts⟩ (c_X0_readBit l D cI cJ cZ hrd ho hh va2_3 rg2_3 sh2_3 nx2_3 sz f 86 q3_1 q3_2 (kB_w kc_86 (by decide) (by decide)) bsz (H).size) (cwV 1 hts (kg_V mk_130 mk_21 mk_22 mk_23 mk_24) rfl rfl rfl (by decide +kernel) ⟨Nat.le_of_ble_eq_true rfl, Nat.le_of_ble_eq_true rfl⟩) ⟨fun a U g mk q => by obtain ⟨q0, q1, qP, qK, qD⟩ := q; exact ⟨q0, q1, qP, kK.call qK, qD⟩, va_recv hK.1 hPc (ci := 0) (q0 := 0) rfl rfl, fun U hU hW => ⟨rfl, by rw [hU], by rw [hU]; exact hPc, kK.warm hW hK, hDc.weaken (fun _ _ _ _ => trivial)⟩⟩ rfl rfl hl.1 rfl (lv_room (Nat.le_of_ble_eq_true rfl)) dX4_readWay_14 ⟨Nat.zero_le _, Nat.zero_le _⟩) hS (fun q _ h => hFc q h) hFc (fun r14 u t9 H1 locs ht9 hvm9 hw9 hB9 hz9 hk9 hS => ?_)
    obtain ⟨va2_14, rg2_14, sh2_14, nx2_14⟩ := u
    obtain ⟨hP1, hD1⟩ := hB9
    rw [ht9] at hP1
    have hP1 : va_P D vwCl [(hrd, .inr (0, [.ref ho, .int va2_14, .int rg2_14, .int sh2_14, .int nx2_14])), (ho, .inr (3, [.ref hh, .int sz])), (hh, .inl (cI, 600, .inl f))] H1 := hP1
    obtain ⟨hP, hD⟩ := va_join (wr := []) (w1 := [(hrd, .inr (0, [.ref ho, .int va2_14, .int rg2_14, .int sh2_14, .int nx2_14])), (ho, .inr (3, [.ref hh, .int sz])), (hh, .inl (cI, 600, .inl f))]) hP hD [0, 1, 2] [] rfl rfl (by decide) (by decide) hk9 hFc hP1 hD1
    have hP := hP.sub (ws' := [(hrd, .inr (0, [.ref ho, .int va2_14, .int rg2_14, .int sh2_14, .int nx2_14])), (ho, .inr (3, [.ref hh, .int sz])), (hh, .inl (cI, 600, .inl f))]) [0, 1, 2] rfl
    have hD := hD.sub (ws' := [(hrd, .inr (0, [.ref ho, .int va2_14, .int rg2_14, .int sh2_14, .int nx2_14])), (ho, .inr (3, [.ref hh, .int sz])), (hh, .inl (cI, 600, .inl f))]) [0, 1, 2] (by decide) rfl
    generalize H1 = H at hP hS ⊢
    obtain ⟨q14_0, q14_1, q14_2, q14_3⟩ := hw9
    have q14_0 : kB r14 0 1 := q14_0
    have q14_1 : kB rg2_14 128 255 := q14_1
    have q14_2 : kB sh2_14 0 7 := q14_2
    have q14_3 : kIf ((86 : Int32).toInt = 128 ∧ 0 ≤ va2_3.toInt ∧ va2_3.toInt ≤ 2000000 ∧ sh2_3.toInt ≤ 6) (r14.toInt = rBt va2_3.toInt rg2_3.toInt ∧ (va2_14.toInt, rg2_14.toInt, sh2_14.toInt) = rNx va2_3.toInt rg2_3.toInt sh2_3.toInt) := q14_3
    refine lv_if_ne (tgt := 22) hx hb dX4_readWay_17 (by decide) (fun c17 => ?_) (fun c17 => ?_)
    · have c17x : kB r14 1 1 := kB_nlo q14_0 c17 kc_0 (by decide)
      refine lv_aload_n hx hb dX4_readWay_22 rfl (lv_at hl 0 rfl) ?_
      refine lv_sipush (v := 140) hx hb dX4_readWay_23 (by decide) ?_
      have hPc := hP.sub (ws' := [(hrd, .inr (0, [.ref ho, .int va2_14, .int rg2_14, .int sh2_14, .int nx2_14])), (ho, .inr (3, [.ref hh, .int sz])), (hh, .inl (cI, 600, .inl f))]) [0, 1, 2] rfl
      have hDc := hD.sub (ws' := [(hrd, .inr (0, [.ref ho, .int va2_14, .int rg2_14, .int sh2_14, .int nx2_14])), (ho, .inr (3, [.ref hh, .int sz])), (hh, .inl (cI, 600, .inl f))]) [0, 1, 2] (by decide) rfl
      have hFc := va_free (wc := [(hrd, .inr (0, [.ref ho, .int va2_14, .int rg2_14, .int sh2_14, .int nx2_14])), (ho, .inr (3, [.ref hh, .int sz])), (hh, .inl (cI, 600, .inl f))]) hD hS hA [0, 1, 2] rfl
      refine va_calli (va_runV (As := [.int 140]) (rest := []) ⟨hx, hb, hml, hown, hts⟩ (c_X0_readBit l D cI cJ cZ hrd ho hh va2_14 rg2_14 sh2_14 nx2_14 sz f 140 q14_1 q14_2 (kB_w kc_140 (by decide) (by decide)) bsz (H).size) (cwV 1 hts (kg_V mk_130 mk_21 mk_22 mk_23 mk_24) rfl rfl rfl (by decide +kernel) ⟨Nat.le_of_ble_eq_true rfl, Nat.le_of_ble_eq_true rfl⟩) ⟨fun a U g mk q => by obtain ⟨q0, q1, qP, qK, qD⟩ := q; exact ⟨q0, q1, qP, kK.call qK, qD⟩, va_recv hK.1 hPc (ci := 0) (q0 := 0) rfl rfl, fun U hU hW => ⟨rfl, by rw [hU], by rw [hU]; exact hPc, kK.warm hW hK, hDc.weaken (fun _ _ _ _ => trivial)⟩⟩ rfl rfl hl.1 rfl (lv_room (Nat.le_of_ble_eq_true rfl)) dX4_readWay_26 ⟨Nat.zero_le _, Nat.zero_le _⟩) hS (fun q _ h => hFc q h) hFc (fun r26 u t9 H1 locs ht9 hvm9 hw9 hB9 hz9 hk9 hS => ?_)
      obtain ⟨va2_26, rg2_26, sh2_26, nx2_26⟩ := u
      obtain ⟨hP1, hD1⟩ := hB9
      rw [ht9] at hP1
      have hP1 : va_P D vwCl [(hrd, .inr (0, [.ref ho, .int va2_26, .int rg2_26, .int sh2_26, .int nx2_26])), (ho, .inr (3, [.ref hh, .int sz])), (hh, .inl (cI, 600, .inl f))] H1 := hP1
      obtain ⟨hP, hD⟩ := va_join (wr := []) (w1 := [(hrd, .inr (0, [.ref ho, .int va2_26, .int rg2_26, .int sh2_26, .int nx2_26])), (ho, .inr (3, [.ref hh, .int sz])), (hh, .inl (cI, 600, .inl f))]) hP hD [0, 1, 2] [] rfl rfl (by decide) (by decide) hk9 hFc hP1 hD1
      have hP := hP.sub (ws' := [(hrd, .inr (0, [.ref ho, .int va2_26, .int rg2_26, .int sh2_26, .int nx2_26])), (ho, .inr (3, [.ref hh, .int sz])), (hh, .inl (cI, 600, .inl f))]) [0, 1, 2] rfl
      have hD := hD.sub (ws' := [(hrd, .inr (0, [.ref ho, .int va2_26, .int rg2_26, .int sh2_26, .int nx2_26])), (ho, .inr (3, [.ref hh, .int sz])), (hh, .inl (cI, 600, .inl f))]) [0, 1, 2] (by decide) rfl
      generalize H1 = H at hP hS ⊢
      obtain ⟨q26_0, q26_1, q26_2, q26_3⟩ := hw9
      have q26_0 : kB r26 0 1 := q26_0
      have q26_1 : kB rg2_26 128 255 := q26_1
      have q26_2 : kB sh2_26 0 7 := q26_2
      have q26_3 : kIf ((140 : Int32).toInt = 128 ∧ 0 ≤ va2_14.toInt ∧ va2_14.toInt ≤ 2000000 ∧ sh2_14.toInt ≤ 6) (r26.toInt = rBt va2_14.toInt rg2_14.toInt ∧ (va2_26.toInt, rg2_26.toInt, sh2_26.toInt) = rNx va2_14.toInt rg2_14.toInt sh2_14.toInt) := q26_3
      refine lv_if_ne (tgt := 36) hx hb dX4_readWay_29 (by decide) (fun c29 => ?_) (fun c29 => ?_)
      · have c29x : kB r26 1 1 := kB_nlo q26_0 c29 kc_0 (by decide)
        refine lv_iconst (v := 3) hx hb dX4_readWay_36 (by decide) ?_
        have pf_r : kB (3 : Int32) 0 3 := (kB_w kc_3 (by decide) (by decide))
        exact W.iret (v := 3) hx hb hr (fun t9 ht9 hW9 => ⟨⟨3, (va2_26, rg2_26, sh2_26, nx2_26), rfl, ⟨q26_1, q26_2, pf_r⟩, by rw [ht9]; exact hP, hD⟩, hS.F ht9⟩) hS.2.2 dX4_readWay_37
      · have c29x : kB r26 0 0 := kB_eq c29 kc_0
        refine lv_iconst (v := 2) hx hb dX4_readWay_32 (by decide) ?_
        refine lv_goto (tgt := 37) hx hb dX4_readWay_33 (by decide) ?_
        have pf_r : kB (2 : Int32) 0 3 := (kB_w kc_2 (by decide) (by decide))
        exact W.iret (v := 2) hx hb hr (fun t9 ht9 hW9 => ⟨⟨2, (va2_26, rg2_26, sh2_26, nx2_26), rfl, ⟨q26_1, q26_2, pf_r⟩, by rw [ht9]; exact hP, hD⟩, hS.F ht9⟩) hS.2.2 dX4_readWay_37
    · have c17x : kB r14 0 0 := kB_eq c17 kc_0
      refine lv_iconst (v := 1) hx hb dX4_readWay_20 (by decide) ?_
      have pf_r : kB (1 : Int32) 0 3 := (kB_w kc_1 (by decide) (by decide))
      exact W.iret (v := 1) hx hb hr (fun t9 ht9 hW9 => ⟨⟨1, (va2_14, rg2_14, sh2_14, nx2_14), rfl, ⟨q14_1, q14_2, pf_r⟩, by rw [ht9]; exact hP, hD⟩, hS.F ht9⟩) hS.2.2 dX4_readWay_21
  · have c6x : kB r3 0 0 := kB_eq c6 kc_0
    refine lv_iconst (v := 0) hx hb dX4_readWay_9 (by decide) ?_
    have pf_r : kB (0 : Int32) 0 3 := (kB_w kc_0 (by decide) (by decide))
    exact W.iret (v := 0) hx hb hr (fun t9 ht9 hW9 => ⟨⟨0, (va2_3, rg2_3, sh2_3, nx2_3), rfl, ⟨q3_1, q3_2, pf_r⟩, by rw [ht9]; exact hP, hD⟩, hS.F ht9⟩) hS.2.2 dX4_readWay_10
abbrev kw_X4_contextOf : List Cond := Cond.code yX4_contextOf cX4_contextOf 5 (some .int) :: kW
set_option maxHeartbeats 4000000 in
set_option maxRecDepth 100000 in
theorem c_X4_contextOf (l : Launch) (D : va_G) (cI cJ cZ : ClassId) (hp ht htr hpl hw hcr hco hhs : Nat) (cols : Int32) (rows : Int32) (q : Int32) (lev : Int32) (ta : Int32) (ob : Int32) (fch : Int32) (hb_ : Nat → Int32) (cl : Int32) (rw_ : Int32) (bcols : kB cols 1 4) (bcl : kB cl 0 3) (brw : kB rw_ 0 3) (hpz : Nat) : Met l yX4_contextOf kw_X4_contextOf ({ frames := 0, cells := 0, slots := 0, locals := 0 }) (va_Pc [.ref hp, .int cl, .int rw_] (fun U => U.heap.size = hpz ∧ va_P D vwCl [(hp, .inr (4, [.ref ht, .ref htr, .ref hpl, .ref hw, .ref hcr, .ref hco, .ref hhs, .int cols, .int rows, .int q, .int lev, .int ta, .int ob, .int fch])), (hhs, .inl (cZ, 16, .inl hb_))] U.heap ∧ kK D cI cJ cZ U ∧ va_D (fun _ => True) [(hp, .inr (4, [.ref ht, .ref htr, .ref hpl, .ref hw, .ref hcr, .ref hco, .ref hhs, .int cols, .int rows, .int q, .int lev, .int ta, .int ob, .int fch])), (hhs, .inl (cZ, 16, .inl hb_))])) (va_Qi (fun (r : Int32) (u : Unit) => (kB r 0 2)) (fun (u : Unit) (t : State) => va_P D vwCl [(hp, .inr (4, [.ref ht, .ref htr, .ref hpl, .ref hw, .ref hcr, .ref hco, .ref hhs, .int cols, .int rows, .int q, .int lev, .int ta, .int ob, .int fch])), (hhs, .inl (cZ, 16, .inl hb_))] t.heap ∧ va_D (va_A [(hp, .inr (4, [.ref ht, .ref htr, .ref hpl, .ref hw, .ref hcr, .ref hco, .ref hhs, .int cols, .int rows, .int q, .int lev, .int ta, .int ob, .int fch])), (hhs, .inl (cZ, 16, .inl hb_))] hpz) [(hp, .inr (4, [.ref ht, .ref htr, .ref hpl, .ref hw, .ref hcr, .ref hco, .ref hhs, .int cols, .int rows, .int q, .int lev, .int ta, .int ob, .int fch])), (hhs, .inl (cZ, 16, .inl hb_))]) (va_A [(hp, .inr (4, [.ref ht, .ref htr, .ref hpl, .ref hw, .ref hcr, .ref hco, .ref hhs, .int cols, .int rows, .int q, .int lev, .int ta, .int ob, .int fch])), (hhs, .inl (cZ, 16, .inl hb_))] hpz)) 0 0 (va_A [(hp, .inr (4, [.ref ht, .ref htr, .ref hpl, .ref hw, .ref hcr, .ref hco, .ref hhs, .int cols, .int rows, .int q, .int lev, .int ta, .int ob, .int fch])), (hhs, .inl (cZ, 16, .inl hb_))] hpz) := by
  refine Met.ofW (cc := cX4_contextOf) (maxL := 5) (ret := (some .int)) (by decide) rfl ?_
  intro p e s m args below meth c s₁ B hml hv
  obtain ⟨rfl, hsz, hP, hK, hD0⟩ := hv
  have hx := B.exec
  have hb := B.bytes
  have hr := B.returns
  have hts := fun (w : Cond) (h : w ∈ kW) => atoms_spec (ws := kw_X4_contextOf) B.pre w (List.mem_cons_of_mem _ h)
  have hown : s.vm.findClass RX4 = some m.cls := findClass_of_methodNamed B.named
  have hlocks := B.notSynchronized
  subst hsz
  have hD := hD0.self (sz := s.heap.size)
  generalize hAe : va_A [(hp, .inr (4, [.ref ht, .ref htr, .ref hpl, .ref hw, .ref hcr, .ref hco, .ref hhs, .int cols, .int rows, .int q, .int lev, .int ta, .int ob, .int fch])), (hhs, .inl (cZ, 16, .inl hb_))] s.heap.size = A at hD ⊢
  have hA : ∀ q : Nat, s.heap.size ≤ q → A q := fun q h => by rw [← hAe]; exact Or.inr h
  have hS : va_S A s.heap s.heap [] := va_S.rf
  have hP : va_P D vwCl [(hp, .inr (4, [.ref ht, .ref htr, .ref hpl, .ref hw, .ref hcr, .ref hco, .ref hhs, .int cols, .int rows, .int q, .int lev, .int ta, .int ob, .int fch])), (hhs, .inl (cZ, 16, .inl hb_))] s.heap := hP
  have hl := lv_entry ([.ref hp, .int cl, .int rw_]) (n := 5) (Nat.le_of_ble_eq_true rfl)
  rw [lg_entry_eq]
  generalize (lg_sl ([.ref hp, .int cl, .int rw_]) ++ List.replicate (5 - (lg_sl ([.ref hp, .int cl, .int rw_])).length) Slot.unset).toArray = ls at hl ⊢
  have hl : lv_has ls 5 [(0, .ref hp), (1, .int cl), (2, .int rw_)] := hl
  refine lv_iload_n hx hb dX4_contextOf_0 rfl (lv_at hl 2 rfl) ?_
  refine lv_aload_n hx hb dX4_contextOf_1 rfl (lv_at hl 0 rfl) ?_
  refine va_get (D := D) (ci := 4) (v := .int cols) (C := RX4) (T := TX4) (N := 14) hx hb hts in_X4 hown hK.1 hP 0 rfl rfl 7 (by decide) (hts _ mk_114) (fun _ h9 => h9) rfl dX4_contextOf_2 ?_
  refine lv_imul hx hb dX4_contextOf_5 ?_
  refine lv_topi (fun v5 e5 => ?_)
  have b5 : kB v5 0 12 := kB_eq e5 (kB_mul brw bcols (by decide))
  refine lv_iload_n hx hb dX4_contextOf_6 rfl (lv_at hl 1 rfl) ?_
  refine lv_iadd hx hb dX4_contextOf_7 ?_
  refine lv_topi (fun v7 e7 => ?_)
  have b7 : kB v7 0 15 := kB_eq e7 (kB_add b5 bcl (by decide))
  refine lv_istore_n (lv' := [(3, .int v7), (0, .ref hp), (1, .int cl), (2, .int rw_)]) hx hb dX4_contextOf_8 rfl hl (by decide) rfl (fun ls hl => ?_)
  refine lv_iconst (v := 0) hx hb dX4_contextOf_9 (by decide) ?_
  refine lv_istore (lv' := [(4, .int 0), (3, .int v7), (0, .ref hp), (1, .int cl), (2, .int rw_)]) hx hb dX4_contextOf_10 hl (by decide) rfl (fun ls hl => ?_)
  refine lv_iload_n hx hb dX4_contextOf_12 rfl (lv_at hl 3 rfl) ?_
  refine lv_if_le (tgt := 30) hx hb dX4_contextOf_13 (by decide) (fun c13 => ?_) (fun c13 => ?_)
  · have c13x : kB cl 0 0 := kB_le_l bcl kc_0 c13 (by decide)
    refine lv_iload_n hx hb dX4_contextOf_30 rfl (lv_at hl 4 rfl) ?_
    refine lv_if_le (tgt := 51) hx hb dX4_contextOf_31 (by decide) (fun c31 => ?_) (fun c31 => ?_)
    · have c31x : kB rw_ 0 0 := kB_le_l brw kc_0 c31 (by decide)
      refine lv_iload hx hb dX4_contextOf_51 (lv_at hl 0 rfl) ?_
      have pf_r : kB (0 : Int32) 0 2 := (kB_w kc_0 (by decide) (by decide))
      exact W.iret (v := 0) hx hb hr (fun t9 ht9 hW9 => ⟨⟨0, (), rfl, pf_r, by rw [ht9]; exact hP, hD⟩, hS.F ht9⟩) hS.2.2 dX4_contextOf_53
    · have c31n : 0 < rw_ := kN_le c31
      have c31ny : kB rw_ 1 3 := kB_lt_r kc_0 brw c31n (by decide)
      refine lv_aload_n hx hb dX4_contextOf_34 rfl (lv_at hl 2 rfl) ?_
      refine va_get (D := D) (ci := 4) (v := .ref hhs) (C := RX4) (T := TX4) (N := 14) hx hb hts in_X4 hown hK.1 hP 0 rfl rfl 6 (by decide) (hts _ mk_131) (fun _ h9 => h9) rfl dX4_contextOf_35 ?_
      refine lv_iload_n hx hb dX4_contextOf_38 rfl (lv_at hl 1 rfl) ?_
      refine lv_aload_n hx hb dX4_contextOf_39 rfl (lv_at hl 2 rfl) ?_
      refine va_get (D := D) (ci := 4) (v := .int cols) (C := RX4) (T := TX4) (N := 14) hx hb hts in_X4 hown hK.1 hP 0 rfl rfl 7 (by decide) (hts _ mk_114) (fun _ h9 => h9) rfl dX4_contextOf_40 ?_
      refine lv_isub hx hb dX4_contextOf_43 ?_
      refine lv_topi (fun v43 e43 => ?_)
      have b43 : kB v43 (-4) 14 := kB_eq e43 (kB_sub b7 bcols (by decide))
      have B43 : kB v43 0 15 := kctx c31ny bcols (kB_w c13x (by decide) (by decide)) e5 e7 e43
      refine va_zald hx hb hK.1 hP 1 2 rfl rfl (kB_in B43 (by decide)) dX4_contextOf_44 ?_
      refine lv_topi (fun v44 e44 => ?_)
      refine lv_if_eq (tgt := 51) hx hb dX4_contextOf_45 (by decide) (fun c45 => ?_) (fun c45 => ?_)
      · have c45x : kB v44 0 0 := kB_eq c45 kc_0
        refine lv_iload hx hb dX4_contextOf_51 (lv_at hl 0 rfl) ?_
        have pf_r : kB (0 : Int32) 0 2 := (kB_w kc_0 (by decide) (by decide))
        exact W.iret (v := 0) hx hb hr (fun t9 ht9 hW9 => ⟨⟨0, (), rfl, pf_r, by rw [ht9]; exact hP, hD⟩, hS.F ht9⟩) hS.2.2 dX4_contextOf_53
      · obtain ⟨v48, e48⟩ : ∃ y : Int32, y = 0 + 1 := ⟨_, rfl⟩
        refine lv_iinc (v := v48) (lv' := [(4, .int v48), (3, .int v7), (0, .ref hp), (1, .int cl), (2, .int rw_)]) hx hb dX4_contextOf_48 hl (k := 0) rfl (by rw [e48]; rfl) (by decide) rfl (fun ls hl => ?_)
        have b48 : kB v48 1 1 := kB_eq e48 (kB_add kc_0 kc_1 (by decide))
        have t48 : v48.toInt = (0 : Int32).toInt + 1 := by rw [e48]; exact kinc (kB_w kc_0 (by decide) (by decide))
        refine lv_iload hx hb dX4_contextOf_51 (lv_at hl 0 rfl) ?_
        have pf_r : kB v48 0 2 := (kB_w b48 (by decide) (by decide))
        exact W.iret (v := v48) hx hb hr (fun t9 ht9 hW9 => ⟨⟨v48, (), rfl, pf_r, by rw [ht9]; exact hP, hD⟩, hS.F ht9⟩) hS.2.2 dX4_contextOf_53
  · have c13n : 0 < cl := kN_le c13
    have c13ny : kB cl 1 3 := kB_lt_r kc_0 bcl c13n (by decide)
    have b7_2 : kB v7 1 15 := kB_eq e7 (kB_add b5 c13ny (by decide))
    refine lv_aload_n hx hb dX4_contextOf_16 rfl (lv_at hl 2 rfl) ?_
    refine va_get (D := D) (ci := 4) (v := .ref hhs) (C := RX4) (T := TX4) (N := 14) hx hb hts in_X4 hown hK.1 hP 0 rfl rfl 6 (by decide) (hts _ mk_131) (fun _ h9 => h9) rfl dX4_contextOf_17 ?_
    refine lv_iload_n hx hb dX4_contextOf_20 rfl (lv_at hl 1 rfl) ?_
    refine lv_iconst (v := 1) hx hb dX4_contextOf_21 (by decide) ?_
    refine lv_isub hx hb dX4_contextOf_22 ?_
    refine lv_topi (fun v22 e22 => ?_)
    have b22 : kB v22 0 14 := kB_eq e22 (kB_sub b7_2 kc_1 (by decide))
    refine va_zald hx hb hK.1 hP 1 2 rfl rfl (kB_in b22 (by decide)) dX4_contextOf_23 ?_
    refine lv_topi (fun v23 e23 => ?_)
    refine lv_if_eq (tgt := 30) hx hb dX4_contextOf_24 (by decide) (fun c24 => ?_) (fun c24 => ?_)
    · have c24x : kB v23 0 0 := kB_eq c24 kc_0
      refine lv_iload_n hx hb dX4_contextOf_30 rfl (lv_at hl 4 rfl) ?_
      refine lv_if_le (tgt := 51) hx hb dX4_contextOf_31 (by decide) (fun c31 => ?_) (fun c31 => ?_)
      · have c31x : kB rw_ 0 0 := kB_le_l brw kc_0 c31 (by decide)
        refine lv_iload hx hb dX4_contextOf_51 (lv_at hl 0 rfl) ?_
        have pf_r : kB (0 : Int32) 0 2 := (kB_w kc_0 (by decide) (by decide))
        exact W.iret (v := 0) hx hb hr (fun t9 ht9 hW9 => ⟨⟨0, (), rfl, pf_r, by rw [ht9]; exact hP, hD⟩, hS.F ht9⟩) hS.2.2 dX4_contextOf_53
      · have c31n : 0 < rw_ := kN_le c31
        have c31ny : kB rw_ 1 3 := kB_lt_r kc_0 brw c31n (by decide)
        refine lv_aload_n hx hb dX4_contextOf_34 rfl (lv_at hl 2 rfl) ?_
        refine va_get (D := D) (ci := 4) (v := .ref hhs) (C := RX4) (T := TX4) (N := 14) hx hb hts in_X4 hown hK.1 hP 0 rfl rfl 6 (by decide) (hts _ mk_131) (fun _ h9 => h9) rfl dX4_contextOf_35 ?_
        refine lv_iload_n hx hb dX4_contextOf_38 rfl (lv_at hl 1 rfl) ?_
        refine lv_aload_n hx hb dX4_contextOf_39 rfl (lv_at hl 2 rfl) ?_
        refine va_get (D := D) (ci := 4) (v := .int cols) (C := RX4) (T := TX4) (N := 14) hx hb hts in_X4 hown hK.1 hP 0 rfl rfl 7 (by decide) (hts _ mk_114) (fun _ h9 => h9) rfl dX4_contextOf_40 ?_
        refine lv_isub hx hb dX4_contextOf_43 ?_
        refine lv_topi (fun v43 e43 => ?_)
        have b43 : kB v43 (-3) 14 := kB_eq e43 (kB_sub b7_2 bcols (by decide))
        have B43 : kB v43 0 15 := kctx c31ny bcols (kB_w c13ny (by decide) (by decide)) e5 e7 e43
        refine va_zald hx hb hK.1 hP 1 2 rfl rfl (kB_in B43 (by decide)) dX4_contextOf_44 ?_
        refine lv_topi (fun v44 e44 => ?_)
        refine lv_if_eq (tgt := 51) hx hb dX4_contextOf_45 (by decide) (fun c45 => ?_) (fun c45 => ?_)
        · have c45x : kB v44 0 0 := kB_eq c45 kc_0
          refine lv_iload hx hb dX4_contextOf_51 (lv_at hl 0 rfl) ?_
          have pf_r : kB (0 : Int32) 0 2 := (kB_w kc_0 (by decide) (by decide))
          exact W.iret (v := 0) hx hb hr (fun t9 ht9 hW9 => ⟨⟨0, (), rfl, pf_r, by rw [ht9]; exact hP, hD⟩, hS.F ht9⟩) hS.2.2 dX4_contextOf_53
        · obtain ⟨v48, e48⟩ : ∃ y : Int32, y = 0 + 1 := ⟨_, rfl⟩
          refine lv_iinc (v := v48) (lv' := [(4, .int v48), (3, .int v7), (0, .ref hp), (1, .int cl), (2, .int rw_)]) hx hb dX4_contextOf_48 hl (k := 0) rfl (by rw [e48]; rfl) (by decide) rfl (fun ls hl => ?_)
          have b48 : kB v48 1 1 := kB_eq e48 (kB_add kc_0 kc_1 (by decide))
          have t48 : v48.toInt = (0 : Int32).toInt + 1 := by rw [e48]; exact kinc (kB_w kc_0 (by decide) (by decide))
          refine lv_iload hx hb dX4_contextOf_51 (lv_at hl 0 rfl) ?_
          have pf_r : kB v48 0 2 := (kB_w b48 (by decide) (by decide))
          exact W.iret (v := v48) hx hb hr (fun t9 ht9 hW9 => ⟨⟨v48, (), rfl, pf_r, by rw [ht9]; exact hP, hD⟩, hS.F ht9⟩) hS.2.2 dX4_contextOf_53
    · obtain ⟨v27, e27⟩ : ∃ y : Int32, y = 0 + 1 := ⟨_, rfl⟩
      refine lv_iinc (v := v27) (lv' := [(4, .int v27), (3, .int v7), (0, .ref hp), (1, .int cl), (2, .int rw_)]) hx hb dX4_contextOf_27 hl (k := 0) rfl (by rw [e27]; rfl) (by decide) rfl (fun ls hl => ?_)
      have b27 : kB v27 1 1 := kB_eq e27 (kB_add kc_0 kc_1 (by decide))
      have t27 : v27.toInt = (0 : Int32).toInt + 1 := by rw [e27]; exact kinc (kB_w kc_0 (by decide) (by decide))
      refine lv_iload_n hx hb dX4_contextOf_30 rfl (lv_at hl 4 rfl) ?_
      refine lv_if_le (tgt := 51) hx hb dX4_contextOf_31 (by decide) (fun c31 => ?_) (fun c31 => ?_)
      · have c31x : kB rw_ 0 0 := kB_le_l brw kc_0 c31 (by decide)
        refine lv_iload hx hb dX4_contextOf_51 (lv_at hl 0 rfl) ?_
        have pf_r : kB v27 0 2 := (kB_w b27 (by decide) (by decide))
        exact W.iret (v := v27) hx hb hr (fun t9 ht9 hW9 => ⟨⟨v27, (), rfl, pf_r, by rw [ht9]; exact hP, hD⟩, hS.F ht9⟩) hS.2.2 dX4_contextOf_53
      · have c31n : 0 < rw_ := kN_le c31
        have c31ny : kB rw_ 1 3 := kB_lt_r kc_0 brw c31n (by decide)
        refine lv_aload_n hx hb dX4_contextOf_34 rfl (lv_at hl 2 rfl) ?_
        refine va_get (D := D) (ci := 4) (v := .ref hhs) (C := RX4) (T := TX4) (N := 14) hx hb hts in_X4 hown hK.1 hP 0 rfl rfl 6 (by decide) (hts _ mk_131) (fun _ h9 => h9) rfl dX4_contextOf_35 ?_
        refine lv_iload_n hx hb dX4_contextOf_38 rfl (lv_at hl 1 rfl) ?_
        refine lv_aload_n hx hb dX4_contextOf_39 rfl (lv_at hl 2 rfl) ?_
        refine va_get (D := D) (ci := 4) (v := .int cols) (C := RX4) (T := TX4) (N := 14) hx hb hts in_X4 hown hK.1 hP 0 rfl rfl 7 (by decide) (hts _ mk_114) (fun _ h9 => h9) rfl dX4_contextOf_40 ?_
        refine lv_isub hx hb dX4_contextOf_43 ?_
        refine lv_topi (fun v43 e43 => ?_)
        have b43 : kB v43 (-3) 14 := kB_eq e43 (kB_sub b7_2 bcols (by decide))
        have B43 : kB v43 0 15 := kctx c31ny bcols (kB_w c13ny (by decide) (by decide)) e5 e7 e43
        refine va_zald hx hb hK.1 hP 1 2 rfl rfl (kB_in B43 (by decide)) dX4_contextOf_44 ?_
        refine lv_topi (fun v44 e44 => ?_)
        refine lv_if_eq (tgt := 51) hx hb dX4_contextOf_45 (by decide) (fun c45 => ?_) (fun c45 => ?_)
        · have c45x : kB v44 0 0 := kB_eq c45 kc_0
          refine lv_iload hx hb dX4_contextOf_51 (lv_at hl 0 rfl) ?_
          have pf_r : kB v27 0 2 := (kB_w b27 (by decide) (by decide))
          exact W.iret (v := v27) hx hb hr (fun t9 ht9 hW9 => ⟨⟨v27, (), rfl, pf_r, by rw [ht9]; exact hP, hD⟩, hS.F ht9⟩) hS.2.2 dX4_contextOf_53
        · obtain ⟨v48, e48⟩ : ∃ y : Int32, y = v27 + 1 := ⟨_, rfl⟩
          refine lv_iinc (v := v48) (lv' := [(4, .int v48), (3, .int v7), (0, .ref hp), (1, .int cl), (2, .int rw_)]) hx hb dX4_contextOf_48 hl (k := 0) rfl (by rw [e48]; rfl) (by decide) rfl (fun ls hl => ?_)
          have b48 : kB v48 2 2 := kB_eq e48 (kB_add b27 kc_1 (by decide))
          have t48 : v48.toInt = v27.toInt + 1 := by rw [e48]; exact kinc (kB_w b27 (by decide) (by decide))
          refine lv_iload hx hb dX4_contextOf_51 (lv_at hl 0 rfl) ?_
          have pf_r : kB v48 0 2 := (kB_w b48 (by decide) (by decide))
          exact W.iret (v := v48) hx hb hr (fun t9 ht9 hW9 => ⟨⟨v48, (), rfl, pf_r, by rw [ht9]; exact hP, hD⟩, hS.F ht9⟩) hS.2.2 dX4_contextOf_53
abbrev kw_X4_hasSomeNotZero : List Cond := Cond.code yX4_hasSomeNotZero cX4_hasSomeNotZero 3 (some .boolean) :: kW
set_option maxHeartbeats 4000000 in
set_option maxRecDepth 100000 in
theorem lp_X4_hasSomeNotZero_2 {p : Program} {l : Launch} {e : Env} {s : State} {m : MethodId} {args : Array Value} {below : List Frame} {meth : Method} {c : Code} {A : Nat → Prop} (D : va_G) (cI cJ cZ : ClassId) (hp ht htr hpl hw hcr hco hhs : Nat) (cols : Int32) (rows : Int32) (q : Int32) (lev : Int32) (ta : Int32) (ob : Int32) (fch : Int32) (co : Nat → Int32) (k : Int32) (bk : kB k 0 15) (hx : p.tables.exec = Jvm.exec) (hb : c.code = cX4_hasSomeNotZero) (hr : meth.sig.returnType = (some .boolean)) (hml : c.maxLocals = 3) (hown : s.vm.findClass RX4 = some m.cls) (hts : ∀ w ∈ kW, w.before args s = true) (hlocks : meth.locks = false) (hK : kK D cI cJ cZ s) (hA : ∀ q : Nat, s.heap.size ≤ q → A q) : ∀ n : Nat, ∀ (x2 : Int32), (16 - x2.toInt).toNat < n → (kB x2 0 16) → ∀ (H : Heap) (locs : List Loc) (ls : Array Slot), va_P D vwCl [(hp, .inr (4, [.ref ht, .ref htr, .ref hpl, .ref hw, .ref hcr, .ref hco, .ref hhs, .int cols, .int rows, .int q, .int lev, .int ta, .int ob, .int fch])), (hco, .inl (cI, 256, .inl co))] H → va_D A [(hp, .inr (4, [.ref ht, .ref htr, .ref hpl, .ref hw, .ref hcr, .ref hco, .ref hhs, .int cols, .int rows, .int q, .int lev, .int ta, .int ob, .int fch])), (hco, .inl (cI, 256, .inl co))] → va_S A s.heap H locs → lv_has ls 3 [(0, .ref hp), (1, .int k), (2, .int x2)] → W p l e (headSpec kw_X4_hasSomeNotZero ({ frames := 0, cells := 0, slots := 0, locals := 0 })).room s m args below meth c H locs 0 0 (MQ below (va_Qi (fun (r : Int32) (u : Unit) => (kB r 0 1)) (fun (u : Unit) (t : State) => va_P D vwCl [(hp, .inr (4, [.ref ht, .ref htr, .ref hpl, .ref hw, .ref hcr, .ref hco, .ref hhs, .int cols, .int rows, .int q, .int lev, .int ta, .int ob, .int fch])), (hco, .inl (cI, 256, .inl co))] t.heap ∧ va_D A [(hp, .inr (4, [.ref ht, .ref htr, .ref hpl, .ref hw, .ref hcr, .ref hco, .ref hhs, .int cols, .int rows, .int q, .int lev, .int ta, .int ob, .int fch])), (hco, .inl (cI, 256, .inl co))]) A) args s 0 0 A) (F0 m 2 ls []) := by
  intro n
  induction n with
  | zero => intro x2 hmeas; exact absurd hmeas (Nat.not_lt_zero _)
  | succ n ih =>
    intro x2 hmeas b2 H locs ls hP hD hS hl
    refine lv_iload_n hx hb dX4_hasSomeNotZero_2 rfl (lv_at hl 2 rfl) ?_
    refine lv_bipush (v := 16) hx hb dX4_hasSomeNotZero_3 (by decide) ?_
    refine lv_icmp_ge (tgt := 30) hx hb dX4_hasSomeNotZero_5 (by decide) (fun c5 => ?_) (fun c5 => ?_)
    · have c5y : kB x2 16 16 := kB_le_r kc_16 b2 c5 (by decide)
      refine lv_iconst (v := 0) hx hb dX4_hasSomeNotZero_30 (by decide) ?_
      have pf_b : kB (0 : Int32) 0 1 := (kB_w kc_0 (by decide) (by decide))
      exact W.zret (v := 0) hx hb hr (kB_nz (kB_w kc_0 (by decide) (by decide))) (fun t9 ht9 hW9 => ⟨⟨0, (), rfl, pf_b, by rw [ht9]; exact hP, hD⟩, hS.F ht9⟩) hS.2.2 dX4_hasSomeNotZero_31
    · have c5n : x2 < 16 := kN_le c5
      have c5nx : kB x2 0 15 := kB_lt_l b2 kc_16 c5n (by decide)
      refine lv_aload_n hx hb dX4_hasSomeNotZero_8 rfl (lv_at hl 0 rfl) ?_
      refine va_get (D := D) (ci := 4) (v := .ref hco) (C := RX4) (T := TX4) (N := 14) hx hb hts in_X4 hown hK.1 hP 0 rfl rfl 5 (by decide) (hts _ mk_127) (fun _ h9 => h9) rfl dX4_hasSomeNotZero_9 ?_
      refine lv_iload_n hx hb dX4_hasSomeNotZero_12 rfl (lv_at hl 1 rfl) ?_
      refine lv_bipush (v := 16) hx hb dX4_hasSomeNotZero_13 (by decide) ?_
      refine lv_imul hx hb dX4_hasSomeNotZero_15 ?_
      refine lv_topi (fun v15 e15 => ?_)
      have b15 : kB v15 0 240 := kB_eq e15 (kB_mulc bk kc_16 (by decide))
      refine lv_iload_n hx hb dX4_hasSomeNotZero_16 rfl (lv_at hl 2 rfl) ?_
      refine lv_iadd hx hb dX4_hasSomeNotZero_17 ?_
      refine lv_topi (fun v17 e17 => ?_)
      have b17 : kB v17 0 255 := kB_eq e17 (kB_add b15 c5nx (by decide))
      refine va_iald hx hb hK.1 hP 1 0 rfl rfl (kB_in b17 (by decide)) dX4_hasSomeNotZero_18 ?_
      refine lv_topi (fun v18 e18 => ?_)
      refine lv_if_eq (tgt := 24) hx hb dX4_hasSomeNotZero_19 (by decide) (fun c19 => ?_) (fun c19 => ?_)
      · have c19x : kB v18 0 0 := kB_eq c19 kc_0
        obtain ⟨v24, e24⟩ : ∃ y : Int32, y = x2 + 1 := ⟨_, rfl⟩
        refine lv_iinc (v := v24) (lv' := [(2, .int v24), (0, .ref hp), (1, .int k)]) hx hb dX4_hasSomeNotZero_24 hl (k := 2) rfl (by rw [e24]; rfl) (by decide) rfl (fun ls hl => ?_)
        have b24 : kB v24 1 16 := kB_eq e24 (kB_add c5nx kc_1 (by decide))
        have t24 : v24.toInt = x2.toInt + 1 := by rw [e24]; exact kinc (kB_w c5nx (by decide) (by decide))
        refine lv_goto (tgt := 2) hx hb dX4_hasSomeNotZero_27 (by decide) ?_
        exact ih v24 (by have := b24.1; have := b24.2; have := c5nx.1; have := c5nx.2; omega) (kB_w b24 (by decide) (by decide)) _ _ ls hP hD hS (lv_sub hl [1, 2, 0] rfl)
      · refine lv_iconst (v := 1) hx hb dX4_hasSomeNotZero_22 (by decide) ?_
        have pf_b : kB (1 : Int32) 0 1 := (kB_w kc_1 (by decide) (by decide))
        exact W.zret (v := 1) hx hb hr (kB_nz (kB_w kc_1 (by decide) (by decide))) (fun t9 ht9 hW9 => ⟨⟨1, (), rfl, pf_b, by rw [ht9]; exact hP, hD⟩, hS.F ht9⟩) hS.2.2 dX4_hasSomeNotZero_23
set_option maxHeartbeats 4000000 in
set_option maxRecDepth 100000 in
theorem c_X4_hasSomeNotZero (l : Launch) (D : va_G) (cI cJ cZ : ClassId) (hp ht htr hpl hw hcr hco hhs : Nat) (cols : Int32) (rows : Int32) (q : Int32) (lev : Int32) (ta : Int32) (ob : Int32) (fch : Int32) (co : Nat → Int32) (k : Int32) (bk : kB k 0 15) (hpz : Nat) : Met l yX4_hasSomeNotZero kw_X4_hasSomeNotZero ({ frames := 0, cells := 0, slots := 0, locals := 0 }) (va_Pc [.ref hp, .int k] (fun U => U.heap.size = hpz ∧ va_P D vwCl [(hp, .inr (4, [.ref ht, .ref htr, .ref hpl, .ref hw, .ref hcr, .ref hco, .ref hhs, .int cols, .int rows, .int q, .int lev, .int ta, .int ob, .int fch])), (hco, .inl (cI, 256, .inl co))] U.heap ∧ kK D cI cJ cZ U ∧ va_D (fun _ => True) [(hp, .inr (4, [.ref ht, .ref htr, .ref hpl, .ref hw, .ref hcr, .ref hco, .ref hhs, .int cols, .int rows, .int q, .int lev, .int ta, .int ob, .int fch])), (hco, .inl (cI, 256, .inl co))])) (va_Qi (fun (r : Int32) (u : Unit) => (kB r 0 1)) (fun (u : Unit) (t : State) => va_P D vwCl [(hp, .inr (4, [.ref ht, .ref htr, .ref hpl, .ref hw, .ref hcr, .ref hco, .ref hhs, .int cols, .int rows, .int q, .int lev, .int ta, .int ob, .int fch])), (hco, .inl (cI, 256, .inl co))] t.heap ∧ va_D (va_A [(hp, .inr (4, [.ref ht, .ref htr, .ref hpl, .ref hw, .ref hcr, .ref hco, .ref hhs, .int cols, .int rows, .int q, .int lev, .int ta, .int ob, .int fch])), (hco, .inl (cI, 256, .inl co))] hpz) [(hp, .inr (4, [.ref ht, .ref htr, .ref hpl, .ref hw, .ref hcr, .ref hco, .ref hhs, .int cols, .int rows, .int q, .int lev, .int ta, .int ob, .int fch])), (hco, .inl (cI, 256, .inl co))]) (va_A [(hp, .inr (4, [.ref ht, .ref htr, .ref hpl, .ref hw, .ref hcr, .ref hco, .ref hhs, .int cols, .int rows, .int q, .int lev, .int ta, .int ob, .int fch])), (hco, .inl (cI, 256, .inl co))] hpz)) 0 0 (va_A [(hp, .inr (4, [.ref ht, .ref htr, .ref hpl, .ref hw, .ref hcr, .ref hco, .ref hhs, .int cols, .int rows, .int q, .int lev, .int ta, .int ob, .int fch])), (hco, .inl (cI, 256, .inl co))] hpz) := by
  refine Met.ofW (cc := cX4_hasSomeNotZero) (maxL := 3) (ret := (some .boolean)) (by decide) rfl ?_
  intro p e s m args below meth c s₁ B hml hv
  obtain ⟨rfl, hsz, hP, hK, hD0⟩ := hv
  have hx := B.exec
  have hb := B.bytes
  have hr := B.returns
  have hts := fun (w : Cond) (h : w ∈ kW) => atoms_spec (ws := kw_X4_hasSomeNotZero) B.pre w (List.mem_cons_of_mem _ h)
  have hown : s.vm.findClass RX4 = some m.cls := findClass_of_methodNamed B.named
  have hlocks := B.notSynchronized
  subst hsz
  have hD := hD0.self (sz := s.heap.size)
  generalize hAe : va_A [(hp, .inr (4, [.ref ht, .ref htr, .ref hpl, .ref hw, .ref hcr, .ref hco, .ref hhs, .int cols, .int rows, .int q, .int lev, .int ta, .int ob, .int fch])), (hco, .inl (cI, 256, .inl co))] s.heap.size = A at hD ⊢
  have hA : ∀ q : Nat, s.heap.size ≤ q → A q := fun q h => by rw [← hAe]; exact Or.inr h
  have hS : va_S A s.heap s.heap [] := va_S.rf
  have hP : va_P D vwCl [(hp, .inr (4, [.ref ht, .ref htr, .ref hpl, .ref hw, .ref hcr, .ref hco, .ref hhs, .int cols, .int rows, .int q, .int lev, .int ta, .int ob, .int fch])), (hco, .inl (cI, 256, .inl co))] s.heap := hP
  have hl := lv_entry ([.ref hp, .int k]) (n := 3) (Nat.le_of_ble_eq_true rfl)
  rw [lg_entry_eq]
  generalize (lg_sl ([.ref hp, .int k]) ++ List.replicate (3 - (lg_sl ([.ref hp, .int k])).length) Slot.unset).toArray = ls at hl ⊢
  have hl : lv_has ls 3 [(0, .ref hp), (1, .int k)] := hl
  refine lv_iconst (v := 0) hx hb dX4_hasSomeNotZero_0 (by decide) ?_
  refine lv_istore_n (lv' := [(2, .int 0), (0, .ref hp), (1, .int k)]) hx hb dX4_hasSomeNotZero_1 rfl hl (by decide) rfl (fun ls hl => ?_)
  exact lp_X4_hasSomeNotZero_2 D cI cJ cZ hp ht htr hpl hw hcr hco hhs cols rows q lev ta ob fch co k bk hx hb hr hml hown hts hlocks hK hA ((16 - (0 : Int32).toInt).toNat + 1) 0 (Nat.lt_succ_self _) (kB_w kc_0 (by decide) (by decide)) _ _ ls hP hD hS (lv_sub hl [1, 2, 0] rfl)
abbrev kw_X4_rebuild : List Cond := Cond.code yX4_rebuild cX4_rebuild 4 none :: kW
set_option maxHeartbeats 4000000 in
set_option maxRecDepth 100000 in
theorem c_X4_rebuild (l : Launch) (D : va_G) (cI cJ cZ : ClassId) (hp ht htr hg hpl hs hw hcr hco hhs : Nat) (cols : Int32) (rows : Int32) (q : Int32) (lev : Int32) (ta : Int32) (ob : Int32) (fch : Int32) (g : Nat → Int64) (sm : Nat → Int32) (wy : Nat → Int32) (co : Nat → Int32) (k : Int32) (cl : Int32) (rw_ : Int32) (bk : kB k 0 15) (bcl : kB cl 0 3) (brw : kB rw_ 0 3) (hpz : Nat) : Met l yX4_rebuild kw_X4_rebuild ({ frames := 4, cells := 0, slots := 0, locals := 98 }) (va_Pc [.ref hp, .int k, .int cl, .int rw_] (fun U => U.heap.size = hpz ∧ va_P D vwCl [(hp, .inr (4, [.ref ht, .ref htr, .ref hpl, .ref hw, .ref hcr, .ref hco, .ref hhs, .int cols, .int rows, .int q, .int lev, .int ta, .int ob, .int fch])), (htr, .inr (6, [.ref hg])), (hg, .inl (cJ, 16, .inr (.inl g))), (hpl, .inr (5, [.ref hs])), (hs, .inl (cI, 256, .inl sm)), (hw, .inl (cI, 16, .inl wy)), (hco, .inl (cI, 256, .inl co))] U.heap ∧ kK D cI cJ cZ U ∧ va_D (fun _ => True) [(hp, .inr (4, [.ref ht, .ref htr, .ref hpl, .ref hw, .ref hcr, .ref hco, .ref hhs, .int cols, .int rows, .int q, .int lev, .int ta, .int ob, .int fch])), (htr, .inr (6, [.ref hg])), (hg, .inl (cJ, 16, .inr (.inl g))), (hpl, .inr (5, [.ref hs])), (hs, .inl (cI, 256, .inl sm)), (hw, .inl (cI, 16, .inl wy)), (hco, .inl (cI, 256, .inl co))] ∧ kT (va_A [(hp, .inr (4, [.ref ht, .ref htr, .ref hpl, .ref hw, .ref hcr, .ref hco, .ref hhs, .int cols, .int rows, .int q, .int lev, .int ta, .int ob, .int fch])), (htr, .inr (6, [.ref hg])), (hg, .inl (cJ, 16, .inr (.inl g))), (hpl, .inr (5, [.ref hs])), (hs, .inl (cI, 256, .inl sm)), (hw, .inl (cI, 16, .inl wy)), (hco, .inl (cI, 256, .inl co))] hpz) U U.heap)) (va_Qv (fun (u : (Nat → Int64) × (Nat → Int32)) => True) (fun (u : (Nat → Int64) × (Nat → Int32)) (t : State) => va_P D vwCl [(hp, .inr (4, [.ref ht, .ref htr, .ref hpl, .ref hw, .ref hcr, .ref hco, .ref hhs, .int cols, .int rows, .int q, .int lev, .int ta, .int ob, .int fch])), (htr, .inr (6, [.ref hg])), (hg, .inl (cJ, 16, .inr (.inl u.1))), (hpl, .inr (5, [.ref hs])), (hs, .inl (cI, 256, .inl u.2)), (hw, .inl (cI, 16, .inl wy)), (hco, .inl (cI, 256, .inl co))] t.heap ∧ va_D (va_A [(hp, .inr (4, [.ref ht, .ref htr, .ref hpl, .ref hw, .ref hcr, .ref hco, .ref hhs, .int cols, .int rows, .int q, .int lev, .int ta, .int ob, .int fch])), (htr, .inr (6, [.ref hg])), (hg, .inl (cJ, 16, .inr (.inl g))), (hpl, .inr (5, [.ref hs])), (hs, .inl (cI, 256, .inl sm)), (hw, .inl (cI, 16, .inl wy)), (hco, .inl (cI, 256, .inl co))] hpz) [(hp, .inr (4, [.ref ht, .ref htr, .ref hpl, .ref hw, .ref hcr, .ref hco, .ref hhs, .int cols, .int rows, .int q, .int lev, .int ta, .int ob, .int fch])), (htr, .inr (6, [.ref hg])), (hg, .inl (cJ, 16, .inr (.inl u.1))), (hpl, .inr (5, [.ref hs])), (hs, .inl (cI, 256, .inl u.2)), (hw, .inl (cI, 16, .inl wy)), (hco, .inl (cI, 256, .inl co))]) (va_A [(hp, .inr (4, [.ref ht, .ref htr, .ref hpl, .ref hw, .ref hcr, .ref hco, .ref hhs, .int cols, .int rows, .int q, .int lev, .int ta, .int ob, .int fch])), (htr, .inr (6, [.ref hg])), (hg, .inl (cJ, 16, .inr (.inl g))), (hpl, .inr (5, [.ref hs])), (hs, .inl (cI, 256, .inl sm)), (hw, .inl (cI, 16, .inl wy)), (hco, .inl (cI, 256, .inl co))] hpz)) 0 0 (va_A [(hp, .inr (4, [.ref ht, .ref htr, .ref hpl, .ref hw, .ref hcr, .ref hco, .ref hhs, .int cols, .int rows, .int q, .int lev, .int ta, .int ob, .int fch])), (htr, .inr (6, [.ref hg])), (hg, .inl (cJ, 16, .inr (.inl g))), (hpl, .inr (5, [.ref hs])), (hs, .inl (cI, 256, .inl sm)), (hw, .inl (cI, 16, .inl wy)), (hco, .inl (cI, 256, .inl co))] hpz) := by
  refine Met.ofW (cc := cX4_rebuild) (maxL := 4) (ret := none) (by decide) rfl ?_
  intro p e s m args below meth c s₁ B hml hv
  obtain ⟨rfl, hsz, hP, hK, hD0, hT⟩ := hv
  have hx := B.exec
  have hb := B.bytes
  have hr := B.returns
  have hts := fun (w : Cond) (h : w ∈ kW) => atoms_spec (ws := kw_X4_rebuild) B.pre w (List.mem_cons_of_mem _ h)
  have hown : s.vm.findClass RX4 = some m.cls := findClass_of_methodNamed B.named
  have hlocks := B.notSynchronized
  subst hsz
  have hD := hD0.self (sz := s.heap.size)
  generalize hAe : va_A [(hp, .inr (4, [.ref ht, .ref htr, .ref hpl, .ref hw, .ref hcr, .ref hco, .ref hhs, .int cols, .int rows, .int q, .int lev, .int ta, .int ob, .int fch])), (htr, .inr (6, [.ref hg])), (hg, .inl (cJ, 16, .inr (.inl g))), (hpl, .inr (5, [.ref hs])), (hs, .inl (cI, 256, .inl sm)), (hw, .inl (cI, 16, .inl wy)), (hco, .inl (cI, 256, .inl co))] s.heap.size = A at hD hT ⊢
  have hA : ∀ q : Nat, s.heap.size ≤ q → A q := fun q h => by rw [← hAe]; exact Or.inr h
  have hS : va_S A s.heap s.heap [] := va_S.rf
  have hP : va_P D vwCl [(hp, .inr (4, [.ref ht, .ref htr, .ref hpl, .ref hw, .ref hcr, .ref hco, .ref hhs, .int cols, .int rows, .int q, .int lev, .int ta, .int ob, .int fch])), (htr, .inr (6, [.ref hg])), (hg, .inl (cJ, 16, .inr (.inl g))), (hpl, .inr (5, [.ref hs])), (hs, .inl (cI, 256, .inl sm)), (hw, .inl (cI, 16, .inl wy)), (hco, .inl (cI, 256, .inl co))] s.heap := hP
  have hl := lv_entry ([.ref hp, .int k, .int cl, .int rw_]) (n := 4) (Nat.le_of_ble_eq_true rfl)
  rw [lg_entry_eq]
  generalize (lg_sl ([.ref hp, .int k, .int cl, .int rw_]) ++ List.replicate (4 - (lg_sl ([.ref hp, .int k, .int cl, .int rw_])).length) Slot.unset).toArray = ls at hl ⊢
  have hl : lv_has ls 4 [(0, .ref hp), (1, .int k), (2, .int cl), (3, .int rw_)] := hl
  refine lv_aload_n hx hb dX4_rebuild_0 rfl (lv_at hl 0 rfl) ?_
  refine va_get (D := D) (ci := 4) (v := .ref htr) (C := RX4) (T := TX4) (N := 14) hx hb hts in_X4 hown hK.1 hP 0 rfl rfl 1 (by decide) (hts _ mk_132) (fun _ h9 => h9) rfl dX4_rebuild_1 ?_
  refine lv_aload_n hx hb dX4_rebuild_4 rfl (lv_at hl 0 rfl) ?_
  refine va_get (D := D) (ci := 4) (v := .ref hco) (C := RX4) (T := TX4) (N := 14) hx hb hts in_X4 hown hK.1 hP 0 rfl rfl 5 (by decide) (hts _ mk_127) (fun _ h9 => h9) rfl dX4_rebuild_5 ?_
  refine lv_iload_n hx hb dX4_rebuild_8 rfl (lv_at hl 1 rfl) ?_
  refine lv_bipush (v := 16) hx hb dX4_rebuild_9 (by decide) ?_
  refine lv_imul hx hb dX4_rebuild_11 ?_
  refine lv_topi (fun v11 e11 => ?_)
  have b11 : kB v11 0 240 := kB_eq e11 (kB_mulc bk kc_16 (by decide))
  refine lv_aload_n hx hb dX4_rebuild_12 rfl (lv_at hl 0 rfl) ?_
  refine va_get (D := D) (ci := 4) (v := .int q) (C := RX4) (T := TX4) (N := 14) hx hb hts in_X4 hown hK.1 hP 0 rfl rfl 9 (by decide) (hts _ mk_133) (fun _ h9 => h9) rfl dX4_rebuild_13 ?_
  have hPc := hP.sub (ws' := [(htr, .inr (6, [.ref hg])), (hg, .inl (cJ, 16, .inr (.inl g))), (hco, .inl (cI, 256, .inl co))]) [1, 2, 6] rfl
  have hDc := hD.sub (ws' := [(htr, .inr (6, [.ref hg])), (hg, .inl (cJ, 16, .inr (.inl g))), (hco, .inl (cI, 256, .inl co))]) [1, 2, 6] (by decide) rfl
  have hFc := va_free (wc := [(htr, .inr (6, [.ref hg])), (hg, .inl (cJ, 16, .inr (.inl g))), (hco, .inl (cI, 256, .inl co))]) hD hS hA [1, 2, 6] rfl
  refine va_callv (va_runV (As := [.ref hco, .int v11, .int q]) (rest := []) ⟨hx, hb, hml, hown, hts⟩ (c_X6_layOut l D cI cJ cZ htr hg hco g co v11 q b11 (s.heap).size) (cwV 3 hts (kg_V mk_134 mk_135 mk_136 mk_65 mk_137) rfl rfl rfl (by decide +kernel) ⟨Nat.le_of_ble_eq_true rfl, Nat.le_of_ble_eq_true rfl⟩) ⟨fun a U g mk q => by obtain ⟨q0, q1, qP, qK, qD, qT⟩ := q; exact ⟨q0, q1, qP, kK.call qK, qD, kT.call qT⟩, va_recv hK.1 hPc (ci := 6) (q0 := 0) rfl rfl, fun U hU hW => ⟨rfl, by rw [hU], by rw [hU]; exact hPc, kK.warm hW hK, hDc.weaken (fun _ _ _ _ => trivial), by rw [hU]; exact kT.at hT hS hFc hW⟩⟩ rfl rfl hl.1 rfl (lv_room (Nat.le_of_ble_eq_true rfl)) dX4_rebuild_16 ⟨Nat.zero_le _, Nat.zero_le _⟩) hS (fun q _ h => hFc q h) hFc (fun u t9 H1 locs ht9 hvm9 hw9 hB9 hz9 hk9 hS => ?_)
  obtain ⟨g2_16, rfl⟩ : ∃ z, z = u := ⟨_, rfl⟩
  obtain ⟨hP1, hD1⟩ := hB9
  rw [ht9] at hP1
  have hP1 : va_P D vwCl [(htr, .inr (6, [.ref hg])), (hg, .inl (cJ, 16, .inr (.inl g2_16))), (hco, .inl (cI, 256, .inl co))] H1 := hP1
  obtain ⟨hP, hD⟩ := va_join (wr := [(hp, .inr (4, [.ref ht, .ref htr, .ref hpl, .ref hw, .ref hcr, .ref hco, .ref hhs, .int cols, .int rows, .int q, .int lev, .int ta, .int ob, .int fch])), (hpl, .inr (5, [.ref hs])), (hs, .inl (cI, 256, .inl sm)), (hw, .inl (cI, 16, .inl wy))]) (w1 := [(htr, .inr (6, [.ref hg])), (hg, .inl (cJ, 16, .inr (.inl g2_16))), (hco, .inl (cI, 256, .inl co))]) hP hD [1, 2, 6] [0, 3, 4, 5] rfl rfl (by decide) (by decide) hk9 hFc hP1 hD1
  have hP := hP.sub (ws' := [(hp, .inr (4, [.ref ht, .ref htr, .ref hpl, .ref hw, .ref hcr, .ref hco, .ref hhs, .int cols, .int rows, .int q, .int lev, .int ta, .int ob, .int fch])), (htr, .inr (6, [.ref hg])), (hg, .inl (cJ, 16, .inr (.inl g2_16))), (hpl, .inr (5, [.ref hs])), (hs, .inl (cI, 256, .inl sm)), (hw, .inl (cI, 16, .inl wy)), (hco, .inl (cI, 256, .inl co))]) [0, 4, 5, 1, 2, 3, 6] rfl
  have hD := hD.sub (ws' := [(hp, .inr (4, [.ref ht, .ref htr, .ref hpl, .ref hw, .ref hcr, .ref hco, .ref hhs, .int cols, .int rows, .int q, .int lev, .int ta, .int ob, .int fch])), (htr, .inr (6, [.ref hg])), (hg, .inl (cJ, 16, .inr (.inl g2_16))), (hpl, .inr (5, [.ref hs])), (hs, .inl (cI, 256, .inl sm)), (hw, .inl (cI, 16, .inl wy)), (hco, .inl (cI, 256, .inl co))]) [0, 4, 5, 1, 2, 3, 6] (by decide) rfl
  generalize H1 = H at hP hS ⊢
  refine lv_aload_n hx hb dX4_rebuild_19 rfl (lv_at hl 0 rfl) ?_
  refine va_get (D := D) (ci := 4) (v := .ref htr) (C := RX4) (T := TX4) (N := 14) hx hb hts in_X4 hown hK.1 hP 0 rfl rfl 1 (by decide) (hts _ mk_132) (fun _ h9 => h9) rfl dX4_rebuild_20 ?_
  have hPc := hP.sub (ws' := [(htr, .inr (6, [.ref hg])), (hg, .inl (cJ, 16, .inr (.inl g2_16)))]) [1, 2] rfl
  have hDc := hD.sub (ws' := [(htr, .inr (6, [.ref hg])), (hg, .inl (cJ, 16, .inr (.inl g2_16)))]) [1, 2] (by decide) rfl
  have hFc := va_free (wc := [(htr, .inr (6, [.ref hg])), (hg, .inl (cJ, 16, .inr (.inl g2_16)))]) hD hS hA [1, 2] rfl
  refine va_callv (va_runV (As := []) (rest := []) ⟨hx, hb, hml, hown, hts⟩ (c_X6_turnBack l D cI cJ cZ htr hg g2_16 (H).size) (cwV 0 hts (kg_V mk_138 mk_139 mk_140 mk_65 mk_141) rfl rfl rfl (by decide +kernel) ⟨Nat.le_of_ble_eq_true rfl, Nat.le_of_ble_eq_true rfl⟩) ⟨fun a U g mk q => by obtain ⟨q0, q1, qP, qK, qD⟩ := q; exact ⟨q0, q1, qP, kK.call qK, qD⟩, va_recv hK.1 hPc (ci := 6) (q0 := 0) rfl rfl, fun U hU hW => ⟨rfl, by rw [hU], by rw [hU]; exact hPc, kK.warm hW hK, hDc.weaken (fun _ _ _ _ => trivial)⟩⟩ rfl rfl hl.1 rfl (lv_room (Nat.le_of_ble_eq_true rfl)) dX4_rebuild_23 ⟨Nat.zero_le _, Nat.zero_le _⟩) hS (fun q _ h => hFc q h) hFc (fun u t9 H1 locs ht9 hvm9 hw9 hB9 hz9 hk9 hS => ?_)
  obtain ⟨g2_23, rfl⟩ : ∃ z, z = u := ⟨_, rfl⟩
  obtain ⟨hP1, hD1⟩ := hB9
  rw [ht9] at hP1
  have hP1 : va_P D vwCl [(htr, .inr (6, [.ref hg])), (hg, .inl (cJ, 16, .inr (.inl g2_23)))] H1 := hP1
  obtain ⟨hP, hD⟩ := va_join (wr := [(hp, .inr (4, [.ref ht, .ref htr, .ref hpl, .ref hw, .ref hcr, .ref hco, .ref hhs, .int cols, .int rows, .int q, .int lev, .int ta, .int ob, .int fch])), (hpl, .inr (5, [.ref hs])), (hs, .inl (cI, 256, .inl sm)), (hw, .inl (cI, 16, .inl wy)), (hco, .inl (cI, 256, .inl co))]) (w1 := [(htr, .inr (6, [.ref hg])), (hg, .inl (cJ, 16, .inr (.inl g2_23)))]) hP hD [1, 2] [0, 3, 4, 5, 6] rfl rfl (by decide) (by decide) hk9 hFc hP1 hD1
  have hP := hP.sub (ws' := [(hp, .inr (4, [.ref ht, .ref htr, .ref hpl, .ref hw, .ref hcr, .ref hco, .ref hhs, .int cols, .int rows, .int q, .int lev, .int ta, .int ob, .int fch])), (htr, .inr (6, [.ref hg])), (hg, .inl (cJ, 16, .inr (.inl g2_23))), (hpl, .inr (5, [.ref hs])), (hs, .inl (cI, 256, .inl sm)), (hw, .inl (cI, 16, .inl wy)), (hco, .inl (cI, 256, .inl co))]) [0, 5, 6, 1, 2, 3, 4] rfl
  have hD := hD.sub (ws' := [(hp, .inr (4, [.ref ht, .ref htr, .ref hpl, .ref hw, .ref hcr, .ref hco, .ref hhs, .int cols, .int rows, .int q, .int lev, .int ta, .int ob, .int fch])), (htr, .inr (6, [.ref hg])), (hg, .inl (cJ, 16, .inr (.inl g2_23))), (hpl, .inr (5, [.ref hs])), (hs, .inl (cI, 256, .inl sm)), (hw, .inl (cI, 16, .inl wy)), (hco, .inl (cI, 256, .inl co))]) [0, 5, 6, 1, 2, 3, 4] (by decide) rfl
  generalize H1 = H at hP hS ⊢
  refine lv_aload_n hx hb dX4_rebuild_26 rfl (lv_at hl 0 rfl) ?_
  refine va_get (D := D) (ci := 4) (v := .ref hpl) (C := RX4) (T := TX4) (N := 14) hx hb hts in_X4 hown hK.1 hP 0 rfl rfl 2 (by decide) (hts _ mk_128) (fun _ h9 => h9) rfl dX4_rebuild_27 ?_
  refine lv_iconst (v := 4) hx hb dX4_rebuild_30 (by decide) ?_
  refine lv_iload_n hx hb dX4_rebuild_31 rfl (lv_at hl 2 rfl) ?_
  refine lv_imul hx hb dX4_rebuild_32 ?_
  refine lv_topi (fun v32 e32 => ?_)
  have b32 : kB v32 0 12 := kB_eq e32 (kB_cmul kc_4 bcl (by decide))
  refine lv_iconst (v := 4) hx hb dX4_rebuild_33 (by decide) ?_
  refine lv_iload_n hx hb dX4_rebuild_34 rfl (lv_at hl 3 rfl) ?_
  refine lv_imul hx hb dX4_rebuild_35 ?_
  refine lv_topi (fun v35 e35 => ?_)
  have b35 : kB v35 0 12 := kB_eq e35 (kB_cmul kc_4 brw (by decide))
  refine lv_aload_n hx hb dX4_rebuild_36 rfl (lv_at hl 0 rfl) ?_
  refine va_get (D := D) (ci := 4) (v := .ref hw) (C := RX4) (T := TX4) (N := 14) hx hb hts in_X4 hown hK.1 hP 0 rfl rfl 3 (by decide) (hts _ mk_125) (fun _ h9 => h9) rfl dX4_rebuild_37 ?_
  refine lv_iload_n hx hb dX4_rebuild_40 rfl (lv_at hl 1 rfl) ?_
  refine va_iald hx hb hK.1 hP 5 0 rfl rfl (kB_in bk (by decide)) dX4_rebuild_41 ?_
  refine lv_topi (fun v41 e41 => ?_)
  refine lv_aload_n hx hb dX4_rebuild_42 rfl (lv_at hl 0 rfl) ?_
  refine va_get (D := D) (ci := 4) (v := .ref htr) (C := RX4) (T := TX4) (N := 14) hx hb hts in_X4 hown hK.1 hP 0 rfl rfl 1 (by decide) (hts _ mk_132) (fun _ h9 => h9) rfl dX4_rebuild_43 ?_
  refine va_getN (D := D) (ci := 6) (v := .ref hg) (C := RX6) (T := TX6) (N := 1) hx hb hts in_X6 hown hK.1 hP 1 rfl rfl 0 (by decide) (va_Nw.use rfl (hK.2 (.fieldLinkNest RX4 114 "KeyFrames$Transform" "grid" "[J" "KeyFrames") (by decide +kernel))) (fun _ h9 => h9) rfl dX4_rebuild_46 ?_
  have hPc := hP.sub (ws' := [(hpl, .inr (5, [.ref hs])), (hs, .inl (cI, 256, .inl sm)), (hg, .inl (cJ, 16, .inr (.inl g2_23)))]) [3, 4, 2] rfl
  have hDc := hD.sub (ws' := [(hpl, .inr (5, [.ref hs])), (hs, .inl (cI, 256, .inl sm)), (hg, .inl (cJ, 16, .inr (.inl g2_23)))]) [3, 4, 2] (by decide) rfl
  have hFc := va_free (wc := [(hpl, .inr (5, [.ref hs])), (hs, .inl (cI, 256, .inl sm)), (hg, .inl (cJ, 16, .inr (.inl g2_23)))]) hD hS hA [3, 4, 2] rfl
  refine va_callv (va_runV (As := [.int v32, .int v35, .int v41, .ref hg]) (rest := []) ⟨hx, hb, hml, hown, hts⟩ (c_X5_rebuild l D cI cJ cZ hpl hs hg sm v32 v35 v41 g2_23 b32 b35 (H).size) (cwV 4 hts (kg_V mk_142 mk_143 mk_144 mk_80 mk_145) rfl rfl rfl (by decide +kernel) ⟨Nat.le_of_ble_eq_true rfl, Nat.le_of_ble_eq_true rfl⟩) ⟨fun a U g mk q => by obtain ⟨q0, q1, qP, qK, qD⟩ := q; exact ⟨q0, q1, qP, kK.call qK, qD⟩, va_recv hK.1 hPc (ci := 5) (q0 := 0) rfl rfl, fun U hU hW => ⟨rfl, by rw [hU], by rw [hU]; exact hPc, kK.warm hW hK, hDc.weaken (fun _ _ _ _ => trivial)⟩⟩ rfl rfl hl.1 rfl (lv_room (Nat.le_of_ble_eq_true rfl)) dX4_rebuild_49 ⟨Nat.zero_le _, Nat.zero_le _⟩) hS (fun q _ h => hFc q h) hFc (fun u t9 H1 locs ht9 hvm9 hw9 hB9 hz9 hk9 hS => ?_)
  obtain ⟨sm2_49, rfl⟩ : ∃ z, z = u := ⟨_, rfl⟩
  obtain ⟨hP1, hD1⟩ := hB9
  rw [ht9] at hP1
  have hP1 : va_P D vwCl [(hpl, .inr (5, [.ref hs])), (hs, .inl (cI, 256, .inl sm2_49)), (hg, .inl (cJ, 16, .inr (.inl g2_23)))] H1 := hP1
  obtain ⟨hP, hD⟩ := va_join (wr := [(hp, .inr (4, [.ref ht, .ref htr, .ref hpl, .ref hw, .ref hcr, .ref hco, .ref hhs, .int cols, .int rows, .int q, .int lev, .int ta, .int ob, .int fch])), (htr, .inr (6, [.ref hg])), (hw, .inl (cI, 16, .inl wy)), (hco, .inl (cI, 256, .inl co))]) (w1 := [(hpl, .inr (5, [.ref hs])), (hs, .inl (cI, 256, .inl sm2_49)), (hg, .inl (cJ, 16, .inr (.inl g2_23)))]) hP hD [3, 4, 2] [0, 1, 5, 6] rfl rfl (by decide) (by decide) hk9 hFc hP1 hD1
  have hP := hP.sub (ws' := [(hp, .inr (4, [.ref ht, .ref htr, .ref hpl, .ref hw, .ref hcr, .ref hco, .ref hhs, .int cols, .int rows, .int q, .int lev, .int ta, .int ob, .int fch])), (htr, .inr (6, [.ref hg])), (hg, .inl (cJ, 16, .inr (.inl g2_23))), (hpl, .inr (5, [.ref hs])), (hs, .inl (cI, 256, .inl sm2_49)), (hw, .inl (cI, 16, .inl wy)), (hco, .inl (cI, 256, .inl co))]) [0, 1, 6, 4, 5, 2, 3] rfl
  have hD := hD.sub (ws' := [(hp, .inr (4, [.ref ht, .ref htr, .ref hpl, .ref hw, .ref hcr, .ref hco, .ref hhs, .int cols, .int rows, .int q, .int lev, .int ta, .int ob, .int fch])), (htr, .inr (6, [.ref hg])), (hg, .inl (cJ, 16, .inr (.inl g2_23))), (hpl, .inr (5, [.ref hs])), (hs, .inl (cI, 256, .inl sm2_49)), (hw, .inl (cI, 16, .inl wy)), (hco, .inl (cI, 256, .inl co))]) [0, 1, 6, 4, 5, 2, 3] (by decide) rfl
  generalize H1 = H at hP hS ⊢
  exact W.vret hx hb hr (fun t9 ht9 hW9 => ⟨⟨(g2_23, sm2_49), rfl, trivial, by rw [ht9]; exact hP, hD⟩, hS.F ht9⟩) hS.2.2 dX4_rebuild_52
abbrev kw_X4_readFrom : List Cond := Cond.code yX4_readFrom cX4_readFrom 5 none :: kW
set_option maxHeartbeats 4000000 in
set_option maxRecDepth 100000 in
theorem lp_X4_readFrom_90 {p : Program} {l : Launch} {e : Env} {s : State} {m : MethodId} {args : Array Value} {below : List Frame} {meth : Method} {c : Code} {A : Nat → Prop} (D : va_G) (cI cJ cZ : ClassId) (hp ht hpr htr hg hpl hs hw hcr hco hhs hrd ho hh : Nat) (va : Int32) (rg : Int32) (sh : Int32) (nx : Int32) (sz : Int32) (f : Nat → Int32) (cols : Int32) (rows : Int32) (q : Int32) (lev : Int32) (ta : Int32) (ob : Int32) (fch : Int32) (pr : Nat → Int32) (g : Nat → Int64) (sm : Nat → Int32) (wy : Nat → Int32) (cr : Nat → Int32) (co : Nat → Int32) (hb_ : Nat → Int32) (brg : kB rg 128 255) (bsh : kB sh 0 7) (bsz : kB sz 0 600) (apr : kA pr 0 255) (hx : p.tables.exec = Jvm.exec) (hb : c.code = cX4_readFrom) (hr : meth.sig.returnType = none) (hml : c.maxLocals = 5) (hown : s.vm.findClass RX4 = some m.cls) (hts : ∀ w ∈ kW, w.before args s = true) (hlocks : meth.locks = false) (hK : kK D cI cJ cZ s) (hA : ∀ q : Nat, s.heap.size ≤ q → A q) (hT : kT A s s.heap) (n_80 : Nat) (ih_80 : ∀ (x2 : Int32) (va2 : Int32) (rg2 : Int32) (sh2 : Int32) (nx2 : Int32) (cols2 : Int32) (rows2 : Int32) (q2 : Int32) (lev2 : Int32) (ta2 : Int32) (ob2 : Int32) (fch2 : Int32) (pr2 : Nat → Int32) (g2 : Nat → Int64) (sm2 : Nat → Int32) (wy2 : Nat → Int32) (cr2 : Nat → Int32) (co2 : Nat → Int32) (hb2_ : Nat → Int32), (4 - x2.toInt).toNat < n_80 → (kB x2 0 4) → (kB rg2 128 255) → (kB sh2 0 7) → (kB cols2 1 4) → (kB rows2 1 4) → (kA pr2 0 255) → (kIf (0 ≤ va.toInt ∧ va.toInt ≤ 65535 ∧ rg.toInt = 255 ∧ sh.toInt = 0) (cols2.toInt = rCol va.toInt ∧ rows2.toInt = rRow va.toInt)) → ∀ (H : Heap) (locs : List Loc) (ls : Array Slot), va_P D vwCl [(hp, .inr (4, [.ref ht, .ref htr, .ref hpl, .ref hw, .ref hcr, .ref hco, .ref hhs, .int cols2, .int rows2, .int q2, .int lev2, .int ta2, .int ob2, .int fch2])), (ht, .inr (2, [.ref hpr])), (hpr, .inl (cI, 264, .inl pr2)), (htr, .inr (6, [.ref hg])), (hg, .inl (cJ, 16, .inr (.inl g2))), (hpl, .inr (5, [.ref hs])), (hs, .inl (cI, 256, .inl sm2)), (hw, .inl (cI, 16, .inl wy2)), (hcr, .inl (cI, 16, .inl cr2)), (hco, .inl (cI, 256, .inl co2)), (hhs, .inl (cZ, 16, .inl hb2_)), (hrd, .inr (0, [.ref ho, .int va2, .int rg2, .int sh2, .int nx2])), (ho, .inr (3, [.ref hh, .int sz])), (hh, .inl (cI, 600, .inl f))] H → va_D A [(hp, .inr (4, [.ref ht, .ref htr, .ref hpl, .ref hw, .ref hcr, .ref hco, .ref hhs, .int cols2, .int rows2, .int q2, .int lev2, .int ta2, .int ob2, .int fch2])), (ht, .inr (2, [.ref hpr])), (hpr, .inl (cI, 264, .inl pr2)), (htr, .inr (6, [.ref hg])), (hg, .inl (cJ, 16, .inr (.inl g2))), (hpl, .inr (5, [.ref hs])), (hs, .inl (cI, 256, .inl sm2)), (hw, .inl (cI, 16, .inl wy2)), (hcr, .inl (cI, 16, .inl cr2)), (hco, .inl (cI, 256, .inl co2)), (hhs, .inl (cZ, 16, .inl hb2_)), (hrd, .inr (0, [.ref ho, .int va2, .int rg2, .int sh2, .int nx2])), (ho, .inr (3, [.ref hh, .int sz])), (hh, .inl (cI, 600, .inl f))] → va_S A s.heap H locs → lv_has ls 5 [(0, .ref hp), (1, .ref hrd), (2, .int x2)] → W p l e (headSpec kw_X4_readFrom ({ frames := 5, cells := 0, slots := 0, locals := 127 })).room s m args below meth c H locs 0 0 (MQ below (va_Qv (fun (u : Int32 × Int32 × Int32 × Int32 × Int32 × Int32 × Int32 × Int32 × Int32 × Int32 × Int32 × (Nat → Int32) × (Nat → Int64) × (Nat → Int32) × (Nat → Int32) × (Nat → Int32) × (Nat → Int32) × (Nat → Int32)) => (kB u.2.1 128 255) ∧ (kB u.2.2.1 0 7) ∧ (kB u.2.2.2.2.1 1 4) ∧ (kB u.2.2.2.2.2.1 1 4) ∧ (kA u.2.2.2.2.2.2.2.2.2.2.2.1 0 255) ∧ (kIf (0 ≤ va.toInt ∧ va.toInt ≤ 65535 ∧ rg.toInt = 255 ∧ sh.toInt = 0) (u.2.2.2.2.1.toInt = rCol va.toInt ∧ u.2.2.2.2.2.1.toInt = rRow va.toInt))) (fun (u : Int32 × Int32 × Int32 × Int32 × Int32 × Int32 × Int32 × Int32 × Int32 × Int32 × Int32 × (Nat → Int32) × (Nat → Int64) × (Nat → Int32) × (Nat → Int32) × (Nat → Int32) × (Nat → Int32) × (Nat → Int32)) (t : State) => va_P D vwCl [(hp, .inr (4, [.ref ht, .ref htr, .ref hpl, .ref hw, .ref hcr, .ref hco, .ref hhs, .int u.2.2.2.2.1, .int u.2.2.2.2.2.1, .int u.2.2.2.2.2.2.1, .int u.2.2.2.2.2.2.2.1, .int u.2.2.2.2.2.2.2.2.1, .int u.2.2.2.2.2.2.2.2.2.1, .int u.2.2.2.2.2.2.2.2.2.2.1])), (ht, .inr (2, [.ref hpr])), (hpr, .inl (cI, 264, .inl u.2.2.2.2.2.2.2.2.2.2.2.1)), (htr, .inr (6, [.ref hg])), (hg, .inl (cJ, 16, .inr (.inl u.2.2.2.2.2.2.2.2.2.2.2.2.1))), (hpl, .inr (5, [.ref hs])), (hs, .inl (cI, 256, .inl u.2.2.2.2.2.2.2.2.2.2.2.2.2.1)), (hw, .inl (cI, 16, .inl u.2.2.2.2.2.2.2.2.2.2.2.2.2.2.1)), (hcr, .inl (cI, 16, .inl u.2.2.2.2.2.2.2.2.2.2.2.2.2.2.2.1)), (hco, .inl (cI, 256, .inl u.2.2.2.2.2.2.2.2.2.2.2.2.2.2.2.2.1)), (hhs, .inl (cZ, 16, .inl u.2.2.2.2.2.2.2.2.2.2.2.2.2.2.2.2.2)), (hrd, .inr (0, [.ref ho, .int u.1, .int u.2.1, .int u.2.2.1, .int u.2.2.2.1])), (ho, .inr (3, [.ref hh, .int sz])), (hh, .inl (cI, 600, .inl f))] t.heap ∧ va_D A [(hp, .inr (4, [.ref ht, .ref htr, .ref hpl, .ref hw, .ref hcr, .ref hco, .ref hhs, .int u.2.2.2.2.1, .int u.2.2.2.2.2.1, .int u.2.2.2.2.2.2.1, .int u.2.2.2.2.2.2.2.1, .int u.2.2.2.2.2.2.2.2.1, .int u.2.2.2.2.2.2.2.2.2.1, .int u.2.2.2.2.2.2.2.2.2.2.1])), (ht, .inr (2, [.ref hpr])), (hpr, .inl (cI, 264, .inl u.2.2.2.2.2.2.2.2.2.2.2.1)), (htr, .inr (6, [.ref hg])), (hg, .inl (cJ, 16, .inr (.inl u.2.2.2.2.2.2.2.2.2.2.2.2.1))), (hpl, .inr (5, [.ref hs])), (hs, .inl (cI, 256, .inl u.2.2.2.2.2.2.2.2.2.2.2.2.2.1)), (hw, .inl (cI, 16, .inl u.2.2.2.2.2.2.2.2.2.2.2.2.2.2.1)), (hcr, .inl (cI, 16, .inl u.2.2.2.2.2.2.2.2.2.2.2.2.2.2.2.1)), (hco, .inl (cI, 256, .inl u.2.2.2.2.2.2.2.2.2.2.2.2.2.2.2.2.1)), (hhs, .inl (cZ, 16, .inl u.2.2.2.2.2.2.2.2.2.2.2.2.2.2.2.2.2)), (hrd, .inr (0, [.ref ho, .int u.1, .int u.2.1, .int u.2.2.1, .int u.2.2.2.1])), (ho, .inr (3, [.ref hh, .int sz])), (hh, .inl (cI, 600, .inl f))]) A) args s 0 0 A) (F0 m 80 ls [])) : ∀ n : Nat, ∀ (x2 : Int32) (x3 : Int32) (va2 : Int32) (rg2 : Int32) (sh2 : Int32) (nx2 : Int32) (cols2 : Int32) (rows2 : Int32) (q2 : Int32) (lev2 : Int32) (ta2 : Int32) (ob2 : Int32) (fch2 : Int32) (pr2 : Nat → Int32) (g2 : Nat → Int64) (sm2 : Nat → Int32) (wy2 : Nat → Int32) (cr2 : Nat → Int32) (co2 : Nat → Int32) (hb2_ : Nat → Int32), (4 - x3.toInt).toNat < n → (kB x2 0 3) → (kB x3 0 4) → (kB rg2 128 255) → (kB sh2 0 7) → (kB cols2 1 4) → (kB rows2 1 4) → (kA pr2 0 255) → ((4 - x2.toInt).toNat < n_80 + 1) → (kIf (0 ≤ va.toInt ∧ va.toInt ≤ 65535 ∧ rg.toInt = 255 ∧ sh.toInt = 0) (cols2.toInt = rCol va.toInt ∧ rows2.toInt = rRow va.toInt)) → ∀ (H : Heap) (locs : List Loc) (ls : Array Slot), va_P D vwCl [(hp, .inr (4, [.ref ht, .ref htr, .ref hpl, .ref hw, .ref hcr, .ref hco, .ref hhs, .int cols2, .int rows2, .int q2, .int lev2, .int ta2, .int ob2, .int fch2])), (ht, .inr (2, [.ref hpr])), (hpr, .inl (cI, 264, .inl pr2)), (htr, .inr (6, [.ref hg])), (hg, .inl (cJ, 16, .inr (.inl g2))), (hpl, .inr (5, [.ref hs])), (hs, .inl (cI, 256, .inl sm2)), (hw, .inl (cI, 16, .inl wy2)), (hcr, .inl (cI, 16, .inl cr2)), (hco, .inl (cI, 256, .inl co2)), (hhs, .inl (cZ, 16, .inl hb2_)), (hrd, .inr (0, [.ref ho, .int va2, .int rg2, .int sh2, .int nx2])), (ho, .inr (3, [.ref hh, .int sz])), (hh, .inl (cI, 600, .inl f))] H → va_D A [(hp, .inr (4, [.ref ht, .ref htr, .ref hpl, .ref hw, .ref hcr, .ref hco, .ref hhs, .int cols2, .int rows2, .int q2, .int lev2, .int ta2, .int ob2, .int fch2])), (ht, .inr (2, [.ref hpr])), (hpr, .inl (cI, 264, .inl pr2)), (htr, .inr (6, [.ref hg])), (hg, .inl (cJ, 16, .inr (.inl g2))), (hpl, .inr (5, [.ref hs])), (hs, .inl (cI, 256, .inl sm2)), (hw, .inl (cI, 16, .inl wy2)), (hcr, .inl (cI, 16, .inl cr2)), (hco, .inl (cI, 256, .inl co2)), (hhs, .inl (cZ, 16, .inl hb2_)), (hrd, .inr (0, [.ref ho, .int va2, .int rg2, .int sh2, .int nx2])), (ho, .inr (3, [.ref hh, .int sz])), (hh, .inl (cI, 600, .inl f))] → va_S A s.heap H locs → lv_has ls 5 [(0, .ref hp), (1, .ref hrd), (2, .int x2), (3, .int x3)] → W p l e (headSpec kw_X4_readFrom ({ frames := 5, cells := 0, slots := 0, locals := 127 })).room s m args below meth c H locs 0 0 (MQ below (va_Qv (fun (u : Int32 × Int32 × Int32 × Int32 × Int32 × Int32 × Int32 × Int32 × Int32 × Int32 × Int32 × (Nat → Int32) × (Nat → Int64) × (Nat → Int32) × (Nat → Int32) × (Nat → Int32) × (Nat → Int32) × (Nat → Int32)) => (kB u.2.1 128 255) ∧ (kB u.2.2.1 0 7) ∧ (kB u.2.2.2.2.1 1 4) ∧ (kB u.2.2.2.2.2.1 1 4) ∧ (kA u.2.2.2.2.2.2.2.2.2.2.2.1 0 255) ∧ (kIf (0 ≤ va.toInt ∧ va.toInt ≤ 65535 ∧ rg.toInt = 255 ∧ sh.toInt = 0) (u.2.2.2.2.1.toInt = rCol va.toInt ∧ u.2.2.2.2.2.1.toInt = rRow va.toInt))) (fun (u : Int32 × Int32 × Int32 × Int32 × Int32 × Int32 × Int32 × Int32 × Int32 × Int32 × Int32 × (Nat → Int32) × (Nat → Int64) × (Nat → Int32) × (Nat → Int32) × (Nat → Int32) × (Nat → Int32) × (Nat → Int32)) (t : State) => va_P D vwCl [(hp, .inr (4, [.ref ht, .ref htr, .ref hpl, .ref hw, .ref hcr, .ref hco, .ref hhs, .int u.2.2.2.2.1, .int u.2.2.2.2.2.1, .int u.2.2.2.2.2.2.1, .int u.2.2.2.2.2.2.2.1, .int u.2.2.2.2.2.2.2.2.1, .int u.2.2.2.2.2.2.2.2.2.1, .int u.2.2.2.2.2.2.2.2.2.2.1])), (ht, .inr (2, [.ref hpr])), (hpr, .inl (cI, 264, .inl u.2.2.2.2.2.2.2.2.2.2.2.1)), (htr, .inr (6, [.ref hg])), (hg, .inl (cJ, 16, .inr (.inl u.2.2.2.2.2.2.2.2.2.2.2.2.1))), (hpl, .inr (5, [.ref hs])), (hs, .inl (cI, 256, .inl u.2.2.2.2.2.2.2.2.2.2.2.2.2.1)), (hw, .inl (cI, 16, .inl u.2.2.2.2.2.2.2.2.2.2.2.2.2.2.1)), (hcr, .inl (cI, 16, .inl u.2.2.2.2.2.2.2.2.2.2.2.2.2.2.2.1)), (hco, .inl (cI, 256, .inl u.2.2.2.2.2.2.2.2.2.2.2.2.2.2.2.2.1)), (hhs, .inl (cZ, 16, .inl u.2.2.2.2.2.2.2.2.2.2.2.2.2.2.2.2.2)), (hrd, .inr (0, [.ref ho, .int u.1, .int u.2.1, .int u.2.2.1, .int u.2.2.2.1])), (ho, .inr (3, [.ref hh, .int sz])), (hh, .inl (cI, 600, .inl f))] t.heap ∧ va_D A [(hp, .inr (4, [.ref ht, .ref htr, .ref hpl, .ref hw, .ref hcr, .ref hco, .ref hhs, .int u.2.2.2.2.1, .int u.2.2.2.2.2.1, .int u.2.2.2.2.2.2.1, .int u.2.2.2.2.2.2.2.1, .int u.2.2.2.2.2.2.2.2.1, .int u.2.2.2.2.2.2.2.2.2.1, .int u.2.2.2.2.2.2.2.2.2.2.1])), (ht, .inr (2, [.ref hpr])), (hpr, .inl (cI, 264, .inl u.2.2.2.2.2.2.2.2.2.2.2.1)), (htr, .inr (6, [.ref hg])), (hg, .inl (cJ, 16, .inr (.inl u.2.2.2.2.2.2.2.2.2.2.2.2.1))), (hpl, .inr (5, [.ref hs])), (hs, .inl (cI, 256, .inl u.2.2.2.2.2.2.2.2.2.2.2.2.2.1)), (hw, .inl (cI, 16, .inl u.2.2.2.2.2.2.2.2.2.2.2.2.2.2.1)), (hcr, .inl (cI, 16, .inl u.2.2.2.2.2.2.2.2.2.2.2.2.2.2.2.1)), (hco, .inl (cI, 256, .inl u.2.2.2.2.2.2.2.2.2.2.2.2.2.2.2.2.1)), (hhs, .inl (cZ, 16, .inl u.2.2.2.2.2.2.2.2.2.2.2.2.2.2.2.2.2)), (hrd, .inr (0, [.ref ho, .int u.1, .int u.2.1, .int u.2.2.1, .int u.2.2.2.1])), (ho, .inr (3, [.ref hh, .int sz])), (hh, .inl (cI, 600, .inl f))]) A) args s 0 0 A) (F0 m 90 ls []) := by
  intro n
  induction n with
  | zero => intro x2 x3 va2 rg2 sh2 nx2 cols2 rows2 q2 lev2 ta2 ob2 fch2 pr2 g2 sm2 wy2 cr2 co2 hb2_ hmeas; exact absurd hmeas (Nat.not_lt_zero _)
  | succ n ih =>
    intro x2 x3 va2 rg2 sh2 nx2 cols2 rows2 q2 lev2 ta2 ob2 fch2 pr2 g2 sm2 wy2 cr2 co2 hb2_ hmeas b2 b3 brg2 bsh2 bc2 br2 apr2 hm80 hcx H locs ls hP hD hS hl
    refine lv_iload_n hx hb dX4_readFrom_90 rfl (lv_at hl 3 rfl) ?_
    refine lv_aload_n hx hb dX4_readFrom_91 rfl (lv_at hl 0 rfl) ?_
    refine va_get (D := D) (ci := 4) (v := .int cols2) (C := RX4) (T := TX4) (N := 14) hx hb hts in_X4 hown hK.1 hP 0 rfl rfl 7 (by decide) (hts _ mk_114) (fun _ h9 => h9) rfl dX4_readFrom_92 ?_
    refine lv_icmp_ge (tgt := 176) hx hb dX4_readFrom_95 (by decide) (fun c95 => ?_) (fun c95 => ?_)
    · have c95y : kB x3 1 4 := kB_le_r bc2 b3 c95 (by decide)
      obtain ⟨v176, e176⟩ : ∃ y : Int32, y = x2 + 1 := ⟨_, rfl⟩
      refine lv_iinc (v := v176) (lv' := [(2, .int v176), (0, .ref hp), (1, .ref hrd), (3, .int x3)]) hx hb dX4_readFrom_176 hl (k := 2) rfl (by rw [e176]; rfl) (by decide) rfl (fun ls hl => ?_)
      have b176 : kB v176 1 4 := kB_eq e176 (kB_add b2 kc_1 (by decide))
      have t176 : v176.toInt = x2.toInt + 1 := by rw [e176]; exact kinc (kB_w b2 (by decide) (by decide))
      refine lv_goto (tgt := 80) hx hb dX4_readFrom_179 (by decide) ?_
      exact ih_80 v176 va2 rg2 sh2 nx2 cols2 rows2 q2 lev2 ta2 ob2 fch2 pr2 g2 sm2 wy2 cr2 co2 hb2_ (by have := b176.1; have := b176.2; have := brg2.1; have := brg2.2; have := bsh2.1; have := bsh2.2; have := bc2.1; have := bc2.2; have := br2.1; have := br2.2; have := b2.1; have := b2.2; omega) (kB_w b176 (by decide) (by decide)) brg2 bsh2 bc2 br2 apr2 hcx _ _ ls hP hD hS (lv_sub hl [1, 2, 0] rfl)
    · have c95n : x3 < cols2 := kN_le c95
      have c95nx : kB x3 0 3 := kB_lt_l b3 bc2 c95n (by decide)
      refine lv_iload_n hx hb dX4_readFrom_98 rfl (lv_at hl 2 rfl) ?_
      refine lv_aload_n hx hb dX4_readFrom_99 rfl (lv_at hl 0 rfl) ?_
      refine va_get (D := D) (ci := 4) (v := .int cols2) (C := RX4) (T := TX4) (N := 14) hx hb hts in_X4 hown hK.1 hP 0 rfl rfl 7 (by decide) (hts _ mk_114) (fun _ h9 => h9) rfl dX4_readFrom_100 ?_
      refine lv_imul hx hb dX4_readFrom_103 ?_
      refine lv_topi (fun v103 e103 => ?_)
      have b103 : kB v103 0 12 := kB_eq e103 (kB_mul b2 bc2 (by decide))
      refine lv_iload_n hx hb dX4_readFrom_104 rfl (lv_at hl 3 rfl) ?_
      refine lv_iadd hx hb dX4_readFrom_105 ?_
      refine lv_topi (fun v105 e105 => ?_)
      have b105 : kB v105 0 15 := kB_eq e105 (kB_add b103 c95nx (by decide))
      refine lv_istore (lv' := [(4, .int v105), (0, .ref hp), (1, .ref hrd), (2, .int x2), (3, .int x3)]) hx hb dX4_readFrom_106 hl (by decide) rfl (fun ls hl => ?_)
      refine lv_aload_n hx hb dX4_readFrom_108 rfl (lv_at hl 1 rfl) ?_
      refine va_get (D := D) (ci := 4) (v := .ref hw) (C := RX4) (T := TX4) (N := 14) hx hb hts in_X4 hown hK.1 hP 0 rfl rfl 3 (by decide) (hts _ mk_125) (fun _ h9 => h9) rfl dX4_readFrom_109 ?_
      refine lv_iload hx hb dX4_readFrom_112 (lv_at hl 0 rfl) ?_
      refine lv_aload_n hx hb dX4_readFrom_114 rfl (lv_at hl 2 rfl) ?_
      have hPc := hP.sub (ws' := [(hrd, .inr (0, [.ref ho, .int va2, .int rg2, .int sh2, .int nx2])), (ho, .inr (3, [.ref hh, .int sz])), (hh, .inl (cI, 600, .inl f))]) [11, 12, 13] rfl
      have hDc := hD.sub (ws' := [(hrd, .inr (0, [.ref ho, .int va2, .int rg2, .int sh2, .int nx2])), (ho, .inr (3, [.ref hh, .int sz])), (hh, .inl (cI, 600, .inl f))]) [11, 12, 13] (by decide) rfl
      have hFc := va_free (wc := [(hrd, .inr (0, [.ref ho, .int va2, .int rg2, .int sh2, .int nx2])), (ho, .inr (3, [.ref hh, .int sz])), (hh, .inl (cI, 600, .inl f))]) hD hS hA [11, 12, 13] rfl
      refine va_calli (va_runS (As := [.ref hrd]) (rest := [.int v105, .ref hw]) ⟨hx, hb, hml, hown, hts⟩ (c_X4_readWay l D cI cJ cZ hrd ho hh va2 rg2 sh2 nx2 sz f brg2 bsh2 bsz (H).size) (cwS 1 hts (kg_S mk_154 mk_155 mk_119 mk_156) rfl rfl rfl (by decide +kernel) ⟨Nat.le_of_ble_eq_true rfl, Nat.le_of_ble_eq_true rfl⟩) ⟨fun a U g mk q => by obtain ⟨q0, q1, qP, qK, qD⟩ := q; exact ⟨q0, q1, qP, kK.call qK, qD⟩, fun U hU hW => ⟨rfl, by rw [hU], by rw [hU]; exact hPc, kK.warm hW hK, hDc.weaken (fun _ _ _ _ => trivial)⟩⟩ rfl rfl hl.1 rfl (lv_room (Nat.le_of_ble_eq_true rfl)) dX4_readFrom_115 ⟨Nat.zero_le _, Nat.zero_le _⟩) hS (fun q _ h => hFc q h) hFc (fun r115 u t9 H1 locs ht9 hvm9 hw9 hB9 hz9 hk9 hS => ?_)
      obtain ⟨va2_115, rg2_115, sh2_115, nx2_115⟩ := u
      obtain ⟨hP1, hD1⟩ := hB9
      rw [ht9] at hP1
      have hP1 : va_P D vwCl [(hrd, .inr (0, [.ref ho, .int va2_115, .int rg2_115, .int sh2_115, .int nx2_115])), (ho, .inr (3, [.ref hh, .int sz])), (hh, .inl (cI, 600, .inl f))] H1 := hP1
      obtain ⟨hP, hD⟩ := va_join (wr := [(hp, .inr (4, [.ref ht, .ref htr, .ref hpl, .ref hw, .ref hcr, .ref hco, .ref hhs, .int cols2, .int rows2, .int q2, .int lev2, .int ta2, .int ob2, .int fch2])), (ht, .inr (2, [.ref hpr])), (hpr, .inl (cI, 264, .inl pr2)), (htr, .inr (6, [.ref hg])), (hg, .inl (cJ, 16, .inr (.inl g2))), (hpl, .inr (5, [.ref hs])), (hs, .inl (cI, 256, .inl sm2)), (hw, .inl (cI, 16, .inl wy2)), (hcr, .inl (cI, 16, .inl cr2)), (hco, .inl (cI, 256, .inl co2)), (hhs, .inl (cZ, 16, .inl hb2_))]) (w1 := [(hrd, .inr (0, [.ref ho, .int va2_115, .int rg2_115, .int sh2_115, .int nx2_115])), (ho, .inr (3, [.ref hh, .int sz])), (hh, .inl (cI, 600, .inl f))]) hP hD [11, 12, 13] [0, 1, 2, 3, 4, 5, 6, 7, 8, 9, 10] rfl rfl (by decide) (by decide) hk9 hFc hP1 hD1
      have hP := hP.sub (ws' := [(hp, .inr (4, [.ref ht, .ref htr, .ref hpl, .ref hw, .ref hcr, .ref hco, .ref hhs, .int cols2, .int rows2, .int q2, .int lev2, .int ta2, .int ob2, .int fch2])), (ht, .inr (2, [.ref hpr])), (hpr, .inl (cI, 264, .inl pr2)), (htr, .inr (6, [.ref hg])), (hg, .inl (cJ, 16, .inr (.inl g2))), (hpl, .inr (5, [.ref hs])), (hs, .inl (cI, 256, .inl sm2)), (hw, .inl (cI, 16, .inl wy2)), (hcr, .inl (cI, 16, .inl cr2)), (hco, .inl (cI, 256, .inl co2)), (hhs, .inl (cZ, 16, .inl hb2_)), (hrd, .inr (0, [.ref ho, .int va2_115, .int rg2_115, .int sh2_115, .int nx2_115])), (ho, .inr (3, [.ref hh, .int sz])), (hh, .inl (cI, 600, .inl f))]) [0, 1, 2, 3, 4, 5, 6, 7, 8, 9, 10, 11, 12, 13] rfl
      have hD := hD.sub (ws' := [(hp, .inr (4, [.ref ht, .ref htr, .ref hpl, .ref hw, .ref hcr, .ref hco, .ref hhs, .int cols2, .int rows2, .int q2, .int lev2, .int ta2, .int ob2, .int fch2])), (ht, .inr (2, [.ref hpr])), (hpr, .inl (cI, 264, .inl pr2)), (htr, .inr (6, [.ref hg])), (hg, .inl (cJ, 16, .inr (.inl g2))), (hpl, .inr (5, [.ref hs])), (hs, .inl (cI, 256, .inl sm2)), (hw, .inl (cI, 16, .inl wy2)), (hcr, .inl (cI, 16, .inl cr2)), (hco, .inl (cI, 256, .inl co2)), (hhs, .inl (cZ, 16, .inl hb2_)), (hrd, .inr (0, [.ref ho, .int va2_115, .int rg2_115, .int sh2_115, .int nx2_115])), (ho, .inr (3, [.ref hh, .int sz])), (hh, .inl (cI, 600, .inl f))]) [0, 1, 2, 3, 4, 5, 6, 7, 8, 9, 10, 11, 12, 13] (by decide) rfl
      generalize H1 = H at hP hS ⊢
      obtain ⟨q115_0, q115_1, q115_2⟩ := hw9
      have q115_0 : kB rg2_115 128 255 := q115_0
      have q115_1 : kB sh2_115 0 7 := q115_1
      have q115_2 : kB r115 0 3 := q115_2
      refine va_iast hx hb hK.1 hP hD hS 7 0 rfl rfl (kB_in b105 (by decide)) dX4_readFrom_118 (fun H locs hP hD hS => ?_)
      have hP : va_P D vwCl [(hp, .inr (4, [.ref ht, .ref htr, .ref hpl, .ref hw, .ref hcr, .ref hco, .ref hhs, .int cols2, .int rows2, .int q2, .int lev2, .int ta2, .int ob2, .int fch2])), (ht, .inr (2, [.ref hpr])), (hpr, .inl (cI, 264, .inl pr2)), (htr, .inr (6, [.ref hg])), (hg, .inl (cJ, 16, .inr (.inl g2))), (hpl, .inr (5, [.ref hs])), (hs, .inl (cI, 256, .inl sm2)), (hw, .inl (cI, 16, .inl (upd wy2 v105.toNatClampNeg r115))), (hcr, .inl (cI, 16, .inl cr2)), (hco, .inl (cI, 256, .inl co2)), (hhs, .inl (cZ, 16, .inl hb2_)), (hrd, .inr (0, [.ref ho, .int va2_115, .int rg2_115, .int sh2_115, .int nx2_115])), (ho, .inr (3, [.ref hh, .int sz])), (hh, .inl (cI, 600, .inl f))] H := hP
      have hD : va_D A [(hp, .inr (4, [.ref ht, .ref htr, .ref hpl, .ref hw, .ref hcr, .ref hco, .ref hhs, .int cols2, .int rows2, .int q2, .int lev2, .int ta2, .int ob2, .int fch2])), (ht, .inr (2, [.ref hpr])), (hpr, .inl (cI, 264, .inl pr2)), (htr, .inr (6, [.ref hg])), (hg, .inl (cJ, 16, .inr (.inl g2))), (hpl, .inr (5, [.ref hs])), (hs, .inl (cI, 256, .inl sm2)), (hw, .inl (cI, 16, .inl (upd wy2 v105.toNatClampNeg r115))), (hcr, .inl (cI, 16, .inl cr2)), (hco, .inl (cI, 256, .inl co2)), (hhs, .inl (cZ, 16, .inl hb2_)), (hrd, .inr (0, [.ref ho, .int va2_115, .int rg2_115, .int sh2_115, .int nx2_115])), (ho, .inr (3, [.ref hh, .int sz])), (hh, .inl (cI, 600, .inl f))] := hD
      generalize hf118 : upd wy2 v105.toNatClampNeg r115 = f118 at hP hD
      refine lv_aload_n hx hb dX4_readFrom_119 rfl (lv_at hl 1 rfl) ?_
      refine va_get (D := D) (ci := 4) (v := .ref hcr) (C := RX4) (T := TX4) (N := 14) hx hb hts in_X4 hown hK.1 hP 0 rfl rfl 4 (by decide) (hts _ mk_126) (fun _ h9 => h9) rfl dX4_readFrom_120 ?_
      refine lv_iload hx hb dX4_readFrom_123 (lv_at hl 0 rfl) ?_
      refine lv_aload_n hx hb dX4_readFrom_125 rfl (lv_at hl 1 rfl) ?_
      refine va_get (D := D) (ci := 4) (v := .ref ht) (C := RX4) (T := TX4) (N := 14) hx hb hts in_X4 hown hK.1 hP 0 rfl rfl 0 (by decide) (hts _ mk_148) (fun _ h9 => h9) rfl dX4_readFrom_126 ?_
      refine lv_aload_n hx hb dX4_readFrom_129 rfl (lv_at hl 2 rfl) ?_
      refine lv_aload_n hx hb dX4_readFrom_130 rfl (lv_at hl 1 rfl) ?_
      refine lv_iload_n hx hb dX4_readFrom_131 rfl (lv_at hl 4 rfl) ?_
      refine lv_iload_n hx hb dX4_readFrom_132 rfl (lv_at hl 3 rfl) ?_
      have hPc := hP.sub (ws' := [(hp, .inr (4, [.ref ht, .ref htr, .ref hpl, .ref hw, .ref hcr, .ref hco, .ref hhs, .int cols2, .int rows2, .int q2, .int lev2, .int ta2, .int ob2, .int fch2])), (hhs, .inl (cZ, 16, .inl hb2_))]) [0, 10] rfl
      have hDc := hD.sub (ws' := [(hp, .inr (4, [.ref ht, .ref htr, .ref hpl, .ref hw, .ref hcr, .ref hco, .ref hhs, .int cols2, .int rows2, .int q2, .int lev2, .int ta2, .int ob2, .int fch2])), (hhs, .inl (cZ, 16, .inl hb2_))]) [0, 10] (by decide) rfl
      have hFc := va_free (wc := [(hp, .inr (4, [.ref ht, .ref htr, .ref hpl, .ref hw, .ref hcr, .ref hco, .ref hhs, .int cols2, .int rows2, .int q2, .int lev2, .int ta2, .int ob2, .int fch2])), (hhs, .inl (cZ, 16, .inl hb2_))]) hD hS hA [0, 10] rfl
      refine va_calli (va_runV (As := [.int x3, .int x2]) (rest := [.ref hrd, .ref ht, .int v105, .ref hcr]) ⟨hx, hb, hml, hown, hts⟩ (c_X4_contextOf l D cI cJ cZ hp ht htr hpl hw hcr hco hhs cols2 rows2 q2 lev2 ta2 ob2 fch2 hb2_ x3 x2 bc2 c95nx b2 (H).size) (cwV 2 hts (kg_V mk_157 mk_158 mk_159 mk_119 mk_160) rfl rfl rfl (by decide +kernel) ⟨Nat.le_of_ble_eq_true rfl, Nat.le_of_ble_eq_true rfl⟩) ⟨fun a U g mk q => by obtain ⟨q0, q1, qP, qK, qD⟩ := q; exact ⟨q0, q1, qP, kK.call qK, qD⟩, va_recv hK.1 hPc (ci := 4) (q0 := 0) rfl rfl, fun U hU hW => ⟨rfl, by rw [hU], by rw [hU]; exact hPc, kK.warm hW hK, hDc.weaken (fun _ _ _ _ => trivial)⟩⟩ rfl rfl hl.1 rfl (lv_room (Nat.le_of_ble_eq_true rfl)) dX4_readFrom_133 ⟨Nat.zero_le _, Nat.zero_le _⟩) hS (fun q _ h => hFc q h) hFc (fun r133 u t9 H1 locs ht9 hvm9 hw9 hB9 hz9 hk9 hS => ?_)
      obtain ⟨hP1, hD1⟩ := hB9
      rw [ht9] at hP1
      have hP1 : va_P D vwCl [(hp, .inr (4, [.ref ht, .ref htr, .ref hpl, .ref hw, .ref hcr, .ref hco, .ref hhs, .int cols2, .int rows2, .int q2, .int lev2, .int ta2, .int ob2, .int fch2])), (hhs, .inl (cZ, 16, .inl hb2_))] H1 := hP1
      obtain ⟨hP, hD⟩ := va_join (wr := [(ht, .inr (2, [.ref hpr])), (hpr, .inl (cI, 264, .inl pr2)), (htr, .inr (6, [.ref hg])), (hg, .inl (cJ, 16, .inr (.inl g2))), (hpl, .inr (5, [.ref hs])), (hs, .inl (cI, 256, .inl sm2)), (hw, .inl (cI, 16, .inl f118)), (hcr, .inl (cI, 16, .inl cr2)), (hco, .inl (cI, 256, .inl co2)), (hrd, .inr (0, [.ref ho, .int va2_115, .int rg2_115, .int sh2_115, .int nx2_115])), (ho, .inr (3, [.ref hh, .int sz])), (hh, .inl (cI, 600, .inl f))]) (w1 := [(hp, .inr (4, [.ref ht, .ref htr, .ref hpl, .ref hw, .ref hcr, .ref hco, .ref hhs, .int cols2, .int rows2, .int q2, .int lev2, .int ta2, .int ob2, .int fch2])), (hhs, .inl (cZ, 16, .inl hb2_))]) hP hD [0, 10] [1, 2, 3, 4, 5, 6, 7, 8, 9, 11, 12, 13] rfl rfl (by decide) (by decide) hk9 hFc hP1 hD1
      have hP := hP.sub (ws' := [(hp, .inr (4, [.ref ht, .ref htr, .ref hpl, .ref hw, .ref hcr, .ref hco, .ref hhs, .int cols2, .int rows2, .int q2, .int lev2, .int ta2, .int ob2, .int fch2])), (ht, .inr (2, [.ref hpr])), (hpr, .inl (cI, 264, .inl pr2)), (htr, .inr (6, [.ref hg])), (hg, .inl (cJ, 16, .inr (.inl g2))), (hpl, .inr (5, [.ref hs])), (hs, .inl (cI, 256, .inl sm2)), (hw, .inl (cI, 16, .inl f118)), (hcr, .inl (cI, 16, .inl cr2)), (hco, .inl (cI, 256, .inl co2)), (hhs, .inl (cZ, 16, .inl hb2_)), (hrd, .inr (0, [.ref ho, .int va2_115, .int rg2_115, .int sh2_115, .int nx2_115])), (ho, .inr (3, [.ref hh, .int sz])), (hh, .inl (cI, 600, .inl f))]) [12, 0, 1, 2, 3, 4, 5, 6, 7, 8, 13, 9, 10, 11] rfl
      have hD := hD.sub (ws' := [(hp, .inr (4, [.ref ht, .ref htr, .ref hpl, .ref hw, .ref hcr, .ref hco, .ref hhs, .int cols2, .int rows2, .int q2, .int lev2, .int ta2, .int ob2, .int fch2])), (ht, .inr (2, [.ref hpr])), (hpr, .inl (cI, 264, .inl pr2)), (htr, .inr (6, [.ref hg])), (hg, .inl (cJ, 16, .inr (.inl g2))), (hpl, .inr (5, [.ref hs])), (hs, .inl (cI, 256, .inl sm2)), (hw, .inl (cI, 16, .inl f118)), (hcr, .inl (cI, 16, .inl cr2)), (hco, .inl (cI, 256, .inl co2)), (hhs, .inl (cZ, 16, .inl hb2_)), (hrd, .inr (0, [.ref ho, .int va2_115, .int rg2_115, .int sh2_115, .int nx2_115])), (ho, .inr (3, [.ref hh, .int sz])), (hh, .inl (cI, 600, .inl f))]) [12, 0, 1, 2, 3, 4, 5, 6, 7, 8, 13, 9, 10, 11] (by decide) rfl
      generalize H1 = H at hP hS ⊢
      have q133_0 : kB r133 0 2 := hw9
      refine lv_aload_n hx hb dX4_readFrom_136 rfl (lv_at hl 1 rfl) ?_
      refine va_get (D := D) (ci := 4) (v := .ref hco) (C := RX4) (T := TX4) (N := 14) hx hb hts in_X4 hown hK.1 hP 0 rfl rfl 5 (by decide) (hts _ mk_127) (fun _ h9 => h9) rfl dX4_readFrom_137 ?_
      refine lv_iload hx hb dX4_readFrom_140 (lv_at hl 0 rfl) ?_
      refine lv_bipush (v := 16) hx hb dX4_readFrom_142 (by decide) ?_
      refine lv_imul hx hb dX4_readFrom_144 ?_
      refine lv_topi (fun v144 e144 => ?_)
      have b144 : kB v144 0 240 := kB_eq e144 (kB_mulc b105 kc_16 (by decide))
      have hPc := hP.sub (ws' := [(ht, .inr (2, [.ref hpr])), (hpr, .inl (cI, 264, .inl pr2)), (hrd, .inr (0, [.ref ho, .int va2_115, .int rg2_115, .int sh2_115, .int nx2_115])), (ho, .inr (3, [.ref hh, .int sz])), (hh, .inl (cI, 600, .inl f)), (hco, .inl (cI, 256, .inl co2))]) [1, 2, 11, 12, 13, 9] rfl
      have hDc := hD.sub (ws' := [(ht, .inr (2, [.ref hpr])), (hpr, .inl (cI, 264, .inl pr2)), (hrd, .inr (0, [.ref ho, .int va2_115, .int rg2_115, .int sh2_115, .int nx2_115])), (ho, .inr (3, [.ref hh, .int sz])), (hh, .inl (cI, 600, .inl f)), (hco, .inl (cI, 256, .inl co2))]) [1, 2, 11, 12, 13, 9] (by decide) rfl
      have hFc := va_free (wc := [(ht, .inr (2, [.ref hpr])), (hpr, .inl (cI, 264, .inl pr2)), (hrd, .inr (0, [.ref ho, .int va2_115, .int rg2_115, .int sh2_115, .int nx2_115])), (ho, .inr (3, [.ref hh, .int sz])), (hh, .inl (cI, 600, .inl f)), (hco, .inl (cI, 256, .inl co2))]) hD hS hA [1, 2, 11, 12, 13, 9] rfl
      refine va_calli (va_runV (As := [.ref hrd, .int r133, .ref hco, .int v144]) (rest := [.int v105, .ref hcr]) ⟨hx, hb, hml, hown, hts⟩ (c_X2_readBlock l D cI cJ cZ ht hpr hrd ho hh hco va2_115 rg2_115 sh2_115 nx2_115 sz f pr2 r133 v144 co2 q115_0 q115_1 bsz apr2 q133_0 b144 (H).size) (cwV 4 hts (kg_V mk_161 mk_162 mk_163 mk_49 mk_164) rfl rfl rfl (by decide +kernel) ⟨Nat.le_of_ble_eq_true rfl, Nat.le_of_ble_eq_true rfl⟩) ⟨fun a U g mk q => by obtain ⟨q0, q1, qP, qK, qD, qT⟩ := q; exact ⟨q0, q1, qP, kK.call qK, qD, kT.call qT⟩, va_recv hK.1 hPc (ci := 2) (q0 := 0) rfl rfl, fun U hU hW => ⟨rfl, by rw [hU], by rw [hU]; exact hPc, kK.warm hW hK, hDc.weaken (fun _ _ _ _ => trivial), by rw [hU]; exact kT.at hT hS hFc hW⟩⟩ rfl rfl hl.1 rfl (lv_room (Nat.le_of_ble_eq_true rfl)) dX4_readFrom_145 ⟨Nat.zero_le _, Nat.zero_le _⟩) hS (fun q _ h => hFc q h) hFc (fun r145 u t9 H1 locs ht9 hvm9 hw9 hB9 hz9 hk9 hS => ?_)
      obtain ⟨va2_145, rg2_145, sh2_145, nx2_145, co2_145⟩ := u
      obtain ⟨hP1, hD1⟩ := hB9
      rw [ht9] at hP1
      have hP1 : va_P D vwCl [(ht, .inr (2, [.ref hpr])), (hpr, .inl (cI, 264, .inl pr2)), (hrd, .inr (0, [.ref ho, .int va2_145, .int rg2_145, .int sh2_145, .int nx2_145])), (ho, .inr (3, [.ref hh, .int sz])), (hh, .inl (cI, 600, .inl f)), (hco, .inl (cI, 256, .inl co2_145))] H1 := hP1
      obtain ⟨hP, hD⟩ := va_join (wr := [(hp, .inr (4, [.ref ht, .ref htr, .ref hpl, .ref hw, .ref hcr, .ref hco, .ref hhs, .int cols2, .int rows2, .int q2, .int lev2, .int ta2, .int ob2, .int fch2])), (htr, .inr (6, [.ref hg])), (hg, .inl (cJ, 16, .inr (.inl g2))), (hpl, .inr (5, [.ref hs])), (hs, .inl (cI, 256, .inl sm2)), (hw, .inl (cI, 16, .inl f118)), (hcr, .inl (cI, 16, .inl cr2)), (hhs, .inl (cZ, 16, .inl hb2_))]) (w1 := [(ht, .inr (2, [.ref hpr])), (hpr, .inl (cI, 264, .inl pr2)), (hrd, .inr (0, [.ref ho, .int va2_145, .int rg2_145, .int sh2_145, .int nx2_145])), (ho, .inr (3, [.ref hh, .int sz])), (hh, .inl (cI, 600, .inl f)), (hco, .inl (cI, 256, .inl co2_145))]) hP hD [1, 2, 11, 12, 13, 9] [0, 3, 4, 5, 6, 7, 8, 10] rfl rfl (by decide) (by decide) hk9 hFc hP1 hD1
      have hP := hP.sub (ws' := [(hp, .inr (4, [.ref ht, .ref htr, .ref hpl, .ref hw, .ref hcr, .ref hco, .ref hhs, .int cols2, .int rows2, .int q2, .int lev2, .int ta2, .int ob2, .int fch2])), (ht, .inr (2, [.ref hpr])), (hpr, .inl (cI, 264, .inl pr2)), (htr, .inr (6, [.ref hg])), (hg, .inl (cJ, 16, .inr (.inl g2))), (hpl, .inr (5, [.ref hs])), (hs, .inl (cI, 256, .inl sm2)), (hw, .inl (cI, 16, .inl f118)), (hcr, .inl (cI, 16, .inl cr2)), (hco, .inl (cI, 256, .inl co2_145)), (hhs, .inl (cZ, 16, .inl hb2_)), (hrd, .inr (0, [.ref ho, .int va2_145, .int rg2_145, .int sh2_145, .int nx2_145])), (ho, .inr (3, [.ref hh, .int sz])), (hh, .inl (cI, 600, .inl f))]) [0, 8, 9, 1, 2, 3, 4, 5, 6, 13, 7, 10, 11, 12] rfl
      have hD := hD.sub (ws' := [(hp, .inr (4, [.ref ht, .ref htr, .ref hpl, .ref hw, .ref hcr, .ref hco, .ref hhs, .int cols2, .int rows2, .int q2, .int lev2, .int ta2, .int ob2, .int fch2])), (ht, .inr (2, [.ref hpr])), (hpr, .inl (cI, 264, .inl pr2)), (htr, .inr (6, [.ref hg])), (hg, .inl (cJ, 16, .inr (.inl g2))), (hpl, .inr (5, [.ref hs])), (hs, .inl (cI, 256, .inl sm2)), (hw, .inl (cI, 16, .inl f118)), (hcr, .inl (cI, 16, .inl cr2)), (hco, .inl (cI, 256, .inl co2_145)), (hhs, .inl (cZ, 16, .inl hb2_)), (hrd, .inr (0, [.ref ho, .int va2_145, .int rg2_145, .int sh2_145, .int nx2_145])), (ho, .inr (3, [.ref hh, .int sz])), (hh, .inl (cI, 600, .inl f))]) [0, 8, 9, 1, 2, 3, 4, 5, 6, 13, 7, 10, 11, 12] (by decide) rfl
      generalize H1 = H at hP hS ⊢
      obtain ⟨q145_0, q145_1, q145_2⟩ := hw9
      have q145_0 : kB rg2_145 128 255 := q145_0
      have q145_1 : kB sh2_145 0 7 := q145_1
      have q145_2 : kB r145 0 16 := q145_2
      refine va_iast hx hb hK.1 hP hD hS 8 0 rfl rfl (kB_in b105 (by decide)) dX4_readFrom_148 (fun H locs hP hD hS => ?_)
      have hP : va_P D vwCl [(hp, .inr (4, [.ref ht, .ref htr, .ref hpl, .ref hw, .ref hcr, .ref hco, .ref hhs, .int cols2, .int rows2, .int q2, .int lev2, .int ta2, .int ob2, .int fch2])), (ht, .inr (2, [.ref hpr])), (hpr, .inl (cI, 264, .inl pr2)), (htr, .inr (6, [.ref hg])), (hg, .inl (cJ, 16, .inr (.inl g2))), (hpl, .inr (5, [.ref hs])), (hs, .inl (cI, 256, .inl sm2)), (hw, .inl (cI, 16, .inl f118)), (hcr, .inl (cI, 16, .inl (upd cr2 v105.toNatClampNeg r145))), (hco, .inl (cI, 256, .inl co2_145)), (hhs, .inl (cZ, 16, .inl hb2_)), (hrd, .inr (0, [.ref ho, .int va2_145, .int rg2_145, .int sh2_145, .int nx2_145])), (ho, .inr (3, [.ref hh, .int sz])), (hh, .inl (cI, 600, .inl f))] H := hP
      have hD : va_D A [(hp, .inr (4, [.ref ht, .ref htr, .ref hpl, .ref hw, .ref hcr, .ref hco, .ref hhs, .int cols2, .int rows2, .int q2, .int lev2, .int ta2, .int ob2, .int fch2])), (ht, .inr (2, [.ref hpr])), (hpr, .inl (cI, 264, .inl pr2)), (htr, .inr (6, [.ref hg])), (hg, .inl (cJ, 16, .inr (.inl g2))), (hpl, .inr (5, [.ref hs])), (hs, .inl (cI, 256, .inl sm2)), (hw, .inl (cI, 16, .inl f118)), (hcr, .inl (cI, 16, .inl (upd cr2 v105.toNatClampNeg r145))), (hco, .inl (cI, 256, .inl co2_145)), (hhs, .inl (cZ, 16, .inl hb2_)), (hrd, .inr (0, [.ref ho, .int va2_145, .int rg2_145, .int sh2_145, .int nx2_145])), (ho, .inr (3, [.ref hh, .int sz])), (hh, .inl (cI, 600, .inl f))] := hD
      generalize hf148 : upd cr2 v105.toNatClampNeg r145 = f148 at hP hD
      refine lv_aload_n hx hb dX4_readFrom_149 rfl (lv_at hl 1 rfl) ?_
      refine va_get (D := D) (ci := 4) (v := .ref hhs) (C := RX4) (T := TX4) (N := 14) hx hb hts in_X4 hown hK.1 hP 0 rfl rfl 6 (by decide) (hts _ mk_131) (fun _ h9 => h9) rfl dX4_readFrom_150 ?_
      refine lv_iload hx hb dX4_readFrom_153 (lv_at hl 0 rfl) ?_
      refine lv_aload_n hx hb dX4_readFrom_155 rfl (lv_at hl 1 rfl) ?_
      refine lv_iload hx hb dX4_readFrom_156 (lv_at hl 0 rfl) ?_
      have hPc := hP.sub (ws' := [(hp, .inr (4, [.ref ht, .ref htr, .ref hpl, .ref hw, .ref hcr, .ref hco, .ref hhs, .int cols2, .int rows2, .int q2, .int lev2, .int ta2, .int ob2, .int fch2])), (hco, .inl (cI, 256, .inl co2_145))]) [0, 9] rfl
      have hDc := hD.sub (ws' := [(hp, .inr (4, [.ref ht, .ref htr, .ref hpl, .ref hw, .ref hcr, .ref hco, .ref hhs, .int cols2, .int rows2, .int q2, .int lev2, .int ta2, .int ob2, .int fch2])), (hco, .inl (cI, 256, .inl co2_145))]) [0, 9] (by decide) rfl
      have hFc := va_free (wc := [(hp, .inr (4, [.ref ht, .ref htr, .ref hpl, .ref hw, .ref hcr, .ref hco, .ref hhs, .int cols2, .int rows2, .int q2, .int lev2, .int ta2, .int ob2, .int fch2])), (hco, .inl (cI, 256, .inl co2_145))]) hD hS hA [0, 9] rfl
      refine va_calli (va_runV (As := [.int v105]) (rest := [.int v105, .ref hhs]) ⟨hx, hb, hml, hown, hts⟩ (c_X4_hasSomeNotZero l D cI cJ cZ hp ht htr hpl hw hcr hco hhs cols2 rows2 q2 lev2 ta2 ob2 fch2 co2_145 v105 b105 (H).size) (cwV 1 hts (kg_V mk_165 mk_166 mk_167 mk_119 mk_168) rfl rfl rfl (by decide +kernel) ⟨Nat.le_of_ble_eq_true rfl, Nat.le_of_ble_eq_true rfl⟩) ⟨fun a U g mk q => by obtain ⟨q0, q1, qP, qK, qD⟩ := q; exact ⟨q0, q1, qP, kK.call qK, qD⟩, va_recv hK.1 hPc (ci := 4) (q0 := 0) rfl rfl, fun U hU hW => ⟨rfl, by rw [hU], by rw [hU]; exact hPc, kK.warm hW hK, hDc.weaken (fun _ _ _ _ => trivial)⟩⟩ rfl rfl hl.1 rfl (lv_room (Nat.le_of_ble_eq_true rfl)) dX4_readFrom_158 ⟨Nat.zero_le _, Nat.zero_le _⟩) hS (fun q _ h => hFc q h) hFc (fun r158 u t9 H1 locs ht9 hvm9 hw9 hB9 hz9 hk9 hS => ?_)
      obtain ⟨hP1, hD1⟩ := hB9
      rw [ht9] at hP1
      have hP1 : va_P D vwCl [(hp, .inr (4, [.ref ht, .ref htr, .ref hpl, .ref hw, .ref hcr, .ref hco, .ref hhs, .int cols2, .int rows2, .int q2, .int lev2, .int ta2, .int ob2, .int fch2])), (hco, .inl (cI, 256, .inl co2_145))] H1 := hP1
      obtain ⟨hP, hD⟩ := va_join (wr := [(ht, .inr (2, [.ref hpr])), (hpr, .inl (cI, 264, .inl pr2)), (htr, .inr (6, [.ref hg])), (hg, .inl (cJ, 16, .inr (.inl g2))), (hpl, .inr (5, [.ref hs])), (hs, .inl (cI, 256, .inl sm2)), (hw, .inl (cI, 16, .inl f118)), (hcr, .inl (cI, 16, .inl f148)), (hhs, .inl (cZ, 16, .inl hb2_)), (hrd, .inr (0, [.ref ho, .int va2_145, .int rg2_145, .int sh2_145, .int nx2_145])), (ho, .inr (3, [.ref hh, .int sz])), (hh, .inl (cI, 600, .inl f))]) (w1 := [(hp, .inr (4, [.ref ht, .ref htr, .ref hpl, .ref hw, .ref hcr, .ref hco, .ref hhs, .int cols2, .int rows2, .int q2, .int lev2, .int ta2, .int ob2, .int fch2])), (hco, .inl (cI, 256, .inl co2_145))]) hP hD [0, 9] [1, 2, 3, 4, 5, 6, 7, 8, 10, 11, 12, 13] rfl rfl (by decide) (by decide) hk9 hFc hP1 hD1
      have hP := hP.sub (ws' := [(hp, .inr (4, [.ref ht, .ref htr, .ref hpl, .ref hw, .ref hcr, .ref hco, .ref hhs, .int cols2, .int rows2, .int q2, .int lev2, .int ta2, .int ob2, .int fch2])), (ht, .inr (2, [.ref hpr])), (hpr, .inl (cI, 264, .inl pr2)), (htr, .inr (6, [.ref hg])), (hg, .inl (cJ, 16, .inr (.inl g2))), (hpl, .inr (5, [.ref hs])), (hs, .inl (cI, 256, .inl sm2)), (hw, .inl (cI, 16, .inl f118)), (hcr, .inl (cI, 16, .inl f148)), (hco, .inl (cI, 256, .inl co2_145)), (hhs, .inl (cZ, 16, .inl hb2_)), (hrd, .inr (0, [.ref ho, .int va2_145, .int rg2_145, .int sh2_145, .int nx2_145])), (ho, .inr (3, [.ref hh, .int sz])), (hh, .inl (cI, 600, .inl f))]) [12, 0, 1, 2, 3, 4, 5, 6, 7, 13, 8, 9, 10, 11] rfl
      have hD := hD.sub (ws' := [(hp, .inr (4, [.ref ht, .ref htr, .ref hpl, .ref hw, .ref hcr, .ref hco, .ref hhs, .int cols2, .int rows2, .int q2, .int lev2, .int ta2, .int ob2, .int fch2])), (ht, .inr (2, [.ref hpr])), (hpr, .inl (cI, 264, .inl pr2)), (htr, .inr (6, [.ref hg])), (hg, .inl (cJ, 16, .inr (.inl g2))), (hpl, .inr (5, [.ref hs])), (hs, .inl (cI, 256, .inl sm2)), (hw, .inl (cI, 16, .inl f118)), (hcr, .inl (cI, 16, .inl f148)), (hco, .inl (cI, 256, .inl co2_145)), (hhs, .inl (cZ, 16, .inl hb2_)), (hrd, .inr (0, [.ref ho, .int va2_145, .int rg2_145, .int sh2_145, .int nx2_145])), (ho, .inr (3, [.ref hh, .int sz])), (hh, .inl (cI, 600, .inl f))]) [12, 0, 1, 2, 3, 4, 5, 6, 7, 13, 8, 9, 10, 11] (by decide) rfl
      generalize H1 = H at hP hS ⊢
      have q158_0 : kB r158 0 1 := hw9
      refine va_zast hx hb hK.1 hP hD hS 10 2 rfl rfl (kB_in b105 (by decide)) dX4_readFrom_161 (fun H locs hP hD hS => ?_)
      have hP : va_P D vwCl [(hp, .inr (4, [.ref ht, .ref htr, .ref hpl, .ref hw, .ref hcr, .ref hco, .ref hhs, .int cols2, .int rows2, .int q2, .int lev2, .int ta2, .int ob2, .int fch2])), (ht, .inr (2, [.ref hpr])), (hpr, .inl (cI, 264, .inl pr2)), (htr, .inr (6, [.ref hg])), (hg, .inl (cJ, 16, .inr (.inl g2))), (hpl, .inr (5, [.ref hs])), (hs, .inl (cI, 256, .inl sm2)), (hw, .inl (cI, 16, .inl f118)), (hcr, .inl (cI, 16, .inl f148)), (hco, .inl (cI, 256, .inl co2_145)), (hhs, .inl (cZ, 16, .inl (upd hb2_ v105.toNatClampNeg (vp_nar .boolean r158)))), (hrd, .inr (0, [.ref ho, .int va2_145, .int rg2_145, .int sh2_145, .int nx2_145])), (ho, .inr (3, [.ref hh, .int sz])), (hh, .inl (cI, 600, .inl f))] H := hP
      have hD : va_D A [(hp, .inr (4, [.ref ht, .ref htr, .ref hpl, .ref hw, .ref hcr, .ref hco, .ref hhs, .int cols2, .int rows2, .int q2, .int lev2, .int ta2, .int ob2, .int fch2])), (ht, .inr (2, [.ref hpr])), (hpr, .inl (cI, 264, .inl pr2)), (htr, .inr (6, [.ref hg])), (hg, .inl (cJ, 16, .inr (.inl g2))), (hpl, .inr (5, [.ref hs])), (hs, .inl (cI, 256, .inl sm2)), (hw, .inl (cI, 16, .inl f118)), (hcr, .inl (cI, 16, .inl f148)), (hco, .inl (cI, 256, .inl co2_145)), (hhs, .inl (cZ, 16, .inl (upd hb2_ v105.toNatClampNeg (vp_nar .boolean r158)))), (hrd, .inr (0, [.ref ho, .int va2_145, .int rg2_145, .int sh2_145, .int nx2_145])), (ho, .inr (3, [.ref hh, .int sz])), (hh, .inl (cI, 600, .inl f))] := hD
      generalize hf161 : upd hb2_ v105.toNatClampNeg (vp_nar .boolean r158) = f161 at hP hD
      refine lv_aload_n hx hb dX4_readFrom_162 rfl (lv_at hl 1 rfl) ?_
      refine lv_iload hx hb dX4_readFrom_163 (lv_at hl 0 rfl) ?_
      refine lv_iload_n hx hb dX4_readFrom_165 rfl (lv_at hl 4 rfl) ?_
      refine lv_iload_n hx hb dX4_readFrom_166 rfl (lv_at hl 3 rfl) ?_
      have hPc := hP.sub (ws' := [(hp, .inr (4, [.ref ht, .ref htr, .ref hpl, .ref hw, .ref hcr, .ref hco, .ref hhs, .int cols2, .int rows2, .int q2, .int lev2, .int ta2, .int ob2, .int fch2])), (htr, .inr (6, [.ref hg])), (hg, .inl (cJ, 16, .inr (.inl g2))), (hpl, .inr (5, [.ref hs])), (hs, .inl (cI, 256, .inl sm2)), (hw, .inl (cI, 16, .inl f118)), (hco, .inl (cI, 256, .inl co2_145))]) [0, 3, 4, 5, 6, 7, 9] rfl
      have hDc := hD.sub (ws' := [(hp, .inr (4, [.ref ht, .ref htr, .ref hpl, .ref hw, .ref hcr, .ref hco, .ref hhs, .int cols2, .int rows2, .int q2, .int lev2, .int ta2, .int ob2, .int fch2])), (htr, .inr (6, [.ref hg])), (hg, .inl (cJ, 16, .inr (.inl g2))), (hpl, .inr (5, [.ref hs])), (hs, .inl (cI, 256, .inl sm2)), (hw, .inl (cI, 16, .inl f118)), (hco, .inl (cI, 256, .inl co2_145))]) [0, 3, 4, 5, 6, 7, 9] (by decide) rfl
      have hFc := va_free (wc := [(hp, .inr (4, [.ref ht, .ref htr, .ref hpl, .ref hw, .ref hcr, .ref hco, .ref hhs, .int cols2, .int rows2, .int q2, .int lev2, .int ta2, .int ob2, .int fch2])), (htr, .inr (6, [.ref hg])), (hg, .inl (cJ, 16, .inr (.inl g2))), (hpl, .inr (5, [.ref hs])), (hs, .inl (cI, 256, .inl sm2)), (hw, .inl (cI, 16, .inl f118)), (hco, .inl (cI, 256, .inl co2_145))]) hD hS hA [0, 3, 4, 5, 6, 7, 9] rfl
      refine va_callv (va_runV (As := [.int v105, .int x3, .int x2]) (rest := []) ⟨hx, hb, hml, hown, hts⟩ (c_X4_rebuild l D cI cJ cZ hp ht htr hg hpl hs hw hcr hco hhs cols2 rows2 q2 lev2 ta2 ob2 fch2 g2 sm2 f118 co2_145 v105 x3 x2 b105 c95nx b2 (H).size) (cwV 3 hts (kg_V mk_169 mk_170 mk_171 mk_119 mk_172) rfl rfl rfl (by decide +kernel) ⟨Nat.le_of_ble_eq_true rfl, Nat.le_of_ble_eq_true rfl⟩) ⟨fun a U g mk q => by obtain ⟨q0, q1, qP, qK, qD, qT⟩ := q; exact ⟨q0, q1, qP, kK.call qK, qD, kT.call qT⟩, va_recv hK.1 hPc (ci := 4) (q0 := 0) rfl rfl, fun U hU hW => ⟨rfl, by rw [hU], by rw [hU]; exact hPc, kK.warm hW hK, hDc.weaken (fun _ _ _ _ => trivial), by rw [hU]; exact kT.at hT hS hFc hW⟩⟩ rfl rfl hl.1 rfl (lv_room (Nat.le_of_ble_eq_true rfl)) dX4_readFrom_167 ⟨Nat.zero_le _, Nat.zero_le _⟩) hS (fun q _ h => hFc q h) hFc (fun u t9 H1 locs ht9 hvm9 hw9 hB9 hz9 hk9 hS => ?_)
      obtain ⟨g2_167, sm2_167⟩ := u
      obtain ⟨hP1, hD1⟩ := hB9
      rw [ht9] at hP1
      have hP1 : va_P D vwCl [(hp, .inr (4, [.ref ht, .ref htr, .ref hpl, .ref hw, .ref hcr, .ref hco, .ref hhs, .int cols2, .int rows2, .int q2, .int lev2, .int ta2, .int ob2, .int fch2])), (htr, .inr (6, [.ref hg])), (hg, .inl (cJ, 16, .inr (.inl g2_167))), (hpl, .inr (5, [.ref hs])), (hs, .inl (cI, 256, .inl sm2_167)), (hw, .inl (cI, 16, .inl f118)), (hco, .inl (cI, 256, .inl co2_145))] H1 := hP1
      obtain ⟨hP, hD⟩ := va_join (wr := [(ht, .inr (2, [.ref hpr])), (hpr, .inl (cI, 264, .inl pr2)), (hcr, .inl (cI, 16, .inl f148)), (hhs, .inl (cZ, 16, .inl f161)), (hrd, .inr (0, [.ref ho, .int va2_145, .int rg2_145, .int sh2_145, .int nx2_145])), (ho, .inr (3, [.ref hh, .int sz])), (hh, .inl (cI, 600, .inl f))]) (w1 := [(hp, .inr (4, [.ref ht, .ref htr, .ref hpl, .ref hw, .ref hcr, .ref hco, .ref hhs, .int cols2, .int rows2, .int q2, .int lev2, .int ta2, .int ob2, .int fch2])), (htr, .inr (6, [.ref hg])), (hg, .inl (cJ, 16, .inr (.inl g2_167))), (hpl, .inr (5, [.ref hs])), (hs, .inl (cI, 256, .inl sm2_167)), (hw, .inl (cI, 16, .inl f118)), (hco, .inl (cI, 256, .inl co2_145))]) hP hD [0, 3, 4, 5, 6, 7, 9] [1, 2, 8, 10, 11, 12, 13] rfl rfl (by decide) (by decide) hk9 hFc hP1 hD1
      have hP := hP.sub (ws' := [(hp, .inr (4, [.ref ht, .ref htr, .ref hpl, .ref hw, .ref hcr, .ref hco, .ref hhs, .int cols2, .int rows2, .int q2, .int lev2, .int ta2, .int ob2, .int fch2])), (ht, .inr (2, [.ref hpr])), (hpr, .inl (cI, 264, .inl pr2)), (htr, .inr (6, [.ref hg])), (hg, .inl (cJ, 16, .inr (.inl g2_167))), (hpl, .inr (5, [.ref hs])), (hs, .inl (cI, 256, .inl sm2_167)), (hw, .inl (cI, 16, .inl f118)), (hcr, .inl (cI, 16, .inl f148)), (hco, .inl (cI, 256, .inl co2_145)), (hhs, .inl (cZ, 16, .inl f161)), (hrd, .inr (0, [.ref ho, .int va2_145, .int rg2_145, .int sh2_145, .int nx2_145])), (ho, .inr (3, [.ref hh, .int sz])), (hh, .inl (cI, 600, .inl f))]) [7, 0, 1, 8, 9, 10, 11, 12, 2, 13, 3, 4, 5, 6] rfl
      have hD := hD.sub (ws' := [(hp, .inr (4, [.ref ht, .ref htr, .ref hpl, .ref hw, .ref hcr, .ref hco, .ref hhs, .int cols2, .int rows2, .int q2, .int lev2, .int ta2, .int ob2, .int fch2])), (ht, .inr (2, [.ref hpr])), (hpr, .inl (cI, 264, .inl pr2)), (htr, .inr (6, [.ref hg])), (hg, .inl (cJ, 16, .inr (.inl g2_167))), (hpl, .inr (5, [.ref hs])), (hs, .inl (cI, 256, .inl sm2_167)), (hw, .inl (cI, 16, .inl f118)), (hcr, .inl (cI, 16, .inl f148)), (hco, .inl (cI, 256, .inl co2_145)), (hhs, .inl (cZ, 16, .inl f161)), (hrd, .inr (0, [.ref ho, .int va2_145, .int rg2_145, .int sh2_145, .int nx2_145])), (ho, .inr (3, [.ref hh, .int sz])), (hh, .inl (cI, 600, .inl f))]) [7, 0, 1, 8, 9, 10, 11, 12, 2, 13, 3, 4, 5, 6] (by decide) rfl
      generalize H1 = H at hP hS ⊢
      obtain ⟨v170, e170⟩ : ∃ y : Int32, y = x3 + 1 := ⟨_, rfl⟩
      refine lv_iinc (v := v170) (lv' := [(3, .int v170), (4, .int v105), (0, .ref hp), (1, .ref hrd), (2, .int x2)]) hx hb dX4_readFrom_170 hl (k := 4) rfl (by rw [e170]; rfl) (by decide) rfl (fun ls hl => ?_)
      have b170 : kB v170 1 4 := kB_eq e170 (kB_add c95nx kc_1 (by decide))
      have t170 : v170.toInt = x3.toInt + 1 := by rw [e170]; exact kinc (kB_w c95nx (by decide) (by decide))
      refine lv_goto (tgt := 90) hx hb dX4_readFrom_173 (by decide) ?_
      exact ih x2 v170 va2_145 rg2_145 sh2_145 nx2_145 cols2 rows2 q2 lev2 ta2 ob2 fch2 pr2 g2_167 sm2_167 f118 f148 co2_145 f161 (by have := b2.1; have := b2.2; have := b170.1; have := b170.2; have := q145_0.1; have := q145_0.2; have := q145_1.1; have := q145_1.2; have := bc2.1; have := bc2.2; have := br2.1; have := br2.2; have := c95nx.1; have := c95nx.2; have := brg2.1; have := brg2.2; have := bsh2.1; have := bsh2.2; omega) b2 (kB_w b170 (by decide) (by decide)) q145_0 q145_1 bc2 br2 apr2 hm80 hcx _ _ ls hP hD hS (lv_sub hl [2, 3, 4, 0] rfl)
set_option maxHeartbeats 4000000 in
set_option maxRecDepth 100000 in
theorem lp_X4_readFrom_80 {p : Program} {l : Launch} {e : Env} {s : State} {m : MethodId} {args : Array Value} {below : List Frame} {meth : Method} {c : Code} {A : Nat → Prop} (D : va_G) (cI cJ cZ : ClassId) (hp ht hpr htr hg hpl hs hw hcr hco hhs hrd ho hh : Nat) (va : Int32) (rg : Int32) (sh : Int32) (nx : Int32) (sz : Int32) (f : Nat → Int32) (cols : Int32) (rows : Int32) (q : Int32) (lev : Int32) (ta : Int32) (ob : Int32) (fch : Int32) (pr : Nat → Int32) (g : Nat → Int64) (sm : Nat → Int32) (wy : Nat → Int32) (cr : Nat → Int32) (co : Nat → Int32) (hb_ : Nat → Int32) (brg : kB rg 128 255) (bsh : kB sh 0 7) (bsz : kB sz 0 600) (apr : kA pr 0 255) (hx : p.tables.exec = Jvm.exec) (hb : c.code = cX4_readFrom) (hr : meth.sig.returnType = none) (hml : c.maxLocals = 5) (hown : s.vm.findClass RX4 = some m.cls) (hts : ∀ w ∈ kW, w.before args s = true) (hlocks : meth.locks = false) (hK : kK D cI cJ cZ s) (hA : ∀ q : Nat, s.heap.size ≤ q → A q) (hT : kT A s s.heap) : ∀ n : Nat, ∀ (x2 : Int32) (va2 : Int32) (rg2 : Int32) (sh2 : Int32) (nx2 : Int32) (cols2 : Int32) (rows2 : Int32) (q2 : Int32) (lev2 : Int32) (ta2 : Int32) (ob2 : Int32) (fch2 : Int32) (pr2 : Nat → Int32) (g2 : Nat → Int64) (sm2 : Nat → Int32) (wy2 : Nat → Int32) (cr2 : Nat → Int32) (co2 : Nat → Int32) (hb2_ : Nat → Int32), (4 - x2.toInt).toNat < n → (kB x2 0 4) → (kB rg2 128 255) → (kB sh2 0 7) → (kB cols2 1 4) → (kB rows2 1 4) → (kA pr2 0 255) → (kIf (0 ≤ va.toInt ∧ va.toInt ≤ 65535 ∧ rg.toInt = 255 ∧ sh.toInt = 0) (cols2.toInt = rCol va.toInt ∧ rows2.toInt = rRow va.toInt)) → ∀ (H : Heap) (locs : List Loc) (ls : Array Slot), va_P D vwCl [(hp, .inr (4, [.ref ht, .ref htr, .ref hpl, .ref hw, .ref hcr, .ref hco, .ref hhs, .int cols2, .int rows2, .int q2, .int lev2, .int ta2, .int ob2, .int fch2])), (ht, .inr (2, [.ref hpr])), (hpr, .inl (cI, 264, .inl pr2)), (htr, .inr (6, [.ref hg])), (hg, .inl (cJ, 16, .inr (.inl g2))), (hpl, .inr (5, [.ref hs])), (hs, .inl (cI, 256, .inl sm2)), (hw, .inl (cI, 16, .inl wy2)), (hcr, .inl (cI, 16, .inl cr2)), (hco, .inl (cI, 256, .inl co2)), (hhs, .inl (cZ, 16, .inl hb2_)), (hrd, .inr (0, [.ref ho, .int va2, .int rg2, .int sh2, .int nx2])), (ho, .inr (3, [.ref hh, .int sz])), (hh, .inl (cI, 600, .inl f))] H → va_D A [(hp, .inr (4, [.ref ht, .ref htr, .ref hpl, .ref hw, .ref hcr, .ref hco, .ref hhs, .int cols2, .int rows2, .int q2, .int lev2, .int ta2, .int ob2, .int fch2])), (ht, .inr (2, [.ref hpr])), (hpr, .inl (cI, 264, .inl pr2)), (htr, .inr (6, [.ref hg])), (hg, .inl (cJ, 16, .inr (.inl g2))), (hpl, .inr (5, [.ref hs])), (hs, .inl (cI, 256, .inl sm2)), (hw, .inl (cI, 16, .inl wy2)), (hcr, .inl (cI, 16, .inl cr2)), (hco, .inl (cI, 256, .inl co2)), (hhs, .inl (cZ, 16, .inl hb2_)), (hrd, .inr (0, [.ref ho, .int va2, .int rg2, .int sh2, .int nx2])), (ho, .inr (3, [.ref hh, .int sz])), (hh, .inl (cI, 600, .inl f))] → va_S A s.heap H locs → lv_has ls 5 [(0, .ref hp), (1, .ref hrd), (2, .int x2)] → W p l e (headSpec kw_X4_readFrom ({ frames := 5, cells := 0, slots := 0, locals := 127 })).room s m args below meth c H locs 0 0 (MQ below (va_Qv (fun (u : Int32 × Int32 × Int32 × Int32 × Int32 × Int32 × Int32 × Int32 × Int32 × Int32 × Int32 × (Nat → Int32) × (Nat → Int64) × (Nat → Int32) × (Nat → Int32) × (Nat → Int32) × (Nat → Int32) × (Nat → Int32)) => (kB u.2.1 128 255) ∧ (kB u.2.2.1 0 7) ∧ (kB u.2.2.2.2.1 1 4) ∧ (kB u.2.2.2.2.2.1 1 4) ∧ (kA u.2.2.2.2.2.2.2.2.2.2.2.1 0 255) ∧ (kIf (0 ≤ va.toInt ∧ va.toInt ≤ 65535 ∧ rg.toInt = 255 ∧ sh.toInt = 0) (u.2.2.2.2.1.toInt = rCol va.toInt ∧ u.2.2.2.2.2.1.toInt = rRow va.toInt))) (fun (u : Int32 × Int32 × Int32 × Int32 × Int32 × Int32 × Int32 × Int32 × Int32 × Int32 × Int32 × (Nat → Int32) × (Nat → Int64) × (Nat → Int32) × (Nat → Int32) × (Nat → Int32) × (Nat → Int32) × (Nat → Int32)) (t : State) => va_P D vwCl [(hp, .inr (4, [.ref ht, .ref htr, .ref hpl, .ref hw, .ref hcr, .ref hco, .ref hhs, .int u.2.2.2.2.1, .int u.2.2.2.2.2.1, .int u.2.2.2.2.2.2.1, .int u.2.2.2.2.2.2.2.1, .int u.2.2.2.2.2.2.2.2.1, .int u.2.2.2.2.2.2.2.2.2.1, .int u.2.2.2.2.2.2.2.2.2.2.1])), (ht, .inr (2, [.ref hpr])), (hpr, .inl (cI, 264, .inl u.2.2.2.2.2.2.2.2.2.2.2.1)), (htr, .inr (6, [.ref hg])), (hg, .inl (cJ, 16, .inr (.inl u.2.2.2.2.2.2.2.2.2.2.2.2.1))), (hpl, .inr (5, [.ref hs])), (hs, .inl (cI, 256, .inl u.2.2.2.2.2.2.2.2.2.2.2.2.2.1)), (hw, .inl (cI, 16, .inl u.2.2.2.2.2.2.2.2.2.2.2.2.2.2.1)), (hcr, .inl (cI, 16, .inl u.2.2.2.2.2.2.2.2.2.2.2.2.2.2.2.1)), (hco, .inl (cI, 256, .inl u.2.2.2.2.2.2.2.2.2.2.2.2.2.2.2.2.1)), (hhs, .inl (cZ, 16, .inl u.2.2.2.2.2.2.2.2.2.2.2.2.2.2.2.2.2)), (hrd, .inr (0, [.ref ho, .int u.1, .int u.2.1, .int u.2.2.1, .int u.2.2.2.1])), (ho, .inr (3, [.ref hh, .int sz])), (hh, .inl (cI, 600, .inl f))] t.heap ∧ va_D A [(hp, .inr (4, [.ref ht, .ref htr, .ref hpl, .ref hw, .ref hcr, .ref hco, .ref hhs, .int u.2.2.2.2.1, .int u.2.2.2.2.2.1, .int u.2.2.2.2.2.2.1, .int u.2.2.2.2.2.2.2.1, .int u.2.2.2.2.2.2.2.2.1, .int u.2.2.2.2.2.2.2.2.2.1, .int u.2.2.2.2.2.2.2.2.2.2.1])), (ht, .inr (2, [.ref hpr])), (hpr, .inl (cI, 264, .inl u.2.2.2.2.2.2.2.2.2.2.2.1)), (htr, .inr (6, [.ref hg])), (hg, .inl (cJ, 16, .inr (.inl u.2.2.2.2.2.2.2.2.2.2.2.2.1))), (hpl, .inr (5, [.ref hs])), (hs, .inl (cI, 256, .inl u.2.2.2.2.2.2.2.2.2.2.2.2.2.1)), (hw, .inl (cI, 16, .inl u.2.2.2.2.2.2.2.2.2.2.2.2.2.2.1)), (hcr, .inl (cI, 16, .inl u.2.2.2.2.2.2.2.2.2.2.2.2.2.2.2.1)), (hco, .inl (cI, 256, .inl u.2.2.2.2.2.2.2.2.2.2.2.2.2.2.2.2.1)), (hhs, .inl (cZ, 16, .inl u.2.2.2.2.2.2.2.2.2.2.2.2.2.2.2.2.2)), (hrd, .inr (0, [.ref ho, .int u.1, .int u.2.1, .int u.2.2.1, .int u.2.2.2.1])), (ho, .inr (3, [.ref hh, .int sz])), (hh, .inl (cI, 600, .inl f))]) A) args s 0 0 A) (F0 m 80 ls []) := by
  intro n
  induction n with
  | zero => intro x2 va2 rg2 sh2 nx2 cols2 rows2 q2 lev2 ta2 ob2 fch2 pr2 g2 sm2 wy2 cr2 co2 hb2_ hmeas; exact absurd hmeas (Nat.not_lt_zero _)
  | succ n ih =>
    intro x2 va2 rg2 sh2 nx2 cols2 rows2 q2 lev2 ta2 ob2 fch2 pr2 g2 sm2 wy2 cr2 co2 hb2_ hmeas b2 brg2 bsh2 bc2 br2 apr2 hcx H locs ls hP hD hS hl
    refine lv_iload_n hx hb dX4_readFrom_80 rfl (lv_at hl 2 rfl) ?_
    refine lv_aload_n hx hb dX4_readFrom_81 rfl (lv_at hl 0 rfl) ?_
    refine va_get (D := D) (ci := 4) (v := .int rows2) (C := RX4) (T := TX4) (N := 14) hx hb hts in_X4 hown hK.1 hP 0 rfl rfl 8 (by decide) (hts _ mk_115) (fun _ h9 => h9) rfl dX4_readFrom_82 ?_
    refine lv_icmp_ge (tgt := 182) hx hb dX4_readFrom_85 (by decide) (fun c85 => ?_) (fun c85 => ?_)
    · have c85y : kB x2 1 4 := kB_le_r br2 b2 c85 (by decide)
      refine lv_aload_n hx hb dX4_readFrom_182 rfl (lv_at hl 0 rfl) ?_
      refine lv_aload_n hx hb dX4_readFrom_183 rfl (lv_at hl 1 rfl) ?_
      have hPc := hP.sub (ws' := [(hrd, .inr (0, [.ref ho, .int va2, .int rg2, .int sh2, .int nx2])), (ho, .inr (3, [.ref hh, .int sz])), (hh, .inl (cI, 600, .inl f))]) [11, 12, 13] rfl
      have hDc := hD.sub (ws' := [(hrd, .inr (0, [.ref ho, .int va2, .int rg2, .int sh2, .int nx2])), (ho, .inr (3, [.ref hh, .int sz])), (hh, .inl (cI, 600, .inl f))]) [11, 12, 13] (by decide) rfl
      have hFc := va_free (wc := [(hrd, .inr (0, [.ref ho, .int va2, .int rg2, .int sh2, .int nx2])), (ho, .inr (3, [.ref hh, .int sz])), (hh, .inl (cI, 600, .inl f))]) hD hS hA [11, 12, 13] rfl
      refine va_calli (va_runV (As := []) (rest := [.ref hp]) ⟨hx, hb, hml, hown, hts⟩ (c_X0_octetsBeyond l D cI cJ cZ hrd ho hh va2 rg2 sh2 nx2 sz f (H).size) (cwV 0 hts (kg_V mk_173 mk_174 mk_175 mk_23 mk_176) rfl rfl rfl (by decide +kernel) ⟨Nat.le_of_ble_eq_true rfl, Nat.le_of_ble_eq_true rfl⟩) ⟨fun a U g mk q => by obtain ⟨q0, q1, qP, qK, qD⟩ := q; exact ⟨q0, q1, qP, kK.call qK, qD⟩, va_recv hK.1 hPc (ci := 0) (q0 := 0) rfl rfl, fun U hU hW => ⟨rfl, by rw [hU], by rw [hU]; exact hPc, kK.warm hW hK, hDc.weaken (fun _ _ _ _ => trivial)⟩⟩ rfl rfl hl.1 rfl (lv_room (Nat.le_of_ble_eq_true rfl)) dX4_readFrom_184 ⟨Nat.zero_le _, Nat.zero_le _⟩) hS (fun q _ h => hFc q h) hFc (fun r184 u t9 H1 locs ht9 hvm9 hw9 hB9 hz9 hk9 hS => ?_)
      obtain ⟨hP1, hD1⟩ := hB9
      rw [ht9] at hP1
      have hP1 : va_P D vwCl [(hrd, .inr (0, [.ref ho, .int va2, .int rg2, .int sh2, .int nx2])), (ho, .inr (3, [.ref hh, .int sz])), (hh, .inl (cI, 600, .inl f))] H1 := hP1
      obtain ⟨hP, hD⟩ := va_join (wr := [(hp, .inr (4, [.ref ht, .ref htr, .ref hpl, .ref hw, .ref hcr, .ref hco, .ref hhs, .int cols2, .int rows2, .int q2, .int lev2, .int ta2, .int ob2, .int fch2])), (ht, .inr (2, [.ref hpr])), (hpr, .inl (cI, 264, .inl pr2)), (htr, .inr (6, [.ref hg])), (hg, .inl (cJ, 16, .inr (.inl g2))), (hpl, .inr (5, [.ref hs])), (hs, .inl (cI, 256, .inl sm2)), (hw, .inl (cI, 16, .inl wy2)), (hcr, .inl (cI, 16, .inl cr2)), (hco, .inl (cI, 256, .inl co2)), (hhs, .inl (cZ, 16, .inl hb2_))]) (w1 := [(hrd, .inr (0, [.ref ho, .int va2, .int rg2, .int sh2, .int nx2])), (ho, .inr (3, [.ref hh, .int sz])), (hh, .inl (cI, 600, .inl f))]) hP hD [11, 12, 13] [0, 1, 2, 3, 4, 5, 6, 7, 8, 9, 10] rfl rfl (by decide) (by decide) hk9 hFc hP1 hD1
      have hP := hP.sub (ws' := [(hp, .inr (4, [.ref ht, .ref htr, .ref hpl, .ref hw, .ref hcr, .ref hco, .ref hhs, .int cols2, .int rows2, .int q2, .int lev2, .int ta2, .int ob2, .int fch2])), (ht, .inr (2, [.ref hpr])), (hpr, .inl (cI, 264, .inl pr2)), (htr, .inr (6, [.ref hg])), (hg, .inl (cJ, 16, .inr (.inl g2))), (hpl, .inr (5, [.ref hs])), (hs, .inl (cI, 256, .inl sm2)), (hw, .inl (cI, 16, .inl wy2)), (hcr, .inl (cI, 16, .inl cr2)), (hco, .inl (cI, 256, .inl co2)), (hhs, .inl (cZ, 16, .inl hb2_)), (hrd, .inr (0, [.ref ho, .int va2, .int rg2, .int sh2, .int nx2])), (ho, .inr (3, [.ref hh, .int sz])), (hh, .inl (cI, 600, .inl f))]) [0, 1, 2, 3, 4, 5, 6, 7, 8, 9, 10, 11, 12, 13] rfl
      have hD := hD.sub (ws' := [(hp, .inr (4, [.ref ht, .ref htr, .ref hpl, .ref hw, .ref hcr, .ref hco, .ref hhs, .int cols2, .int rows2, .int q2, .int lev2, .int ta2, .int ob2, .int fch2])), (ht, .inr (2, [.ref hpr])), (hpr, .inl (cI, 264, .inl pr2)), (htr, .inr (6, [.ref hg])), (hg, .inl (cJ, 16, .inr (.inl g2))), (hpl, .inr (5, [.ref hs])), (hs, .inl (cI, 256, .inl sm2)), (hw, .inl (cI, 16, .inl wy2)), (hcr, .inl (cI, 16, .inl cr2)), (hco, .inl (cI, 256, .inl co2)), (hhs, .inl (cZ, 16, .inl hb2_)), (hrd, .inr (0, [.ref ho, .int va2, .int rg2, .int sh2, .int nx2])), (ho, .inr (3, [.ref hh, .int sz])), (hh, .inl (cI, 600, .inl f))]) [0, 1, 2, 3, 4, 5, 6, 7, 8, 9, 10, 11, 12, 13] (by decide) rfl
      generalize H1 = H at hP hS ⊢
      refine va_put (D := D) (ci := 4) (v := .int r184) (ty := .int) (C := RX4) (T := TX4) (N := 14) hx hb hts in_X4 tyX4 tyX4_ok nmX4 hown hK.1 hP hD hS 0 rfl rfl 12 (by decide) (hts _ mk_177) (fun _ h9 => h9) rfl (by decide +kernel) rfl rfl (Nat.le_of_ble_eq_true rfl) dX4_readFrom_187 (fun H locs hP hD hS => ?_)
      have hP : va_P D vwCl [(hp, .inr (4, [.ref ht, .ref htr, .ref hpl, .ref hw, .ref hcr, .ref hco, .ref hhs, .int cols2, .int rows2, .int q2, .int lev2, .int ta2, .int r184, .int fch2])), (ht, .inr (2, [.ref hpr])), (hpr, .inl (cI, 264, .inl pr2)), (htr, .inr (6, [.ref hg])), (hg, .inl (cJ, 16, .inr (.inl g2))), (hpl, .inr (5, [.ref hs])), (hs, .inl (cI, 256, .inl sm2)), (hw, .inl (cI, 16, .inl wy2)), (hcr, .inl (cI, 16, .inl cr2)), (hco, .inl (cI, 256, .inl co2)), (hhs, .inl (cZ, 16, .inl hb2_)), (hrd, .inr (0, [.ref ho, .int va2, .int rg2, .int sh2, .int nx2])), (ho, .inr (3, [.ref hh, .int sz])), (hh, .inl (cI, 600, .inl f))] H := hP
      have hD : va_D A [(hp, .inr (4, [.ref ht, .ref htr, .ref hpl, .ref hw, .ref hcr, .ref hco, .ref hhs, .int cols2, .int rows2, .int q2, .int lev2, .int ta2, .int r184, .int fch2])), (ht, .inr (2, [.ref hpr])), (hpr, .inl (cI, 264, .inl pr2)), (htr, .inr (6, [.ref hg])), (hg, .inl (cJ, 16, .inr (.inl g2))), (hpl, .inr (5, [.ref hs])), (hs, .inl (cI, 256, .inl sm2)), (hw, .inl (cI, 16, .inl wy2)), (hcr, .inl (cI, 16, .inl cr2)), (hco, .inl (cI, 256, .inl co2)), (hhs, .inl (cZ, 16, .inl hb2_)), (hrd, .inr (0, [.ref ho, .int va2, .int rg2, .int sh2, .int nx2])), (ho, .inr (3, [.ref hh, .int sz])), (hh, .inl (cI, 600, .inl f))] := hD
      refine lv_aload_n hx hb dX4_readFrom_190 rfl (lv_at hl 0 rfl) ?_
      refine lv_aload_n hx hb dX4_readFrom_191 rfl (lv_at hl 0 rfl) ?_
      refine va_get (D := D) (ci := 4) (v := .int lev2) (C := RX4) (T := TX4) (N := 14) hx hb hts in_X4 hown hK.1 hP 0 rfl rfl 10 (by decide) (hts _ mk_147) (fun _ h9 => h9) rfl dX4_readFrom_192 ?_
      refine lv_if_le (tgt := 220) hx hb dX4_readFrom_195 (by decide) (fun c195 => ?_) (fun c195 => ?_)
      · have c195a := kB_all lev2
        have c195x : kB lev2 (-2147483648) 0 := kB_le_l c195a kc_0 c195 (by decide)
        refine lv_iconst (v := 0) hx hb dX4_readFrom_220 (by decide) ?_
        refine va_put (D := D) (ci := 4) (v := .int 0) (ty := .int) (C := RX4) (T := TX4) (N := 14) hx hb hts in_X4 tyX4 tyX4_ok nmX4 hown hK.1 hP hD hS 0 rfl rfl 13 (by decide) (hts _ mk_178) (fun _ h9 => h9) rfl (by decide +kernel) rfl rfl (Nat.le_of_ble_eq_true rfl) dX4_readFrom_221 (fun H locs hP hD hS => ?_)
        have hP : va_P D vwCl [(hp, .inr (4, [.ref ht, .ref htr, .ref hpl, .ref hw, .ref hcr, .ref hco, .ref hhs, .int cols2, .int rows2, .int q2, .int lev2, .int ta2, .int r184, .int 0])), (ht, .inr (2, [.ref hpr])), (hpr, .inl (cI, 264, .inl pr2)), (htr, .inr (6, [.ref hg])), (hg, .inl (cJ, 16, .inr (.inl g2))), (hpl, .inr (5, [.ref hs])), (hs, .inl (cI, 256, .inl sm2)), (hw, .inl (cI, 16, .inl wy2)), (hcr, .inl (cI, 16, .inl cr2)), (hco, .inl (cI, 256, .inl co2)), (hhs, .inl (cZ, 16, .inl hb2_)), (hrd, .inr (0, [.ref ho, .int va2, .int rg2, .int sh2, .int nx2])), (ho, .inr (3, [.ref hh, .int sz])), (hh, .inl (cI, 600, .inl f))] H := hP
        have hD : va_D A [(hp, .inr (4, [.ref ht, .ref htr, .ref hpl, .ref hw, .ref hcr, .ref hco, .ref hhs, .int cols2, .int rows2, .int q2, .int lev2, .int ta2, .int r184, .int 0])), (ht, .inr (2, [.ref hpr])), (hpr, .inl (cI, 264, .inl pr2)), (htr, .inr (6, [.ref hg])), (hg, .inl (cJ, 16, .inr (.inl g2))), (hpl, .inr (5, [.ref hs])), (hs, .inl (cI, 256, .inl sm2)), (hw, .inl (cI, 16, .inl wy2)), (hcr, .inl (cI, 16, .inl cr2)), (hco, .inl (cI, 256, .inl co2)), (hhs, .inl (cZ, 16, .inl hb2_)), (hrd, .inr (0, [.ref ho, .int va2, .int rg2, .int sh2, .int nx2])), (ho, .inr (3, [.ref hh, .int sz])), (hh, .inl (cI, 600, .inl f))] := hD
        exact W.vret hx hb hr (fun t9 ht9 hW9 => ⟨⟨(va2, rg2, sh2, nx2, cols2, rows2, q2, lev2, ta2, r184, 0, pr2, g2, sm2, wy2, cr2, co2, hb2_), rfl, ⟨brg2, bsh2, bc2, br2, apr2, hcx⟩, by rw [ht9]; exact hP, hD⟩, hS.F ht9⟩) hS.2.2 dX4_readFrom_224
      · have c195n : 0 < lev2 := kN_le c195
        have c195nb := kB_all lev2
        have c195ny : kB lev2 1 2147483647 := kB_lt_r kc_0 c195nb c195n (by decide)
        refine lv_aload_n hx hb dX4_readFrom_198 rfl (lv_at hl 0 rfl) ?_
        refine va_get (D := D) (ci := 4) (v := .ref hpl) (C := RX4) (T := TX4) (N := 14) hx hb hts in_X4 hown hK.1 hP 0 rfl rfl 2 (by decide) (hts _ mk_128) (fun _ h9 => h9) rfl dX4_readFrom_199 ?_
        refine lv_aload_n hx hb dX4_readFrom_202 rfl (lv_at hl 0 rfl) ?_
        refine va_get (D := D) (ci := 4) (v := .int cols2) (C := RX4) (T := TX4) (N := 14) hx hb hts in_X4 hown hK.1 hP 0 rfl rfl 7 (by decide) (hts _ mk_114) (fun _ h9 => h9) rfl dX4_readFrom_203 ?_
        refine lv_aload_n hx hb dX4_readFrom_206 rfl (lv_at hl 0 rfl) ?_
        refine va_get (D := D) (ci := 4) (v := .int rows2) (C := RX4) (T := TX4) (N := 14) hx hb hts in_X4 hown hK.1 hP 0 rfl rfl 8 (by decide) (hts _ mk_115) (fun _ h9 => h9) rfl dX4_readFrom_207 ?_
        refine lv_aload_n hx hb dX4_readFrom_210 rfl (lv_at hl 0 rfl) ?_
        refine va_get (D := D) (ci := 4) (v := .int lev2) (C := RX4) (T := TX4) (N := 14) hx hb hts in_X4 hown hK.1 hP 0 rfl rfl 10 (by decide) (hts _ mk_147) (fun _ h9 => h9) rfl dX4_readFrom_211 ?_
        have hPc := hP.sub (ws' := [(hpl, .inr (5, [.ref hs])), (hs, .inl (cI, 256, .inl sm2))]) [5, 6] rfl
        have hDc := hD.sub (ws' := [(hpl, .inr (5, [.ref hs])), (hs, .inl (cI, 256, .inl sm2))]) [5, 6] (by decide) rfl
        have hFc := va_free (wc := [(hpl, .inr (5, [.ref hs])), (hs, .inl (cI, 256, .inl sm2))]) hD hS hA [5, 6] rfl
        refine va_calli (va_runV (As := [.int cols2, .int rows2, .int lev2]) (rest := [.ref hp]) ⟨hx, hb, hml, hown, hts⟩ (c_X5_filterAll l D cI cJ cZ hpl hs sm2 cols2 rows2 lev2 bc2 br2 (H).size) (cwV 3 hts (kg_V mk_179 mk_180 mk_181 mk_80 mk_182) rfl rfl rfl (by decide +kernel) ⟨Nat.le_of_ble_eq_true rfl, Nat.le_of_ble_eq_true rfl⟩) ⟨fun a U g mk q => by obtain ⟨q0, q1, qP, qK, qD⟩ := q; exact ⟨q0, q1, qP, kK.call qK, qD⟩, va_recv hK.1 hPc (ci := 5) (q0 := 0) rfl rfl, fun U hU hW => ⟨rfl, by rw [hU], by rw [hU]; exact hPc, kK.warm hW hK, hDc.weaken (fun _ _ _ _ => trivial)⟩⟩ rfl rfl hl.1 rfl (lv_room (Nat.le_of_ble_eq_true rfl)) dX4_readFrom_214 ⟨Nat.zero_le _, Nat.zero_le _⟩) hS (fun q _ h => hFc q h) hFc (fun r214 u t9 H1 locs ht9 hvm9 hw9 hB9 hz9 hk9 hS => ?_)
        obtain ⟨sm2_214, rfl⟩ : ∃ z, z = u := ⟨_, rfl⟩
        obtain ⟨hP1, hD1⟩ := hB9
        rw [ht9] at hP1
        have hP1 : va_P D vwCl [(hpl, .inr (5, [.ref hs])), (hs, .inl (cI, 256, .inl sm2_214))] H1 := hP1
        obtain ⟨hP, hD⟩ := va_join (wr := [(hp, .inr (4, [.ref ht, .ref htr, .ref hpl, .ref hw, .ref hcr, .ref hco, .ref hhs, .int cols2, .int rows2, .int q2, .int lev2, .int ta2, .int r184, .int fch2])), (ht, .inr (2, [.ref hpr])), (hpr, .inl (cI, 264, .inl pr2)), (htr, .inr (6, [.ref hg])), (hg, .inl (cJ, 16, .inr (.inl g2))), (hw, .inl (cI, 16, .inl wy2)), (hcr, .inl (cI, 16, .inl cr2)), (hco, .inl (cI, 256, .inl co2)), (hhs, .inl (cZ, 16, .inl hb2_)), (hrd, .inr (0, [.ref ho, .int va2, .int rg2, .int sh2, .int nx2])), (ho, .inr (3, [.ref hh, .int sz])), (hh, .inl (cI, 600, .inl f))]) (w1 := [(hpl, .inr (5, [.ref hs])), (hs, .inl (cI, 256, .inl sm2_214))]) hP hD [5, 6] [0, 1, 2, 3, 4, 7, 8, 9, 10, 11, 12, 13] rfl rfl (by decide) (by decide) hk9 hFc hP1 hD1
        have hP := hP.sub (ws' := [(hp, .inr (4, [.ref ht, .ref htr, .ref hpl, .ref hw, .ref hcr, .ref hco, .ref hhs, .int cols2, .int rows2, .int q2, .int lev2, .int ta2, .int r184, .int fch2])), (ht, .inr (2, [.ref hpr])), (hpr, .inl (cI, 264, .inl pr2)), (htr, .inr (6, [.ref hg])), (hg, .inl (cJ, 16, .inr (.inl g2))), (hpl, .inr (5, [.ref hs])), (hs, .inl (cI, 256, .inl sm2_214)), (hw, .inl (cI, 16, .inl wy2)), (hcr, .inl (cI, 16, .inl cr2)), (hco, .inl (cI, 256, .inl co2)), (hhs, .inl (cZ, 16, .inl hb2_)), (hrd, .inr (0, [.ref ho, .int va2, .int rg2, .int sh2, .int nx2])), (ho, .inr (3, [.ref hh, .int sz])), (hh, .inl (cI, 600, .inl f))]) [0, 1, 2, 3, 4, 12, 13, 5, 6, 7, 8, 9, 10, 11] rfl
        have hD := hD.sub (ws' := [(hp, .inr (4, [.ref ht, .ref htr, .ref hpl, .ref hw, .ref hcr, .ref hco, .ref hhs, .int cols2, .int rows2, .int q2, .int lev2, .int ta2, .int r184, .int fch2])), (ht, .inr (2, [.ref hpr])), (hpr, .inl (cI, 264, .inl pr2)), (htr, .inr (6, [.ref hg])), (hg, .inl (cJ, 16, .inr (.inl g2))), (hpl, .inr (5, [.ref hs])), (hs, .inl (cI, 256, .inl sm2_214)), (hw, .inl (cI, 16, .inl wy2)), (hcr, .inl (cI, 16, .inl cr2)), (hco, .inl (cI, 256, .inl co2)), (hhs, .inl (cZ, 16, .inl hb2_)), (hrd, .inr (0, [.ref ho, .int va2, .int rg2, .int sh2, .int nx2])), (ho, .inr (3, [.ref hh, .int sz])), (hh, .inl (cI, 600, .inl f))]) [0, 1, 2, 3, 4, 12, 13, 5, 6, 7, 8, 9, 10, 11] (by decide) rfl
        generalize H1 = H at hP hS ⊢
        refine lv_goto (tgt := 221) hx hb dX4_readFrom_217 (by decide) ?_
        refine va_put (D := D) (ci := 4) (v := .int r214) (ty := .int) (C := RX4) (T := TX4) (N := 14) hx hb hts in_X4 tyX4 tyX4_ok nmX4 hown hK.1 hP hD hS 0 rfl rfl 13 (by decide) (hts _ mk_178) (fun _ h9 => h9) rfl (by decide +kernel) rfl rfl (Nat.le_of_ble_eq_true rfl) dX4_readFrom_221 (fun H locs hP hD hS => ?_)
        have hP : va_P D vwCl [(hp, .inr (4, [.ref ht, .ref htr, .ref hpl, .ref hw, .ref hcr, .ref hco, .ref hhs, .int cols2, .int rows2, .int q2, .int lev2, .int ta2, .int r184, .int r214])), (ht, .inr (2, [.ref hpr])), (hpr, .inl (cI, 264, .inl pr2)), (htr, .inr (6, [.ref hg])), (hg, .inl (cJ, 16, .inr (.inl g2))), (hpl, .inr (5, [.ref hs])), (hs, .inl (cI, 256, .inl sm2_214)), (hw, .inl (cI, 16, .inl wy2)), (hcr, .inl (cI, 16, .inl cr2)), (hco, .inl (cI, 256, .inl co2)), (hhs, .inl (cZ, 16, .inl hb2_)), (hrd, .inr (0, [.ref ho, .int va2, .int rg2, .int sh2, .int nx2])), (ho, .inr (3, [.ref hh, .int sz])), (hh, .inl (cI, 600, .inl f))] H := hP
        have hD : va_D A [(hp, .inr (4, [.ref ht, .ref htr, .ref hpl, .ref hw, .ref hcr, .ref hco, .ref hhs, .int cols2, .int rows2, .int q2, .int lev2, .int ta2, .int r184, .int r214])), (ht, .inr (2, [.ref hpr])), (hpr, .inl (cI, 264, .inl pr2)), (htr, .inr (6, [.ref hg])), (hg, .inl (cJ, 16, .inr (.inl g2))), (hpl, .inr (5, [.ref hs])), (hs, .inl (cI, 256, .inl sm2_214)), (hw, .inl (cI, 16, .inl wy2)), (hcr, .inl (cI, 16, .inl cr2)), (hco, .inl (cI, 256, .inl co2)), (hhs, .inl (cZ, 16, .inl hb2_)), (hrd, .inr (0, [.ref ho, .int va2, .int rg2, .int sh2, .int nx2])), (ho, .inr (3, [.ref hh, .int sz])), (hh, .inl (cI, 600, .inl f))] := hD
        exact W.vret hx hb hr (fun t9 ht9 hW9 => ⟨⟨(va2, rg2, sh2, nx2, cols2, rows2, q2, lev2, ta2, r184, r214, pr2, g2, sm2_214, wy2, cr2, co2, hb2_), rfl, ⟨brg2, bsh2, bc2, br2, apr2, hcx⟩, by rw [ht9]; exact hP, hD⟩, hS.F ht9⟩) hS.2.2 dX4_readFrom_224
    · have c85n : x2 < rows2 := kN_le c85
      have c85nx : kB x2 0 3 := kB_lt_l b2 br2 c85n (by decide)
      refine lv_iconst (v := 0) hx hb dX4_readFrom_88 (by decide) ?_
      refine lv_istore_n (lv' := [(3, .int 0), (0, .ref hp), (1, .ref hrd), (2, .int x2)]) hx hb dX4_readFrom_89 rfl hl (by decide) rfl (fun ls hl => ?_)
      exact lp_X4_readFrom_90 D cI cJ cZ hp ht hpr htr hg hpl hs hw hcr hco hhs hrd ho hh va rg sh nx sz f cols rows q lev ta ob fch pr g sm wy cr co hb_ brg bsh bsz apr hx hb hr hml hown hts hlocks hK hA hT n ih ((4 - (0 : Int32).toInt).toNat + 1) x2 0 va2 rg2 sh2 nx2 cols2 rows2 q2 lev2 ta2 ob2 fch2 pr2 g2 sm2 wy2 cr2 co2 hb2_ (Nat.lt_succ_self _) c85nx (kB_w kc_0 (by decide) (by decide)) brg2 bsh2 bc2 br2 apr2 (by first | assumption | omega) hcx _ _ ls hP hD hS (lv_sub hl [1, 2, 3, 0] rfl)
set_option maxHeartbeats 4000000 in
set_option maxRecDepth 100000 in
theorem lp_X4_readFrom_56 {p : Program} {l : Launch} {e : Env} {s : State} {m : MethodId} {args : Array Value} {below : List Frame} {meth : Method} {c : Code} {A : Nat → Prop} (D : va_G) (cI cJ cZ : ClassId) (hp ht hpr htr hg hpl hs hw hcr hco hhs hrd ho hh : Nat) (va : Int32) (rg : Int32) (sh : Int32) (nx : Int32) (sz : Int32) (f : Nat → Int32) (cols : Int32) (rows : Int32) (q : Int32) (lev : Int32) (ta : Int32) (ob : Int32) (fch : Int32) (pr : Nat → Int32) (g : Nat → Int64) (sm : Nat → Int32) (wy : Nat → Int32) (cr : Nat → Int32) (co : Nat → Int32) (hb_ : Nat → Int32) (brg : kB rg 128 255) (bsh : kB sh 0 7) (bsz : kB sz 0 600) (apr : kA pr 0 255) (hx : p.tables.exec = Jvm.exec) (hb : c.code = cX4_readFrom) (hr : meth.sig.returnType = none) (hml : c.maxLocals = 5) (hown : s.vm.findClass RX4 = some m.cls) (hts : ∀ w ∈ kW, w.before args s = true) (hlocks : meth.locks = false) (hK : kK D cI cJ cZ s) (hA : ∀ q : Nat, s.heap.size ≤ q → A q) (hT : kT A s s.heap) : ∀ n : Nat, ∀ (x2 : Int32) (va2 : Int32) (rg2 : Int32) (sh2 : Int32) (nx2 : Int32) (cols2 : Int32) (rows2 : Int32) (q2 : Int32) (lev2 : Int32) (ta2 : Int32) (ob2 : Int32) (fch2 : Int32) (pr2 : Nat → Int32) (g2 : Nat → Int64) (sm2 : Nat → Int32) (wy2 : Nat → Int32) (cr2 : Nat → Int32) (co2 : Nat → Int32) (hb2_ : Nat → Int32), (256 - x2.toInt).toNat < n → (kB x2 0 256) → (kB rg2 128 255) → (kB sh2 0 7) → (kB cols2 1 4) → (kB rows2 1 4) → (kA pr2 0 255) → (kIf (0 ≤ va.toInt ∧ va.toInt ≤ 65535 ∧ rg.toInt = 255 ∧ sh.toInt = 0) (cols2.toInt = rCol va.toInt ∧ rows2.toInt = rRow va.toInt)) → ∀ (H : Heap) (locs : List Loc) (ls : Array Slot), va_P D vwCl [(hp, .inr (4, [.ref ht, .ref htr, .ref hpl, .ref hw, .ref hcr, .ref hco, .ref hhs, .int cols2, .int rows2, .int q2, .int lev2, .int ta2, .int ob2, .int fch2])), (ht, .inr (2, [.ref hpr])), (hpr, .inl (cI, 264, .inl pr2)), (htr, .inr (6, [.ref hg])), (hg, .inl (cJ, 16, .inr (.inl g2))), (hpl, .inr (5, [.ref hs])), (hs, .inl (cI, 256, .inl sm2)), (hw, .inl (cI, 16, .inl wy2)), (hcr, .inl (cI, 16, .inl cr2)), (hco, .inl (cI, 256, .inl co2)), (hhs, .inl (cZ, 16, .inl hb2_)), (hrd, .inr (0, [.ref ho, .int va2, .int rg2, .int sh2, .int nx2])), (ho, .inr (3, [.ref hh, .int sz])), (hh, .inl (cI, 600, .inl f))] H → va_D A [(hp, .inr (4, [.ref ht, .ref htr, .ref hpl, .ref hw, .ref hcr, .ref hco, .ref hhs, .int cols2, .int rows2, .int q2, .int lev2, .int ta2, .int ob2, .int fch2])), (ht, .inr (2, [.ref hpr])), (hpr, .inl (cI, 264, .inl pr2)), (htr, .inr (6, [.ref hg])), (hg, .inl (cJ, 16, .inr (.inl g2))), (hpl, .inr (5, [.ref hs])), (hs, .inl (cI, 256, .inl sm2)), (hw, .inl (cI, 16, .inl wy2)), (hcr, .inl (cI, 16, .inl cr2)), (hco, .inl (cI, 256, .inl co2)), (hhs, .inl (cZ, 16, .inl hb2_)), (hrd, .inr (0, [.ref ho, .int va2, .int rg2, .int sh2, .int nx2])), (ho, .inr (3, [.ref hh, .int sz])), (hh, .inl (cI, 600, .inl f))] → va_S A s.heap H locs → lv_has ls 5 [(0, .ref hp), (1, .ref hrd), (2, .int x2)] → W p l e (headSpec kw_X4_readFrom ({ frames := 5, cells := 0, slots := 0, locals := 127 })).room s m args below meth c H locs 0 0 (MQ below (va_Qv (fun (u : Int32 × Int32 × Int32 × Int32 × Int32 × Int32 × Int32 × Int32 × Int32 × Int32 × Int32 × (Nat → Int32) × (Nat → Int64) × (Nat → Int32) × (Nat → Int32) × (Nat → Int32) × (Nat → Int32) × (Nat → Int32)) => (kB u.2.1 128 255) ∧ (kB u.2.2.1 0 7) ∧ (kB u.2.2.2.2.1 1 4) ∧ (kB u.2.2.2.2.2.1 1 4) ∧ (kA u.2.2.2.2.2.2.2.2.2.2.2.1 0 255) ∧ (kIf (0 ≤ va.toInt ∧ va.toInt ≤ 65535 ∧ rg.toInt = 255 ∧ sh.toInt = 0) (u.2.2.2.2.1.toInt = rCol va.toInt ∧ u.2.2.2.2.2.1.toInt = rRow va.toInt))) (fun (u : Int32 × Int32 × Int32 × Int32 × Int32 × Int32 × Int32 × Int32 × Int32 × Int32 × Int32 × (Nat → Int32) × (Nat → Int64) × (Nat → Int32) × (Nat → Int32) × (Nat → Int32) × (Nat → Int32) × (Nat → Int32)) (t : State) => va_P D vwCl [(hp, .inr (4, [.ref ht, .ref htr, .ref hpl, .ref hw, .ref hcr, .ref hco, .ref hhs, .int u.2.2.2.2.1, .int u.2.2.2.2.2.1, .int u.2.2.2.2.2.2.1, .int u.2.2.2.2.2.2.2.1, .int u.2.2.2.2.2.2.2.2.1, .int u.2.2.2.2.2.2.2.2.2.1, .int u.2.2.2.2.2.2.2.2.2.2.1])), (ht, .inr (2, [.ref hpr])), (hpr, .inl (cI, 264, .inl u.2.2.2.2.2.2.2.2.2.2.2.1)), (htr, .inr (6, [.ref hg])), (hg, .inl (cJ, 16, .inr (.inl u.2.2.2.2.2.2.2.2.2.2.2.2.1))), (hpl, .inr (5, [.ref hs])), (hs, .inl (cI, 256, .inl u.2.2.2.2.2.2.2.2.2.2.2.2.2.1)), (hw, .inl (cI, 16, .inl u.2.2.2.2.2.2.2.2.2.2.2.2.2.2.1)), (hcr, .inl (cI, 16, .inl u.2.2.2.2.2.2.2.2.2.2.2.2.2.2.2.1)), (hco, .inl (cI, 256, .inl u.2.2.2.2.2.2.2.2.2.2.2.2.2.2.2.2.1)), (hhs, .inl (cZ, 16, .inl u.2.2.2.2.2.2.2.2.2.2.2.2.2.2.2.2.2)), (hrd, .inr (0, [.ref ho, .int u.1, .int u.2.1, .int u.2.2.1, .int u.2.2.2.1])), (ho, .inr (3, [.ref hh, .int sz])), (hh, .inl (cI, 600, .inl f))] t.heap ∧ va_D A [(hp, .inr (4, [.ref ht, .ref htr, .ref hpl, .ref hw, .ref hcr, .ref hco, .ref hhs, .int u.2.2.2.2.1, .int u.2.2.2.2.2.1, .int u.2.2.2.2.2.2.1, .int u.2.2.2.2.2.2.2.1, .int u.2.2.2.2.2.2.2.2.1, .int u.2.2.2.2.2.2.2.2.2.1, .int u.2.2.2.2.2.2.2.2.2.2.1])), (ht, .inr (2, [.ref hpr])), (hpr, .inl (cI, 264, .inl u.2.2.2.2.2.2.2.2.2.2.2.1)), (htr, .inr (6, [.ref hg])), (hg, .inl (cJ, 16, .inr (.inl u.2.2.2.2.2.2.2.2.2.2.2.2.1))), (hpl, .inr (5, [.ref hs])), (hs, .inl (cI, 256, .inl u.2.2.2.2.2.2.2.2.2.2.2.2.2.1)), (hw, .inl (cI, 16, .inl u.2.2.2.2.2.2.2.2.2.2.2.2.2.2.1)), (hcr, .inl (cI, 16, .inl u.2.2.2.2.2.2.2.2.2.2.2.2.2.2.2.1)), (hco, .inl (cI, 256, .inl u.2.2.2.2.2.2.2.2.2.2.2.2.2.2.2.2.1)), (hhs, .inl (cZ, 16, .inl u.2.2.2.2.2.2.2.2.2.2.2.2.2.2.2.2.2)), (hrd, .inr (0, [.ref ho, .int u.1, .int u.2.1, .int u.2.2.1, .int u.2.2.2.1])), (ho, .inr (3, [.ref hh, .int sz])), (hh, .inl (cI, 600, .inl f))]) A) args s 0 0 A) (F0 m 56 ls []) := by
  intro n
  induction n with
  | zero => intro x2 va2 rg2 sh2 nx2 cols2 rows2 q2 lev2 ta2 ob2 fch2 pr2 g2 sm2 wy2 cr2 co2 hb2_ hmeas; exact absurd hmeas (Nat.not_lt_zero _)
  | succ n ih =>
    intro x2 va2 rg2 sh2 nx2 cols2 rows2 q2 lev2 ta2 ob2 fch2 pr2 g2 sm2 wy2 cr2 co2 hb2_ hmeas b2 brg2 bsh2 bc2 br2 apr2 hcx H locs ls hP hD hS hl
    refine lv_iload_n hx hb dX4_readFrom_56 rfl (lv_at hl 2 rfl) ?_
    refine lv_aload_n hx hb dX4_readFrom_57 rfl (lv_at hl 0 rfl) ?_
    refine va_get (D := D) (ci := 4) (v := .ref hco) (C := RX4) (T := TX4) (N := 14) hx hb hts in_X4 hown hK.1 hP 0 rfl rfl 5 (by decide) (hts _ mk_127) (fun _ h9 => h9) rfl dX4_readFrom_58 ?_
    refine va_alen hx hb hK.1 hP 9 0 rfl rfl (v := 256) (show Int32.ofNat 256 = 256 from by decide) dX4_readFrom_61 ?_
    refine lv_icmp_ge (tgt := 78) hx hb dX4_readFrom_62 (by decide) (fun c62 => ?_) (fun c62 => ?_)
    · have c62y : kB x2 256 256 := kB_le_r kc_256 b2 c62 (by decide)
      refine lv_iconst (v := 0) hx hb dX4_readFrom_78 (by decide) ?_
      refine lv_istore_n (lv' := [(2, .int 0), (0, .ref hp), (1, .ref hrd)]) hx hb dX4_readFrom_79 rfl hl (by decide) rfl (fun ls hl => ?_)
      exact lp_X4_readFrom_80 D cI cJ cZ hp ht hpr htr hg hpl hs hw hcr hco hhs hrd ho hh va rg sh nx sz f cols rows q lev ta ob fch pr g sm wy cr co hb_ brg bsh bsz apr hx hb hr hml hown hts hlocks hK hA hT ((4 - (0 : Int32).toInt).toNat + 1) 0 va2 rg2 sh2 nx2 cols2 rows2 q2 lev2 ta2 ob2 fch2 pr2 g2 sm2 wy2 cr2 co2 hb2_ (Nat.lt_succ_self _) (kB_w kc_0 (by decide) (by decide)) brg2 bsh2 bc2 br2 apr2 hcx _ _ ls hP hD hS (lv_sub hl [1, 2, 0] rfl)
    · have c62n : x2 < 256 := kN_le c62
      have c62nx : kB x2 0 255 := kB_lt_l b2 kc_256 c62n (by decide)
      refine lv_aload_n hx hb dX4_readFrom_65 rfl (lv_at hl 0 rfl) ?_
      refine va_get (D := D) (ci := 4) (v := .ref hco) (C := RX4) (T := TX4) (N := 14) hx hb hts in_X4 hown hK.1 hP 0 rfl rfl 5 (by decide) (hts _ mk_127) (fun _ h9 => h9) rfl dX4_readFrom_66 ?_
      refine lv_iload_n hx hb dX4_readFrom_69 rfl (lv_at hl 2 rfl) ?_
      refine lv_iconst (v := 0) hx hb dX4_readFrom_70 (by decide) ?_
      refine va_iast hx hb hK.1 hP hD hS 9 0 rfl rfl (kB_in c62nx (by decide)) dX4_readFrom_71 (fun H locs hP hD hS => ?_)
      have hP : va_P D vwCl [(hp, .inr (4, [.ref ht, .ref htr, .ref hpl, .ref hw, .ref hcr, .ref hco, .ref hhs, .int cols2, .int rows2, .int q2, .int lev2, .int ta2, .int ob2, .int fch2])), (ht, .inr (2, [.ref hpr])), (hpr, .inl (cI, 264, .inl pr2)), (htr, .inr (6, [.ref hg])), (hg, .inl (cJ, 16, .inr (.inl g2))), (hpl, .inr (5, [.ref hs])), (hs, .inl (cI, 256, .inl sm2)), (hw, .inl (cI, 16, .inl wy2)), (hcr, .inl (cI, 16, .inl cr2)), (hco, .inl (cI, 256, .inl (upd co2 x2.toNatClampNeg 0))), (hhs, .inl (cZ, 16, .inl hb2_)), (hrd, .inr (0, [.ref ho, .int va2, .int rg2, .int sh2, .int nx2])), (ho, .inr (3, [.ref hh, .int sz])), (hh, .inl (cI, 600, .inl f))] H := hP
      have hD : va_D A [(hp, .inr (4, [.ref ht, .ref htr, .ref hpl, .ref hw, .ref hcr, .ref hco, .ref hhs, .int cols2, .int rows2, .int q2, .int lev2, .int ta2, .int ob2, .int fch2])), (ht, .inr (2, [.ref hpr])), (hpr, .inl (cI, 264, .inl pr2)), (htr, .inr (6, [.ref hg])), (hg, .inl (cJ, 16, .inr (.inl g2))), (hpl, .inr (5, [.ref hs])), (hs, .inl (cI, 256, .inl sm2)), (hw, .inl (cI, 16, .inl wy2)), (hcr, .inl (cI, 16, .inl cr2)), (hco, .inl (cI, 256, .inl (upd co2 x2.toNatClampNeg 0))), (hhs, .inl (cZ, 16, .inl hb2_)), (hrd, .inr (0, [.ref ho, .int va2, .int rg2, .int sh2, .int nx2])), (ho, .inr (3, [.ref hh, .int sz])), (hh, .inl (cI, 600, .inl f))] := hD
      generalize hf71 : upd co2 x2.toNatClampNeg 0 = f71 at hP hD
      obtain ⟨v72, e72⟩ : ∃ y : Int32, y = x2 + 1 := ⟨_, rfl⟩
      refine lv_iinc (v := v72) (lv' := [(2, .int v72), (0, .ref hp), (1, .ref hrd)]) hx hb dX4_readFrom_72 hl (k := 2) rfl (by rw [e72]; rfl) (by decide) rfl (fun ls hl => ?_)
      have b72 : kB v72 1 256 := kB_eq e72 (kB_add c62nx kc_1 (by decide))
      have t72 : v72.toInt = x2.toInt + 1 := by rw [e72]; exact kinc (kB_w c62nx (by decide) (by decide))
      refine lv_goto (tgt := 56) hx hb dX4_readFrom_75 (by decide) ?_
      exact ih v72 va2 rg2 sh2 nx2 cols2 rows2 q2 lev2 ta2 ob2 fch2 pr2 g2 sm2 wy2 cr2 f71 hb2_ (by have := b72.1; have := b72.2; have := brg2.1; have := brg2.2; have := bsh2.1; have := bsh2.2; have := bc2.1; have := bc2.2; have := br2.1; have := br2.2; have := c62nx.1; have := c62nx.2; omega) (kB_w b72 (by decide) (by decide)) brg2 bsh2 bc2 br2 apr2 hcx _ _ ls hP hD hS (lv_sub hl [1, 2, 0] rfl)
set_option maxHeartbeats 4000000 in
set_option maxRecDepth 100000 in
theorem c_X4_readFrom (l : Launch) (D : va_G) (cI cJ cZ : ClassId) (hp ht hpr htr hg hpl hs hw hcr hco hhs hrd ho hh : Nat) (va : Int32) (rg : Int32) (sh : Int32) (nx : Int32) (sz : Int32) (f : Nat → Int32) (cols : Int32) (rows : Int32) (q : Int32) (lev : Int32) (ta : Int32) (ob : Int32) (fch : Int32) (pr : Nat → Int32) (g : Nat → Int64) (sm : Nat → Int32) (wy : Nat → Int32) (cr : Nat → Int32) (co : Nat → Int32) (hb_ : Nat → Int32) (brg : kB rg 128 255) (bsh : kB sh 0 7) (bsz : kB sz 0 600) (apr : kA pr 0 255) (hpz : Nat) : Met l yX4_readFrom kw_X4_readFrom ({ frames := 5, cells := 0, slots := 0, locals := 127 }) (va_Pc [.ref hp, .ref hrd] (fun U => U.heap.size = hpz ∧ va_P D vwCl [(hp, .inr (4, [.ref ht, .ref htr, .ref hpl, .ref hw, .ref hcr, .ref hco, .ref hhs, .int cols, .int rows, .int q, .int lev, .int ta, .int ob, .int fch])), (ht, .inr (2, [.ref hpr])), (hpr, .inl (cI, 264, .inl pr)), (htr, .inr (6, [.ref hg])), (hg, .inl (cJ, 16, .inr (.inl g))), (hpl, .inr (5, [.ref hs])), (hs, .inl (cI, 256, .inl sm)), (hw, .inl (cI, 16, .inl wy)), (hcr, .inl (cI, 16, .inl cr)), (hco, .inl (cI, 256, .inl co)), (hhs, .inl (cZ, 16, .inl hb_)), (hrd, .inr (0, [.ref ho, .int va, .int rg, .int sh, .int nx])), (ho, .inr (3, [.ref hh, .int sz])), (hh, .inl (cI, 600, .inl f))] U.heap ∧ kK D cI cJ cZ U ∧ va_D (fun _ => True) [(hp, .inr (4, [.ref ht, .ref htr, .ref hpl, .ref hw, .ref hcr, .ref hco, .ref hhs, .int cols, .int rows, .int q, .int lev, .int ta, .int ob, .int fch])), (ht, .inr (2, [.ref hpr])), (hpr, .inl (cI, 264, .inl pr)), (htr, .inr (6, [.ref hg])), (hg, .inl (cJ, 16, .inr (.inl g))), (hpl, .inr (5, [.ref hs])), (hs, .inl (cI, 256, .inl sm)), (hw, .inl (cI, 16, .inl wy)), (hcr, .inl (cI, 16, .inl cr)), (hco, .inl (cI, 256, .inl co)), (hhs, .inl (cZ, 16, .inl hb_)), (hrd, .inr (0, [.ref ho, .int va, .int rg, .int sh, .int nx])), (ho, .inr (3, [.ref hh, .int sz])), (hh, .inl (cI, 600, .inl f))] ∧ kT (va_A [(hp, .inr (4, [.ref ht, .ref htr, .ref hpl, .ref hw, .ref hcr, .ref hco, .ref hhs, .int cols, .int rows, .int q, .int lev, .int ta, .int ob, .int fch])), (ht, .inr (2, [.ref hpr])), (hpr, .inl (cI, 264, .inl pr)), (htr, .inr (6, [.ref hg])), (hg, .inl (cJ, 16, .inr (.inl g))), (hpl, .inr (5, [.ref hs])), (hs, .inl (cI, 256, .inl sm)), (hw, .inl (cI, 16, .inl wy)), (hcr, .inl (cI, 16, .inl cr)), (hco, .inl (cI, 256, .inl co)), (hhs, .inl (cZ, 16, .inl hb_)), (hrd, .inr (0, [.ref ho, .int va, .int rg, .int sh, .int nx])), (ho, .inr (3, [.ref hh, .int sz])), (hh, .inl (cI, 600, .inl f))] hpz) U U.heap)) (va_Qv (fun (u : Int32 × Int32 × Int32 × Int32 × Int32 × Int32 × Int32 × Int32 × Int32 × Int32 × Int32 × (Nat → Int32) × (Nat → Int64) × (Nat → Int32) × (Nat → Int32) × (Nat → Int32) × (Nat → Int32) × (Nat → Int32)) => (kB u.2.1 128 255) ∧ (kB u.2.2.1 0 7) ∧ (kB u.2.2.2.2.1 1 4) ∧ (kB u.2.2.2.2.2.1 1 4) ∧ (kA u.2.2.2.2.2.2.2.2.2.2.2.1 0 255) ∧ (kIf (0 ≤ va.toInt ∧ va.toInt ≤ 65535 ∧ rg.toInt = 255 ∧ sh.toInt = 0) (u.2.2.2.2.1.toInt = rCol va.toInt ∧ u.2.2.2.2.2.1.toInt = rRow va.toInt))) (fun (u : Int32 × Int32 × Int32 × Int32 × Int32 × Int32 × Int32 × Int32 × Int32 × Int32 × Int32 × (Nat → Int32) × (Nat → Int64) × (Nat → Int32) × (Nat → Int32) × (Nat → Int32) × (Nat → Int32) × (Nat → Int32)) (t : State) => va_P D vwCl [(hp, .inr (4, [.ref ht, .ref htr, .ref hpl, .ref hw, .ref hcr, .ref hco, .ref hhs, .int u.2.2.2.2.1, .int u.2.2.2.2.2.1, .int u.2.2.2.2.2.2.1, .int u.2.2.2.2.2.2.2.1, .int u.2.2.2.2.2.2.2.2.1, .int u.2.2.2.2.2.2.2.2.2.1, .int u.2.2.2.2.2.2.2.2.2.2.1])), (ht, .inr (2, [.ref hpr])), (hpr, .inl (cI, 264, .inl u.2.2.2.2.2.2.2.2.2.2.2.1)), (htr, .inr (6, [.ref hg])), (hg, .inl (cJ, 16, .inr (.inl u.2.2.2.2.2.2.2.2.2.2.2.2.1))), (hpl, .inr (5, [.ref hs])), (hs, .inl (cI, 256, .inl u.2.2.2.2.2.2.2.2.2.2.2.2.2.1)), (hw, .inl (cI, 16, .inl u.2.2.2.2.2.2.2.2.2.2.2.2.2.2.1)), (hcr, .inl (cI, 16, .inl u.2.2.2.2.2.2.2.2.2.2.2.2.2.2.2.1)), (hco, .inl (cI, 256, .inl u.2.2.2.2.2.2.2.2.2.2.2.2.2.2.2.2.1)), (hhs, .inl (cZ, 16, .inl u.2.2.2.2.2.2.2.2.2.2.2.2.2.2.2.2.2)), (hrd, .inr (0, [.ref ho, .int u.1, .int u.2.1, .int u.2.2.1, .int u.2.2.2.1])), (ho, .inr (3, [.ref hh, .int sz])), (hh, .inl (cI, 600, .inl f))] t.heap ∧ va_D (va_A [(hp, .inr (4, [.ref ht, .ref htr, .ref hpl, .ref hw, .ref hcr, .ref hco, .ref hhs, .int cols, .int rows, .int q, .int lev, .int ta, .int ob, .int fch])), (ht, .inr (2, [.ref hpr])), (hpr, .inl (cI, 264, .inl pr)), (htr, .inr (6, [.ref hg])), (hg, .inl (cJ, 16, .inr (.inl g))), (hpl, .inr (5, [.ref hs])), (hs, .inl (cI, 256, .inl sm)), (hw, .inl (cI, 16, .inl wy)), (hcr, .inl (cI, 16, .inl cr)), (hco, .inl (cI, 256, .inl co)), (hhs, .inl (cZ, 16, .inl hb_)), (hrd, .inr (0, [.ref ho, .int va, .int rg, .int sh, .int nx])), (ho, .inr (3, [.ref hh, .int sz])), (hh, .inl (cI, 600, .inl f))] hpz) [(hp, .inr (4, [.ref ht, .ref htr, .ref hpl, .ref hw, .ref hcr, .ref hco, .ref hhs, .int u.2.2.2.2.1, .int u.2.2.2.2.2.1, .int u.2.2.2.2.2.2.1, .int u.2.2.2.2.2.2.2.1, .int u.2.2.2.2.2.2.2.2.1, .int u.2.2.2.2.2.2.2.2.2.1, .int u.2.2.2.2.2.2.2.2.2.2.1])), (ht, .inr (2, [.ref hpr])), (hpr, .inl (cI, 264, .inl u.2.2.2.2.2.2.2.2.2.2.2.1)), (htr, .inr (6, [.ref hg])), (hg, .inl (cJ, 16, .inr (.inl u.2.2.2.2.2.2.2.2.2.2.2.2.1))), (hpl, .inr (5, [.ref hs])), (hs, .inl (cI, 256, .inl u.2.2.2.2.2.2.2.2.2.2.2.2.2.1)), (hw, .inl (cI, 16, .inl u.2.2.2.2.2.2.2.2.2.2.2.2.2.2.1)), (hcr, .inl (cI, 16, .inl u.2.2.2.2.2.2.2.2.2.2.2.2.2.2.2.1)), (hco, .inl (cI, 256, .inl u.2.2.2.2.2.2.2.2.2.2.2.2.2.2.2.2.1)), (hhs, .inl (cZ, 16, .inl u.2.2.2.2.2.2.2.2.2.2.2.2.2.2.2.2.2)), (hrd, .inr (0, [.ref ho, .int u.1, .int u.2.1, .int u.2.2.1, .int u.2.2.2.1])), (ho, .inr (3, [.ref hh, .int sz])), (hh, .inl (cI, 600, .inl f))]) (va_A [(hp, .inr (4, [.ref ht, .ref htr, .ref hpl, .ref hw, .ref hcr, .ref hco, .ref hhs, .int cols, .int rows, .int q, .int lev, .int ta, .int ob, .int fch])), (ht, .inr (2, [.ref hpr])), (hpr, .inl (cI, 264, .inl pr)), (htr, .inr (6, [.ref hg])), (hg, .inl (cJ, 16, .inr (.inl g))), (hpl, .inr (5, [.ref hs])), (hs, .inl (cI, 256, .inl sm)), (hw, .inl (cI, 16, .inl wy)), (hcr, .inl (cI, 16, .inl cr)), (hco, .inl (cI, 256, .inl co)), (hhs, .inl (cZ, 16, .inl hb_)), (hrd, .inr (0, [.ref ho, .int va, .int rg, .int sh, .int nx])), (ho, .inr (3, [.ref hh, .int sz])), (hh, .inl (cI, 600, .inl f))] hpz)) 0 0 (va_A [(hp, .inr (4, [.ref ht, .ref htr, .ref hpl, .ref hw, .ref hcr, .ref hco, .ref hhs, .int cols, .int rows, .int q, .int lev, .int ta, .int ob, .int fch])), (ht, .inr (2, [.ref hpr])), (hpr, .inl (cI, 264, .inl pr)), (htr, .inr (6, [.ref hg])), (hg, .inl (cJ, 16, .inr (.inl g))), (hpl, .inr (5, [.ref hs])), (hs, .inl (cI, 256, .inl sm)), (hw, .inl (cI, 16, .inl wy)), (hcr, .inl (cI, 16, .inl cr)), (hco, .inl (cI, 256, .inl co)), (hhs, .inl (cZ, 16, .inl hb_)), (hrd, .inr (0, [.ref ho, .int va, .int rg, .int sh, .int nx])), (ho, .inr (3, [.ref hh, .int sz])), (hh, .inl (cI, 600, .inl f))] hpz) := by
  refine Met.ofW (cc := cX4_readFrom) (maxL := 5) (ret := none) (by decide) rfl ?_
  intro p e s m args below meth c s₁ B hml hv
  obtain ⟨rfl, hsz, hP, hK, hD0, hT⟩ := hv
  have hx := B.exec
  have hb := B.bytes
  have hr := B.returns
  have hts := fun (w : Cond) (h : w ∈ kW) => atoms_spec (ws := kw_X4_readFrom) B.pre w (List.mem_cons_of_mem _ h)
  have hown : s.vm.findClass RX4 = some m.cls := findClass_of_methodNamed B.named
  have hlocks := B.notSynchronized
  subst hsz
  have hD := hD0.self (sz := s.heap.size)
  generalize hAe : va_A [(hp, .inr (4, [.ref ht, .ref htr, .ref hpl, .ref hw, .ref hcr, .ref hco, .ref hhs, .int cols, .int rows, .int q, .int lev, .int ta, .int ob, .int fch])), (ht, .inr (2, [.ref hpr])), (hpr, .inl (cI, 264, .inl pr)), (htr, .inr (6, [.ref hg])), (hg, .inl (cJ, 16, .inr (.inl g))), (hpl, .inr (5, [.ref hs])), (hs, .inl (cI, 256, .inl sm)), (hw, .inl (cI, 16, .inl wy)), (hcr, .inl (cI, 16, .inl cr)), (hco, .inl (cI, 256, .inl co)), (hhs, .inl (cZ, 16, .inl hb_)), (hrd, .inr (0, [.ref ho, .int va, .int rg, .int sh, .int nx])), (ho, .inr (3, [.ref hh, .int sz])), (hh, .inl (cI, 600, .inl f))] s.heap.size = A at hD hT ⊢
  have hA : ∀ q : Nat, s.heap.size ≤ q → A q := fun q h => by rw [← hAe]; exact Or.inr h
  have hS : va_S A s.heap s.heap [] := va_S.rf
  have hP : va_P D vwCl [(hp, .inr (4, [.ref ht, .ref htr, .ref hpl, .ref hw, .ref hcr, .ref hco, .ref hhs, .int cols, .int rows, .int q, .int lev, .int ta, .int ob, .int fch])), (ht, .inr (2, [.ref hpr])), (hpr, .inl (cI, 264, .inl pr)), (htr, .inr (6, [.ref hg])), (hg, .inl (cJ, 16, .inr (.inl g))), (hpl, .inr (5, [.ref hs])), (hs, .inl (cI, 256, .inl sm)), (hw, .inl (cI, 16, .inl wy)), (hcr, .inl (cI, 16, .inl cr)), (hco, .inl (cI, 256, .inl co)), (hhs, .inl (cZ, 16, .inl hb_)), (hrd, .inr (0, [.ref ho, .int va, .int rg, .int sh, .int nx])), (ho, .inr (3, [.ref hh, .int sz])), (hh, .inl (cI, 600, .inl f))] s.heap := hP
  have hl := lv_entry ([.ref hp, .ref hrd]) (n := 5) (Nat.le_of_ble_eq_true rfl)
  rw [lg_entry_eq]
  generalize (lg_sl ([.ref hp, .ref hrd]) ++ List.replicate (5 - (lg_sl ([.ref hp, .ref hrd])).length) Slot.unset).toArray = ls at hl ⊢
  have hl : lv_has ls 5 [(0, .ref hp), (1, .ref hrd)] := hl
  refine lv_aload_n hx hb dX4_readFrom_0 rfl (lv_at hl 0 rfl) ?_
  refine lv_iconst (v := 1) hx hb dX4_readFrom_1 (by decide) ?_
  refine lv_aload_n hx hb dX4_readFrom_2 rfl (lv_at hl 1 rfl) ?_
  refine lv_iconst (v := 2) hx hb dX4_readFrom_3 (by decide) ?_
  have hPc := hP.sub (ws' := [(hrd, .inr (0, [.ref ho, .int va, .int rg, .int sh, .int nx])), (ho, .inr (3, [.ref hh, .int sz])), (hh, .inl (cI, 600, .inl f))]) [11, 12, 13] rfl
  have hDc := hD.sub (ws' := [(hrd, .inr (0, [.ref ho, .int va, .int rg, .int sh, .int nx])), (ho, .inr (3, [.ref hh, .int sz])), (hh, .inl (cI, 600, .inl f))]) [11, 12, 13] (by decide) rfl
  have hFc := va_free (wc := [(hrd, .inr (0, [.ref ho, .int va, .int rg, .int sh, .int nx])), (ho, .inr (3, [.ref hh, .int sz])), (hh, .inl (cI, 600, .inl f))]) hD hS hA [11, 12, 13] rfl
  refine va_calli (va_runV (As := [.int 2]) (rest := [.int 1, .ref hp]) ⟨hx, hb, hml, hown, hts⟩ (c_X0_readNumber l D cI cJ cZ hrd ho hh va rg sh nx sz f 2 brg bsh bsz (kB_w kc_2 (by decide) (by decide)) (s.heap).size) (cwV 1 hts (kg_V mk_146 mk_39 mk_40 mk_23 mk_41) rfl rfl rfl (by decide +kernel) ⟨Nat.le_of_ble_eq_true rfl, Nat.le_of_ble_eq_true rfl⟩) ⟨fun a U g mk q => by obtain ⟨q0, q1, qP, qK, qD⟩ := q; exact ⟨q0, q1, qP, kK.call qK, qD⟩, va_recv hK.1 hPc (ci := 0) (q0 := 0) rfl rfl, fun U hU hW => ⟨rfl, by rw [hU], by rw [hU]; exact hPc, kK.warm hW hK, hDc.weaken (fun _ _ _ _ => trivial)⟩⟩ rfl rfl hl.1 rfl (lv_room (Nat.le_of_ble_eq_true rfl)) dX4_readFrom_4 ⟨Nat.zero_le _, Nat.zero_le _⟩) hS (fun q _ h => hFc q h) hFc (fun r4 u t9 H1 locs ht9 hvm9 hw9 hB9 hz9 hk9 hS => ?_)
  obtain ⟨va2_4, rg2_4, sh2_4, nx2_4⟩ := u
  obtain ⟨hP1, hD1⟩ := hB9
  rw [ht9] at hP1
  have hP1 : va_P D vwCl [(hrd, .inr (0, [.ref ho, .int va2_4, .int rg2_4, .int sh2_4, .int nx2_4])), (ho, .inr (3, [.ref hh, .int sz])), (hh, .inl (cI, 600, .inl f))] H1 := hP1
  obtain ⟨hP, hD⟩ := va_join (wr := [(hp, .inr (4, [.ref ht, .ref htr, .ref hpl, .ref hw, .ref hcr, .ref hco, .ref hhs, .int cols, .int rows, .int q, .int lev, .int ta, .int ob, .int fch])), (ht, .inr (2, [.ref hpr])), (hpr, .inl (cI, 264, .inl pr)), (htr, .inr (6, [.ref hg])), (hg, .inl (cJ, 16, .inr (.inl g))), (hpl, .inr (5, [.ref hs])), (hs, .inl (cI, 256, .inl sm)), (hw, .inl (cI, 16, .inl wy)), (hcr, .inl (cI, 16, .inl cr)), (hco, .inl (cI, 256, .inl co)), (hhs, .inl (cZ, 16, .inl hb_))]) (w1 := [(hrd, .inr (0, [.ref ho, .int va2_4, .int rg2_4, .int sh2_4, .int nx2_4])), (ho, .inr (3, [.ref hh, .int sz])), (hh, .inl (cI, 600, .inl f))]) hP hD [11, 12, 13] [0, 1, 2, 3, 4, 5, 6, 7, 8, 9, 10] rfl rfl (by decide) (by decide) hk9 hFc hP1 hD1
  have hP := hP.sub (ws' := [(hp, .inr (4, [.ref ht, .ref htr, .ref hpl, .ref hw, .ref hcr, .ref hco, .ref hhs, .int cols, .int rows, .int q, .int lev, .int ta, .int ob, .int fch])), (ht, .inr (2, [.ref hpr])), (hpr, .inl (cI, 264, .inl pr)), (htr, .inr (6, [.ref hg])), (hg, .inl (cJ, 16, .inr (.inl g))), (hpl, .inr (5, [.ref hs])), (hs, .inl (cI, 256, .inl sm)), (hw, .inl (cI, 16, .inl wy)), (hcr, .inl (cI, 16, .inl cr)), (hco, .inl (cI, 256, .inl co)), (hhs, .inl (cZ, 16, .inl hb_)), (hrd, .inr (0, [.ref ho, .int va2_4, .int rg2_4, .int sh2_4, .int nx2_4])), (ho, .inr (3, [.ref hh, .int sz])), (hh, .inl (cI, 600, .inl f))]) [0, 1, 2, 3, 4, 5, 6, 7, 8, 9, 10, 11, 12, 13] rfl
  have hD := hD.sub (ws' := [(hp, .inr (4, [.ref ht, .ref htr, .ref hpl, .ref hw, .ref hcr, .ref hco, .ref hhs, .int cols, .int rows, .int q, .int lev, .int ta, .int ob, .int fch])), (ht, .inr (2, [.ref hpr])), (hpr, .inl (cI, 264, .inl pr)), (htr, .inr (6, [.ref hg])), (hg, .inl (cJ, 16, .inr (.inl g))), (hpl, .inr (5, [.ref hs])), (hs, .inl (cI, 256, .inl sm)), (hw, .inl (cI, 16, .inl wy)), (hcr, .inl (cI, 16, .inl cr)), (hco, .inl (cI, 256, .inl co)), (hhs, .inl (cZ, 16, .inl hb_)), (hrd, .inr (0, [.ref ho, .int va2_4, .int rg2_4, .int sh2_4, .int nx2_4])), (ho, .inr (3, [.ref hh, .int sz])), (hh, .inl (cI, 600, .inl f))]) [0, 1, 2, 3, 4, 5, 6, 7, 8, 9, 10, 11, 12, 13] (by decide) rfl
  generalize H1 = H at hP hS ⊢
  obtain ⟨q4_0, q4_1, q4_2, q4_3⟩ := hw9
  have q4_0 : kB rg2_4 128 255 := q4_0
  have q4_1 : kB sh2_4 0 7 := q4_1
  have q4_2 : 0 ≤ r4.toInt ∧ r4.toInt < pw2 (2 : Int32).toInt := q4_2
  have q4_3 : kIf ((2 : Int32).toInt = 2 ∧ 0 ≤ va.toInt ∧ va.toInt ≤ 500000 ∧ sh.toInt ≤ 4) ((r4.toInt, va2_4.toInt, rg2_4.toInt, sh2_4.toInt) = rI 2 (0, va.toInt, rg.toInt, sh.toInt)) := q4_3
  have B4 : kB r4 0 3 := kn_w q4_2 (k := 4) (by decide) (by decide)
  refine lv_iadd hx hb dX4_readFrom_7 ?_
  refine lv_topi (fun v7 e7 => ?_)
  have b7 : kB v7 1 4 := kB_eq e7 (kB_add kc_1 B4 (by decide))
  have E7 : kIf (0 ≤ va.toInt ∧ va.toInt ≤ 65535 ∧ rg.toInt = 255 ∧ sh.toInt = 0) (v7.toInt = rCol va.toInt ∧ (va2_4.toInt, rg2_4.toInt, sh2_4.toInt) = (rI 2 (0, va.toInt, 255, 0)).2) := fun h9 => by have h8 := q4_3 ⟨by decide, h9.1, by omega, by omega⟩; rw [h9.2.2.1, h9.2.2.2] at h8; refine ⟨?_, congrArg Prod.snd h8⟩; rw [e7, kI_add (by rw [show (1 : Int32).toInt = 1 from by decide]; have := B4.1; omega) (by rw [show (1 : Int32).toInt = 1 from by decide]; have := B4.2; omega), show (1 : Int32).toInt = 1 from by decide]; unfold rCol; rw [← h8]
  refine va_put (D := D) (ci := 4) (v := .int v7) (ty := .int) (C := RX4) (T := TX4) (N := 14) hx hb hts in_X4 tyX4 tyX4_ok nmX4 hown hK.1 hP hD hS 0 rfl rfl 7 (by decide) (hts _ mk_114) (fun _ h9 => h9) rfl (by decide +kernel) rfl rfl (Nat.le_of_ble_eq_true rfl) dX4_readFrom_8 (fun H locs hP hD hS => ?_)
  have hP : va_P D vwCl [(hp, .inr (4, [.ref ht, .ref htr, .ref hpl, .ref hw, .ref hcr, .ref hco, .ref hhs, .int v7, .int rows, .int q, .int lev, .int ta, .int ob, .int fch])), (ht, .inr (2, [.ref hpr])), (hpr, .inl (cI, 264, .inl pr)), (htr, .inr (6, [.ref hg])), (hg, .inl (cJ, 16, .inr (.inl g))), (hpl, .inr (5, [.ref hs])), (hs, .inl (cI, 256, .inl sm)), (hw, .inl (cI, 16, .inl wy)), (hcr, .inl (cI, 16, .inl cr)), (hco, .inl (cI, 256, .inl co)), (hhs, .inl (cZ, 16, .inl hb_)), (hrd, .inr (0, [.ref ho, .int va2_4, .int rg2_4, .int sh2_4, .int nx2_4])), (ho, .inr (3, [.ref hh, .int sz])), (hh, .inl (cI, 600, .inl f))] H := hP
  have hD : va_D A [(hp, .inr (4, [.ref ht, .ref htr, .ref hpl, .ref hw, .ref hcr, .ref hco, .ref hhs, .int v7, .int rows, .int q, .int lev, .int ta, .int ob, .int fch])), (ht, .inr (2, [.ref hpr])), (hpr, .inl (cI, 264, .inl pr)), (htr, .inr (6, [.ref hg])), (hg, .inl (cJ, 16, .inr (.inl g))), (hpl, .inr (5, [.ref hs])), (hs, .inl (cI, 256, .inl sm)), (hw, .inl (cI, 16, .inl wy)), (hcr, .inl (cI, 16, .inl cr)), (hco, .inl (cI, 256, .inl co)), (hhs, .inl (cZ, 16, .inl hb_)), (hrd, .inr (0, [.ref ho, .int va2_4, .int rg2_4, .int sh2_4, .int nx2_4])), (ho, .inr (3, [.ref hh, .int sz])), (hh, .inl (cI, 600, .inl f))] := hD
  refine lv_aload_n hx hb dX4_readFrom_11 rfl (lv_at hl 0 rfl) ?_
  refine lv_iconst (v := 1) hx hb dX4_readFrom_12 (by decide) ?_
  refine lv_aload_n hx hb dX4_readFrom_13 rfl (lv_at hl 1 rfl) ?_
  refine lv_iconst (v := 2) hx hb dX4_readFrom_14 (by decide) ?_
  have hPc := hP.sub (ws' := [(hrd, .inr (0, [.ref ho, .int va2_4, .int rg2_4, .int sh2_4, .int nx2_4])), (ho, .inr (3, [.ref hh, .int sz])), (hh, .inl (cI, 600, .inl f))]) [11, 12, 13] rfl
  have hDc := hD.sub (ws' := [(hrd, .inr (0, [.ref ho, .int va2_4, .int rg2_4, .int sh2_4, .int nx2_4])), (ho, .inr (3, [.ref hh, .int sz])), (hh, .inl (cI, 600, .inl f))]) [11, 12, 13] (by decide) rfl
  have hFc := va_free (wc := [(hrd, .inr (0, [.ref ho, .int va2_4, .int rg2_4, .int sh2_4, .int nx2_4])), (ho, .inr (3, [.ref hh, .int sz])), (hh, .inl (cI, 600, .inl f))]) hD hS hA [11, 12, 13] rfl
  refine va_calli (va_runV (As := [.int 2]) (rest := [.int 1, .ref hp]) ⟨hx, hb, hml, hown, hts⟩ (c_X0_readNumber l D cI cJ cZ hrd ho hh va2_4 rg2_4 sh2_4 nx2_4 sz f 2 q4_0 q4_1 bsz (kB_w kc_2 (by decide) (by decide)) (H).size) (cwV 1 hts (kg_V mk_146 mk_39 mk_40 mk_23 mk_41) rfl rfl rfl (by decide +kernel) ⟨Nat.le_of_ble_eq_true rfl, Nat.le_of_ble_eq_true rfl⟩) ⟨fun a U g mk q => by obtain ⟨q0, q1, qP, qK, qD⟩ := q; exact ⟨q0, q1, qP, kK.call qK, qD⟩, va_recv hK.1 hPc (ci := 0) (q0 := 0) rfl rfl, fun U hU hW => ⟨rfl, by rw [hU], by rw [hU]; exact hPc, kK.warm hW hK, hDc.weaken (fun _ _ _ _ => trivial)⟩⟩ rfl rfl hl.1 rfl (lv_room (Nat.le_of_ble_eq_true rfl)) dX4_readFrom_15 ⟨Nat.zero_le _, Nat.zero_le _⟩) hS (fun q _ h => hFc q h) hFc (fun r15 u t9 H1 locs ht9 hvm9 hw9 hB9 hz9 hk9 hS => ?_)
  obtain ⟨va2_15, rg2_15, sh2_15, nx2_15⟩ := u
  obtain ⟨hP1, hD1⟩ := hB9
  rw [ht9] at hP1
  have hP1 : va_P D vwCl [(hrd, .inr (0, [.ref ho, .int va2_15, .int rg2_15, .int sh2_15, .int nx2_15])), (ho, .inr (3, [.ref hh, .int sz])), (hh, .inl (cI, 600, .inl f))] H1 := hP1
  obtain ⟨hP, hD⟩ := va_join (wr := [(hp, .inr (4, [.ref ht, .ref htr, .ref hpl, .ref hw, .ref hcr, .ref hco, .ref hhs, .int v7, .int rows, .int q, .int lev, .int ta, .int ob, .int fch])), (ht, .inr (2, [.ref hpr])), (hpr, .inl (cI, 264, .inl pr)), (htr, .inr (6, [.ref hg])), (hg, .inl (cJ, 16, .inr (.inl g))), (hpl, .inr (5, [.ref hs])), (hs, .inl (cI, 256, .inl sm)), (hw, .inl (cI, 16, .inl wy)), (hcr, .inl (cI, 16, .inl cr)), (hco, .inl (cI, 256, .inl co)), (hhs, .inl (cZ, 16, .inl hb_))]) (w1 := [(hrd, .inr (0, [.ref ho, .int va2_15, .int rg2_15, .int sh2_15, .int nx2_15])), (ho, .inr (3, [.ref hh, .int sz])), (hh, .inl (cI, 600, .inl f))]) hP hD [11, 12, 13] [0, 1, 2, 3, 4, 5, 6, 7, 8, 9, 10] rfl rfl (by decide) (by decide) hk9 hFc hP1 hD1
  have hP := hP.sub (ws' := [(hp, .inr (4, [.ref ht, .ref htr, .ref hpl, .ref hw, .ref hcr, .ref hco, .ref hhs, .int v7, .int rows, .int q, .int lev, .int ta, .int ob, .int fch])), (ht, .inr (2, [.ref hpr])), (hpr, .inl (cI, 264, .inl pr)), (htr, .inr (6, [.ref hg])), (hg, .inl (cJ, 16, .inr (.inl g))), (hpl, .inr (5, [.ref hs])), (hs, .inl (cI, 256, .inl sm)), (hw, .inl (cI, 16, .inl wy)), (hcr, .inl (cI, 16, .inl cr)), (hco, .inl (cI, 256, .inl co)), (hhs, .inl (cZ, 16, .inl hb_)), (hrd, .inr (0, [.ref ho, .int va2_15, .int rg2_15, .int sh2_15, .int nx2_15])), (ho, .inr (3, [.ref hh, .int sz])), (hh, .inl (cI, 600, .inl f))]) [0, 1, 2, 3, 4, 5, 6, 7, 8, 9, 10, 11, 12, 13] rfl
  have hD := hD.sub (ws' := [(hp, .inr (4, [.ref ht, .ref htr, .ref hpl, .ref hw, .ref hcr, .ref hco, .ref hhs, .int v7, .int rows, .int q, .int lev, .int ta, .int ob, .int fch])), (ht, .inr (2, [.ref hpr])), (hpr, .inl (cI, 264, .inl pr)), (htr, .inr (6, [.ref hg])), (hg, .inl (cJ, 16, .inr (.inl g))), (hpl, .inr (5, [.ref hs])), (hs, .inl (cI, 256, .inl sm)), (hw, .inl (cI, 16, .inl wy)), (hcr, .inl (cI, 16, .inl cr)), (hco, .inl (cI, 256, .inl co)), (hhs, .inl (cZ, 16, .inl hb_)), (hrd, .inr (0, [.ref ho, .int va2_15, .int rg2_15, .int sh2_15, .int nx2_15])), (ho, .inr (3, [.ref hh, .int sz])), (hh, .inl (cI, 600, .inl f))]) [0, 1, 2, 3, 4, 5, 6, 7, 8, 9, 10, 11, 12, 13] (by decide) rfl
  generalize H1 = H at hP hS ⊢
  obtain ⟨q15_0, q15_1, q15_2, q15_3⟩ := hw9
  have q15_0 : kB rg2_15 128 255 := q15_0
  have q15_1 : kB sh2_15 0 7 := q15_1
  have q15_2 : 0 ≤ r15.toInt ∧ r15.toInt < pw2 (2 : Int32).toInt := q15_2
  have q15_3 : kIf ((2 : Int32).toInt = 2 ∧ 0 ≤ va2_4.toInt ∧ va2_4.toInt ≤ 500000 ∧ sh2_4.toInt ≤ 4) ((r15.toInt, va2_15.toInt, rg2_15.toInt, sh2_15.toInt) = rI 2 (0, va2_4.toInt, rg2_4.toInt, sh2_4.toInt)) := q15_3
  have B15 : kB r15 0 3 := kn_w q15_2 (k := 4) (by decide) (by decide)
  refine lv_iadd hx hb dX4_readFrom_18 ?_
  refine lv_topi (fun v18 e18 => ?_)
  have b18 : kB v18 1 4 := kB_eq e18 (kB_add kc_1 B15 (by decide))
  have E18 : kIf (0 ≤ va.toInt ∧ va.toInt ≤ 65535 ∧ rg.toInt = 255 ∧ sh.toInt = 0) (v18.toInt = rRow va.toInt) := fun h9 => by have h8 := (E7 h9).2; have h7 := rI2_in (c := 0) h9.1 (show (128 : Int) ≤ 255 by decide) (by decide); rw [← h8] at h7; have h6 := q15_3 ⟨by decide, h7.1, by have := h7.2.1; omega, by have h5 : sh2_4.toInt ≤ 0 + 2 := h7.2.2; omega⟩; rw [e18, kI_add (by rw [show (1 : Int32).toInt = 1 from by decide]; have := B15.1; omega) (by rw [show (1 : Int32).toInt = 1 from by decide]; have := B15.2; omega), show (1 : Int32).toInt = 1 from by decide]; unfold rRow; rw [← h8, ← h6]
  have HC9 : kIf (0 ≤ va.toInt ∧ va.toInt ≤ 65535 ∧ rg.toInt = 255 ∧ sh.toInt = 0) (v7.toInt = rCol va.toInt ∧ v18.toInt = rRow va.toInt) := fun h9 => ⟨(E7 h9).1, E18 h9⟩
  refine va_put (D := D) (ci := 4) (v := .int v18) (ty := .int) (C := RX4) (T := TX4) (N := 14) hx hb hts in_X4 tyX4 tyX4_ok nmX4 hown hK.1 hP hD hS 0 rfl rfl 8 (by decide) (hts _ mk_115) (fun _ h9 => h9) rfl (by decide +kernel) rfl rfl (Nat.le_of_ble_eq_true rfl) dX4_readFrom_19 (fun H locs hP hD hS => ?_)
  have hP : va_P D vwCl [(hp, .inr (4, [.ref ht, .ref htr, .ref hpl, .ref hw, .ref hcr, .ref hco, .ref hhs, .int v7, .int v18, .int q, .int lev, .int ta, .int ob, .int fch])), (ht, .inr (2, [.ref hpr])), (hpr, .inl (cI, 264, .inl pr)), (htr, .inr (6, [.ref hg])), (hg, .inl (cJ, 16, .inr (.inl g))), (hpl, .inr (5, [.ref hs])), (hs, .inl (cI, 256, .inl sm)), (hw, .inl (cI, 16, .inl wy)), (hcr, .inl (cI, 16, .inl cr)), (hco, .inl (cI, 256, .inl co)), (hhs, .inl (cZ, 16, .inl hb_)), (hrd, .inr (0, [.ref ho, .int va2_15, .int rg2_15, .int sh2_15, .int nx2_15])), (ho, .inr (3, [.ref hh, .int sz])), (hh, .inl (cI, 600, .inl f))] H := hP
  have hD : va_D A [(hp, .inr (4, [.ref ht, .ref htr, .ref hpl, .ref hw, .ref hcr, .ref hco, .ref hhs, .int v7, .int v18, .int q, .int lev, .int ta, .int ob, .int fch])), (ht, .inr (2, [.ref hpr])), (hpr, .inl (cI, 264, .inl pr)), (htr, .inr (6, [.ref hg])), (hg, .inl (cJ, 16, .inr (.inl g))), (hpl, .inr (5, [.ref hs])), (hs, .inl (cI, 256, .inl sm)), (hw, .inl (cI, 16, .inl wy)), (hcr, .inl (cI, 16, .inl cr)), (hco, .inl (cI, 256, .inl co)), (hhs, .inl (cZ, 16, .inl hb_)), (hrd, .inr (0, [.ref ho, .int va2_15, .int rg2_15, .int sh2_15, .int nx2_15])), (ho, .inr (3, [.ref hh, .int sz])), (hh, .inl (cI, 600, .inl f))] := hD
  refine lv_aload_n hx hb dX4_readFrom_22 rfl (lv_at hl 0 rfl) ?_
  refine lv_aload_n hx hb dX4_readFrom_23 rfl (lv_at hl 1 rfl) ?_
  refine lv_bipush (v := 7) hx hb dX4_readFrom_24 (by decide) ?_
  have hPc := hP.sub (ws' := [(hrd, .inr (0, [.ref ho, .int va2_15, .int rg2_15, .int sh2_15, .int nx2_15])), (ho, .inr (3, [.ref hh, .int sz])), (hh, .inl (cI, 600, .inl f))]) [11, 12, 13] rfl
  have hDc := hD.sub (ws' := [(hrd, .inr (0, [.ref ho, .int va2_15, .int rg2_15, .int sh2_15, .int nx2_15])), (ho, .inr (3, [.ref hh, .int sz])), (hh, .inl (cI, 600, .inl f))]) [11, 12, 13] (by decide) rfl
  have hFc := va_free (wc := [(hrd, .inr (0, [.ref ho, .int va2_15, .int rg2_15, .int sh2_15, .int nx2_15])), (ho, .inr (3, [.ref hh, .int sz])), (hh, .inl (cI, 600, .inl f))]) hD hS hA [11, 12, 13] rfl
  refine va_calli (va_runV (As := [.int 7]) (rest := [.ref hp]) ⟨hx, hb, hml, hown, hts⟩ (c_X0_readNumber l D cI cJ cZ hrd ho hh va2_15 rg2_15 sh2_15 nx2_15 sz f 7 q15_0 q15_1 bsz (kB_w kc_7 (by decide) (by decide)) (H).size) (cwV 1 hts (kg_V mk_146 mk_39 mk_40 mk_23 mk_41) rfl rfl rfl (by decide +kernel) ⟨Nat.le_of_ble_eq_true rfl, Nat.le_of_ble_eq_true rfl⟩) ⟨fun a U g mk q => by obtain ⟨q0, q1, qP, qK, qD⟩ := q; exact ⟨q0, q1, qP, kK.call qK, qD⟩, va_recv hK.1 hPc (ci := 0) (q0 := 0) rfl rfl, fun U hU hW => ⟨rfl, by rw [hU], by rw [hU]; exact hPc, kK.warm hW hK, hDc.weaken (fun _ _ _ _ => trivial)⟩⟩ rfl rfl hl.1 rfl (lv_room (Nat.le_of_ble_eq_true rfl)) dX4_readFrom_26 ⟨Nat.zero_le _, Nat.zero_le _⟩) hS (fun q _ h => hFc q h) hFc (fun r26 u t9 H1 locs ht9 hvm9 hw9 hB9 hz9 hk9 hS => ?_)
  obtain ⟨va2_26, rg2_26, sh2_26, nx2_26⟩ := u
  obtain ⟨hP1, hD1⟩ := hB9
  rw [ht9] at hP1
  have hP1 : va_P D vwCl [(hrd, .inr (0, [.ref ho, .int va2_26, .int rg2_26, .int sh2_26, .int nx2_26])), (ho, .inr (3, [.ref hh, .int sz])), (hh, .inl (cI, 600, .inl f))] H1 := hP1
  obtain ⟨hP, hD⟩ := va_join (wr := [(hp, .inr (4, [.ref ht, .ref htr, .ref hpl, .ref hw, .ref hcr, .ref hco, .ref hhs, .int v7, .int v18, .int q, .int lev, .int ta, .int ob, .int fch])), (ht, .inr (2, [.ref hpr])), (hpr, .inl (cI, 264, .inl pr)), (htr, .inr (6, [.ref hg])), (hg, .inl (cJ, 16, .inr (.inl g))), (hpl, .inr (5, [.ref hs])), (hs, .inl (cI, 256, .inl sm)), (hw, .inl (cI, 16, .inl wy)), (hcr, .inl (cI, 16, .inl cr)), (hco, .inl (cI, 256, .inl co)), (hhs, .inl (cZ, 16, .inl hb_))]) (w1 := [(hrd, .inr (0, [.ref ho, .int va2_26, .int rg2_26, .int sh2_26, .int nx2_26])), (ho, .inr (3, [.ref hh, .int sz])), (hh, .inl (cI, 600, .inl f))]) hP hD [11, 12, 13] [0, 1, 2, 3, 4, 5, 6, 7, 8, 9, 10] rfl rfl (by decide) (by decide) hk9 hFc hP1 hD1
  have hP := hP.sub (ws' := [(hp, .inr (4, [.ref ht, .ref htr, .ref hpl, .ref hw, .ref hcr, .ref hco, .ref hhs, .int v7, .int v18, .int q, .int lev, .int ta, .int ob, .int fch])), (ht, .inr (2, [.ref hpr])), (hpr, .inl (cI, 264, .inl pr)), (htr, .inr (6, [.ref hg])), (hg, .inl (cJ, 16, .inr (.inl g))), (hpl, .inr (5, [.ref hs])), (hs, .inl (cI, 256, .inl sm)), (hw, .inl (cI, 16, .inl wy)), (hcr, .inl (cI, 16, .inl cr)), (hco, .inl (cI, 256, .inl co)), (hhs, .inl (cZ, 16, .inl hb_)), (hrd, .inr (0, [.ref ho, .int va2_26, .int rg2_26, .int sh2_26, .int nx2_26])), (ho, .inr (3, [.ref hh, .int sz])), (hh, .inl (cI, 600, .inl f))]) [0, 1, 2, 3, 4, 5, 6, 7, 8, 9, 10, 11, 12, 13] rfl
  have hD := hD.sub (ws' := [(hp, .inr (4, [.ref ht, .ref htr, .ref hpl, .ref hw, .ref hcr, .ref hco, .ref hhs, .int v7, .int v18, .int q, .int lev, .int ta, .int ob, .int fch])), (ht, .inr (2, [.ref hpr])), (hpr, .inl (cI, 264, .inl pr)), (htr, .inr (6, [.ref hg])), (hg, .inl (cJ, 16, .inr (.inl g))), (hpl, .inr (5, [.ref hs])), (hs, .inl (cI, 256, .inl sm)), (hw, .inl (cI, 16, .inl wy)), (hcr, .inl (cI, 16, .inl cr)), (hco, .inl (cI, 256, .inl co)), (hhs, .inl (cZ, 16, .inl hb_)), (hrd, .inr (0, [.ref ho, .int va2_26, .int rg2_26, .int sh2_26, .int nx2_26])), (ho, .inr (3, [.ref hh, .int sz])), (hh, .inl (cI, 600, .inl f))]) [0, 1, 2, 3, 4, 5, 6, 7, 8, 9, 10, 11, 12, 13] (by decide) rfl
  generalize H1 = H at hP hS ⊢
  obtain ⟨q26_0, q26_1, q26_2, q26_3⟩ := hw9
  have q26_0 : kB rg2_26 128 255 := q26_0
  have q26_1 : kB sh2_26 0 7 := q26_1
  have q26_2 : 0 ≤ r26.toInt ∧ r26.toInt < pw2 (7 : Int32).toInt := q26_2
  have q26_3 : kIf ((7 : Int32).toInt = 2 ∧ 0 ≤ va2_15.toInt ∧ va2_15.toInt ≤ 500000 ∧ sh2_15.toInt ≤ 4) ((r26.toInt, va2_26.toInt, rg2_26.toInt, sh2_26.toInt) = rI 2 (0, va2_15.toInt, rg2_15.toInt, sh2_15.toInt)) := q26_3
  refine va_put (D := D) (ci := 4) (v := .int r26) (ty := .int) (C := RX4) (T := TX4) (N := 14) hx hb hts in_X4 tyX4 tyX4_ok nmX4 hown hK.1 hP hD hS 0 rfl rfl 9 (by decide) (hts _ mk_133) (fun _ h9 => h9) rfl (by decide +kernel) rfl rfl (Nat.le_of_ble_eq_true rfl) dX4_readFrom_29 (fun H locs hP hD hS => ?_)
  have hP : va_P D vwCl [(hp, .inr (4, [.ref ht, .ref htr, .ref hpl, .ref hw, .ref hcr, .ref hco, .ref hhs, .int v7, .int v18, .int r26, .int lev, .int ta, .int ob, .int fch])), (ht, .inr (2, [.ref hpr])), (hpr, .inl (cI, 264, .inl pr)), (htr, .inr (6, [.ref hg])), (hg, .inl (cJ, 16, .inr (.inl g))), (hpl, .inr (5, [.ref hs])), (hs, .inl (cI, 256, .inl sm)), (hw, .inl (cI, 16, .inl wy)), (hcr, .inl (cI, 16, .inl cr)), (hco, .inl (cI, 256, .inl co)), (hhs, .inl (cZ, 16, .inl hb_)), (hrd, .inr (0, [.ref ho, .int va2_26, .int rg2_26, .int sh2_26, .int nx2_26])), (ho, .inr (3, [.ref hh, .int sz])), (hh, .inl (cI, 600, .inl f))] H := hP
  have hD : va_D A [(hp, .inr (4, [.ref ht, .ref htr, .ref hpl, .ref hw, .ref hcr, .ref hco, .ref hhs, .int v7, .int v18, .int r26, .int lev, .int ta, .int ob, .int fch])), (ht, .inr (2, [.ref hpr])), (hpr, .inl (cI, 264, .inl pr)), (htr, .inr (6, [.ref hg])), (hg, .inl (cJ, 16, .inr (.inl g))), (hpl, .inr (5, [.ref hs])), (hs, .inl (cI, 256, .inl sm)), (hw, .inl (cI, 16, .inl wy)), (hcr, .inl (cI, 16, .inl cr)), (hco, .inl (cI, 256, .inl co)), (hhs, .inl (cZ, 16, .inl hb_)), (hrd, .inr (0, [.ref ho, .int va2_26, .int rg2_26, .int sh2_26, .int nx2_26])), (ho, .inr (3, [.ref hh, .int sz])), (hh, .inl (cI, 600, .inl f))] := hD
  refine lv_aload_n hx hb dX4_readFrom_32 rfl (lv_at hl 0 rfl) ?_
  refine lv_aload_n hx hb dX4_readFrom_33 rfl (lv_at hl 1 rfl) ?_
  refine lv_bipush (v := 6) hx hb dX4_readFrom_34 (by decide) ?_
  have hPc := hP.sub (ws' := [(hrd, .inr (0, [.ref ho, .int va2_26, .int rg2_26, .int sh2_26, .int nx2_26])), (ho, .inr (3, [.ref hh, .int sz])), (hh, .inl (cI, 600, .inl f))]) [11, 12, 13] rfl
  have hDc := hD.sub (ws' := [(hrd, .inr (0, [.ref ho, .int va2_26, .int rg2_26, .int sh2_26, .int nx2_26])), (ho, .inr (3, [.ref hh, .int sz])), (hh, .inl (cI, 600, .inl f))]) [11, 12, 13] (by decide) rfl
  have hFc := va_free (wc := [(hrd, .inr (0, [.ref ho, .int va2_26, .int rg2_26, .int sh2_26, .int nx2_26])), (ho, .inr (3, [.ref hh, .int sz])), (hh, .inl (cI, 600, .inl f))]) hD hS hA [11, 12, 13] rfl
  refine va_calli (va_runV (As := [.int 6]) (rest := [.ref hp]) ⟨hx, hb, hml, hown, hts⟩ (c_X0_readNumber l D cI cJ cZ hrd ho hh va2_26 rg2_26 sh2_26 nx2_26 sz f 6 q26_0 q26_1 bsz (kB_w kc_6 (by decide) (by decide)) (H).size) (cwV 1 hts (kg_V mk_146 mk_39 mk_40 mk_23 mk_41) rfl rfl rfl (by decide +kernel) ⟨Nat.le_of_ble_eq_true rfl, Nat.le_of_ble_eq_true rfl⟩) ⟨fun a U g mk q => by obtain ⟨q0, q1, qP, qK, qD⟩ := q; exact ⟨q0, q1, qP, kK.call qK, qD⟩, va_recv hK.1 hPc (ci := 0) (q0 := 0) rfl rfl, fun U hU hW => ⟨rfl, by rw [hU], by rw [hU]; exact hPc, kK.warm hW hK, hDc.weaken (fun _ _ _ _ => trivial)⟩⟩ rfl rfl hl.1 rfl (lv_room (Nat.le_of_ble_eq_true rfl)) dX4_readFrom_36 ⟨Nat.zero_le _, Nat.zero_le _⟩) hS (fun q _ h => hFc q h) hFc (fun r36 u t9 H1 locs ht9 hvm9 hw9 hB9 hz9 hk9 hS => ?_)
  obtain ⟨va2_36, rg2_36, sh2_36, nx2_36⟩ := u
  obtain ⟨hP1, hD1⟩ := hB9
  rw [ht9] at hP1
  have hP1 : va_P D vwCl [(hrd, .inr (0, [.ref ho, .int va2_36, .int rg2_36, .int sh2_36, .int nx2_36])), (ho, .inr (3, [.ref hh, .int sz])), (hh, .inl (cI, 600, .inl f))] H1 := hP1
  obtain ⟨hP, hD⟩ := va_join (wr := [(hp, .inr (4, [.ref ht, .ref htr, .ref hpl, .ref hw, .ref hcr, .ref hco, .ref hhs, .int v7, .int v18, .int r26, .int lev, .int ta, .int ob, .int fch])), (ht, .inr (2, [.ref hpr])), (hpr, .inl (cI, 264, .inl pr)), (htr, .inr (6, [.ref hg])), (hg, .inl (cJ, 16, .inr (.inl g))), (hpl, .inr (5, [.ref hs])), (hs, .inl (cI, 256, .inl sm)), (hw, .inl (cI, 16, .inl wy)), (hcr, .inl (cI, 16, .inl cr)), (hco, .inl (cI, 256, .inl co)), (hhs, .inl (cZ, 16, .inl hb_))]) (w1 := [(hrd, .inr (0, [.ref ho, .int va2_36, .int rg2_36, .int sh2_36, .int nx2_36])), (ho, .inr (3, [.ref hh, .int sz])), (hh, .inl (cI, 600, .inl f))]) hP hD [11, 12, 13] [0, 1, 2, 3, 4, 5, 6, 7, 8, 9, 10] rfl rfl (by decide) (by decide) hk9 hFc hP1 hD1
  have hP := hP.sub (ws' := [(hp, .inr (4, [.ref ht, .ref htr, .ref hpl, .ref hw, .ref hcr, .ref hco, .ref hhs, .int v7, .int v18, .int r26, .int lev, .int ta, .int ob, .int fch])), (ht, .inr (2, [.ref hpr])), (hpr, .inl (cI, 264, .inl pr)), (htr, .inr (6, [.ref hg])), (hg, .inl (cJ, 16, .inr (.inl g))), (hpl, .inr (5, [.ref hs])), (hs, .inl (cI, 256, .inl sm)), (hw, .inl (cI, 16, .inl wy)), (hcr, .inl (cI, 16, .inl cr)), (hco, .inl (cI, 256, .inl co)), (hhs, .inl (cZ, 16, .inl hb_)), (hrd, .inr (0, [.ref ho, .int va2_36, .int rg2_36, .int sh2_36, .int nx2_36])), (ho, .inr (3, [.ref hh, .int sz])), (hh, .inl (cI, 600, .inl f))]) [0, 1, 2, 3, 4, 5, 6, 7, 8, 9, 10, 11, 12, 13] rfl
  have hD := hD.sub (ws' := [(hp, .inr (4, [.ref ht, .ref htr, .ref hpl, .ref hw, .ref hcr, .ref hco, .ref hhs, .int v7, .int v18, .int r26, .int lev, .int ta, .int ob, .int fch])), (ht, .inr (2, [.ref hpr])), (hpr, .inl (cI, 264, .inl pr)), (htr, .inr (6, [.ref hg])), (hg, .inl (cJ, 16, .inr (.inl g))), (hpl, .inr (5, [.ref hs])), (hs, .inl (cI, 256, .inl sm)), (hw, .inl (cI, 16, .inl wy)), (hcr, .inl (cI, 16, .inl cr)), (hco, .inl (cI, 256, .inl co)), (hhs, .inl (cZ, 16, .inl hb_)), (hrd, .inr (0, [.ref ho, .int va2_36, .int rg2_36, .int sh2_36, .int nx2_36])), (ho, .inr (3, [.ref hh, .int sz])), (hh, .inl (cI, 600, .inl f))]) [0, 1, 2, 3, 4, 5, 6, 7, 8, 9, 10, 11, 12, 13] (by decide) rfl
  generalize H1 = H at hP hS ⊢
  obtain ⟨q36_0, q36_1, q36_2, q36_3⟩ := hw9
  have q36_0 : kB rg2_36 128 255 := q36_0
  have q36_1 : kB sh2_36 0 7 := q36_1
  have q36_2 : 0 ≤ r36.toInt ∧ r36.toInt < pw2 (6 : Int32).toInt := q36_2
  have q36_3 : kIf ((6 : Int32).toInt = 2 ∧ 0 ≤ va2_26.toInt ∧ va2_26.toInt ≤ 500000 ∧ sh2_26.toInt ≤ 4) ((r36.toInt, va2_36.toInt, rg2_36.toInt, sh2_36.toInt) = rI 2 (0, va2_26.toInt, rg2_26.toInt, sh2_26.toInt)) := q36_3
  refine va_put (D := D) (ci := 4) (v := .int r36) (ty := .int) (C := RX4) (T := TX4) (N := 14) hx hb hts in_X4 tyX4 tyX4_ok nmX4 hown hK.1 hP hD hS 0 rfl rfl 10 (by decide) (hts _ mk_147) (fun _ h9 => h9) rfl (by decide +kernel) rfl rfl (Nat.le_of_ble_eq_true rfl) dX4_readFrom_39 (fun H locs hP hD hS => ?_)
  have hP : va_P D vwCl [(hp, .inr (4, [.ref ht, .ref htr, .ref hpl, .ref hw, .ref hcr, .ref hco, .ref hhs, .int v7, .int v18, .int r26, .int r36, .int ta, .int ob, .int fch])), (ht, .inr (2, [.ref hpr])), (hpr, .inl (cI, 264, .inl pr)), (htr, .inr (6, [.ref hg])), (hg, .inl (cJ, 16, .inr (.inl g))), (hpl, .inr (5, [.ref hs])), (hs, .inl (cI, 256, .inl sm)), (hw, .inl (cI, 16, .inl wy)), (hcr, .inl (cI, 16, .inl cr)), (hco, .inl (cI, 256, .inl co)), (hhs, .inl (cZ, 16, .inl hb_)), (hrd, .inr (0, [.ref ho, .int va2_36, .int rg2_36, .int sh2_36, .int nx2_36])), (ho, .inr (3, [.ref hh, .int sz])), (hh, .inl (cI, 600, .inl f))] H := hP
  have hD : va_D A [(hp, .inr (4, [.ref ht, .ref htr, .ref hpl, .ref hw, .ref hcr, .ref hco, .ref hhs, .int v7, .int v18, .int r26, .int r36, .int ta, .int ob, .int fch])), (ht, .inr (2, [.ref hpr])), (hpr, .inl (cI, 264, .inl pr)), (htr, .inr (6, [.ref hg])), (hg, .inl (cJ, 16, .inr (.inl g))), (hpl, .inr (5, [.ref hs])), (hs, .inl (cI, 256, .inl sm)), (hw, .inl (cI, 16, .inl wy)), (hcr, .inl (cI, 16, .inl cr)), (hco, .inl (cI, 256, .inl co)), (hhs, .inl (cZ, 16, .inl hb_)), (hrd, .inr (0, [.ref ho, .int va2_36, .int rg2_36, .int sh2_36, .int nx2_36])), (ho, .inr (3, [.ref hh, .int sz])), (hh, .inl (cI, 600, .inl f))] := hD
  refine lv_aload_n hx hb dX4_readFrom_42 rfl (lv_at hl 0 rfl) ?_
  refine lv_aload_n hx hb dX4_readFrom_43 rfl (lv_at hl 0 rfl) ?_
  refine va_get (D := D) (ci := 4) (v := .ref ht) (C := RX4) (T := TX4) (N := 14) hx hb hts in_X4 hown hK.1 hP 0 rfl rfl 0 (by decide) (hts _ mk_148) (fun _ h9 => h9) rfl dX4_readFrom_44 ?_
  refine lv_aload_n hx hb dX4_readFrom_47 rfl (lv_at hl 1 rfl) ?_
  have hPc := hP.sub (ws' := [(ht, .inr (2, [.ref hpr])), (hpr, .inl (cI, 264, .inl pr)), (hrd, .inr (0, [.ref ho, .int va2_36, .int rg2_36, .int sh2_36, .int nx2_36])), (ho, .inr (3, [.ref hh, .int sz])), (hh, .inl (cI, 600, .inl f))]) [1, 2, 11, 12, 13] rfl
  have hDc := hD.sub (ws' := [(ht, .inr (2, [.ref hpr])), (hpr, .inl (cI, 264, .inl pr)), (hrd, .inr (0, [.ref ho, .int va2_36, .int rg2_36, .int sh2_36, .int nx2_36])), (ho, .inr (3, [.ref hh, .int sz])), (hh, .inl (cI, 600, .inl f))]) [1, 2, 11, 12, 13] (by decide) rfl
  have hFc := va_free (wc := [(ht, .inr (2, [.ref hpr])), (hpr, .inl (cI, 264, .inl pr)), (hrd, .inr (0, [.ref ho, .int va2_36, .int rg2_36, .int sh2_36, .int nx2_36])), (ho, .inr (3, [.ref hh, .int sz])), (hh, .inl (cI, 600, .inl f))]) hD hS hA [1, 2, 11, 12, 13] rfl
  refine va_calli (va_runV (As := [.ref hrd]) (rest := [.ref hp]) ⟨hx, hb, hml, hown, hts⟩ (c_X2_readProbabilities l D cI cJ cZ ht hpr hrd ho hh va2_36 rg2_36 sh2_36 nx2_36 sz f pr q36_0 q36_1 bsz apr (H).size) (cwV 1 hts (kg_V mk_149 mk_150 mk_151 mk_49 mk_152) rfl rfl rfl (by decide +kernel) ⟨Nat.le_of_ble_eq_true rfl, Nat.le_of_ble_eq_true rfl⟩) ⟨fun a U g mk q => by obtain ⟨q0, q1, qP, qK, qD⟩ := q; exact ⟨q0, q1, qP, kK.call qK, qD⟩, va_recv hK.1 hPc (ci := 2) (q0 := 0) rfl rfl, fun U hU hW => ⟨rfl, by rw [hU], by rw [hU]; exact hPc, kK.warm hW hK, hDc.weaken (fun _ _ _ _ => trivial)⟩⟩ rfl rfl hl.1 rfl (lv_room (Nat.le_of_ble_eq_true rfl)) dX4_readFrom_48 ⟨Nat.zero_le _, Nat.zero_le _⟩) hS (fun q _ h => hFc q h) hFc (fun r48 u t9 H1 locs ht9 hvm9 hw9 hB9 hz9 hk9 hS => ?_)
  obtain ⟨va2_48, rg2_48, sh2_48, nx2_48, pr2_48⟩ := u
  obtain ⟨hP1, hD1⟩ := hB9
  rw [ht9] at hP1
  have hP1 : va_P D vwCl [(ht, .inr (2, [.ref hpr])), (hpr, .inl (cI, 264, .inl pr2_48)), (hrd, .inr (0, [.ref ho, .int va2_48, .int rg2_48, .int sh2_48, .int nx2_48])), (ho, .inr (3, [.ref hh, .int sz])), (hh, .inl (cI, 600, .inl f))] H1 := hP1
  obtain ⟨hP, hD⟩ := va_join (wr := [(hp, .inr (4, [.ref ht, .ref htr, .ref hpl, .ref hw, .ref hcr, .ref hco, .ref hhs, .int v7, .int v18, .int r26, .int r36, .int ta, .int ob, .int fch])), (htr, .inr (6, [.ref hg])), (hg, .inl (cJ, 16, .inr (.inl g))), (hpl, .inr (5, [.ref hs])), (hs, .inl (cI, 256, .inl sm)), (hw, .inl (cI, 16, .inl wy)), (hcr, .inl (cI, 16, .inl cr)), (hco, .inl (cI, 256, .inl co)), (hhs, .inl (cZ, 16, .inl hb_))]) (w1 := [(ht, .inr (2, [.ref hpr])), (hpr, .inl (cI, 264, .inl pr2_48)), (hrd, .inr (0, [.ref ho, .int va2_48, .int rg2_48, .int sh2_48, .int nx2_48])), (ho, .inr (3, [.ref hh, .int sz])), (hh, .inl (cI, 600, .inl f))]) hP hD [1, 2, 11, 12, 13] [0, 3, 4, 5, 6, 7, 8, 9, 10] rfl rfl (by decide) (by decide) hk9 hFc hP1 hD1
  have hP := hP.sub (ws' := [(hp, .inr (4, [.ref ht, .ref htr, .ref hpl, .ref hw, .ref hcr, .ref hco, .ref hhs, .int v7, .int v18, .int r26, .int r36, .int ta, .int ob, .int fch])), (ht, .inr (2, [.ref hpr])), (hpr, .inl (cI, 264, .inl pr2_48)), (htr, .inr (6, [.ref hg])), (hg, .inl (cJ, 16, .inr (.inl g))), (hpl, .inr (5, [.ref hs])), (hs, .inl (cI, 256, .inl sm)), (hw, .inl (cI, 16, .inl wy)), (hcr, .inl (cI, 16, .inl cr)), (hco, .inl (cI, 256, .inl co)), (hhs, .inl (cZ, 16, .inl hb_)), (hrd, .inr (0, [.ref ho, .int va2_48, .int rg2_48, .int sh2_48, .int nx2_48])), (ho, .inr (3, [.ref hh, .int sz])), (hh, .inl (cI, 600, .inl f))]) [0, 9, 10, 1, 2, 3, 4, 5, 6, 7, 8, 11, 12, 13] rfl
  have hD := hD.sub (ws' := [(hp, .inr (4, [.ref ht, .ref htr, .ref hpl, .ref hw, .ref hcr, .ref hco, .ref hhs, .int v7, .int v18, .int r26, .int r36, .int ta, .int ob, .int fch])), (ht, .inr (2, [.ref hpr])), (hpr, .inl (cI, 264, .inl pr2_48)), (htr, .inr (6, [.ref hg])), (hg, .inl (cJ, 16, .inr (.inl g))), (hpl, .inr (5, [.ref hs])), (hs, .inl (cI, 256, .inl sm)), (hw, .inl (cI, 16, .inl wy)), (hcr, .inl (cI, 16, .inl cr)), (hco, .inl (cI, 256, .inl co)), (hhs, .inl (cZ, 16, .inl hb_)), (hrd, .inr (0, [.ref ho, .int va2_48, .int rg2_48, .int sh2_48, .int nx2_48])), (ho, .inr (3, [.ref hh, .int sz])), (hh, .inl (cI, 600, .inl f))]) [0, 9, 10, 1, 2, 3, 4, 5, 6, 7, 8, 11, 12, 13] (by decide) rfl
  generalize H1 = H at hP hS ⊢
  obtain ⟨q48_0, q48_1, q48_2⟩ := hw9
  have q48_0 : kB rg2_48 128 255 := q48_0
  have q48_1 : kB sh2_48 0 7 := q48_1
  have q48_2 : kA pr2_48 0 255 := q48_2
  refine va_put (D := D) (ci := 4) (v := .int r48) (ty := .int) (C := RX4) (T := TX4) (N := 14) hx hb hts in_X4 tyX4 tyX4_ok nmX4 hown hK.1 hP hD hS 0 rfl rfl 11 (by decide) (hts _ mk_153) (fun _ h9 => h9) rfl (by decide +kernel) rfl rfl (Nat.le_of_ble_eq_true rfl) dX4_readFrom_51 (fun H locs hP hD hS => ?_)
  have hP : va_P D vwCl [(hp, .inr (4, [.ref ht, .ref htr, .ref hpl, .ref hw, .ref hcr, .ref hco, .ref hhs, .int v7, .int v18, .int r26, .int r36, .int r48, .int ob, .int fch])), (ht, .inr (2, [.ref hpr])), (hpr, .inl (cI, 264, .inl pr2_48)), (htr, .inr (6, [.ref hg])), (hg, .inl (cJ, 16, .inr (.inl g))), (hpl, .inr (5, [.ref hs])), (hs, .inl (cI, 256, .inl sm)), (hw, .inl (cI, 16, .inl wy)), (hcr, .inl (cI, 16, .inl cr)), (hco, .inl (cI, 256, .inl co)), (hhs, .inl (cZ, 16, .inl hb_)), (hrd, .inr (0, [.ref ho, .int va2_48, .int rg2_48, .int sh2_48, .int nx2_48])), (ho, .inr (3, [.ref hh, .int sz])), (hh, .inl (cI, 600, .inl f))] H := hP
  have hD : va_D A [(hp, .inr (4, [.ref ht, .ref htr, .ref hpl, .ref hw, .ref hcr, .ref hco, .ref hhs, .int v7, .int v18, .int r26, .int r36, .int r48, .int ob, .int fch])), (ht, .inr (2, [.ref hpr])), (hpr, .inl (cI, 264, .inl pr2_48)), (htr, .inr (6, [.ref hg])), (hg, .inl (cJ, 16, .inr (.inl g))), (hpl, .inr (5, [.ref hs])), (hs, .inl (cI, 256, .inl sm)), (hw, .inl (cI, 16, .inl wy)), (hcr, .inl (cI, 16, .inl cr)), (hco, .inl (cI, 256, .inl co)), (hhs, .inl (cZ, 16, .inl hb_)), (hrd, .inr (0, [.ref ho, .int va2_48, .int rg2_48, .int sh2_48, .int nx2_48])), (ho, .inr (3, [.ref hh, .int sz])), (hh, .inl (cI, 600, .inl f))] := hD
  refine lv_iconst (v := 0) hx hb dX4_readFrom_54 (by decide) ?_
  refine lv_istore_n (lv' := [(2, .int 0), (0, .ref hp), (1, .ref hrd)]) hx hb dX4_readFrom_55 rfl hl (by decide) rfl (fun ls hl => ?_)
  exact lp_X4_readFrom_56 D cI cJ cZ hp ht hpr htr hg hpl hs hw hcr hco hhs hrd ho hh va rg sh nx sz f cols rows q lev ta ob fch pr g sm wy cr co hb_ brg bsh bsz apr hx hb hr hml hown hts hlocks hK hA hT ((256 - (0 : Int32).toInt).toNat + 1) 0 va2_48 rg2_48 sh2_48 nx2_48 v7 v18 r26 r36 r48 ob fch pr2_48 g sm wy cr co hb_ (Nat.lt_succ_self _) (kB_w kc_0 (by decide) (by decide)) q48_0 q48_1 b7 b18 q48_2 HC9 _ _ ls hP hD hS (lv_sub hl [1, 2, 0] rfl)
