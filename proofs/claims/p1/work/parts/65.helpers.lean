abbrev kw_L_feed : List Cond := Cond.codeWith yL_feed cL_feed 8 (some .int) [(0, 16, 19, 13), (0, 16, 23, 15)] :: kW
set_option maxHeartbeats 4000000 in
set_option maxRecDepth 100000 in
theorem c_L_feed (l : Launch) (hl0 : l.stackTraces = false) (D : va_G) (cI cJ cZ : ClassId) (hk ho hwr hrd hp hh hot : Nat) (bg : Int32) (sz : Int32) (f : Nat → Int32) (g : Nat → Int64) (fn : Int32) (fa : Int32) (fb : Int32) (fc : Int32) (fd : Int32) (bsz : kB sz 0 600) (hpz : Nat) : Met l yL_feed kw_L_feed ({ frames := 7, cells := 1, slots := 6, locals := 127 }) (va_Pc [.ref hk, .int fn, .int fa, .int fb, .int fc, .int fd, .ref hot] (fun U => U.heap.size = hpz ∧ va_P D vwCl [(hk, .inr (7, [.ref ho, .ref hwr, .ref hrd, .ref hp, .int bg])), (ho, .inr (3, [.ref hh, .int sz])), (hh, .inl (cI, 600, .inl f)), (hot, .inl (cJ, 1, .inr (.inl g)))] U.heap ∧ kK D cI cJ cZ U ∧ va_D (fun _ => True) [(hk, .inr (7, [.ref ho, .ref hwr, .ref hrd, .ref hp, .int bg])), (ho, .inr (3, [.ref hh, .int sz])), (hh, .inl (cI, 600, .inl f)), (hot, .inl (cJ, 1, .inr (.inl g)))] ∧ kX (va_A [(hk, .inr (7, [.ref ho, .ref hwr, .ref hrd, .ref hp, .int bg])), (ho, .inr (3, [.ref hh, .int sz])), (hh, .inl (cI, 600, .inl f)), (hot, .inl (cJ, 1, .inr (.inl g)))] hpz) U U.heap ∧ kY U)) (va_Qi (fun (r : Int32) (u : Int32 × Int32 × (Nat → Int32) × (Nat → Int64)) => (kB u.2.1 0 600) ∧ ((r = 1 ∧ ¬ (0 ≤ fn.toInt ∧ fn.toInt ≤ 16) ∧ u.1 = bg ∧ u.2.1 = sz ∧ u.2.2.1 = f) ∨ (r = 2 ∧ (0 ≤ fn.toInt ∧ fn.toInt ≤ 16) ∧ 600 < sz.toInt + fn.toInt ∧ u.1 = bg ∧ u.2.1 = sz ∧ u.2.2.1 = f) ∨ (r = 0 ∧ (0 ≤ fn.toInt ∧ fn.toInt ≤ 16) ∧ sz.toInt + fn.toInt ≤ 600 ∧ u.1 = 0 ∧ u.2.1.toInt = sz.toInt + fn.toInt ∧ u.2.2.2 0 = u.2.1.toInt64)) ∧ ((r = 0 → u.2.2.1 = wFe (wFk fa fb fc fd) sz.toInt.toNat fn.toInt.toNat f) ∧ (¬ r = 0 → u.2.2.1 = f))) (fun (u : Int32 × Int32 × (Nat → Int32) × (Nat → Int64)) (t : State) => va_P D vwCl [(hk, .inr (7, [.ref ho, .ref hwr, .ref hrd, .ref hp, .int u.1])), (ho, .inr (3, [.ref hh, .int u.2.1])), (hh, .inl (cI, 600, .inl u.2.2.1)), (hot, .inl (cJ, 1, .inr (.inl u.2.2.2)))] t.heap ∧ va_D (va_A [(hk, .inr (7, [.ref ho, .ref hwr, .ref hrd, .ref hp, .int bg])), (ho, .inr (3, [.ref hh, .int sz])), (hh, .inl (cI, 600, .inl f)), (hot, .inl (cJ, 1, .inr (.inl g)))] hpz) [(hk, .inr (7, [.ref ho, .ref hwr, .ref hrd, .ref hp, .int u.1])), (ho, .inr (3, [.ref hh, .int u.2.1])), (hh, .inl (cI, 600, .inl u.2.2.1)), (hot, .inl (cJ, 1, .inr (.inl u.2.2.2)))]) (va_A [(hk, .inr (7, [.ref ho, .ref hwr, .ref hrd, .ref hp, .int bg])), (ho, .inr (3, [.ref hh, .int sz])), (hh, .inl (cI, 600, .inl f)), (hot, .inl (cJ, 1, .inr (.inl g)))] hpz)) 1 6 (va_A [(hk, .inr (7, [.ref ho, .ref hwr, .ref hrd, .ref hp, .int bg])), (ho, .inr (3, [.ref hh, .int sz])), (hh, .inl (cI, 600, .inl f)), (hot, .inl (cJ, 1, .inr (.inl g)))] hpz) := by
  refine va_MetW (cc := cL_feed) (maxL := 8) (ret := (some .int)) (by decide) rfl ?_
  intro p e s m args below meth c s₁ B hml hv
  obtain ⟨rfl, hsz, hP, hK, hD0, hX, hY⟩ := hv
  have htab := vx_table (x := yL_feed) B (atoms_spec (ws := kw_L_feed) B.pre _ List.mem_cons_self)
  have hx := B.exec
  have hb := B.bytes
  have hr := B.returns
  have hts := fun (w : Cond) (h : w ∈ kW) => atoms_spec (ws := kw_L_feed) B.pre w (List.mem_cons_of_mem _ h)
  have hown : s.vm.findClass RL = some m.cls := findClass_of_methodNamed B.named
  have hlocks := B.notSynchronized
  subst hsz
  have hD := hD0.self (sz := s.heap.size)
  generalize hAe : va_A [(hk, .inr (7, [.ref ho, .ref hwr, .ref hrd, .ref hp, .int bg])), (ho, .inr (3, [.ref hh, .int sz])), (hh, .inl (cI, 600, .inl f)), (hot, .inl (cJ, 1, .inr (.inl g)))] s.heap.size = A at hD hX ⊢
  have hA : ∀ q : Nat, s.heap.size ≤ q → A q := fun q h => by rw [← hAe]; exact Or.inr h
  have hS : va_S A s.heap s.heap [] := va_S.rf
  have hP : va_P D vwCl [(hk, .inr (7, [.ref ho, .ref hwr, .ref hrd, .ref hp, .int bg])), (ho, .inr (3, [.ref hh, .int sz])), (hh, .inl (cI, 600, .inl f)), (hot, .inl (cJ, 1, .inr (.inl g)))] s.heap := hP
  have hl := lv_entry ([.ref hk, .int fn, .int fa, .int fb, .int fc, .int fd, .ref hot]) (n := 8) (Nat.le_of_ble_eq_true rfl)
  rw [lg_entry_eq]
  generalize (lg_sl ([.ref hk, .int fn, .int fa, .int fb, .int fc, .int fd, .ref hot]) ++ List.replicate (8 - (lg_sl ([.ref hk, .int fn, .int fa, .int fb, .int fc, .int fd, .ref hot])).length) Slot.unset).toArray = ls at hl ⊢
  have hl : lv_has ls 8 [(0, .ref hk), (1, .int fn), (2, .int fa), (3, .int fb), (4, .int fc), (5, .int fd), (6, .ref hot)] := hl
  refine lv_aload hx hb dL_feed_0 (lv_at hl 6 rfl) ?_
  refine lv_iconst (v := 0) hx hb dL_feed_2 (by decide) ?_
  refine lv_aload_n hx hb dL_feed_3 rfl (lv_at hl 0 rfl) ?_
  refine lv_iload_n hx hb dL_feed_4 rfl (lv_at hl 1 rfl) ?_
  refine lv_iload_n hx hb dL_feed_5 rfl (lv_at hl 2 rfl) ?_
  refine lv_iload_n hx hb dL_feed_6 rfl (lv_at hl 3 rfl) ?_
  refine lv_iload hx hb dL_feed_7 (lv_at hl 4 rfl) ?_
  refine lv_iload hx hb dL_feed_9 (lv_at hl 5 rfl) ?_
  have hPc := hP.sub (ws' := [(hk, .inr (7, [.ref ho, .ref hwr, .ref hrd, .ref hp, .int bg])), (ho, .inr (3, [.ref hh, .int sz])), (hh, .inl (cI, 600, .inl f))]) [0, 1, 2] rfl
  have hDc := hD.sub (ws' := [(hk, .inr (7, [.ref ho, .ref hwr, .ref hrd, .ref hp, .int bg])), (ho, .inr (3, [.ref hh, .int sz])), (hh, .inl (cI, 600, .inl f))]) [0, 1, 2] (by decide) rfl
  have hFc := va_free (wc := [(hk, .inr (7, [.ref ho, .ref hwr, .ref hrd, .ref hp, .int bg])), (ho, .inr (3, [.ref hh, .int sz])), (hh, .inl (cI, 600, .inl f))]) hD hS hA [0, 1, 2] rfl
  refine vx_calli (vx_runV (As := [.int fn, .int fa, .int fb, .int fc, .int fd]) (rest := [.int 0, .ref hot]) ⟨hx, hb, hml, hown, hts⟩ (c_X7_feed l hl0 D cI cJ cZ hk ho hwr hrd hp hh bg sz f fn fa fb fc fd bsz (s.heap).size) (cwV 5 hts (kg_V mk_453 mk_454 mk_455 mk_13 mk_456) rfl rfl rfl (by decide +kernel) ⟨Nat.le_of_ble_eq_true rfl, Nat.le_of_ble_eq_true rfl⟩) ⟨fun a U g mk q => by obtain ⟨q0, q1, qP, qK, qD, qX⟩ := q; exact ⟨q0, q1, qP, kK.call qK, qD, kX.call qX⟩, va_recv hK.1 hPc (ci := 7) (q0 := 0) rfl rfl, fun U hU hW => ⟨rfl, by rw [hU], by rw [hU]; exact hPc, kK.warm hW hK, hDc.weaken (fun _ _ _ _ => trivial), by rw [hU]; exact kX.at hX hS hFc hW⟩⟩ rfl rfl hl.1 rfl (lv_room (Nat.le_of_ble_eq_true rfl)) dL_feed_11 ⟨Nat.le_of_ble_eq_true rfl, Nat.le_of_ble_eq_true rfl⟩) hS (fun q _ h => hFc q h) hFc (fun q _ h => hFc q h) (fun E ce q9 u t9 H1 locs1 ht9 hvm9 hpx9 hB9 hz9 hk9 hS9 hc1 hc2 hc3 => ?_) (fun r11 u t9 H1 locs ht9 hvm9 hw9 hB9 hz9 hk9 hS => ?_)
  · obtain ⟨hE9, hP1, hD1⟩ := hB9
    rw [ht9] at hP1
    have hP1 : va_P D vwCl [(hk, .inr (7, [.ref ho, .ref hwr, .ref hrd, .ref hp, .int bg])), (ho, .inr (3, [.ref hh, .int sz])), (hh, .inl (cI, 600, .inl f))] H1 := hP1
    obtain ⟨hP, hD⟩ := va_join (wr := [(hot, .inl (cJ, 1, .inr (.inl g)))]) (w1 := [(hk, .inr (7, [.ref ho, .ref hwr, .ref hrd, .ref hp, .int bg])), (ho, .inr (3, [.ref hh, .int sz])), (hh, .inl (cI, 600, .inl f))]) hP hD [0, 1, 2] [3] rfl rfl (by decide) (by decide) hk9 hFc hP1 hD1
    have hP := hP.sub (ws' := [(hk, .inr (7, [.ref ho, .ref hwr, .ref hrd, .ref hp, .int bg])), (ho, .inr (3, [.ref hh, .int sz])), (hh, .inl (cI, 600, .inl f)), (hot, .inl (cJ, 1, .inr (.inl g)))]) [1, 2, 3, 0] rfl
    have hD := hD.sub (ws' := [(hk, .inr (7, [.ref ho, .ref hwr, .ref hrd, .ref hp, .int bg])), (ho, .inr (3, [.ref hh, .int sz])), (hh, .inl (cI, 600, .inl f)), (hot, .inl (cJ, 1, .inr (.inl g)))]) [1, 2, 3, 0] (by decide) rfl
    have hS := hS9
    rcases hE9 with ⟨hE9, hc9⟩ | ⟨hE9, hc9⟩
    · subst hE9
      have hc9 : ¬ (0 ≤ fn.toInt ∧ fn.toInt ≤ 16) := hc9
      refine vx_catch hown [] ⟨0, 16, 19, 13⟩ [⟨0, 16, 23, 15⟩] (by rw [htab]; rfl) (fun z hz => nomatch hz) (by decide) (by decide) (hts _ mk_457) (va_Nw.use rfl (hX.2.2.1 (.castable "java/lang/IllegalArgumentException" "java/lang/IllegalArgumentException") (by decide +kernel))) hc1 hc2 hc3 ?_
      refine W.widen (k := 1) (n := 6) (by omega) (by omega) ?_
      refine lv_astore (lv' := [(7, .ref q9), (0, .ref hk), (1, .int fn), (2, .int fa), (3, .int fb), (4, .int fc), (5, .int fd), (6, .ref hot)]) hx hb dL_feed_19 hl (by decide) rfl (fun ls hl => ?_)
      refine lv_iconst (v := 1) hx hb dL_feed_21 (by decide) ?_
      have pf_x : ((1 : Int32) = 1 ∧ ¬ (0 ≤ fn.toInt ∧ fn.toInt ≤ 16) ∧ bg = bg ∧ sz = sz ∧ f = f) ∨ ((1 : Int32) = 2 ∧ (0 ≤ fn.toInt ∧ fn.toInt ≤ 16) ∧ 600 < sz.toInt + fn.toInt ∧ bg = bg ∧ sz = sz ∧ f = f) ∨ ((1 : Int32) = 0 ∧ (0 ≤ fn.toInt ∧ fn.toInt ≤ 16) ∧ sz.toInt + fn.toInt ≤ 600 ∧ bg = 0 ∧ sz.toInt = sz.toInt + fn.toInt ∧ g 0 = sz.toInt64) := (Or.inl ⟨rfl, hc9, rfl, rfl, rfl⟩)
      have pf_w : ((1 : Int32) = 0 → f = wFe (wFk fa fb fc fd) sz.toInt.toNat fn.toInt.toNat f) ∧ (¬ (1 : Int32) = 0 → f = f) := ⟨fun h => absurd h (by decide), fun _ => rfl⟩
      exact W.iret (v := 1) hx hb hr (fun t9 ht9 hW9 => ⟨⟨1, (bg, sz, f, g), rfl, ⟨bsz, pf_x, pf_w⟩, by rw [ht9]; exact hP, hD⟩, hS.F ht9⟩) hS.2.2 dL_feed_22
    · subst hE9
      have hc9 : ((0 ≤ fn.toInt ∧ fn.toInt ≤ 16) ∧ 600 < sz.toInt + fn.toInt) := hc9
      refine vx_catch hown [⟨0, 16, 19, 13⟩] ⟨0, 16, 23, 15⟩ [] (by rw [htab]; rfl) (fun z hz => by rw [List.mem_singleton.mp hz]; exact Or.inr ⟨by decide, "java/lang/IllegalArgumentException", (hts _ mk_457), hY⟩) (by decide) (by decide) (hts _ mk_458) (va_Nw.use rfl (hX.2.2.1 (.castable "java/lang/IllegalStateException" "java/lang/IllegalStateException") (by decide +kernel))) hc1 hc2 hc3 ?_
      refine W.widen (k := 1) (n := 6) (by omega) (by omega) ?_
      refine lv_astore (lv' := [(7, .ref q9), (0, .ref hk), (1, .int fn), (2, .int fa), (3, .int fb), (4, .int fc), (5, .int fd), (6, .ref hot)]) hx hb dL_feed_23 hl (by decide) rfl (fun ls hl => ?_)
      refine lv_iconst (v := 2) hx hb dL_feed_25 (by decide) ?_
      have pf_x : ((2 : Int32) = 1 ∧ ¬ (0 ≤ fn.toInt ∧ fn.toInt ≤ 16) ∧ bg = bg ∧ sz = sz ∧ f = f) ∨ ((2 : Int32) = 2 ∧ (0 ≤ fn.toInt ∧ fn.toInt ≤ 16) ∧ 600 < sz.toInt + fn.toInt ∧ bg = bg ∧ sz = sz ∧ f = f) ∨ ((2 : Int32) = 0 ∧ (0 ≤ fn.toInt ∧ fn.toInt ≤ 16) ∧ sz.toInt + fn.toInt ≤ 600 ∧ bg = 0 ∧ sz.toInt = sz.toInt + fn.toInt ∧ g 0 = sz.toInt64) := (Or.inr (Or.inl ⟨rfl, hc9.1, hc9.2, rfl, rfl, rfl⟩))
      have pf_w : ((2 : Int32) = 0 → f = wFe (wFk fa fb fc fd) sz.toInt.toNat fn.toInt.toNat f) ∧ (¬ (2 : Int32) = 0 → f = f) := ⟨fun h => absurd h (by decide), fun _ => rfl⟩
      exact W.iret (v := 2) hx hb hr (fun t9 ht9 hW9 => ⟨⟨2, (bg, sz, f, g), rfl, ⟨bsz, pf_x, pf_w⟩, by rw [ht9]; exact hP, hD⟩, hS.F ht9⟩) hS.2.2 dL_feed_26
  obtain ⟨sz2_11, f2_11⟩ := u
  obtain ⟨hP1, hD1⟩ := hB9
  rw [ht9] at hP1
  have hP1 : va_P D vwCl [(hk, .inr (7, [.ref ho, .ref hwr, .ref hrd, .ref hp, .int 0])), (ho, .inr (3, [.ref hh, .int sz2_11])), (hh, .inl (cI, 600, .inl f2_11))] H1 := hP1
  obtain ⟨hP, hD⟩ := va_join (wr := [(hot, .inl (cJ, 1, .inr (.inl g)))]) (w1 := [(hk, .inr (7, [.ref ho, .ref hwr, .ref hrd, .ref hp, .int 0])), (ho, .inr (3, [.ref hh, .int sz2_11])), (hh, .inl (cI, 600, .inl f2_11))]) hP hD [0, 1, 2] [3] rfl rfl (by decide) (by decide) hk9 hFc hP1 hD1
  refine W.widen (k := 1) (n := 6) (by omega) (by omega) ?_
  have hP := hP.sub (ws' := [(hk, .inr (7, [.ref ho, .ref hwr, .ref hrd, .ref hp, .int 0])), (ho, .inr (3, [.ref hh, .int sz2_11])), (hh, .inl (cI, 600, .inl f2_11)), (hot, .inl (cJ, 1, .inr (.inl g)))]) [1, 2, 3, 0] rfl
  have hD := hD.sub (ws' := [(hk, .inr (7, [.ref ho, .ref hwr, .ref hrd, .ref hp, .int 0])), (ho, .inr (3, [.ref hh, .int sz2_11])), (hh, .inl (cI, 600, .inl f2_11)), (hot, .inl (cJ, 1, .inr (.inl g)))]) [1, 2, 3, 0] (by decide) rfl
  generalize H1 = H at hP hS ⊢
  obtain ⟨q11_0, q11_1, q11_2, q11_3, q11_4, q11_5⟩ := hw9
  have q11_0 : kB sz2_11 0 600 := q11_0
  have q11_1 : (0 ≤ fn.toInt ∧ fn.toInt ≤ 16) := q11_1
  have q11_2 : sz.toInt + fn.toInt ≤ 600 := q11_2
  have q11_3 : r11 = sz2_11 := q11_3
  have q11_4 : sz2_11.toInt = sz.toInt + fn.toInt := q11_4
  have q11_5 : f2_11 = wFe (wFk fa fb fc fd) sz.toInt.toNat fn.toInt.toNat f := q11_5
  refine lv_i2l hx hb dL_feed_14 rfl ?_
  refine lv_topl (fun v14 e14 => ?_)
  refine va_last hx hb hK.1 hP hD hS 3 1 rfl rfl (kB_in kc_0 (by decide)) dL_feed_15 (fun H locs hP hD hS => ?_)
  have hP : va_P D vwCl [(hk, .inr (7, [.ref ho, .ref hwr, .ref hrd, .ref hp, .int 0])), (ho, .inr (3, [.ref hh, .int sz2_11])), (hh, .inl (cI, 600, .inl f2_11)), (hot, .inl (cJ, 1, .inr (.inl (vp_updL g (0 : Int32).toNatClampNeg v14))))] H := hP
  have hD : va_D A [(hk, .inr (7, [.ref ho, .ref hwr, .ref hrd, .ref hp, .int 0])), (ho, .inr (3, [.ref hh, .int sz2_11])), (hh, .inl (cI, 600, .inl f2_11)), (hot, .inl (cJ, 1, .inr (.inl (vp_updL g (0 : Int32).toNatClampNeg v14))))] := hD
  generalize hf15 : vp_updL g (0 : Int32).toNatClampNeg v14 = f15 at hP hD
  refine lv_goto (tgt := 27) hx hb dL_feed_16 (by decide) ?_
  refine lv_iconst (v := 0) hx hb dL_feed_27 (by decide) ?_
  have pf_x : ((0 : Int32) = 1 ∧ ¬ (0 ≤ fn.toInt ∧ fn.toInt ≤ 16) ∧ (0 : Int32) = bg ∧ sz2_11 = sz ∧ f2_11 = f) ∨ ((0 : Int32) = 2 ∧ (0 ≤ fn.toInt ∧ fn.toInt ≤ 16) ∧ 600 < sz.toInt + fn.toInt ∧ (0 : Int32) = bg ∧ sz2_11 = sz ∧ f2_11 = f) ∨ ((0 : Int32) = 0 ∧ (0 ≤ fn.toInt ∧ fn.toInt ≤ 16) ∧ sz.toInt + fn.toInt ≤ 600 ∧ (0 : Int32) = 0 ∧ sz2_11.toInt = sz.toInt + fn.toInt ∧ f15 0 = sz2_11.toInt64) := (Or.inr (Or.inr ⟨rfl, q11_1, q11_2, rfl, q11_4, by rw [kg0 hf15, e14, q11_3]⟩))
  have pf_w : ((0 : Int32) = 0 → f2_11 = wFe (wFk fa fb fc fd) sz.toInt.toNat fn.toInt.toNat f) ∧ (¬ (0 : Int32) = 0 → f2_11 = f) := ⟨fun _ => q11_5, fun h => absurd rfl h⟩
  exact W.iret (v := 0) hx hb hr (fun t9 ht9 hW9 => ⟨⟨0, (0, sz2_11, f2_11, f15), rfl, ⟨q11_0, pf_x, pf_w⟩, by rw [ht9]; exact hP, hD⟩, hS.F ht9⟩) hS.2.2 dL_feed_28
abbrev kw_L_put : List Cond := Cond.codeWith yL_put cL_put 6 (some .int) [(0, 12, 15, 13), (0, 12, 19, 15)] :: kW
set_option maxHeartbeats 4000000 in
set_option maxRecDepth 100000 in
theorem c_L_put (l : Launch) (hl0 : l.stackTraces = false) (D : va_G) (cI cJ cZ : ClassId) (hk ho hwr hrd hp hh hot : Nat) (bg : Int32) (bo : Int32) (wg : Int32) (sl : Int32) (sz : Int32) (f : Nat → Int32) (g : Nat → Int64) (pp : Int32) (bi : Int32) (mn : Int32) (Bz : Nat) (bsz : kB sz 0 600) (hwt : bg = 1 → kB wg 128 255 ∧ kB sl 1 24 ∧ kNF sl.toInt sz.toInt) (hB : bg = 1 → bo = nI Bz ∧ Bz < 4294967296) (hpz : Nat) : Met l yL_put kw_L_put ({ frames := 8, cells := 2, slots := 12, locals := 145 }) (va_Pc [.ref hk, .int pp, .int bi, .int mn, .ref hot] (fun U => U.heap.size = hpz ∧ va_P D vwCl [(hk, .inr (7, [.ref ho, .ref hwr, .ref hrd, .ref hp, .int bg])), (hwr, .inr (1, [.ref ho, .int bo, .int wg, .int sl])), (ho, .inr (3, [.ref hh, .int sz])), (hh, .inl (cI, 600, .inl f)), (hot, .inl (cJ, 1, .inr (.inl g)))] U.heap ∧ kK D cI cJ cZ U ∧ va_D (fun _ => True) [(hk, .inr (7, [.ref ho, .ref hwr, .ref hrd, .ref hp, .int bg])), (hwr, .inr (1, [.ref ho, .int bo, .int wg, .int sl])), (ho, .inr (3, [.ref hh, .int sz])), (hh, .inl (cI, 600, .inl f)), (hot, .inl (cJ, 1, .inr (.inl g)))] ∧ kX (va_A [(hk, .inr (7, [.ref ho, .ref hwr, .ref hrd, .ref hp, .int bg])), (hwr, .inr (1, [.ref ho, .int bo, .int wg, .int sl])), (ho, .inr (3, [.ref hh, .int sz])), (hh, .inl (cI, 600, .inl f)), (hot, .inl (cJ, 1, .inr (.inl g)))] hpz) U U.heap ∧ kY U)) (va_Qi (fun (r : Int32) (u : Int32 × Int32 × Int32 × Int32 × (Nat → Int32) × (Nat → Int64)) => (kB u.2.2.2.1 0 600) ∧ ((r = 1 ∧ ¬ ((1 ≤ pp.toInt ∧ pp.toInt ≤ 255) ∧ (0 ≤ mn.toInt ∧ mn.toInt ≤ 32)) ∧ u.2.2.2.1 = sz ∧ u.2.1 = wg ∧ u.2.2.1 = sl) ∨ (r = 2 ∧ ((1 ≤ pp.toInt ∧ pp.toInt ≤ 255) ∧ (0 ≤ mn.toInt ∧ mn.toInt ≤ 32)) ∧ ¬ (bg = 1 ∧ sz.toInt ≤ 560) ∧ u.2.2.2.1 = sz ∧ u.2.1 = wg ∧ u.2.2.1 = sl) ∨ (r = 0 ∧ ((1 ≤ pp.toInt ∧ pp.toInt ≤ 255) ∧ (0 ≤ mn.toInt ∧ mn.toInt ≤ 32)) ∧ bg = 1 ∧ sz.toInt ≤ 560 ∧ kB u.2.1 128 255 ∧ kB u.2.2.1 1 24 ∧ kNF u.2.2.1.toInt u.2.2.2.1.toInt ∧ kB u.2.2.2.1 0 595 ∧ (u.2.1.toInt, 8 * u.2.2.2.1.toInt - u.2.2.1.toInt) = (kput pp.toInt (kbt bi) mn.toInt.toNat (wg.toInt, 8 * sz.toInt - sl.toInt)) ∧ u.2.2.2.2.2 0 = u.2.2.2.1.toInt64)) ∧ ((r = 0 → u.1 = nI (wPut pp.toInt (kbt bi) mn.toInt.toNat (wg.toInt, sl.toInt, sz.toInt, Bz, f)).2.2.2.1 ∧ u.2.2.2.2.1 = (wPut pp.toInt (kbt bi) mn.toInt.toNat (wg.toInt, sl.toInt, sz.toInt, Bz, f)).2.2.2.2) ∧ (¬ r = 0 → u.1 = bo ∧ u.2.2.2.2.1 = f))) (fun (u : Int32 × Int32 × Int32 × Int32 × (Nat → Int32) × (Nat → Int64)) (t : State) => va_P D vwCl [(hk, .inr (7, [.ref ho, .ref hwr, .ref hrd, .ref hp, .int bg])), (hwr, .inr (1, [.ref ho, .int u.1, .int u.2.1, .int u.2.2.1])), (ho, .inr (3, [.ref hh, .int u.2.2.2.1])), (hh, .inl (cI, 600, .inl u.2.2.2.2.1)), (hot, .inl (cJ, 1, .inr (.inl u.2.2.2.2.2)))] t.heap ∧ va_D (va_A [(hk, .inr (7, [.ref ho, .ref hwr, .ref hrd, .ref hp, .int bg])), (hwr, .inr (1, [.ref ho, .int bo, .int wg, .int sl])), (ho, .inr (3, [.ref hh, .int sz])), (hh, .inl (cI, 600, .inl f)), (hot, .inl (cJ, 1, .inr (.inl g)))] hpz) [(hk, .inr (7, [.ref ho, .ref hwr, .ref hrd, .ref hp, .int bg])), (hwr, .inr (1, [.ref ho, .int u.1, .int u.2.1, .int u.2.2.1])), (ho, .inr (3, [.ref hh, .int u.2.2.2.1])), (hh, .inl (cI, 600, .inl u.2.2.2.2.1)), (hot, .inl (cJ, 1, .inr (.inl u.2.2.2.2.2)))]) (va_A [(hk, .inr (7, [.ref ho, .ref hwr, .ref hrd, .ref hp, .int bg])), (hwr, .inr (1, [.ref ho, .int bo, .int wg, .int sl])), (ho, .inr (3, [.ref hh, .int sz])), (hh, .inl (cI, 600, .inl f)), (hot, .inl (cJ, 1, .inr (.inl g)))] hpz)) 2 12 (va_A [(hk, .inr (7, [.ref ho, .ref hwr, .ref hrd, .ref hp, .int bg])), (hwr, .inr (1, [.ref ho, .int bo, .int wg, .int sl])), (ho, .inr (3, [.ref hh, .int sz])), (hh, .inl (cI, 600, .inl f)), (hot, .inl (cJ, 1, .inr (.inl g)))] hpz) := by
  refine va_MetW (cc := cL_put) (maxL := 6) (ret := (some .int)) (by decide) rfl ?_
  intro p e s m args below meth c s₁ B hml hv
  obtain ⟨rfl, hsz, hP, hK, hD0, hX, hY⟩ := hv
  have htab := vx_table (x := yL_put) B (atoms_spec (ws := kw_L_put) B.pre _ List.mem_cons_self)
  have hx := B.exec
  have hb := B.bytes
  have hr := B.returns
  have hts := fun (w : Cond) (h : w ∈ kW) => atoms_spec (ws := kw_L_put) B.pre w (List.mem_cons_of_mem _ h)
  have hown : s.vm.findClass RL = some m.cls := findClass_of_methodNamed B.named
  have hlocks := B.notSynchronized
  subst hsz
  have hD := hD0.self (sz := s.heap.size)
  generalize hAe : va_A [(hk, .inr (7, [.ref ho, .ref hwr, .ref hrd, .ref hp, .int bg])), (hwr, .inr (1, [.ref ho, .int bo, .int wg, .int sl])), (ho, .inr (3, [.ref hh, .int sz])), (hh, .inl (cI, 600, .inl f)), (hot, .inl (cJ, 1, .inr (.inl g)))] s.heap.size = A at hD hX ⊢
  have hA : ∀ q : Nat, s.heap.size ≤ q → A q := fun q h => by rw [← hAe]; exact Or.inr h
  have hS : va_S A s.heap s.heap [] := va_S.rf
  have hP : va_P D vwCl [(hk, .inr (7, [.ref ho, .ref hwr, .ref hrd, .ref hp, .int bg])), (hwr, .inr (1, [.ref ho, .int bo, .int wg, .int sl])), (ho, .inr (3, [.ref hh, .int sz])), (hh, .inl (cI, 600, .inl f)), (hot, .inl (cJ, 1, .inr (.inl g)))] s.heap := hP
  have hl := lv_entry ([.ref hk, .int pp, .int bi, .int mn, .ref hot]) (n := 6) (Nat.le_of_ble_eq_true rfl)
  rw [lg_entry_eq]
  generalize (lg_sl ([.ref hk, .int pp, .int bi, .int mn, .ref hot]) ++ List.replicate (6 - (lg_sl ([.ref hk, .int pp, .int bi, .int mn, .ref hot])).length) Slot.unset).toArray = ls at hl ⊢
  have hl : lv_has ls 6 [(0, .ref hk), (1, .int pp), (2, .int bi), (3, .int mn), (4, .ref hot)] := hl
  refine lv_aload hx hb dL_put_0 (lv_at hl 4 rfl) ?_
  refine lv_iconst (v := 0) hx hb dL_put_2 (by decide) ?_
  refine lv_aload_n hx hb dL_put_3 rfl (lv_at hl 0 rfl) ?_
  refine lv_iload_n hx hb dL_put_4 rfl (lv_at hl 1 rfl) ?_
  refine lv_iload_n hx hb dL_put_5 rfl (lv_at hl 2 rfl) ?_
  refine lv_iload_n hx hb dL_put_6 rfl (lv_at hl 3 rfl) ?_
  have hPc := hP.sub (ws' := [(hk, .inr (7, [.ref ho, .ref hwr, .ref hrd, .ref hp, .int bg])), (hwr, .inr (1, [.ref ho, .int bo, .int wg, .int sl])), (ho, .inr (3, [.ref hh, .int sz])), (hh, .inl (cI, 600, .inl f))]) [0, 1, 2, 3] rfl
  have hDc := hD.sub (ws' := [(hk, .inr (7, [.ref ho, .ref hwr, .ref hrd, .ref hp, .int bg])), (hwr, .inr (1, [.ref ho, .int bo, .int wg, .int sl])), (ho, .inr (3, [.ref hh, .int sz])), (hh, .inl (cI, 600, .inl f))]) [0, 1, 2, 3] (by decide) rfl
  have hFc := va_free (wc := [(hk, .inr (7, [.ref ho, .ref hwr, .ref hrd, .ref hp, .int bg])), (hwr, .inr (1, [.ref ho, .int bo, .int wg, .int sl])), (ho, .inr (3, [.ref hh, .int sz])), (hh, .inl (cI, 600, .inl f))]) hD hS hA [0, 1, 2, 3] rfl
  refine vx_calli (vx_runV (As := [.int pp, .int bi, .int mn]) (rest := [.int 0, .ref hot]) ⟨hx, hb, hml, hown, hts⟩ (c_X7_put l hl0 D cI cJ cZ hk ho hwr hrd hp hh bg bo wg sl sz f pp bi mn Bz bsz hwt hB (s.heap).size) (cwV 3 hts (kg_V mk_459 mk_460 mk_461 mk_13 mk_462) rfl rfl rfl (by decide +kernel) ⟨Nat.le_of_ble_eq_true rfl, Nat.le_of_ble_eq_true rfl⟩) ⟨fun a U g mk q => by obtain ⟨q0, q1, qP, qK, qD, qX⟩ := q; exact ⟨q0, q1, qP, kK.call qK, qD, kX.call qX⟩, va_recv hK.1 hPc (ci := 7) (q0 := 0) rfl rfl, fun U hU hW => ⟨rfl, by rw [hU], by rw [hU]; exact hPc, kK.warm hW hK, hDc.weaken (fun _ _ _ _ => trivial), by rw [hU]; exact kX.at hX hS hFc hW⟩⟩ rfl rfl hl.1 rfl (lv_room (Nat.le_of_ble_eq_true rfl)) dL_put_7 ⟨Nat.le_of_ble_eq_true rfl, Nat.le_of_ble_eq_true rfl⟩) hS (fun q _ h => hFc q h) hFc (fun q _ h => hFc q h) (fun E ce q9 u t9 H1 locs1 ht9 hvm9 hpx9 hB9 hz9 hk9 hS9 hc1 hc2 hc3 => ?_) (fun r7 u t9 H1 locs ht9 hvm9 hw9 hB9 hz9 hk9 hS => ?_)
  · obtain ⟨hE9, hP1, hD1⟩ := hB9
    rw [ht9] at hP1
    have hP1 : va_P D vwCl [(hk, .inr (7, [.ref ho, .ref hwr, .ref hrd, .ref hp, .int bg])), (hwr, .inr (1, [.ref ho, .int bo, .int wg, .int sl])), (ho, .inr (3, [.ref hh, .int sz])), (hh, .inl (cI, 600, .inl f))] H1 := hP1
    obtain ⟨hP, hD⟩ := va_join (wr := [(hot, .inl (cJ, 1, .inr (.inl g)))]) (w1 := [(hk, .inr (7, [.ref ho, .ref hwr, .ref hrd, .ref hp, .int bg])), (hwr, .inr (1, [.ref ho, .int bo, .int wg, .int sl])), (ho, .inr (3, [.ref hh, .int sz])), (hh, .inl (cI, 600, .inl f))]) hP hD [0, 1, 2, 3] [4] rfl rfl (by decide) (by decide) hk9 hFc hP1 hD1
    have hP := hP.sub (ws' := [(hk, .inr (7, [.ref ho, .ref hwr, .ref hrd, .ref hp, .int bg])), (hwr, .inr (1, [.ref ho, .int bo, .int wg, .int sl])), (ho, .inr (3, [.ref hh, .int sz])), (hh, .inl (cI, 600, .inl f)), (hot, .inl (cJ, 1, .inr (.inl g)))]) [1, 2, 3, 4, 0] rfl
    have hD := hD.sub (ws' := [(hk, .inr (7, [.ref ho, .ref hwr, .ref hrd, .ref hp, .int bg])), (hwr, .inr (1, [.ref ho, .int bo, .int wg, .int sl])), (ho, .inr (3, [.ref hh, .int sz])), (hh, .inl (cI, 600, .inl f)), (hot, .inl (cJ, 1, .inr (.inl g)))]) [1, 2, 3, 4, 0] (by decide) rfl
    have hS := hS9
    rcases hE9 with ⟨hE9, hc9⟩ | ⟨hE9, hc9⟩
    · subst hE9
      have hc9 : ¬ ((1 ≤ pp.toInt ∧ pp.toInt ≤ 255) ∧ (0 ≤ mn.toInt ∧ mn.toInt ≤ 32)) := hc9
      refine vx_catch hown [] ⟨0, 12, 15, 13⟩ [⟨0, 12, 19, 15⟩] (by rw [htab]; rfl) (fun z hz => nomatch hz) (by decide) (by decide) (hts _ mk_457) (va_Nw.use rfl (hX.2.2.1 (.castable "java/lang/IllegalArgumentException" "java/lang/IllegalArgumentException") (by decide +kernel))) hc1 hc2 hc3 ?_
      refine W.widen (k := 2) (n := 12) (by omega) (by omega) ?_
      refine lv_astore (lv' := [(5, .ref q9), (0, .ref hk), (1, .int pp), (2, .int bi), (3, .int mn), (4, .ref hot)]) hx hb dL_put_15 hl (by decide) rfl (fun ls hl => ?_)
      refine lv_iconst (v := 1) hx hb dL_put_17 (by decide) ?_
      have pf_x : ((1 : Int32) = 1 ∧ ¬ ((1 ≤ pp.toInt ∧ pp.toInt ≤ 255) ∧ (0 ≤ mn.toInt ∧ mn.toInt ≤ 32)) ∧ sz = sz ∧ wg = wg ∧ sl = sl) ∨ ((1 : Int32) = 2 ∧ ((1 ≤ pp.toInt ∧ pp.toInt ≤ 255) ∧ (0 ≤ mn.toInt ∧ mn.toInt ≤ 32)) ∧ ¬ (bg = 1 ∧ sz.toInt ≤ 560) ∧ sz = sz ∧ wg = wg ∧ sl = sl) ∨ ((1 : Int32) = 0 ∧ ((1 ≤ pp.toInt ∧ pp.toInt ≤ 255) ∧ (0 ≤ mn.toInt ∧ mn.toInt ≤ 32)) ∧ bg = 1 ∧ sz.toInt ≤ 560 ∧ kB wg 128 255 ∧ kB sl 1 24 ∧ kNF sl.toInt sz.toInt ∧ kB sz 0 595 ∧ (wg.toInt, 8 * sz.toInt - sl.toInt) = (kput pp.toInt (kbt bi) mn.toInt.toNat (wg.toInt, 8 * sz.toInt - sl.toInt)) ∧ g 0 = sz.toInt64) := (Or.inl ⟨rfl, hc9, rfl, rfl, rfl⟩)
      have pf_w : ((1 : Int32) = 0 → bo = nI (wPut pp.toInt (kbt bi) mn.toInt.toNat (wg.toInt, sl.toInt, sz.toInt, Bz, f)).2.2.2.1 ∧ f = (wPut pp.toInt (kbt bi) mn.toInt.toNat (wg.toInt, sl.toInt, sz.toInt, Bz, f)).2.2.2.2) ∧ (¬ (1 : Int32) = 0 → bo = bo ∧ f = f) := ⟨fun h => absurd h (by decide), fun _ => ⟨rfl, rfl⟩⟩
      exact W.iret (v := 1) hx hb hr (fun t9 ht9 hW9 => ⟨⟨1, (bo, wg, sl, sz, f, g), rfl, ⟨bsz, pf_x, pf_w⟩, by rw [ht9]; exact hP, hD⟩, hS.F ht9⟩) hS.2.2 dL_put_18
    · subst hE9
      have hc9 : (((1 ≤ pp.toInt ∧ pp.toInt ≤ 255) ∧ (0 ≤ mn.toInt ∧ mn.toInt ≤ 32)) ∧ ¬ (bg = 1 ∧ sz.toInt ≤ 560)) := hc9
      refine vx_catch hown [⟨0, 12, 15, 13⟩] ⟨0, 12, 19, 15⟩ [] (by rw [htab]; rfl) (fun z hz => by rw [List.mem_singleton.mp hz]; exact Or.inr ⟨by decide, "java/lang/IllegalArgumentException", (hts _ mk_457), hY⟩) (by decide) (by decide) (hts _ mk_458) (va_Nw.use rfl (hX.2.2.1 (.castable "java/lang/IllegalStateException" "java/lang/IllegalStateException") (by decide +kernel))) hc1 hc2 hc3 ?_
      refine W.widen (k := 2) (n := 12) (by omega) (by omega) ?_
      refine lv_astore (lv' := [(5, .ref q9), (0, .ref hk), (1, .int pp), (2, .int bi), (3, .int mn), (4, .ref hot)]) hx hb dL_put_19 hl (by decide) rfl (fun ls hl => ?_)
      refine lv_iconst (v := 2) hx hb dL_put_21 (by decide) ?_
      have pf_x : ((2 : Int32) = 1 ∧ ¬ ((1 ≤ pp.toInt ∧ pp.toInt ≤ 255) ∧ (0 ≤ mn.toInt ∧ mn.toInt ≤ 32)) ∧ sz = sz ∧ wg = wg ∧ sl = sl) ∨ ((2 : Int32) = 2 ∧ ((1 ≤ pp.toInt ∧ pp.toInt ≤ 255) ∧ (0 ≤ mn.toInt ∧ mn.toInt ≤ 32)) ∧ ¬ (bg = 1 ∧ sz.toInt ≤ 560) ∧ sz = sz ∧ wg = wg ∧ sl = sl) ∨ ((2 : Int32) = 0 ∧ ((1 ≤ pp.toInt ∧ pp.toInt ≤ 255) ∧ (0 ≤ mn.toInt ∧ mn.toInt ≤ 32)) ∧ bg = 1 ∧ sz.toInt ≤ 560 ∧ kB wg 128 255 ∧ kB sl 1 24 ∧ kNF sl.toInt sz.toInt ∧ kB sz 0 595 ∧ (wg.toInt, 8 * sz.toInt - sl.toInt) = (kput pp.toInt (kbt bi) mn.toInt.toNat (wg.toInt, 8 * sz.toInt - sl.toInt)) ∧ g 0 = sz.toInt64) := (Or.inr (Or.inl ⟨rfl, hc9.1, hc9.2, rfl, rfl, rfl⟩))
      have pf_w : ((2 : Int32) = 0 → bo = nI (wPut pp.toInt (kbt bi) mn.toInt.toNat (wg.toInt, sl.toInt, sz.toInt, Bz, f)).2.2.2.1 ∧ f = (wPut pp.toInt (kbt bi) mn.toInt.toNat (wg.toInt, sl.toInt, sz.toInt, Bz, f)).2.2.2.2) ∧ (¬ (2 : Int32) = 0 → bo = bo ∧ f = f) := ⟨fun h => absurd h (by decide), fun _ => ⟨rfl, rfl⟩⟩
      exact W.iret (v := 2) hx hb hr (fun t9 ht9 hW9 => ⟨⟨2, (bo, wg, sl, sz, f, g), rfl, ⟨bsz, pf_x, pf_w⟩, by rw [ht9]; exact hP, hD⟩, hS.F ht9⟩) hS.2.2 dL_put_22
  obtain ⟨bo2_7, wg2_7, sl2_7, sz2_7, f2_7⟩ := u
  obtain ⟨hP1, hD1⟩ := hB9
  rw [ht9] at hP1
  have hP1 : va_P D vwCl [(hk, .inr (7, [.ref ho, .ref hwr, .ref hrd, .ref hp, .int bg])), (hwr, .inr (1, [.ref ho, .int bo2_7, .int wg2_7, .int sl2_7])), (ho, .inr (3, [.ref hh, .int sz2_7])), (hh, .inl (cI, 600, .inl f2_7))] H1 := hP1
  obtain ⟨hP, hD⟩ := va_join (wr := [(hot, .inl (cJ, 1, .inr (.inl g)))]) (w1 := [(hk, .inr (7, [.ref ho, .ref hwr, .ref hrd, .ref hp, .int bg])), (hwr, .inr (1, [.ref ho, .int bo2_7, .int wg2_7, .int sl2_7])), (ho, .inr (3, [.ref hh, .int sz2_7])), (hh, .inl (cI, 600, .inl f2_7))]) hP hD [0, 1, 2, 3] [4] rfl rfl (by decide) (by decide) hk9 hFc hP1 hD1
  refine W.widen (k := 2) (n := 12) (by omega) (by omega) ?_
  have hP := hP.sub (ws' := [(hk, .inr (7, [.ref ho, .ref hwr, .ref hrd, .ref hp, .int bg])), (hwr, .inr (1, [.ref ho, .int bo2_7, .int wg2_7, .int sl2_7])), (ho, .inr (3, [.ref hh, .int sz2_7])), (hh, .inl (cI, 600, .inl f2_7)), (hot, .inl (cJ, 1, .inr (.inl g)))]) [1, 2, 3, 4, 0] rfl
  have hD := hD.sub (ws' := [(hk, .inr (7, [.ref ho, .ref hwr, .ref hrd, .ref hp, .int bg])), (hwr, .inr (1, [.ref ho, .int bo2_7, .int wg2_7, .int sl2_7])), (ho, .inr (3, [.ref hh, .int sz2_7])), (hh, .inl (cI, 600, .inl f2_7)), (hot, .inl (cJ, 1, .inr (.inl g)))]) [1, 2, 3, 4, 0] (by decide) rfl
  generalize H1 = H at hP hS ⊢
  obtain ⟨q7_0, q7_1, q7_2, q7_3, q7_4, q7_5, q7_6, q7_7, q7_8, q7_9, q7_10⟩ := hw9
  have q7_0 : ((1 ≤ pp.toInt ∧ pp.toInt ≤ 255) ∧ (0 ≤ mn.toInt ∧ mn.toInt ≤ 32)) := q7_0
  have q7_1 : bg = 1 := q7_1
  have q7_2 : sz.toInt ≤ 560 := q7_2
  have q7_3 : r7 = sz2_7 := q7_3
  have q7_4 : kB wg2_7 128 255 := q7_4
  have q7_5 : kB sl2_7 1 24 := q7_5
  have q7_6 : kNF sl2_7.toInt sz2_7.toInt := q7_6
  have q7_7 : kB sz2_7 0 595 := q7_7
  have q7_8 : (wg2_7.toInt, 8 * sz2_7.toInt - sl2_7.toInt) = (kput pp.toInt (kbt bi) mn.toInt.toNat (wg.toInt, 8 * sz.toInt - sl.toInt)) := q7_8
  have q7_9 : bo2_7 = nI (wPut pp.toInt (kbt bi) mn.toInt.toNat (wg.toInt, sl.toInt, sz.toInt, Bz, f)).2.2.2.1 := q7_9
  have q7_10 : f2_7 = (wPut pp.toInt (kbt bi) mn.toInt.toNat (wg.toInt, sl.toInt, sz.toInt, Bz, f)).2.2.2.2 := q7_10
  refine lv_i2l hx hb dL_put_10 rfl ?_
  refine lv_topl (fun v10 e10 => ?_)
  refine va_last hx hb hK.1 hP hD hS 4 1 rfl rfl (kB_in kc_0 (by decide)) dL_put_11 (fun H locs hP hD hS => ?_)
  have hP : va_P D vwCl [(hk, .inr (7, [.ref ho, .ref hwr, .ref hrd, .ref hp, .int bg])), (hwr, .inr (1, [.ref ho, .int bo2_7, .int wg2_7, .int sl2_7])), (ho, .inr (3, [.ref hh, .int sz2_7])), (hh, .inl (cI, 600, .inl f2_7)), (hot, .inl (cJ, 1, .inr (.inl (vp_updL g (0 : Int32).toNatClampNeg v10))))] H := hP
  have hD : va_D A [(hk, .inr (7, [.ref ho, .ref hwr, .ref hrd, .ref hp, .int bg])), (hwr, .inr (1, [.ref ho, .int bo2_7, .int wg2_7, .int sl2_7])), (ho, .inr (3, [.ref hh, .int sz2_7])), (hh, .inl (cI, 600, .inl f2_7)), (hot, .inl (cJ, 1, .inr (.inl (vp_updL g (0 : Int32).toNatClampNeg v10))))] := hD
  generalize hf11 : vp_updL g (0 : Int32).toNatClampNeg v10 = f11 at hP hD
  refine lv_goto (tgt := 23) hx hb dL_put_12 (by decide) ?_
  refine lv_iconst (v := 0) hx hb dL_put_23 (by decide) ?_
  have pf_b : kB sz2_7 0 600 := (kB_w q7_7 (by decide) (by decide))
  have pf_x : ((0 : Int32) = 1 ∧ ¬ ((1 ≤ pp.toInt ∧ pp.toInt ≤ 255) ∧ (0 ≤ mn.toInt ∧ mn.toInt ≤ 32)) ∧ sz2_7 = sz ∧ wg2_7 = wg ∧ sl2_7 = sl) ∨ ((0 : Int32) = 2 ∧ ((1 ≤ pp.toInt ∧ pp.toInt ≤ 255) ∧ (0 ≤ mn.toInt ∧ mn.toInt ≤ 32)) ∧ ¬ (bg = 1 ∧ sz.toInt ≤ 560) ∧ sz2_7 = sz ∧ wg2_7 = wg ∧ sl2_7 = sl) ∨ ((0 : Int32) = 0 ∧ ((1 ≤ pp.toInt ∧ pp.toInt ≤ 255) ∧ (0 ≤ mn.toInt ∧ mn.toInt ≤ 32)) ∧ bg = 1 ∧ sz.toInt ≤ 560 ∧ kB wg2_7 128 255 ∧ kB sl2_7 1 24 ∧ kNF sl2_7.toInt sz2_7.toInt ∧ kB sz2_7 0 595 ∧ (wg2_7.toInt, 8 * sz2_7.toInt - sl2_7.toInt) = (kput pp.toInt (kbt bi) mn.toInt.toNat (wg.toInt, 8 * sz.toInt - sl.toInt)) ∧ f11 0 = sz2_7.toInt64) := (Or.inr (Or.inr ⟨rfl, q7_0, q7_1, q7_2, q7_4, q7_5, q7_6, q7_7, q7_8, by rw [kg0 hf11, e10, q7_3]⟩))
  have pf_w : ((0 : Int32) = 0 → bo2_7 = nI (wPut pp.toInt (kbt bi) mn.toInt.toNat (wg.toInt, sl.toInt, sz.toInt, Bz, f)).2.2.2.1 ∧ f2_7 = (wPut pp.toInt (kbt bi) mn.toInt.toNat (wg.toInt, sl.toInt, sz.toInt, Bz, f)).2.2.2.2) ∧ (¬ (0 : Int32) = 0 → bo2_7 = bo ∧ f2_7 = f) := ⟨fun _ => ⟨q7_9, q7_10⟩, fun h => absurd rfl h⟩
  exact W.iret (v := 0) hx hb hr (fun t9 ht9 hW9 => ⟨⟨0, (bo2_7, wg2_7, sl2_7, sz2_7, f2_7, f11), rfl, ⟨pf_b, pf_x, pf_w⟩, by rw [ht9]; exact hP, hD⟩, hS.F ht9⟩) hS.2.2 dL_put_24
abbrev kw_L_end : List Cond := Cond.codeWith yL_end cL_end 3 (some .int) [(0, 8, 11, 15)] :: kW
set_option maxHeartbeats 4000000 in
set_option maxRecDepth 100000 in
theorem c_L_end (l : Launch) (hl0 : l.stackTraces = false) (D : va_G) (cI cJ cZ : ClassId) (hk ho hwr hrd hp hh hot : Nat) (bg : Int32) (bo : Int32) (wg : Int32) (sl : Int32) (sz : Int32) (f : Nat → Int32) (g : Nat → Int64) (Bz : Nat) (bsz : kB sz 0 600) (hwt : bg = 1 → kB sl 1 24 ∧ kB sz 0 596) (hB : bg = 1 → bo = nI Bz ∧ Bz < 4294967296) (hpz : Nat) : Met l yL_end kw_L_end ({ frames := 7, cells := 1, slots := 6, locals := 120 }) (va_Pc [.ref hk, .ref hot] (fun U => U.heap.size = hpz ∧ va_P D vwCl [(hk, .inr (7, [.ref ho, .ref hwr, .ref hrd, .ref hp, .int bg])), (hwr, .inr (1, [.ref ho, .int bo, .int wg, .int sl])), (ho, .inr (3, [.ref hh, .int sz])), (hh, .inl (cI, 600, .inl f)), (hot, .inl (cJ, 1, .inr (.inl g)))] U.heap ∧ kK D cI cJ cZ U ∧ va_D (fun _ => True) [(hk, .inr (7, [.ref ho, .ref hwr, .ref hrd, .ref hp, .int bg])), (hwr, .inr (1, [.ref ho, .int bo, .int wg, .int sl])), (ho, .inr (3, [.ref hh, .int sz])), (hh, .inl (cI, 600, .inl f)), (hot, .inl (cJ, 1, .inr (.inl g)))] ∧ kX (va_A [(hk, .inr (7, [.ref ho, .ref hwr, .ref hrd, .ref hp, .int bg])), (hwr, .inr (1, [.ref ho, .int bo, .int wg, .int sl])), (ho, .inr (3, [.ref hh, .int sz])), (hh, .inl (cI, 600, .inl f)), (hot, .inl (cJ, 1, .inr (.inl g)))] hpz) U U.heap ∧ kY U)) (va_Qi (fun (r : Int32) (u : Int32 × Int32 × Int32 × (Nat → Int32) × (Nat → Int64)) => (kB u.2.2.1 0 600) ∧ ((r = 1 ∧ ¬ bg = 1 ∧ u.1 = bg ∧ u.2.2.1 = sz ∧ u.2.2.2.1 = f) ∨ (r = 0 ∧ bg = 1 ∧ u.1 = 0 ∧ u.2.2.1.toInt = sz.toInt + 4 ∧ u.2.2.2.2 0 = u.2.2.1.toInt64)) ∧ ((r = 0 → u.2.2.2.1 = (wAp 4 (sz.toInt, wEb sl.toInt Bz, wEf sl.toInt sz.toInt.toNat Bz f)).2.2) ∧ (¬ r = 0 → u.2.2.2.1 = f))) (fun (u : Int32 × Int32 × Int32 × (Nat → Int32) × (Nat → Int64)) (t : State) => va_P D vwCl [(hk, .inr (7, [.ref ho, .ref hwr, .ref hrd, .ref hp, .int u.1])), (hwr, .inr (1, [.ref ho, .int u.2.1, .int wg, .int sl])), (ho, .inr (3, [.ref hh, .int u.2.2.1])), (hh, .inl (cI, 600, .inl u.2.2.2.1)), (hot, .inl (cJ, 1, .inr (.inl u.2.2.2.2)))] t.heap ∧ va_D (va_A [(hk, .inr (7, [.ref ho, .ref hwr, .ref hrd, .ref hp, .int bg])), (hwr, .inr (1, [.ref ho, .int bo, .int wg, .int sl])), (ho, .inr (3, [.ref hh, .int sz])), (hh, .inl (cI, 600, .inl f)), (hot, .inl (cJ, 1, .inr (.inl g)))] hpz) [(hk, .inr (7, [.ref ho, .ref hwr, .ref hrd, .ref hp, .int u.1])), (hwr, .inr (1, [.ref ho, .int u.2.1, .int wg, .int sl])), (ho, .inr (3, [.ref hh, .int u.2.2.1])), (hh, .inl (cI, 600, .inl u.2.2.2.1)), (hot, .inl (cJ, 1, .inr (.inl u.2.2.2.2)))]) (va_A [(hk, .inr (7, [.ref ho, .ref hwr, .ref hrd, .ref hp, .int bg])), (hwr, .inr (1, [.ref ho, .int bo, .int wg, .int sl])), (ho, .inr (3, [.ref hh, .int sz])), (hh, .inl (cI, 600, .inl f)), (hot, .inl (cJ, 1, .inr (.inl g)))] hpz)) 1 6 (va_A [(hk, .inr (7, [.ref ho, .ref hwr, .ref hrd, .ref hp, .int bg])), (hwr, .inr (1, [.ref ho, .int bo, .int wg, .int sl])), (ho, .inr (3, [.ref hh, .int sz])), (hh, .inl (cI, 600, .inl f)), (hot, .inl (cJ, 1, .inr (.inl g)))] hpz) := by
  refine va_MetW (cc := cL_end) (maxL := 3) (ret := (some .int)) (by decide) rfl ?_
  intro p e s m args below meth c s₁ B hml hv
  obtain ⟨rfl, hsz, hP, hK, hD0, hX, hY⟩ := hv
  have htab := vx_table (x := yL_end) B (atoms_spec (ws := kw_L_end) B.pre _ List.mem_cons_self)
  have hx := B.exec
  have hb := B.bytes
  have hr := B.returns
  have hts := fun (w : Cond) (h : w ∈ kW) => atoms_spec (ws := kw_L_end) B.pre w (List.mem_cons_of_mem _ h)
  have hown : s.vm.findClass RL = some m.cls := findClass_of_methodNamed B.named
  have hlocks := B.notSynchronized
  subst hsz
  have hD := hD0.self (sz := s.heap.size)
  generalize hAe : va_A [(hk, .inr (7, [.ref ho, .ref hwr, .ref hrd, .ref hp, .int bg])), (hwr, .inr (1, [.ref ho, .int bo, .int wg, .int sl])), (ho, .inr (3, [.ref hh, .int sz])), (hh, .inl (cI, 600, .inl f)), (hot, .inl (cJ, 1, .inr (.inl g)))] s.heap.size = A at hD hX ⊢
  have hA : ∀ q : Nat, s.heap.size ≤ q → A q := fun q h => by rw [← hAe]; exact Or.inr h
  have hS : va_S A s.heap s.heap [] := va_S.rf
  have hP : va_P D vwCl [(hk, .inr (7, [.ref ho, .ref hwr, .ref hrd, .ref hp, .int bg])), (hwr, .inr (1, [.ref ho, .int bo, .int wg, .int sl])), (ho, .inr (3, [.ref hh, .int sz])), (hh, .inl (cI, 600, .inl f)), (hot, .inl (cJ, 1, .inr (.inl g)))] s.heap := hP
  have hl := lv_entry ([.ref hk, .ref hot]) (n := 3) (Nat.le_of_ble_eq_true rfl)
  rw [lg_entry_eq]
  generalize (lg_sl ([.ref hk, .ref hot]) ++ List.replicate (3 - (lg_sl ([.ref hk, .ref hot])).length) Slot.unset).toArray = ls at hl ⊢
  have hl : lv_has ls 3 [(0, .ref hk), (1, .ref hot)] := hl
  refine lv_aload_n hx hb dL_end_0 rfl (lv_at hl 1 rfl) ?_
  refine lv_iconst (v := 0) hx hb dL_end_1 (by decide) ?_
  refine lv_aload_n hx hb dL_end_2 rfl (lv_at hl 0 rfl) ?_
  have hPc := hP.sub (ws' := [(hk, .inr (7, [.ref ho, .ref hwr, .ref hrd, .ref hp, .int bg])), (hwr, .inr (1, [.ref ho, .int bo, .int wg, .int sl])), (ho, .inr (3, [.ref hh, .int sz])), (hh, .inl (cI, 600, .inl f))]) [0, 1, 2, 3] rfl
  have hDc := hD.sub (ws' := [(hk, .inr (7, [.ref ho, .ref hwr, .ref hrd, .ref hp, .int bg])), (hwr, .inr (1, [.ref ho, .int bo, .int wg, .int sl])), (ho, .inr (3, [.ref hh, .int sz])), (hh, .inl (cI, 600, .inl f))]) [0, 1, 2, 3] (by decide) rfl
  have hFc := va_free (wc := [(hk, .inr (7, [.ref ho, .ref hwr, .ref hrd, .ref hp, .int bg])), (hwr, .inr (1, [.ref ho, .int bo, .int wg, .int sl])), (ho, .inr (3, [.ref hh, .int sz])), (hh, .inl (cI, 600, .inl f))]) hD hS hA [0, 1, 2, 3] rfl
  refine vx_calli (vx_runV (As := []) (rest := [.int 0, .ref hot]) ⟨hx, hb, hml, hown, hts⟩ (c_X7_end l hl0 D cI cJ cZ hk ho hwr hrd hp hh bg bo wg sl sz f Bz bsz hwt hB (s.heap).size) (cwV 0 hts (kg_V mk_463 mk_464 mk_465 mk_13 mk_466) rfl rfl rfl (by decide +kernel) ⟨Nat.le_of_ble_eq_true rfl, Nat.le_of_ble_eq_true rfl⟩) ⟨fun a U g mk q => by obtain ⟨q0, q1, qP, qK, qD, qX⟩ := q; exact ⟨q0, q1, qP, kK.call qK, qD, kX.call qX⟩, va_recv hK.1 hPc (ci := 7) (q0 := 0) rfl rfl, fun U hU hW => ⟨rfl, by rw [hU], by rw [hU]; exact hPc, kK.warm hW hK, hDc.weaken (fun _ _ _ _ => trivial), by rw [hU]; exact kX.at hX hS hFc hW⟩⟩ rfl rfl hl.1 rfl (lv_room (Nat.le_of_ble_eq_true rfl)) dL_end_3 ⟨Nat.le_of_ble_eq_true rfl, Nat.le_of_ble_eq_true rfl⟩) hS (fun q _ h => hFc q h) hFc (fun q _ h => hFc q h) (fun E ce q9 u t9 H1 locs1 ht9 hvm9 hpx9 hB9 hz9 hk9 hS9 hc1 hc2 hc3 => ?_) (fun r3 u t9 H1 locs ht9 hvm9 hw9 hB9 hz9 hk9 hS => ?_)
  · obtain ⟨hE9, hP1, hD1⟩ := hB9
    rw [ht9] at hP1
    have hP1 : va_P D vwCl [(hk, .inr (7, [.ref ho, .ref hwr, .ref hrd, .ref hp, .int bg])), (hwr, .inr (1, [.ref ho, .int bo, .int wg, .int sl])), (ho, .inr (3, [.ref hh, .int sz])), (hh, .inl (cI, 600, .inl f))] H1 := hP1
    obtain ⟨hP, hD⟩ := va_join (wr := [(hot, .inl (cJ, 1, .inr (.inl g)))]) (w1 := [(hk, .inr (7, [.ref ho, .ref hwr, .ref hrd, .ref hp, .int bg])), (hwr, .inr (1, [.ref ho, .int bo, .int wg, .int sl])), (ho, .inr (3, [.ref hh, .int sz])), (hh, .inl (cI, 600, .inl f))]) hP hD [0, 1, 2, 3] [4] rfl rfl (by decide) (by decide) hk9 hFc hP1 hD1
    have hP := hP.sub (ws' := [(hk, .inr (7, [.ref ho, .ref hwr, .ref hrd, .ref hp, .int bg])), (hwr, .inr (1, [.ref ho, .int bo, .int wg, .int sl])), (ho, .inr (3, [.ref hh, .int sz])), (hh, .inl (cI, 600, .inl f)), (hot, .inl (cJ, 1, .inr (.inl g)))]) [1, 2, 3, 4, 0] rfl
    have hD := hD.sub (ws' := [(hk, .inr (7, [.ref ho, .ref hwr, .ref hrd, .ref hp, .int bg])), (hwr, .inr (1, [.ref ho, .int bo, .int wg, .int sl])), (ho, .inr (3, [.ref hh, .int sz])), (hh, .inl (cI, 600, .inl f)), (hot, .inl (cJ, 1, .inr (.inl g)))]) [1, 2, 3, 4, 0] (by decide) rfl
    have hS := hS9
    rcases hE9 with ⟨hE9, hc9⟩
    · subst hE9
      have hc9 : ¬ bg = 1 := hc9
      refine vx_catch hown [] ⟨0, 8, 11, 15⟩ [] (by rw [htab]; rfl) (fun z hz => nomatch hz) (by decide) (by decide) (hts _ mk_458) (va_Nw.use rfl (hX.2.2.1 (.castable "java/lang/IllegalStateException" "java/lang/IllegalStateException") (by decide +kernel))) hc1 hc2 hc3 ?_
      refine W.widen (k := 1) (n := 6) (by omega) (by omega) ?_
      refine lv_astore_n (lv' := [(2, .ref q9), (0, .ref hk), (1, .ref hot)]) hx hb dL_end_11 rfl hl (by decide) rfl (fun ls hl => ?_)
      refine lv_iconst (v := 1) hx hb dL_end_12 (by decide) ?_
      have pf_x : ((1 : Int32) = 1 ∧ ¬ bg = 1 ∧ bg = bg ∧ sz = sz ∧ f = f) ∨ ((1 : Int32) = 0 ∧ bg = 1 ∧ bg = 0 ∧ sz.toInt = sz.toInt + 4 ∧ g 0 = sz.toInt64) := (Or.inl ⟨rfl, hc9, rfl, rfl, rfl⟩)
      have pf_w : ((1 : Int32) = 0 → f = (wAp 4 (sz.toInt, wEb sl.toInt Bz, wEf sl.toInt sz.toInt.toNat Bz f)).2.2) ∧ (¬ (1 : Int32) = 0 → f = f) := ⟨fun h => absurd h (by decide), fun _ => rfl⟩
      exact W.iret (v := 1) hx hb hr (fun t9 ht9 hW9 => ⟨⟨1, (bg, bo, sz, f, g), rfl, ⟨bsz, pf_x, pf_w⟩, by rw [ht9]; exact hP, hD⟩, hS.F ht9⟩) hS.2.2 dL_end_13
  obtain ⟨bo2_3, sz2_3, f2_3⟩ := u
  obtain ⟨hP1, hD1⟩ := hB9
  rw [ht9] at hP1
  have hP1 : va_P D vwCl [(hk, .inr (7, [.ref ho, .ref hwr, .ref hrd, .ref hp, .int 0])), (hwr, .inr (1, [.ref ho, .int bo2_3, .int wg, .int sl])), (ho, .inr (3, [.ref hh, .int sz2_3])), (hh, .inl (cI, 600, .inl f2_3))] H1 := hP1
  obtain ⟨hP, hD⟩ := va_join (wr := [(hot, .inl (cJ, 1, .inr (.inl g)))]) (w1 := [(hk, .inr (7, [.ref ho, .ref hwr, .ref hrd, .ref hp, .int 0])), (hwr, .inr (1, [.ref ho, .int bo2_3, .int wg, .int sl])), (ho, .inr (3, [.ref hh, .int sz2_3])), (hh, .inl (cI, 600, .inl f2_3))]) hP hD [0, 1, 2, 3] [4] rfl rfl (by decide) (by decide) hk9 hFc hP1 hD1
  refine W.widen (k := 1) (n := 6) (by omega) (by omega) ?_
  have hP := hP.sub (ws' := [(hk, .inr (7, [.ref ho, .ref hwr, .ref hrd, .ref hp, .int 0])), (hwr, .inr (1, [.ref ho, .int bo2_3, .int wg, .int sl])), (ho, .inr (3, [.ref hh, .int sz2_3])), (hh, .inl (cI, 600, .inl f2_3)), (hot, .inl (cJ, 1, .inr (.inl g)))]) [1, 2, 3, 4, 0] rfl
  have hD := hD.sub (ws' := [(hk, .inr (7, [.ref ho, .ref hwr, .ref hrd, .ref hp, .int 0])), (hwr, .inr (1, [.ref ho, .int bo2_3, .int wg, .int sl])), (ho, .inr (3, [.ref hh, .int sz2_3])), (hh, .inl (cI, 600, .inl f2_3)), (hot, .inl (cJ, 1, .inr (.inl g)))]) [1, 2, 3, 4, 0] (by decide) rfl
  generalize H1 = H at hP hS ⊢
  obtain ⟨q3_0, q3_1, q3_2, q3_3, q3_4⟩ := hw9
  have q3_0 : bg = 1 := q3_0
  have q3_1 : r3 = sz2_3 := q3_1
  have q3_2 : sz2_3.toInt = sz.toInt + 4 := q3_2
  have q3_3 : kB sz2_3 0 600 := q3_3
  have q3_4 : f2_3 = (wAp 4 (sz.toInt, wEb sl.toInt Bz, wEf sl.toInt sz.toInt.toNat Bz f)).2.2 := q3_4
  refine lv_i2l hx hb dL_end_6 rfl ?_
  refine lv_topl (fun v6 e6 => ?_)
  refine va_last hx hb hK.1 hP hD hS 4 1 rfl rfl (kB_in kc_0 (by decide)) dL_end_7 (fun H locs hP hD hS => ?_)
  have hP : va_P D vwCl [(hk, .inr (7, [.ref ho, .ref hwr, .ref hrd, .ref hp, .int 0])), (hwr, .inr (1, [.ref ho, .int bo2_3, .int wg, .int sl])), (ho, .inr (3, [.ref hh, .int sz2_3])), (hh, .inl (cI, 600, .inl f2_3)), (hot, .inl (cJ, 1, .inr (.inl (vp_updL g (0 : Int32).toNatClampNeg v6))))] H := hP
  have hD : va_D A [(hk, .inr (7, [.ref ho, .ref hwr, .ref hrd, .ref hp, .int 0])), (hwr, .inr (1, [.ref ho, .int bo2_3, .int wg, .int sl])), (ho, .inr (3, [.ref hh, .int sz2_3])), (hh, .inl (cI, 600, .inl f2_3)), (hot, .inl (cJ, 1, .inr (.inl (vp_updL g (0 : Int32).toNatClampNeg v6))))] := hD
  generalize hf7 : vp_updL g (0 : Int32).toNatClampNeg v6 = f7 at hP hD
  refine lv_goto (tgt := 14) hx hb dL_end_8 (by decide) ?_
  refine lv_iconst (v := 0) hx hb dL_end_14 (by decide) ?_
  have pf_x : ((0 : Int32) = 1 ∧ ¬ bg = 1 ∧ (0 : Int32) = bg ∧ sz2_3 = sz ∧ f2_3 = f) ∨ ((0 : Int32) = 0 ∧ bg = 1 ∧ (0 : Int32) = 0 ∧ sz2_3.toInt = sz.toInt + 4 ∧ f7 0 = sz2_3.toInt64) := (Or.inr ⟨rfl, q3_0, rfl, q3_2, by rw [kg0 hf7, e6, q3_1]⟩)
  have pf_w : ((0 : Int32) = 0 → f2_3 = (wAp 4 (sz.toInt, wEb sl.toInt Bz, wEf sl.toInt sz.toInt.toNat Bz f)).2.2) ∧ (¬ (0 : Int32) = 0 → f2_3 = f) := ⟨fun _ => q3_4, fun h => absurd rfl h⟩
  exact W.iret (v := 0) hx hb hr (fun t9 ht9 hW9 => ⟨⟨0, (0, bo2_3, sz2_3, f2_3, f7), rfl, ⟨q3_3, pf_x, pf_w⟩, by rw [ht9]; exact hP, hD⟩, hS.F ht9⟩) hS.2.2 dL_end_15
abbrev kw_L_get : List Cond := Cond.codeWith yL_get cL_get 5 (some .int) [(0, 10, 13, 13), (0, 10, 17, 15)] :: kW
set_option maxHeartbeats 4000000 in
set_option maxRecDepth 100000 in
theorem c_L_get (l : Launch) (hl0 : l.stackTraces = false) (D : va_G) (cI cJ cZ : ClassId) (hk ho hwr hrd hp hh hot : Nat) (bg : Int32) (va : Int32) (rg : Int32) (sh : Int32) (nx : Int32) (sz : Int32) (f : Nat → Int32) (g : Nat → Int64) (pp : Int32) (mn : Int32) (brg : kB rg 128 255) (bsh : kB sh 0 7) (bsz : kB sz 0 600) (hpz : Nat) : Met l yL_get kw_L_get ({ frames := 8, cells := 2, slots := 12, locals := 143 }) (va_Pc [.ref hk, .int pp, .int mn, .ref hot] (fun U => U.heap.size = hpz ∧ va_P D vwCl [(hk, .inr (7, [.ref ho, .ref hwr, .ref hrd, .ref hp, .int bg])), (hrd, .inr (0, [.ref ho, .int va, .int rg, .int sh, .int nx])), (ho, .inr (3, [.ref hh, .int sz])), (hh, .inl (cI, 600, .inl f)), (hot, .inl (cJ, 1, .inr (.inl g)))] U.heap ∧ kK D cI cJ cZ U ∧ va_D (fun _ => True) [(hk, .inr (7, [.ref ho, .ref hwr, .ref hrd, .ref hp, .int bg])), (hrd, .inr (0, [.ref ho, .int va, .int rg, .int sh, .int nx])), (ho, .inr (3, [.ref hh, .int sz])), (hh, .inl (cI, 600, .inl f)), (hot, .inl (cJ, 1, .inr (.inl g)))] ∧ kX (va_A [(hk, .inr (7, [.ref ho, .ref hwr, .ref hrd, .ref hp, .int bg])), (hrd, .inr (0, [.ref ho, .int va, .int rg, .int sh, .int nx])), (ho, .inr (3, [.ref hh, .int sz])), (hh, .inl (cI, 600, .inl f)), (hot, .inl (cJ, 1, .inr (.inl g)))] hpz) U U.heap ∧ kY U)) (va_Qi (fun (r : Int32) (u : Int32 × Int32 × Int32 × Int32 × (Nat → Int64)) => (kB u.2.1 128 255) ∧ (kB u.2.2.1 0 7) ∧ ((r = 1 ∧ ¬ ((1 ≤ pp.toInt ∧ pp.toInt ≤ 255) ∧ (0 ≤ mn.toInt ∧ mn.toInt ≤ 32))) ∨ (r = 2 ∧ ((1 ≤ pp.toInt ∧ pp.toInt ≤ 255) ∧ (0 ≤ mn.toInt ∧ mn.toInt ≤ 32)) ∧ ¬ bg = 2) ∨ (r = 0 ∧ bg = 2))) (fun (u : Int32 × Int32 × Int32 × Int32 × (Nat → Int64)) (t : State) => va_P D vwCl [(hk, .inr (7, [.ref ho, .ref hwr, .ref hrd, .ref hp, .int bg])), (hrd, .inr (0, [.ref ho, .int u.1, .int u.2.1, .int u.2.2.1, .int u.2.2.2.1])), (ho, .inr (3, [.ref hh, .int sz])), (hh, .inl (cI, 600, .inl f)), (hot, .inl (cJ, 1, .inr (.inl u.2.2.2.2)))] t.heap ∧ va_D (va_A [(hk, .inr (7, [.ref ho, .ref hwr, .ref hrd, .ref hp, .int bg])), (hrd, .inr (0, [.ref ho, .int va, .int rg, .int sh, .int nx])), (ho, .inr (3, [.ref hh, .int sz])), (hh, .inl (cI, 600, .inl f)), (hot, .inl (cJ, 1, .inr (.inl g)))] hpz) [(hk, .inr (7, [.ref ho, .ref hwr, .ref hrd, .ref hp, .int bg])), (hrd, .inr (0, [.ref ho, .int u.1, .int u.2.1, .int u.2.2.1, .int u.2.2.2.1])), (ho, .inr (3, [.ref hh, .int sz])), (hh, .inl (cI, 600, .inl f)), (hot, .inl (cJ, 1, .inr (.inl u.2.2.2.2)))]) (va_A [(hk, .inr (7, [.ref ho, .ref hwr, .ref hrd, .ref hp, .int bg])), (hrd, .inr (0, [.ref ho, .int va, .int rg, .int sh, .int nx])), (ho, .inr (3, [.ref hh, .int sz])), (hh, .inl (cI, 600, .inl f)), (hot, .inl (cJ, 1, .inr (.inl g)))] hpz)) 2 12 (va_A [(hk, .inr (7, [.ref ho, .ref hwr, .ref hrd, .ref hp, .int bg])), (hrd, .inr (0, [.ref ho, .int va, .int rg, .int sh, .int nx])), (ho, .inr (3, [.ref hh, .int sz])), (hh, .inl (cI, 600, .inl f)), (hot, .inl (cJ, 1, .inr (.inl g)))] hpz) := by
  refine va_MetW (cc := cL_get) (maxL := 5) (ret := (some .int)) (by decide) rfl ?_
  intro p e s m args below meth c s₁ B hml hv
  obtain ⟨rfl, hsz, hP, hK, hD0, hX, hY⟩ := hv
  have htab := vx_table (x := yL_get) B (atoms_spec (ws := kw_L_get) B.pre _ List.mem_cons_self)
  have hx := B.exec
  have hb := B.bytes
  have hr := B.returns
  have hts := fun (w : Cond) (h : w ∈ kW) => atoms_spec (ws := kw_L_get) B.pre w (List.mem_cons_of_mem _ h)
  have hown : s.vm.findClass RL = some m.cls := findClass_of_methodNamed B.named
  have hlocks := B.notSynchronized
  subst hsz
  have hD := hD0.self (sz := s.heap.size)
  generalize hAe : va_A [(hk, .inr (7, [.ref ho, .ref hwr, .ref hrd, .ref hp, .int bg])), (hrd, .inr (0, [.ref ho, .int va, .int rg, .int sh, .int nx])), (ho, .inr (3, [.ref hh, .int sz])), (hh, .inl (cI, 600, .inl f)), (hot, .inl (cJ, 1, .inr (.inl g)))] s.heap.size = A at hD hX ⊢
  have hA : ∀ q : Nat, s.heap.size ≤ q → A q := fun q h => by rw [← hAe]; exact Or.inr h
  have hS : va_S A s.heap s.heap [] := va_S.rf
  have hP : va_P D vwCl [(hk, .inr (7, [.ref ho, .ref hwr, .ref hrd, .ref hp, .int bg])), (hrd, .inr (0, [.ref ho, .int va, .int rg, .int sh, .int nx])), (ho, .inr (3, [.ref hh, .int sz])), (hh, .inl (cI, 600, .inl f)), (hot, .inl (cJ, 1, .inr (.inl g)))] s.heap := hP
  have hl := lv_entry ([.ref hk, .int pp, .int mn, .ref hot]) (n := 5) (Nat.le_of_ble_eq_true rfl)
  rw [lg_entry_eq]
  generalize (lg_sl ([.ref hk, .int pp, .int mn, .ref hot]) ++ List.replicate (5 - (lg_sl ([.ref hk, .int pp, .int mn, .ref hot])).length) Slot.unset).toArray = ls at hl ⊢
  have hl : lv_has ls 5 [(0, .ref hk), (1, .int pp), (2, .int mn), (3, .ref hot)] := hl
  refine lv_aload_n hx hb dL_get_0 rfl (lv_at hl 3 rfl) ?_
  refine lv_iconst (v := 0) hx hb dL_get_1 (by decide) ?_
  refine lv_aload_n hx hb dL_get_2 rfl (lv_at hl 0 rfl) ?_
  refine lv_iload_n hx hb dL_get_3 rfl (lv_at hl 1 rfl) ?_
  refine lv_iload_n hx hb dL_get_4 rfl (lv_at hl 2 rfl) ?_
  have hPc := hP.sub (ws' := [(hk, .inr (7, [.ref ho, .ref hwr, .ref hrd, .ref hp, .int bg])), (hrd, .inr (0, [.ref ho, .int va, .int rg, .int sh, .int nx])), (ho, .inr (3, [.ref hh, .int sz])), (hh, .inl (cI, 600, .inl f))]) [0, 1, 2, 3] rfl
  have hDc := hD.sub (ws' := [(hk, .inr (7, [.ref ho, .ref hwr, .ref hrd, .ref hp, .int bg])), (hrd, .inr (0, [.ref ho, .int va, .int rg, .int sh, .int nx])), (ho, .inr (3, [.ref hh, .int sz])), (hh, .inl (cI, 600, .inl f))]) [0, 1, 2, 3] (by decide) rfl
  have hFc := va_free (wc := [(hk, .inr (7, [.ref ho, .ref hwr, .ref hrd, .ref hp, .int bg])), (hrd, .inr (0, [.ref ho, .int va, .int rg, .int sh, .int nx])), (ho, .inr (3, [.ref hh, .int sz])), (hh, .inl (cI, 600, .inl f))]) hD hS hA [0, 1, 2, 3] rfl
  refine vx_calli (vx_runV (As := [.int pp, .int mn]) (rest := [.int 0, .ref hot]) ⟨hx, hb, hml, hown, hts⟩ (c_X7_get l hl0 D cI cJ cZ hk ho hwr hrd hp hh bg va rg sh nx sz f pp mn brg bsh bsz (s.heap).size) (cwV 2 hts (kg_V mk_467 mk_468 mk_469 mk_13 mk_470) rfl rfl rfl (by decide +kernel) ⟨Nat.le_of_ble_eq_true rfl, Nat.le_of_ble_eq_true rfl⟩) ⟨fun a U g mk q => by obtain ⟨q0, q1, qP, qK, qD, qX⟩ := q; exact ⟨q0, q1, qP, kK.call qK, qD, kX.call qX⟩, va_recv hK.1 hPc (ci := 7) (q0 := 0) rfl rfl, fun U hU hW => ⟨rfl, by rw [hU], by rw [hU]; exact hPc, kK.warm hW hK, hDc.weaken (fun _ _ _ _ => trivial), by rw [hU]; exact kX.at hX hS hFc hW⟩⟩ rfl rfl hl.1 rfl (lv_room (Nat.le_of_ble_eq_true rfl)) dL_get_5 ⟨Nat.le_of_ble_eq_true rfl, Nat.le_of_ble_eq_true rfl⟩) hS (fun q _ h => hFc q h) hFc (fun q _ h => hFc q h) (fun E ce q9 u t9 H1 locs1 ht9 hvm9 hpx9 hB9 hz9 hk9 hS9 hc1 hc2 hc3 => ?_) (fun r5 u t9 H1 locs ht9 hvm9 hw9 hB9 hz9 hk9 hS => ?_)
  · obtain ⟨hE9, hP1, hD1⟩ := hB9
    rw [ht9] at hP1
    have hP1 : va_P D vwCl [(hk, .inr (7, [.ref ho, .ref hwr, .ref hrd, .ref hp, .int bg])), (hrd, .inr (0, [.ref ho, .int va, .int rg, .int sh, .int nx])), (ho, .inr (3, [.ref hh, .int sz])), (hh, .inl (cI, 600, .inl f))] H1 := hP1
    obtain ⟨hP, hD⟩ := va_join (wr := [(hot, .inl (cJ, 1, .inr (.inl g)))]) (w1 := [(hk, .inr (7, [.ref ho, .ref hwr, .ref hrd, .ref hp, .int bg])), (hrd, .inr (0, [.ref ho, .int va, .int rg, .int sh, .int nx])), (ho, .inr (3, [.ref hh, .int sz])), (hh, .inl (cI, 600, .inl f))]) hP hD [0, 1, 2, 3] [4] rfl rfl (by decide) (by decide) hk9 hFc hP1 hD1
    have hP := hP.sub (ws' := [(hk, .inr (7, [.ref ho, .ref hwr, .ref hrd, .ref hp, .int bg])), (hrd, .inr (0, [.ref ho, .int va, .int rg, .int sh, .int nx])), (ho, .inr (3, [.ref hh, .int sz])), (hh, .inl (cI, 600, .inl f)), (hot, .inl (cJ, 1, .inr (.inl g)))]) [1, 2, 3, 4, 0] rfl
    have hD := hD.sub (ws' := [(hk, .inr (7, [.ref ho, .ref hwr, .ref hrd, .ref hp, .int bg])), (hrd, .inr (0, [.ref ho, .int va, .int rg, .int sh, .int nx])), (ho, .inr (3, [.ref hh, .int sz])), (hh, .inl (cI, 600, .inl f)), (hot, .inl (cJ, 1, .inr (.inl g)))]) [1, 2, 3, 4, 0] (by decide) rfl
    have hS := hS9
    rcases hE9 with ⟨hE9, hc9⟩ | ⟨hE9, hc9⟩
    · subst hE9
      have hc9 : ¬ ((1 ≤ pp.toInt ∧ pp.toInt ≤ 255) ∧ (0 ≤ mn.toInt ∧ mn.toInt ≤ 32)) := hc9
      refine vx_catch hown [] ⟨0, 10, 13, 13⟩ [⟨0, 10, 17, 15⟩] (by rw [htab]; rfl) (fun z hz => nomatch hz) (by decide) (by decide) (hts _ mk_457) (va_Nw.use rfl (hX.2.2.1 (.castable "java/lang/IllegalArgumentException" "java/lang/IllegalArgumentException") (by decide +kernel))) hc1 hc2 hc3 ?_
      refine W.widen (k := 2) (n := 12) (by omega) (by omega) ?_
      refine lv_astore (lv' := [(4, .ref q9), (0, .ref hk), (1, .int pp), (2, .int mn), (3, .ref hot)]) hx hb dL_get_13 hl (by decide) rfl (fun ls hl => ?_)
      refine lv_iconst (v := 1) hx hb dL_get_15 (by decide) ?_
      have pf_z : ((1 : Int32) = 1 ∧ ¬ ((1 ≤ pp.toInt ∧ pp.toInt ≤ 255) ∧ (0 ≤ mn.toInt ∧ mn.toInt ≤ 32))) ∨ ((1 : Int32) = 2 ∧ ((1 ≤ pp.toInt ∧ pp.toInt ≤ 255) ∧ (0 ≤ mn.toInt ∧ mn.toInt ≤ 32)) ∧ ¬ bg = 2) ∨ ((1 : Int32) = 0 ∧ bg = 2) := (Or.inl ⟨rfl, hc9⟩)
      exact W.iret (v := 1) hx hb hr (fun t9 ht9 hW9 => ⟨⟨1, (va, rg, sh, nx, g), rfl, ⟨brg, bsh, pf_z⟩, by rw [ht9]; exact hP, hD⟩, hS.F ht9⟩) hS.2.2 dL_get_16
    · subst hE9
      have hc9 : (((1 ≤ pp.toInt ∧ pp.toInt ≤ 255) ∧ (0 ≤ mn.toInt ∧ mn.toInt ≤ 32)) ∧ ¬ bg = 2) := hc9
      refine vx_catch hown [⟨0, 10, 13, 13⟩] ⟨0, 10, 17, 15⟩ [] (by rw [htab]; rfl) (fun z hz => by rw [List.mem_singleton.mp hz]; exact Or.inr ⟨by decide, "java/lang/IllegalArgumentException", (hts _ mk_457), hY⟩) (by decide) (by decide) (hts _ mk_458) (va_Nw.use rfl (hX.2.2.1 (.castable "java/lang/IllegalStateException" "java/lang/IllegalStateException") (by decide +kernel))) hc1 hc2 hc3 ?_
      refine W.widen (k := 2) (n := 12) (by omega) (by omega) ?_
      refine lv_astore (lv' := [(4, .ref q9), (0, .ref hk), (1, .int pp), (2, .int mn), (3, .ref hot)]) hx hb dL_get_17 hl (by decide) rfl (fun ls hl => ?_)
      refine lv_iconst (v := 2) hx hb dL_get_19 (by decide) ?_
      have pf_z : ((2 : Int32) = 1 ∧ ¬ ((1 ≤ pp.toInt ∧ pp.toInt ≤ 255) ∧ (0 ≤ mn.toInt ∧ mn.toInt ≤ 32))) ∨ ((2 : Int32) = 2 ∧ ((1 ≤ pp.toInt ∧ pp.toInt ≤ 255) ∧ (0 ≤ mn.toInt ∧ mn.toInt ≤ 32)) ∧ ¬ bg = 2) ∨ ((2 : Int32) = 0 ∧ bg = 2) := (Or.inr (Or.inl ⟨rfl, hc9.1, hc9.2⟩))
      exact W.iret (v := 2) hx hb hr (fun t9 ht9 hW9 => ⟨⟨2, (va, rg, sh, nx, g), rfl, ⟨brg, bsh, pf_z⟩, by rw [ht9]; exact hP, hD⟩, hS.F ht9⟩) hS.2.2 dL_get_20
  obtain ⟨va2_5, rg2_5, sh2_5, nx2_5⟩ := u
  obtain ⟨hP1, hD1⟩ := hB9
  rw [ht9] at hP1
  have hP1 : va_P D vwCl [(hk, .inr (7, [.ref ho, .ref hwr, .ref hrd, .ref hp, .int bg])), (hrd, .inr (0, [.ref ho, .int va2_5, .int rg2_5, .int sh2_5, .int nx2_5])), (ho, .inr (3, [.ref hh, .int sz])), (hh, .inl (cI, 600, .inl f))] H1 := hP1
  obtain ⟨hP, hD⟩ := va_join (wr := [(hot, .inl (cJ, 1, .inr (.inl g)))]) (w1 := [(hk, .inr (7, [.ref ho, .ref hwr, .ref hrd, .ref hp, .int bg])), (hrd, .inr (0, [.ref ho, .int va2_5, .int rg2_5, .int sh2_5, .int nx2_5])), (ho, .inr (3, [.ref hh, .int sz])), (hh, .inl (cI, 600, .inl f))]) hP hD [0, 1, 2, 3] [4] rfl rfl (by decide) (by decide) hk9 hFc hP1 hD1
  refine W.widen (k := 2) (n := 12) (by omega) (by omega) ?_
  have hP := hP.sub (ws' := [(hk, .inr (7, [.ref ho, .ref hwr, .ref hrd, .ref hp, .int bg])), (hrd, .inr (0, [.ref ho, .int va2_5, .int rg2_5, .int sh2_5, .int nx2_5])), (ho, .inr (3, [.ref hh, .int sz])), (hh, .inl (cI, 600, .inl f)), (hot, .inl (cJ, 1, .inr (.inl g)))]) [1, 2, 3, 4, 0] rfl
  have hD := hD.sub (ws' := [(hk, .inr (7, [.ref ho, .ref hwr, .ref hrd, .ref hp, .int bg])), (hrd, .inr (0, [.ref ho, .int va2_5, .int rg2_5, .int sh2_5, .int nx2_5])), (ho, .inr (3, [.ref hh, .int sz])), (hh, .inl (cI, 600, .inl f)), (hot, .inl (cJ, 1, .inr (.inl g)))]) [1, 2, 3, 4, 0] (by decide) rfl
  generalize H1 = H at hP hS ⊢
  obtain ⟨q5_0, q5_1, q5_2⟩ := hw9
  have q5_0 : kB rg2_5 128 255 := q5_0
  have q5_1 : kB sh2_5 0 7 := q5_1
  have q5_2 : bg = 2 := q5_2
  refine lv_i2l hx hb dL_get_8 rfl ?_
  refine lv_topl (fun v8 e8 => ?_)
  refine va_last hx hb hK.1 hP hD hS 4 1 rfl rfl (kB_in kc_0 (by decide)) dL_get_9 (fun H locs hP hD hS => ?_)
  have hP : va_P D vwCl [(hk, .inr (7, [.ref ho, .ref hwr, .ref hrd, .ref hp, .int bg])), (hrd, .inr (0, [.ref ho, .int va2_5, .int rg2_5, .int sh2_5, .int nx2_5])), (ho, .inr (3, [.ref hh, .int sz])), (hh, .inl (cI, 600, .inl f)), (hot, .inl (cJ, 1, .inr (.inl (vp_updL g (0 : Int32).toNatClampNeg v8))))] H := hP
  have hD : va_D A [(hk, .inr (7, [.ref ho, .ref hwr, .ref hrd, .ref hp, .int bg])), (hrd, .inr (0, [.ref ho, .int va2_5, .int rg2_5, .int sh2_5, .int nx2_5])), (ho, .inr (3, [.ref hh, .int sz])), (hh, .inl (cI, 600, .inl f)), (hot, .inl (cJ, 1, .inr (.inl (vp_updL g (0 : Int32).toNatClampNeg v8))))] := hD
  generalize hf9 : vp_updL g (0 : Int32).toNatClampNeg v8 = f9 at hP hD
  refine lv_goto (tgt := 21) hx hb dL_get_10 (by decide) ?_
  refine lv_iconst (v := 0) hx hb dL_get_21 (by decide) ?_
  have pf_z : ((0 : Int32) = 1 ∧ ¬ ((1 ≤ pp.toInt ∧ pp.toInt ≤ 255) ∧ (0 ≤ mn.toInt ∧ mn.toInt ≤ 32))) ∨ ((0 : Int32) = 2 ∧ ((1 ≤ pp.toInt ∧ pp.toInt ≤ 255) ∧ (0 ≤ mn.toInt ∧ mn.toInt ≤ 32)) ∧ ¬ bg = 2) ∨ ((0 : Int32) = 0 ∧ bg = 2) := (Or.inr (Or.inr ⟨rfl, q5_2⟩))
  exact W.iret (v := 0) hx hb hr (fun t9 ht9 hW9 => ⟨⟨0, (va2_5, rg2_5, sh2_5, nx2_5, f9), rfl, ⟨q5_0, q5_1, pf_z⟩, by rw [ht9]; exact hP, hD⟩, hS.F ht9⟩) hS.2.2 dL_get_22
abbrev kw_L_block : List Cond := Cond.codeWith yL_block cL_block 5 (some .int) [(0, 10, 13, 13)] :: kW
set_option maxHeartbeats 4000000 in
set_option maxRecDepth 100000 in
theorem c_L_block (l : Launch) (hl0 : l.stackTraces = false) (D : va_G) (cI cJ cZ : ClassId) (hk ho hwr hrd hp ht htr hpl hw hcr hco hhs hot : Nat) (bg : Int32) (cols : Int32) (rows : Int32) (q : Int32) (lev : Int32) (ta : Int32) (ob : Int32) (fch : Int32) (wy : Nat → Int32) (cr : Nat → Int32) (co : Nat → Int32) (g : Nat → Int64) (k : Int32) (wt : Int32) (bcols : kB cols 0 4) (brows : kB rows 0 4) (hpz : Nat) : Met l yL_block kw_L_block ({ frames := 7, cells := 1, slots := 6, locals := 122 }) (va_Pc [.ref hk, .int k, .int wt, .ref hot] (fun U => U.heap.size = hpz ∧ va_P D vwCl [(hk, .inr (7, [.ref ho, .ref hwr, .ref hrd, .ref hp, .int bg])), (hp, .inr (4, [.ref ht, .ref htr, .ref hpl, .ref hw, .ref hcr, .ref hco, .ref hhs, .int cols, .int rows, .int q, .int lev, .int ta, .int ob, .int fch])), (hw, .inl (cI, 16, .inl wy)), (hcr, .inl (cI, 16, .inl cr)), (hco, .inl (cI, 256, .inl co)), (hot, .inl (cJ, 1, .inr (.inl g)))] U.heap ∧ kK D cI cJ cZ U ∧ va_D (fun _ => True) [(hk, .inr (7, [.ref ho, .ref hwr, .ref hrd, .ref hp, .int bg])), (hp, .inr (4, [.ref ht, .ref htr, .ref hpl, .ref hw, .ref hcr, .ref hco, .ref hhs, .int cols, .int rows, .int q, .int lev, .int ta, .int ob, .int fch])), (hw, .inl (cI, 16, .inl wy)), (hcr, .inl (cI, 16, .inl cr)), (hco, .inl (cI, 256, .inl co)), (hot, .inl (cJ, 1, .inr (.inl g)))] ∧ kX (va_A [(hk, .inr (7, [.ref ho, .ref hwr, .ref hrd, .ref hp, .int bg])), (hp, .inr (4, [.ref ht, .ref htr, .ref hpl, .ref hw, .ref hcr, .ref hco, .ref hhs, .int cols, .int rows, .int q, .int lev, .int ta, .int ob, .int fch])), (hw, .inl (cI, 16, .inl wy)), (hcr, .inl (cI, 16, .inl cr)), (hco, .inl (cI, 256, .inl co)), (hot, .inl (cJ, 1, .inr (.inl g)))] hpz) U U.heap ∧ kY U)) (va_Qi (fun (r : Int32) (u : (Nat → Int64)) => ((r = 1 ∧ ¬ (0 ≤ wt.toInt ∧ wt.toInt ≤ 17)) ∨ (r = 0 ∧ (0 ≤ wt.toInt ∧ wt.toInt ≤ 17))) ∧ (kIf (r = 0 ∧ cols = 0) (u 0 = (if wt.toInt < 2 then (-1 : Int32) else 0).toInt64))) (fun (u : (Nat → Int64)) (t : State) => va_P D vwCl [(hk, .inr (7, [.ref ho, .ref hwr, .ref hrd, .ref hp, .int bg])), (hp, .inr (4, [.ref ht, .ref htr, .ref hpl, .ref hw, .ref hcr, .ref hco, .ref hhs, .int cols, .int rows, .int q, .int lev, .int ta, .int ob, .int fch])), (hw, .inl (cI, 16, .inl wy)), (hcr, .inl (cI, 16, .inl cr)), (hco, .inl (cI, 256, .inl co)), (hot, .inl (cJ, 1, .inr (.inl u)))] t.heap ∧ va_D (va_A [(hk, .inr (7, [.ref ho, .ref hwr, .ref hrd, .ref hp, .int bg])), (hp, .inr (4, [.ref ht, .ref htr, .ref hpl, .ref hw, .ref hcr, .ref hco, .ref hhs, .int cols, .int rows, .int q, .int lev, .int ta, .int ob, .int fch])), (hw, .inl (cI, 16, .inl wy)), (hcr, .inl (cI, 16, .inl cr)), (hco, .inl (cI, 256, .inl co)), (hot, .inl (cJ, 1, .inr (.inl g)))] hpz) [(hk, .inr (7, [.ref ho, .ref hwr, .ref hrd, .ref hp, .int bg])), (hp, .inr (4, [.ref ht, .ref htr, .ref hpl, .ref hw, .ref hcr, .ref hco, .ref hhs, .int cols, .int rows, .int q, .int lev, .int ta, .int ob, .int fch])), (hw, .inl (cI, 16, .inl wy)), (hcr, .inl (cI, 16, .inl cr)), (hco, .inl (cI, 256, .inl co)), (hot, .inl (cJ, 1, .inr (.inl u)))]) (va_A [(hk, .inr (7, [.ref ho, .ref hwr, .ref hrd, .ref hp, .int bg])), (hp, .inr (4, [.ref ht, .ref htr, .ref hpl, .ref hw, .ref hcr, .ref hco, .ref hhs, .int cols, .int rows, .int q, .int lev, .int ta, .int ob, .int fch])), (hw, .inl (cI, 16, .inl wy)), (hcr, .inl (cI, 16, .inl cr)), (hco, .inl (cI, 256, .inl co)), (hot, .inl (cJ, 1, .inr (.inl g)))] hpz)) 1 6 (va_A [(hk, .inr (7, [.ref ho, .ref hwr, .ref hrd, .ref hp, .int bg])), (hp, .inr (4, [.ref ht, .ref htr, .ref hpl, .ref hw, .ref hcr, .ref hco, .ref hhs, .int cols, .int rows, .int q, .int lev, .int ta, .int ob, .int fch])), (hw, .inl (cI, 16, .inl wy)), (hcr, .inl (cI, 16, .inl cr)), (hco, .inl (cI, 256, .inl co)), (hot, .inl (cJ, 1, .inr (.inl g)))] hpz) := by
  refine va_MetW (cc := cL_block) (maxL := 5) (ret := (some .int)) (by decide) rfl ?_
  intro p e s m args below meth c s₁ B hml hv
  obtain ⟨rfl, hsz, hP, hK, hD0, hX, hY⟩ := hv
  have htab := vx_table (x := yL_block) B (atoms_spec (ws := kw_L_block) B.pre _ List.mem_cons_self)
  have hx := B.exec
  have hb := B.bytes
  have hr := B.returns
  have hts := fun (w : Cond) (h : w ∈ kW) => atoms_spec (ws := kw_L_block) B.pre w (List.mem_cons_of_mem _ h)
  have hown : s.vm.findClass RL = some m.cls := findClass_of_methodNamed B.named
  have hlocks := B.notSynchronized
  subst hsz
  have hD := hD0.self (sz := s.heap.size)
  generalize hAe : va_A [(hk, .inr (7, [.ref ho, .ref hwr, .ref hrd, .ref hp, .int bg])), (hp, .inr (4, [.ref ht, .ref htr, .ref hpl, .ref hw, .ref hcr, .ref hco, .ref hhs, .int cols, .int rows, .int q, .int lev, .int ta, .int ob, .int fch])), (hw, .inl (cI, 16, .inl wy)), (hcr, .inl (cI, 16, .inl cr)), (hco, .inl (cI, 256, .inl co)), (hot, .inl (cJ, 1, .inr (.inl g)))] s.heap.size = A at hD hX ⊢
  have hA : ∀ q : Nat, s.heap.size ≤ q → A q := fun q h => by rw [← hAe]; exact Or.inr h
  have hS : va_S A s.heap s.heap [] := va_S.rf
  have hP : va_P D vwCl [(hk, .inr (7, [.ref ho, .ref hwr, .ref hrd, .ref hp, .int bg])), (hp, .inr (4, [.ref ht, .ref htr, .ref hpl, .ref hw, .ref hcr, .ref hco, .ref hhs, .int cols, .int rows, .int q, .int lev, .int ta, .int ob, .int fch])), (hw, .inl (cI, 16, .inl wy)), (hcr, .inl (cI, 16, .inl cr)), (hco, .inl (cI, 256, .inl co)), (hot, .inl (cJ, 1, .inr (.inl g)))] s.heap := hP
  have hl := lv_entry ([.ref hk, .int k, .int wt, .ref hot]) (n := 5) (Nat.le_of_ble_eq_true rfl)
  rw [lg_entry_eq]
  generalize (lg_sl ([.ref hk, .int k, .int wt, .ref hot]) ++ List.replicate (5 - (lg_sl ([.ref hk, .int k, .int wt, .ref hot])).length) Slot.unset).toArray = ls at hl ⊢
  have hl : lv_has ls 5 [(0, .ref hk), (1, .int k), (2, .int wt), (3, .ref hot)] := hl
  refine lv_aload_n hx hb dL_block_0 rfl (lv_at hl 3 rfl) ?_
  refine lv_iconst (v := 0) hx hb dL_block_1 (by decide) ?_
  refine lv_aload_n hx hb dL_block_2 rfl (lv_at hl 0 rfl) ?_
  refine lv_iload_n hx hb dL_block_3 rfl (lv_at hl 1 rfl) ?_
  refine lv_iload_n hx hb dL_block_4 rfl (lv_at hl 2 rfl) ?_
  have hPc := hP.sub (ws' := [(hk, .inr (7, [.ref ho, .ref hwr, .ref hrd, .ref hp, .int bg])), (hp, .inr (4, [.ref ht, .ref htr, .ref hpl, .ref hw, .ref hcr, .ref hco, .ref hhs, .int cols, .int rows, .int q, .int lev, .int ta, .int ob, .int fch])), (hw, .inl (cI, 16, .inl wy)), (hcr, .inl (cI, 16, .inl cr)), (hco, .inl (cI, 256, .inl co))]) [0, 1, 2, 3, 4] rfl
  have hDc := hD.sub (ws' := [(hk, .inr (7, [.ref ho, .ref hwr, .ref hrd, .ref hp, .int bg])), (hp, .inr (4, [.ref ht, .ref htr, .ref hpl, .ref hw, .ref hcr, .ref hco, .ref hhs, .int cols, .int rows, .int q, .int lev, .int ta, .int ob, .int fch])), (hw, .inl (cI, 16, .inl wy)), (hcr, .inl (cI, 16, .inl cr)), (hco, .inl (cI, 256, .inl co))]) [0, 1, 2, 3, 4] (by decide) rfl
  have hFc := va_free (wc := [(hk, .inr (7, [.ref ho, .ref hwr, .ref hrd, .ref hp, .int bg])), (hp, .inr (4, [.ref ht, .ref htr, .ref hpl, .ref hw, .ref hcr, .ref hco, .ref hhs, .int cols, .int rows, .int q, .int lev, .int ta, .int ob, .int fch])), (hw, .inl (cI, 16, .inl wy)), (hcr, .inl (cI, 16, .inl cr)), (hco, .inl (cI, 256, .inl co))]) hD hS hA [0, 1, 2, 3, 4] rfl
  refine vx_calli (vx_runV (As := [.int k, .int wt]) (rest := [.int 0, .ref hot]) ⟨hx, hb, hml, hown, hts⟩ (c_X7_block l hl0 D cI cJ cZ hk ho hwr hrd hp ht htr hpl hw hcr hco hhs bg cols rows q lev ta ob fch wy cr co k wt bcols brows (s.heap).size) (cwV 2 hts (kg_V mk_471 mk_472 mk_473 mk_13 mk_474) rfl rfl rfl (by decide +kernel) ⟨Nat.le_of_ble_eq_true rfl, Nat.le_of_ble_eq_true rfl⟩) ⟨fun a U g mk q => by obtain ⟨q0, q1, qP, qK, qD, qX⟩ := q; exact ⟨q0, q1, qP, kK.call qK, qD, kX.call qX⟩, va_recv hK.1 hPc (ci := 7) (q0 := 0) rfl rfl, fun U hU hW => ⟨rfl, by rw [hU], by rw [hU]; exact hPc, kK.warm hW hK, hDc.weaken (fun _ _ _ _ => trivial), by rw [hU]; exact kX.at hX hS hFc hW⟩⟩ rfl rfl hl.1 rfl (lv_room (Nat.le_of_ble_eq_true rfl)) dL_block_5 ⟨Nat.le_of_ble_eq_true rfl, Nat.le_of_ble_eq_true rfl⟩) hS (fun q _ h => hFc q h) hFc (fun q _ h => hFc q h) (fun E ce q9 u t9 H1 locs1 ht9 hvm9 hpx9 hB9 hz9 hk9 hS9 hc1 hc2 hc3 => ?_) (fun r5 u t9 H1 locs ht9 hvm9 hw9 hB9 hz9 hk9 hS => ?_)
  · obtain ⟨hE9, hP1, hD1⟩ := hB9
    rw [ht9] at hP1
    have hP1 : va_P D vwCl [(hk, .inr (7, [.ref ho, .ref hwr, .ref hrd, .ref hp, .int bg])), (hp, .inr (4, [.ref ht, .ref htr, .ref hpl, .ref hw, .ref hcr, .ref hco, .ref hhs, .int cols, .int rows, .int q, .int lev, .int ta, .int ob, .int fch])), (hw, .inl (cI, 16, .inl wy)), (hcr, .inl (cI, 16, .inl cr)), (hco, .inl (cI, 256, .inl co))] H1 := hP1
    obtain ⟨hP, hD⟩ := va_join (wr := [(hot, .inl (cJ, 1, .inr (.inl g)))]) (w1 := [(hk, .inr (7, [.ref ho, .ref hwr, .ref hrd, .ref hp, .int bg])), (hp, .inr (4, [.ref ht, .ref htr, .ref hpl, .ref hw, .ref hcr, .ref hco, .ref hhs, .int cols, .int rows, .int q, .int lev, .int ta, .int ob, .int fch])), (hw, .inl (cI, 16, .inl wy)), (hcr, .inl (cI, 16, .inl cr)), (hco, .inl (cI, 256, .inl co))]) hP hD [0, 1, 2, 3, 4] [5] rfl rfl (by decide) (by decide) hk9 hFc hP1 hD1
    have hP := hP.sub (ws' := [(hk, .inr (7, [.ref ho, .ref hwr, .ref hrd, .ref hp, .int bg])), (hp, .inr (4, [.ref ht, .ref htr, .ref hpl, .ref hw, .ref hcr, .ref hco, .ref hhs, .int cols, .int rows, .int q, .int lev, .int ta, .int ob, .int fch])), (hw, .inl (cI, 16, .inl wy)), (hcr, .inl (cI, 16, .inl cr)), (hco, .inl (cI, 256, .inl co)), (hot, .inl (cJ, 1, .inr (.inl g)))]) [1, 2, 3, 4, 5, 0] rfl
    have hD := hD.sub (ws' := [(hk, .inr (7, [.ref ho, .ref hwr, .ref hrd, .ref hp, .int bg])), (hp, .inr (4, [.ref ht, .ref htr, .ref hpl, .ref hw, .ref hcr, .ref hco, .ref hhs, .int cols, .int rows, .int q, .int lev, .int ta, .int ob, .int fch])), (hw, .inl (cI, 16, .inl wy)), (hcr, .inl (cI, 16, .inl cr)), (hco, .inl (cI, 256, .inl co)), (hot, .inl (cJ, 1, .inr (.inl g)))]) [1, 2, 3, 4, 5, 0] (by decide) rfl
    have hS := hS9
    rcases hE9 with ⟨hE9, hc9⟩
    · subst hE9
      have hc9 : ¬ (0 ≤ wt.toInt ∧ wt.toInt ≤ 17) := hc9
      refine vx_catch hown [] ⟨0, 10, 13, 13⟩ [] (by rw [htab]; rfl) (fun z hz => nomatch hz) (by decide) (by decide) (hts _ mk_457) (va_Nw.use rfl (hX.2.2.1 (.castable "java/lang/IllegalArgumentException" "java/lang/IllegalArgumentException") (by decide +kernel))) hc1 hc2 hc3 ?_
      refine W.widen (k := 1) (n := 6) (by omega) (by omega) ?_
      refine lv_astore (lv' := [(4, .ref q9), (0, .ref hk), (1, .int k), (2, .int wt), (3, .ref hot)]) hx hb dL_block_13 hl (by decide) rfl (fun ls hl => ?_)
      refine lv_iconst (v := 1) hx hb dL_block_15 (by decide) ?_
      have pf_x : ((1 : Int32) = 1 ∧ ¬ (0 ≤ wt.toInt ∧ wt.toInt ≤ 17)) ∨ ((1 : Int32) = 0 ∧ (0 ≤ wt.toInt ∧ wt.toInt ≤ 17)) := (Or.inl ⟨rfl, hc9⟩)
      have pf_fr : kIf ((1 : Int32) = 0 ∧ cols = 0) (g 0 = (if wt.toInt < 2 then (-1 : Int32) else 0).toInt64) := (fun h9 => absurd h9.1 (by decide))
      exact W.iret (v := 1) hx hb hr (fun t9 ht9 hW9 => ⟨⟨1, g, rfl, ⟨pf_x, pf_fr⟩, by rw [ht9]; exact hP, hD⟩, hS.F ht9⟩) hS.2.2 dL_block_16
  obtain ⟨hP1, hD1⟩ := hB9
  rw [ht9] at hP1
  have hP1 : va_P D vwCl [(hk, .inr (7, [.ref ho, .ref hwr, .ref hrd, .ref hp, .int bg])), (hp, .inr (4, [.ref ht, .ref htr, .ref hpl, .ref hw, .ref hcr, .ref hco, .ref hhs, .int cols, .int rows, .int q, .int lev, .int ta, .int ob, .int fch])), (hw, .inl (cI, 16, .inl wy)), (hcr, .inl (cI, 16, .inl cr)), (hco, .inl (cI, 256, .inl co))] H1 := hP1
  obtain ⟨hP, hD⟩ := va_join (wr := [(hot, .inl (cJ, 1, .inr (.inl g)))]) (w1 := [(hk, .inr (7, [.ref ho, .ref hwr, .ref hrd, .ref hp, .int bg])), (hp, .inr (4, [.ref ht, .ref htr, .ref hpl, .ref hw, .ref hcr, .ref hco, .ref hhs, .int cols, .int rows, .int q, .int lev, .int ta, .int ob, .int fch])), (hw, .inl (cI, 16, .inl wy)), (hcr, .inl (cI, 16, .inl cr)), (hco, .inl (cI, 256, .inl co))]) hP hD [0, 1, 2, 3, 4] [5] rfl rfl (by decide) (by decide) hk9 hFc hP1 hD1
  refine W.widen (k := 1) (n := 6) (by omega) (by omega) ?_
  have hP := hP.sub (ws' := [(hk, .inr (7, [.ref ho, .ref hwr, .ref hrd, .ref hp, .int bg])), (hp, .inr (4, [.ref ht, .ref htr, .ref hpl, .ref hw, .ref hcr, .ref hco, .ref hhs, .int cols, .int rows, .int q, .int lev, .int ta, .int ob, .int fch])), (hw, .inl (cI, 16, .inl wy)), (hcr, .inl (cI, 16, .inl cr)), (hco, .inl (cI, 256, .inl co)), (hot, .inl (cJ, 1, .inr (.inl g)))]) [1, 2, 3, 4, 5, 0] rfl
  have hD := hD.sub (ws' := [(hk, .inr (7, [.ref ho, .ref hwr, .ref hrd, .ref hp, .int bg])), (hp, .inr (4, [.ref ht, .ref htr, .ref hpl, .ref hw, .ref hcr, .ref hco, .ref hhs, .int cols, .int rows, .int q, .int lev, .int ta, .int ob, .int fch])), (hw, .inl (cI, 16, .inl wy)), (hcr, .inl (cI, 16, .inl cr)), (hco, .inl (cI, 256, .inl co)), (hot, .inl (cJ, 1, .inr (.inl g)))]) [1, 2, 3, 4, 5, 0] (by decide) rfl
  generalize H1 = H at hP hS ⊢
  obtain ⟨q5_0, q5_1⟩ := hw9
  have q5_0 : (0 ≤ wt.toInt ∧ wt.toInt ≤ 17) := q5_0
  have q5_1 : kIf (cols = 0) (r5 = if wt.toInt < 2 then (-1 : Int32) else 0) := q5_1
  refine lv_i2l hx hb dL_block_8 rfl ?_
  refine lv_topl (fun v8 e8 => ?_)
  refine va_last hx hb hK.1 hP hD hS 5 1 rfl rfl (kB_in kc_0 (by decide)) dL_block_9 (fun H locs hP hD hS => ?_)
  have hP : va_P D vwCl [(hk, .inr (7, [.ref ho, .ref hwr, .ref hrd, .ref hp, .int bg])), (hp, .inr (4, [.ref ht, .ref htr, .ref hpl, .ref hw, .ref hcr, .ref hco, .ref hhs, .int cols, .int rows, .int q, .int lev, .int ta, .int ob, .int fch])), (hw, .inl (cI, 16, .inl wy)), (hcr, .inl (cI, 16, .inl cr)), (hco, .inl (cI, 256, .inl co)), (hot, .inl (cJ, 1, .inr (.inl (vp_updL g (0 : Int32).toNatClampNeg v8))))] H := hP
  have hD : va_D A [(hk, .inr (7, [.ref ho, .ref hwr, .ref hrd, .ref hp, .int bg])), (hp, .inr (4, [.ref ht, .ref htr, .ref hpl, .ref hw, .ref hcr, .ref hco, .ref hhs, .int cols, .int rows, .int q, .int lev, .int ta, .int ob, .int fch])), (hw, .inl (cI, 16, .inl wy)), (hcr, .inl (cI, 16, .inl cr)), (hco, .inl (cI, 256, .inl co)), (hot, .inl (cJ, 1, .inr (.inl (vp_updL g (0 : Int32).toNatClampNeg v8))))] := hD
  generalize hf9 : vp_updL g (0 : Int32).toNatClampNeg v8 = f9 at hP hD
  refine lv_goto (tgt := 17) hx hb dL_block_10 (by decide) ?_
  refine lv_iconst (v := 0) hx hb dL_block_17 (by decide) ?_
  have pf_x : ((0 : Int32) = 1 ∧ ¬ (0 ≤ wt.toInt ∧ wt.toInt ≤ 17)) ∨ ((0 : Int32) = 0 ∧ (0 ≤ wt.toInt ∧ wt.toInt ≤ 17)) := (Or.inr ⟨rfl, q5_0⟩)
  have pf_fr : kIf ((0 : Int32) = 0 ∧ cols = 0) (f9 0 = (if wt.toInt < 2 then (-1 : Int32) else 0).toInt64) := (fun h9 => by rw [kg0 hf9, e8, q5_1 h9.2])
  exact W.iret (v := 0) hx hb hr (fun t9 ht9 hW9 => ⟨⟨0, f9, rfl, ⟨pf_x, pf_fr⟩, by rw [ht9]; exact hP, hD⟩, hS.F ht9⟩) hS.2.2 dL_block_18
abbrev kw_L_count : List Cond := Cond.codeWith yL_count cL_count 4 (some .int) [(0, 9, 12, 13)] :: kW
set_option maxHeartbeats 4000000 in
set_option maxRecDepth 100000 in
theorem c_L_count (l : Launch) (hl0 : l.stackTraces = false) (D : va_G) (cI cJ cZ : ClassId) (hk ho hwr hrd hp ht htr hpl hw hcr hco hhs hot : Nat) (bg : Int32) (cols : Int32) (rows : Int32) (q : Int32) (lev : Int32) (ta : Int32) (ob : Int32) (fch : Int32) (g : Nat → Int64) (wt : Int32) (hpz : Nat) : Met l yL_count kw_L_count ({ frames := 7, cells := 1, slots := 6, locals := 121 }) (va_Pc [.ref hk, .int wt, .ref hot] (fun U => U.heap.size = hpz ∧ va_P D vwCl [(hk, .inr (7, [.ref ho, .ref hwr, .ref hrd, .ref hp, .int bg])), (hp, .inr (4, [.ref ht, .ref htr, .ref hpl, .ref hw, .ref hcr, .ref hco, .ref hhs, .int cols, .int rows, .int q, .int lev, .int ta, .int ob, .int fch])), (hot, .inl (cJ, 1, .inr (.inl g)))] U.heap ∧ kK D cI cJ cZ U ∧ va_D (fun _ => True) [(hk, .inr (7, [.ref ho, .ref hwr, .ref hrd, .ref hp, .int bg])), (hp, .inr (4, [.ref ht, .ref htr, .ref hpl, .ref hw, .ref hcr, .ref hco, .ref hhs, .int cols, .int rows, .int q, .int lev, .int ta, .int ob, .int fch])), (hot, .inl (cJ, 1, .inr (.inl g)))] ∧ kX (va_A [(hk, .inr (7, [.ref ho, .ref hwr, .ref hrd, .ref hp, .int bg])), (hp, .inr (4, [.ref ht, .ref htr, .ref hpl, .ref hw, .ref hcr, .ref hco, .ref hhs, .int cols, .int rows, .int q, .int lev, .int ta, .int ob, .int fch])), (hot, .inl (cJ, 1, .inr (.inl g)))] hpz) U U.heap ∧ kY U)) (va_Qi (fun (r : Int32) (u : (Nat → Int64)) => ((r = 1 ∧ ¬ (0 ≤ wt.toInt ∧ wt.toInt ≤ 6)) ∨ (r = 0 ∧ (0 ≤ wt.toInt ∧ wt.toInt ≤ 6))) ∧ (kIf (r = 0 ∧ cols = 0 ∧ rows = 0 ∧ q = 0 ∧ lev = 0 ∧ ta = 0 ∧ ob = 0 ∧ fch = 0) (u 0 = (0 : Int32).toInt64))) (fun (u : (Nat → Int64)) (t : State) => va_P D vwCl [(hk, .inr (7, [.ref ho, .ref hwr, .ref hrd, .ref hp, .int bg])), (hp, .inr (4, [.ref ht, .ref htr, .ref hpl, .ref hw, .ref hcr, .ref hco, .ref hhs, .int cols, .int rows, .int q, .int lev, .int ta, .int ob, .int fch])), (hot, .inl (cJ, 1, .inr (.inl u)))] t.heap ∧ va_D (va_A [(hk, .inr (7, [.ref ho, .ref hwr, .ref hrd, .ref hp, .int bg])), (hp, .inr (4, [.ref ht, .ref htr, .ref hpl, .ref hw, .ref hcr, .ref hco, .ref hhs, .int cols, .int rows, .int q, .int lev, .int ta, .int ob, .int fch])), (hot, .inl (cJ, 1, .inr (.inl g)))] hpz) [(hk, .inr (7, [.ref ho, .ref hwr, .ref hrd, .ref hp, .int bg])), (hp, .inr (4, [.ref ht, .ref htr, .ref hpl, .ref hw, .ref hcr, .ref hco, .ref hhs, .int cols, .int rows, .int q, .int lev, .int ta, .int ob, .int fch])), (hot, .inl (cJ, 1, .inr (.inl u)))]) (va_A [(hk, .inr (7, [.ref ho, .ref hwr, .ref hrd, .ref hp, .int bg])), (hp, .inr (4, [.ref ht, .ref htr, .ref hpl, .ref hw, .ref hcr, .ref hco, .ref hhs, .int cols, .int rows, .int q, .int lev, .int ta, .int ob, .int fch])), (hot, .inl (cJ, 1, .inr (.inl g)))] hpz)) 1 6 (va_A [(hk, .inr (7, [.ref ho, .ref hwr, .ref hrd, .ref hp, .int bg])), (hp, .inr (4, [.ref ht, .ref htr, .ref hpl, .ref hw, .ref hcr, .ref hco, .ref hhs, .int cols, .int rows, .int q, .int lev, .int ta, .int ob, .int fch])), (hot, .inl (cJ, 1, .inr (.inl g)))] hpz) := by
  refine va_MetW (cc := cL_count) (maxL := 4) (ret := (some .int)) (by decide) rfl ?_
  intro p e s m args below meth c s₁ B hml hv
  obtain ⟨rfl, hsz, hP, hK, hD0, hX, hY⟩ := hv
  have htab := vx_table (x := yL_count) B (atoms_spec (ws := kw_L_count) B.pre _ List.mem_cons_self)
  have hx := B.exec
  have hb := B.bytes
  have hr := B.returns
  have hts := fun (w : Cond) (h : w ∈ kW) => atoms_spec (ws := kw_L_count) B.pre w (List.mem_cons_of_mem _ h)
  have hown : s.vm.findClass RL = some m.cls := findClass_of_methodNamed B.named
  have hlocks := B.notSynchronized
  subst hsz
  have hD := hD0.self (sz := s.heap.size)
  generalize hAe : va_A [(hk, .inr (7, [.ref ho, .ref hwr, .ref hrd, .ref hp, .int bg])), (hp, .inr (4, [.ref ht, .ref htr, .ref hpl, .ref hw, .ref hcr, .ref hco, .ref hhs, .int cols, .int rows, .int q, .int lev, .int ta, .int ob, .int fch])), (hot, .inl (cJ, 1, .inr (.inl g)))] s.heap.size = A at hD hX ⊢
  have hA : ∀ q : Nat, s.heap.size ≤ q → A q := fun q h => by rw [← hAe]; exact Or.inr h
  have hS : va_S A s.heap s.heap [] := va_S.rf
  have hP : va_P D vwCl [(hk, .inr (7, [.ref ho, .ref hwr, .ref hrd, .ref hp, .int bg])), (hp, .inr (4, [.ref ht, .ref htr, .ref hpl, .ref hw, .ref hcr, .ref hco, .ref hhs, .int cols, .int rows, .int q, .int lev, .int ta, .int ob, .int fch])), (hot, .inl (cJ, 1, .inr (.inl g)))] s.heap := hP
  have hl := lv_entry ([.ref hk, .int wt, .ref hot]) (n := 4) (Nat.le_of_ble_eq_true rfl)
  rw [lg_entry_eq]
  generalize (lg_sl ([.ref hk, .int wt, .ref hot]) ++ List.replicate (4 - (lg_sl ([.ref hk, .int wt, .ref hot])).length) Slot.unset).toArray = ls at hl ⊢
  have hl : lv_has ls 4 [(0, .ref hk), (1, .int wt), (2, .ref hot)] := hl
  refine lv_aload_n hx hb dL_count_0 rfl (lv_at hl 2 rfl) ?_
  refine lv_iconst (v := 0) hx hb dL_count_1 (by decide) ?_
  refine lv_aload_n hx hb dL_count_2 rfl (lv_at hl 0 rfl) ?_
  refine lv_iload_n hx hb dL_count_3 rfl (lv_at hl 1 rfl) ?_
  have hPc := hP.sub (ws' := [(hk, .inr (7, [.ref ho, .ref hwr, .ref hrd, .ref hp, .int bg])), (hp, .inr (4, [.ref ht, .ref htr, .ref hpl, .ref hw, .ref hcr, .ref hco, .ref hhs, .int cols, .int rows, .int q, .int lev, .int ta, .int ob, .int fch]))]) [0, 1] rfl
  have hDc := hD.sub (ws' := [(hk, .inr (7, [.ref ho, .ref hwr, .ref hrd, .ref hp, .int bg])), (hp, .inr (4, [.ref ht, .ref htr, .ref hpl, .ref hw, .ref hcr, .ref hco, .ref hhs, .int cols, .int rows, .int q, .int lev, .int ta, .int ob, .int fch]))]) [0, 1] (by decide) rfl
  have hFc := va_free (wc := [(hk, .inr (7, [.ref ho, .ref hwr, .ref hrd, .ref hp, .int bg])), (hp, .inr (4, [.ref ht, .ref htr, .ref hpl, .ref hw, .ref hcr, .ref hco, .ref hhs, .int cols, .int rows, .int q, .int lev, .int ta, .int ob, .int fch]))]) hD hS hA [0, 1] rfl
  refine vx_calli (vx_runV (As := [.int wt]) (rest := [.int 0, .ref hot]) ⟨hx, hb, hml, hown, hts⟩ (c_X7_count l hl0 D cI cJ cZ hk ho hwr hrd hp ht htr hpl hw hcr hco hhs bg cols rows q lev ta ob fch wt (s.heap).size) (cwV 1 hts (kg_V mk_475 mk_476 mk_477 mk_13 mk_478) rfl rfl rfl (by decide +kernel) ⟨Nat.le_of_ble_eq_true rfl, Nat.le_of_ble_eq_true rfl⟩) ⟨fun a U g mk q => by obtain ⟨q0, q1, qP, qK, qD, qX⟩ := q; exact ⟨q0, q1, qP, kK.call qK, qD, kX.call qX⟩, va_recv hK.1 hPc (ci := 7) (q0 := 0) rfl rfl, fun U hU hW => ⟨rfl, by rw [hU], by rw [hU]; exact hPc, kK.warm hW hK, hDc.weaken (fun _ _ _ _ => trivial), by rw [hU]; exact kX.at hX hS hFc hW⟩⟩ rfl rfl hl.1 rfl (lv_room (Nat.le_of_ble_eq_true rfl)) dL_count_4 ⟨Nat.le_of_ble_eq_true rfl, Nat.le_of_ble_eq_true rfl⟩) hS (fun q _ h => hFc q h) hFc (fun q _ h => hFc q h) (fun E ce q9 u t9 H1 locs1 ht9 hvm9 hpx9 hB9 hz9 hk9 hS9 hc1 hc2 hc3 => ?_) (fun r4 u t9 H1 locs ht9 hvm9 hw9 hB9 hz9 hk9 hS => ?_)
  · obtain ⟨hE9, hP1, hD1⟩ := hB9
    rw [ht9] at hP1
    have hP1 : va_P D vwCl [(hk, .inr (7, [.ref ho, .ref hwr, .ref hrd, .ref hp, .int bg])), (hp, .inr (4, [.ref ht, .ref htr, .ref hpl, .ref hw, .ref hcr, .ref hco, .ref hhs, .int cols, .int rows, .int q, .int lev, .int ta, .int ob, .int fch]))] H1 := hP1
    obtain ⟨hP, hD⟩ := va_join (wr := [(hot, .inl (cJ, 1, .inr (.inl g)))]) (w1 := [(hk, .inr (7, [.ref ho, .ref hwr, .ref hrd, .ref hp, .int bg])), (hp, .inr (4, [.ref ht, .ref htr, .ref hpl, .ref hw, .ref hcr, .ref hco, .ref hhs, .int cols, .int rows, .int q, .int lev, .int ta, .int ob, .int fch]))]) hP hD [0, 1] [2] rfl rfl (by decide) (by decide) hk9 hFc hP1 hD1
    have hP := hP.sub (ws' := [(hk, .inr (7, [.ref ho, .ref hwr, .ref hrd, .ref hp, .int bg])), (hp, .inr (4, [.ref ht, .ref htr, .ref hpl, .ref hw, .ref hcr, .ref hco, .ref hhs, .int cols, .int rows, .int q, .int lev, .int ta, .int ob, .int fch])), (hot, .inl (cJ, 1, .inr (.inl g)))]) [1, 2, 0] rfl
    have hD := hD.sub (ws' := [(hk, .inr (7, [.ref ho, .ref hwr, .ref hrd, .ref hp, .int bg])), (hp, .inr (4, [.ref ht, .ref htr, .ref hpl, .ref hw, .ref hcr, .ref hco, .ref hhs, .int cols, .int rows, .int q, .int lev, .int ta, .int ob, .int fch])), (hot, .inl (cJ, 1, .inr (.inl g)))]) [1, 2, 0] (by decide) rfl
    have hS := hS9
    rcases hE9 with ⟨hE9, hc9⟩
    · subst hE9
      have hc9 : ¬ (0 ≤ wt.toInt ∧ wt.toInt ≤ 6) := hc9
      refine vx_catch hown [] ⟨0, 9, 12, 13⟩ [] (by rw [htab]; rfl) (fun z hz => nomatch hz) (by decide) (by decide) (hts _ mk_457) (va_Nw.use rfl (hX.2.2.1 (.castable "java/lang/IllegalArgumentException" "java/lang/IllegalArgumentException") (by decide +kernel))) hc1 hc2 hc3 ?_
      refine W.widen (k := 1) (n := 6) (by omega) (by omega) ?_
      refine lv_astore_n (lv' := [(3, .ref q9), (0, .ref hk), (1, .int wt), (2, .ref hot)]) hx hb dL_count_12 rfl hl (by decide) rfl (fun ls hl => ?_)
      refine lv_iconst (v := 1) hx hb dL_count_13 (by decide) ?_
      have pf_x : ((1 : Int32) = 1 ∧ ¬ (0 ≤ wt.toInt ∧ wt.toInt ≤ 6)) ∨ ((1 : Int32) = 0 ∧ (0 ≤ wt.toInt ∧ wt.toInt ≤ 6)) := (Or.inl ⟨rfl, hc9⟩)
      have pf_fr : kIf ((1 : Int32) = 0 ∧ cols = 0 ∧ rows = 0 ∧ q = 0 ∧ lev = 0 ∧ ta = 0 ∧ ob = 0 ∧ fch = 0) (g 0 = (0 : Int32).toInt64) := (fun h9 => absurd h9.1 (by decide))
      exact W.iret (v := 1) hx hb hr (fun t9 ht9 hW9 => ⟨⟨1, g, rfl, ⟨pf_x, pf_fr⟩, by rw [ht9]; exact hP, hD⟩, hS.F ht9⟩) hS.2.2 dL_count_14
  obtain ⟨hP1, hD1⟩ := hB9
  rw [ht9] at hP1
  have hP1 : va_P D vwCl [(hk, .inr (7, [.ref ho, .ref hwr, .ref hrd, .ref hp, .int bg])), (hp, .inr (4, [.ref ht, .ref htr, .ref hpl, .ref hw, .ref hcr, .ref hco, .ref hhs, .int cols, .int rows, .int q, .int lev, .int ta, .int ob, .int fch]))] H1 := hP1
  obtain ⟨hP, hD⟩ := va_join (wr := [(hot, .inl (cJ, 1, .inr (.inl g)))]) (w1 := [(hk, .inr (7, [.ref ho, .ref hwr, .ref hrd, .ref hp, .int bg])), (hp, .inr (4, [.ref ht, .ref htr, .ref hpl, .ref hw, .ref hcr, .ref hco, .ref hhs, .int cols, .int rows, .int q, .int lev, .int ta, .int ob, .int fch]))]) hP hD [0, 1] [2] rfl rfl (by decide) (by decide) hk9 hFc hP1 hD1
  refine W.widen (k := 1) (n := 6) (by omega) (by omega) ?_
  have hP := hP.sub (ws' := [(hk, .inr (7, [.ref ho, .ref hwr, .ref hrd, .ref hp, .int bg])), (hp, .inr (4, [.ref ht, .ref htr, .ref hpl, .ref hw, .ref hcr, .ref hco, .ref hhs, .int cols, .int rows, .int q, .int lev, .int ta, .int ob, .int fch])), (hot, .inl (cJ, 1, .inr (.inl g)))]) [1, 2, 0] rfl
  have hD := hD.sub (ws' := [(hk, .inr (7, [.ref ho, .ref hwr, .ref hrd, .ref hp, .int bg])), (hp, .inr (4, [.ref ht, .ref htr, .ref hpl, .ref hw, .ref hcr, .ref hco, .ref hhs, .int cols, .int rows, .int q, .int lev, .int ta, .int ob, .int fch])), (hot, .inl (cJ, 1, .inr (.inl g)))]) [1, 2, 0] (by decide) rfl
  generalize H1 = H at hP hS ⊢
  obtain ⟨q4_0, q4_1⟩ := hw9
  have q4_0 : (0 ≤ wt.toInt ∧ wt.toInt ≤ 6) := q4_0
  have q4_1 : kIf (cols = 0 ∧ rows = 0 ∧ q = 0 ∧ lev = 0 ∧ ta = 0 ∧ ob = 0 ∧ fch = 0) (r4 = 0) := q4_1
  refine lv_i2l hx hb dL_count_7 rfl ?_
  refine lv_topl (fun v7 e7 => ?_)
  refine va_last hx hb hK.1 hP hD hS 2 1 rfl rfl (kB_in kc_0 (by decide)) dL_count_8 (fun H locs hP hD hS => ?_)
  have hP : va_P D vwCl [(hk, .inr (7, [.ref ho, .ref hwr, .ref hrd, .ref hp, .int bg])), (hp, .inr (4, [.ref ht, .ref htr, .ref hpl, .ref hw, .ref hcr, .ref hco, .ref hhs, .int cols, .int rows, .int q, .int lev, .int ta, .int ob, .int fch])), (hot, .inl (cJ, 1, .inr (.inl (vp_updL g (0 : Int32).toNatClampNeg v7))))] H := hP
  have hD : va_D A [(hk, .inr (7, [.ref ho, .ref hwr, .ref hrd, .ref hp, .int bg])), (hp, .inr (4, [.ref ht, .ref htr, .ref hpl, .ref hw, .ref hcr, .ref hco, .ref hhs, .int cols, .int rows, .int q, .int lev, .int ta, .int ob, .int fch])), (hot, .inl (cJ, 1, .inr (.inl (vp_updL g (0 : Int32).toNatClampNeg v7))))] := hD
  generalize hf8 : vp_updL g (0 : Int32).toNatClampNeg v7 = f8 at hP hD
  refine lv_goto (tgt := 15) hx hb dL_count_9 (by decide) ?_
  refine lv_iconst (v := 0) hx hb dL_count_15 (by decide) ?_
  have pf_x : ((0 : Int32) = 1 ∧ ¬ (0 ≤ wt.toInt ∧ wt.toInt ≤ 6)) ∨ ((0 : Int32) = 0 ∧ (0 ≤ wt.toInt ∧ wt.toInt ≤ 6)) := (Or.inr ⟨rfl, q4_0⟩)
  have pf_fr : kIf ((0 : Int32) = 0 ∧ cols = 0 ∧ rows = 0 ∧ q = 0 ∧ lev = 0 ∧ ta = 0 ∧ ob = 0 ∧ fch = 0) (f8 0 = (0 : Int32).toInt64) := (fun h9 => by rw [kg0 hf8, e7, q4_1 h9.2])
  exact W.iret (v := 0) hx hb hr (fun t9 ht9 hW9 => ⟨⟨0, f8, rfl, ⟨pf_x, pf_fr⟩, by rw [ht9]; exact hP, hD⟩, hS.F ht9⟩) hS.2.2 dL_count_16
