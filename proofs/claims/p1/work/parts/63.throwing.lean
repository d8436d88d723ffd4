abbrev kw_X7_feed : List Cond := Cond.code yX7_feed cX7_feed 8 (some .int) :: kW
set_option maxHeartbeats 4000000 in
set_option maxRecDepth 100000 in
theorem lp_X7_feed_53 {p : Program} {l : Launch} {e : Env} {s : State} {m : MethodId} {args : Array Value} {below : List Frame} {meth : Method} {c : Code} {A : Nat → Prop} (D : va_G) (cI cJ cZ : ClassId) (hk ho hwr hrd hp hh : Nat) (bg : Int32) (sz : Int32) (f : Nat → Int32) (fn : Int32) (fa : Int32) (fb : Int32) (fc : Int32) (fd : Int32) (bsz : kB sz 0 600) (hx : p.tables.exec = Jvm.exec) (hb : c.code = cX7_feed) (hr : meth.sig.returnType = (some .int)) (hml : c.maxLocals = 8) (hown : s.vm.findClass RX7 = some m.cls) (hts : ∀ w ∈ kW, w.before args s = true) (hlocks : meth.locks = false) (hK : kK D cI cJ cZ s) (hA : ∀ q : Nat, s.heap.size ≤ q → A q) (hX : kX A s s.heap) : ∀ n : Nat, ∀ (x6 : Int32) (sz2 : Int32) (f2 : Nat → Int32), (16 - x6.toInt).toNat < n → (kB fn 0 16) → (kB x6 0 16) → (kB sz2 0 600) → (x6.toInt ≤ fn.toInt) → (sz2.toInt = sz.toInt + x6.toInt) → ((0 ≤ fn.toInt ∧ fn.toInt ≤ 16)) → (sz.toInt + fn.toInt ≤ 600) → (f2 = wFe (wFk fa fb fc fd) sz.toInt.toNat x6.toInt.toNat f) → ∀ (H : Heap) (locs : List Loc) (ls : Array Slot), va_P D vwCl [(hk, .inr (7, [.ref ho, .ref hwr, .ref hrd, .ref hp, .int 0])), (ho, .inr (3, [.ref hh, .int sz2])), (hh, .inl (cI, 600, .inl f2))] H → va_D A [(hk, .inr (7, [.ref ho, .ref hwr, .ref hrd, .ref hp, .int 0])), (ho, .inr (3, [.ref hh, .int sz2])), (hh, .inl (cI, 600, .inl f2))] → va_S A s.heap H locs → lv_has ls 8 [(0, .ref hk), (1, .int fn), (2, .int fa), (3, .int fb), (4, .int fc), (5, .int fd), (6, .int x6)] → W p l e (headSpec kw_X7_feed ({ frames := 6, cells := 1, slots := 6, locals := 100 })).room s m args below meth c H locs 0 0 (vx_MQ below (va_Qi (fun (r : Int32) (u : Int32 × (Nat → Int32)) => (kB u.1 0 600) ∧ ((0 ≤ fn.toInt ∧ fn.toInt ≤ 16)) ∧ (sz.toInt + fn.toInt ≤ 600) ∧ (r = u.1) ∧ (u.1.toInt = sz.toInt + fn.toInt) ∧ (u.2 = wFe (wFk fa fb fc fd) sz.toInt.toNat fn.toInt.toNat f)) (fun (u : Int32 × (Nat → Int32)) (t : State) => va_P D vwCl [(hk, .inr (7, [.ref ho, .ref hwr, .ref hrd, .ref hp, .int 0])), (ho, .inr (3, [.ref hh, .int u.1])), (hh, .inl (cI, 600, .inl u.2))] t.heap ∧ va_D A [(hk, .inr (7, [.ref ho, .ref hwr, .ref hrd, .ref hp, .int 0])), (ho, .inr (3, [.ref hh, .int u.1])), (hh, .inl (cI, 600, .inl u.2))]) A) (vx_X (fun _ : Unit => True) (fun (E : String) (_ : Unit) (t : State) => ((E = "java/lang/IllegalArgumentException" ∧ ¬ (0 ≤ fn.toInt ∧ fn.toInt ≤ 16)) ∨ (E = "java/lang/IllegalStateException" ∧ ((0 ≤ fn.toInt ∧ fn.toInt ≤ 16) ∧ 600 < sz.toInt + fn.toInt))) ∧ va_P D vwCl [(hk, .inr (7, [.ref ho, .ref hwr, .ref hrd, .ref hp, .int bg])), (ho, .inr (3, [.ref hh, .int sz])), (hh, .inl (cI, 600, .inl f))] t.heap ∧ va_D A [(hk, .inr (7, [.ref ho, .ref hwr, .ref hrd, .ref hp, .int bg])), (ho, .inr (3, [.ref hh, .int sz])), (hh, .inl (cI, 600, .inl f))]) A) args s 1 6 A) (F0 m 53 ls []) := by
  intro n
  induction n with
  | zero => intro x6 sz2 f2 hmeas; exact absurd hmeas (Nat.not_lt_zero _)
  | succ n ih =>
    intro x6 sz2 f2 hmeas bn b6 bsz2 l6 hz n16 f32 hfe H locs ls hP hD hS hl
    refine lv_iload hx hb dX7_feed_53 (lv_at hl 6 rfl) ?_
    refine lv_iload_n hx hb dX7_feed_55 rfl (lv_at hl 1 rfl) ?_
    refine lv_icmp_ge (tgt := 122) hx hb dX7_feed_56 (by decide) (fun c56 => ?_) (fun c56 => ?_)
    · have E56 : x6.toInt = fn.toInt := by have := Int32.le_iff_toInt_le.mp c56; omega
      have HF : f2 = wFe (wFk fa fb fc fd) sz.toInt.toNat fn.toInt.toNat f := by rw [hfe, E56]
      refine lv_aload_n hx hb dX7_feed_122 rfl (lv_at hl 0 rfl) ?_
      refine va_get (D := D) (ci := 7) (v := .ref ho) (C := RX7) (T := TX7) (N := 5) hx hb hts in_X7 hown hK.1 hP 0 rfl rfl 0 (by decide) (hts _ mk_328) (fun _ h9 => h9) rfl dX7_feed_123 ?_
      have hPc := hP.sub (ws' := [(ho, .inr (3, [.ref hh, .int sz2])), (hh, .inl (cI, 600, .inl f2))]) [1, 2] rfl
      have hDc := hD.sub (ws' := [(ho, .inr (3, [.ref hh, .int sz2])), (hh, .inl (cI, 600, .inl f2))]) [1, 2] (by decide) rfl
      have hFc := va_free (wc := [(ho, .inr (3, [.ref hh, .int sz2])), (hh, .inl (cI, 600, .inl f2))]) hD hS hA [1, 2] rfl
      refine va_calli (va_runV (As := []) (rest := []) ⟨hx, hb, hml, hown, hts⟩ (c_X3_size l D cI cJ cZ ho hh sz2 f2 (H).size) (cwV 0 hts (kg_V mk_329 mk_30 mk_31 mk_6 mk_32) rfl rfl rfl (by decide +kernel) ⟨Nat.le_of_ble_eq_true rfl, Nat.le_of_ble_eq_true rfl⟩) ⟨fun a U g mk q => by obtain ⟨q0, q1, qP, qK, qD⟩ := q; exact ⟨q0, q1, qP, kK.call qK, qD⟩, va_recv hK.1 hPc (ci := 3) (q0 := 0) rfl rfl, fun U hU hW => ⟨rfl, by rw [hU], by rw [hU]; exact hPc, kK.warm hW hK, hDc.weaken (fun _ _ _ _ => trivial)⟩⟩ rfl rfl hl.1 rfl (lv_room (Nat.le_of_ble_eq_true rfl)) dX7_feed_126 ⟨Nat.zero_le _, Nat.zero_le _⟩) hS (fun q _ h => hFc q h) hFc (fun r126 u t9 H1 locs ht9 hvm9 hw9 hB9 hz9 hk9 hS => ?_)
      obtain ⟨hP1, hD1⟩ := hB9
      rw [ht9] at hP1
      have hP1 : va_P D vwCl [(ho, .inr (3, [.ref hh, .int sz2])), (hh, .inl (cI, 600, .inl f2))] H1 := hP1
      obtain ⟨hP, hD⟩ := va_join (wr := [(hk, .inr (7, [.ref ho, .ref hwr, .ref hrd, .ref hp, .int 0]))]) (w1 := [(ho, .inr (3, [.ref hh, .int sz2])), (hh, .inl (cI, 600, .inl f2))]) hP hD [1, 2] [0] rfl rfl (by decide) (by decide) hk9 hFc hP1 hD1
      have hP := hP.sub (ws' := [(hk, .inr (7, [.ref ho, .ref hwr, .ref hrd, .ref hp, .int 0])), (ho, .inr (3, [.ref hh, .int sz2])), (hh, .inl (cI, 600, .inl f2))]) [0, 1, 2] rfl
      have hD := hD.sub (ws' := [(hk, .inr (7, [.ref ho, .ref hwr, .ref hrd, .ref hp, .int 0])), (ho, .inr (3, [.ref hh, .int sz2])), (hh, .inl (cI, 600, .inl f2))]) [0, 1, 2] (by decide) rfl
      generalize H1 = H at hP hS ⊢
      have q126_0 : r126 = sz2 := hw9
      have B126 : kB r126 0 600 := (by rw [q126_0]; exact bsz2)
      have pf_z : sz2.toInt = sz.toInt + fn.toInt := (by omega)
      refine vx_ret ?_
      refine W.widen (k := 1) (n := 6) (by omega) (by omega) ?_
      exact W.iret (v := r126) hx hb hr (fun t9 ht9 hW9 => ⟨⟨r126, (sz2, f2), rfl, ⟨bsz2, n16, f32, q126_0, pf_z, HF⟩, by rw [ht9]; exact hP, hD⟩, hS.F ht9⟩) hS.2.2 dX7_feed_129
    · have c56n : x6 < fn := kN_le c56
      have c56nx : kB x6 0 15 := kB_lt_l b6 bn c56n (by decide)
      have c56ny : kB fn 1 16 := kB_lt_r b6 bn c56n (by decide)
      refine lv_iload hx hb dX7_feed_59 (lv_at hl 6 rfl) ?_
      refine lv_iconst (v := 4) hx hb dX7_feed_61 (by decide) ?_
      refine lv_icmp_ge (tgt := 69) hx hb dX7_feed_62 (by decide) (fun c62 => ?_) (fun c62 => ?_)
      · have c62y : kB x6 4 15 := kB_le_r kc_4 c56nx c62 (by decide)
        refine lv_iload hx hb dX7_feed_69 (lv_at hl 6 rfl) ?_
        refine lv_bipush (v := 8) hx hb dX7_feed_71 (by decide) ?_
        refine lv_icmp_ge (tgt := 80) hx hb dX7_feed_73 (by decide) (fun c73 => ?_) (fun c73 => ?_)
        · have c73y : kB x6 8 15 := kB_le_r kc_8 c62y c73 (by decide)
          refine lv_iload hx hb dX7_feed_80 (lv_at hl 6 rfl) ?_
          refine lv_bipush (v := 12) hx hb dX7_feed_82 (by decide) ?_
          refine lv_icmp_ge (tgt := 92) hx hb dX7_feed_84 (by decide) (fun c84 => ?_) (fun c84 => ?_)
          · have c84y : kB x6 12 15 := kB_le_r kc_12 c73y c84 (by decide)
            refine lv_iload hx hb dX7_feed_92 (lv_at hl 5 rfl) ?_
            refine lv_istore (lv' := [(7, .int fd), (0, .ref hk), (1, .int fn), (2, .int fa), (3, .int fb), (4, .int fc), (5, .int fd), (6, .int x6)]) hx hb dX7_feed_94 hl (by decide) rfl (fun ls hl => ?_)
            have L56 := Int32.lt_iff_toInt_lt.mp c56n
            refine lv_aload_n hx hb dX7_feed_96 rfl (lv_at hl 1 rfl) ?_
            refine va_get (D := D) (ci := 7) (v := .ref ho) (C := RX7) (T := TX7) (N := 5) hx hb hts in_X7 hown hK.1 hP 0 rfl rfl 0 (by decide) (hts _ mk_328) (fun _ h9 => h9) rfl dX7_feed_97 ?_
            refine lv_iload hx hb dX7_feed_100 (lv_at hl 0 rfl) ?_
            refine lv_bipush (v := 24) hx hb dX7_feed_102 (by decide) ?_
            refine lv_bipush (v := 8) hx hb dX7_feed_104 (by decide) ?_
            refine lv_iload hx hb dX7_feed_106 (lv_at hl 7 rfl) ?_
            refine lv_iconst (v := 4) hx hb dX7_feed_108 (by decide) ?_
            refine lv_irem hx hb dX7_feed_109 (kB_ne0 kc_4 (Or.inl (by decide))) ?_
            refine lv_topi (fun v109 e109 => ?_)
            have b109 : kB v109 0 3 := kB_eq e109 (kB_rem c84y kc_4 (by decide))
            refine lv_imul hx hb dX7_feed_110 ?_
            refine lv_topi (fun v110 e110 => ?_)
            have b110 : kB v110 0 24 := kB_eq e110 (kB_cmul kc_8 b109 (by decide))
            refine lv_isub hx hb dX7_feed_111 ?_
            refine lv_topi (fun v111 e111 => ?_)
            have b111 : kB v111 0 24 := kB_eq e111 (kB_sub kc_24 b110 (by decide))
            refine lv_iushr hx hb dX7_feed_112 rfl ?_
            refine lv_topi (fun v112 e112 => ?_)
            have KB : v112 &&& 255 = wFk fa fb fc fd x6.toInt.toNat := by rw [e112, kbyC (v := v111) (x := x6) ⟨by omega, by omega⟩ (by rw [e111, e110, e109])]; exact wFk_4 (by omega)
            have hPc := hP.sub (ws' := [(ho, .inr (3, [.ref hh, .int sz2])), (hh, .inl (cI, 600, .inl f2))]) [1, 2] rfl
            have hDc := hD.sub (ws' := [(ho, .inr (3, [.ref hh, .int sz2])), (hh, .inl (cI, 600, .inl f2))]) [1, 2] (by decide) rfl
            have hFc := va_free (wc := [(ho, .inr (3, [.ref hh, .int sz2])), (hh, .inl (cI, 600, .inl f2))]) hD hS hA [1, 2] rfl
            refine va_callv (va_runV (As := [.int v112]) (rest := []) ⟨hx, hb, hml, hown, hts⟩ (c_X3_append l D cI cJ cZ ho hh sz2 f2 v112 bsz2 (H).size) (cwV 1 hts (kg_V mk_428 mk_315 mk_316 mk_6 mk_317) rfl rfl rfl (by decide +kernel) ⟨Nat.le_of_ble_eq_true rfl, Nat.le_of_ble_eq_true rfl⟩) ⟨fun a U g mk q => by obtain ⟨q0, q1, qP, qK, qD⟩ := q; exact ⟨q0, q1, qP, kK.call qK, qD⟩, va_recv hK.1 hPc (ci := 3) (q0 := 0) rfl rfl, fun U hU hW => ⟨rfl, by rw [hU], by rw [hU]; exact hPc, kK.warm hW hK, hDc.weaken (fun _ _ _ _ => trivial)⟩⟩ rfl rfl hl.1 rfl (lv_room (Nat.le_of_ble_eq_true rfl)) dX7_feed_113 ⟨Nat.zero_le _, Nat.zero_le _⟩) hS (fun q _ h => hFc q h) hFc (fun u t9 H1 locs ht9 hvm9 hw9 hB9 hz9 hk9 hS => ?_)
            obtain ⟨sz2_113, f2_113⟩ := u
            obtain ⟨hP1, hD1⟩ := hB9
            rw [ht9] at hP1
            have hP1 : va_P D vwCl [(ho, .inr (3, [.ref hh, .int sz2_113])), (hh, .inl (cI, 600, .inl f2_113))] H1 := hP1
            obtain ⟨hP, hD⟩ := va_join (wr := [(hk, .inr (7, [.ref ho, .ref hwr, .ref hrd, .ref hp, .int 0]))]) (w1 := [(ho, .inr (3, [.ref hh, .int sz2_113])), (hh, .inl (cI, 600, .inl f2_113))]) hP hD [1, 2] [0] rfl rfl (by decide) (by decide) hk9 hFc hP1 hD1
            have hP := hP.sub (ws' := [(hk, .inr (7, [.ref ho, .ref hwr, .ref hrd, .ref hp, .int 0])), (ho, .inr (3, [.ref hh, .int sz2_113])), (hh, .inl (cI, 600, .inl f2_113))]) [0, 1, 2] rfl
            have hD := hD.sub (ws' := [(hk, .inr (7, [.ref ho, .ref hwr, .ref hrd, .ref hp, .int 0])), (ho, .inr (3, [.ref hh, .int sz2_113])), (hh, .inl (cI, 600, .inl f2_113))]) [0, 1, 2] (by decide) rfl
            generalize H1 = H at hP hS ⊢
            obtain ⟨q113_0, q113_1, q113_2⟩ := hw9
            have q113_0 : kB sz2_113 0 600 := q113_0
            have q113_1 : sz2_113.toInt = if sz2.toInt < 600 then sz2.toInt + 1 else sz2.toInt := q113_1
            have q113_2 : sz2.toInt < 600 → f2_113 = upd f2 sz2.toNatClampNeg (v112 &&& 255) := q113_2
            have F113 := q113_2 (by omega)
            rw [if_pos (show sz2.toInt < 600 by omega)] at q113_1
            obtain ⟨v116, e116⟩ : ∃ y : Int32, y = x6 + 1 := ⟨_, rfl⟩
            refine lv_iinc (v := v116) (lv' := [(6, .int v116), (7, .int fd), (0, .ref hk), (1, .int fn), (2, .int fa), (3, .int fb), (4, .int fc), (5, .int fd)]) hx hb dX7_feed_116 hl (k := 7) rfl (by rw [e116]; rfl) (by decide) rfl (fun ls hl => ?_)
            have b116 : kB v116 13 16 := kB_eq e116 (kB_add c84y kc_1 (by decide))
            have t116 : v116.toInt = x6.toInt + 1 := by rw [e116]; exact kinc (kB_w c84y (by decide) (by decide))
            refine lv_goto (tgt := 53) hx hb dX7_feed_119 (by decide) ?_
            exact ih v116 sz2_113 f2_113 (by have := b116.1; have := b116.2; have := q113_0.1; have := q113_0.2; have := c84y.1; have := c84y.2; have := bsz2.1; have := bsz2.2; omega) (kB_w c56ny (by decide) (by decide)) (kB_w b116 (by decide) (by decide)) q113_0 (by rw [t116]; omega) (by rw [t116]; omega) n16 f32 (by rw [t116]; exact F113.trans (wFe_u bsz.1 b6.1 hz rfl hfe KB)) _ _ ls hP hD hS (lv_sub hl [2, 3, 4, 5, 6, 7, 0] rfl)
          · have c84n : x6 < 12 := kN_le c84
            have c84nx : kB x6 8 11 := kB_lt_l c73y kc_12 c84n (by decide)
            refine lv_iload hx hb dX7_feed_87 (lv_at hl 4 rfl) ?_
            refine lv_goto (tgt := 94) hx hb dX7_feed_89 (by decide) ?_
            refine lv_istore (lv' := [(7, .int fc), (0, .ref hk), (1, .int fn), (2, .int fa), (3, .int fb), (4, .int fc), (5, .int fd), (6, .int x6)]) hx hb dX7_feed_94 hl (by decide) rfl (fun ls hl => ?_)
            have L56 := Int32.lt_iff_toInt_lt.mp c56n
            refine lv_aload_n hx hb dX7_feed_96 rfl (lv_at hl 1 rfl) ?_
            refine va_get (D := D) (ci := 7) (v := .ref ho) (C := RX7) (T := TX7) (N := 5) hx hb hts in_X7 hown hK.1 hP 0 rfl rfl 0 (by decide) (hts _ mk_328) (fun _ h9 => h9) rfl dX7_feed_97 ?_
            refine lv_iload hx hb dX7_feed_100 (lv_at hl 0 rfl) ?_
            refine lv_bipush (v := 24) hx hb dX7_feed_102 (by decide) ?_
            refine lv_bipush (v := 8) hx hb dX7_feed_104 (by decide) ?_
            refine lv_iload hx hb dX7_feed_106 (lv_at hl 7 rfl) ?_
            refine lv_iconst (v := 4) hx hb dX7_feed_108 (by decide) ?_
            refine lv_irem hx hb dX7_feed_109 (kB_ne0 kc_4 (Or.inl (by decide))) ?_
            refine lv_topi (fun v109 e109 => ?_)
            have b109 : kB v109 0 3 := kB_eq e109 (kB_rem c84nx kc_4 (by decide))
            refine lv_imul hx hb dX7_feed_110 ?_
            refine lv_topi (fun v110 e110 => ?_)
            have b110 : kB v110 0 24 := kB_eq e110 (kB_cmul kc_8 b109 (by decide))
            refine lv_isub hx hb dX7_feed_111 ?_
            refine lv_topi (fun v111 e111 => ?_)
            have b111 : kB v111 0 24 := kB_eq e111 (kB_sub kc_24 b110 (by decide))
            refine lv_iushr hx hb dX7_feed_112 rfl ?_
            refine lv_topi (fun v112 e112 => ?_)
            have KB : v112 &&& 255 = wFk fa fb fc fd x6.toInt.toNat := by rw [e112, kbyC (v := v111) (x := x6) ⟨by omega, by omega⟩ (by rw [e111, e110, e109])]; exact wFk_3 (by omega) (by omega)
            have hPc := hP.sub (ws' := [(ho, .inr (3, [.ref hh, .int sz2])), (hh, .inl (cI, 600, .inl f2))]) [1, 2] rfl
            have hDc := hD.sub (ws' := [(ho, .inr (3, [.ref hh, .int sz2])), (hh, .inl (cI, 600, .inl f2))]) [1, 2] (by decide) rfl
            have hFc := va_free (wc := [(ho, .inr (3, [.ref hh, .int sz2])), (hh, .inl (cI, 600, .inl f2))]) hD hS hA [1, 2] rfl
            refine va_callv (va_runV (As := [.int v112]) (rest := []) ⟨hx, hb, hml, hown, hts⟩ (c_X3_append l D cI cJ cZ ho hh sz2 f2 v112 bsz2 (H).size) (cwV 1 hts (kg_V mk_428 mk_315 mk_316 mk_6 mk_317) rfl rfl rfl (by decide +kernel) ⟨Nat.le_of_ble_eq_true rfl, Nat.le_of_ble_eq_true rfl⟩) ⟨fun a U g mk q => by obtain ⟨q0, q1, qP, qK, qD⟩ := q; exact ⟨q0, q1, qP, kK.call qK, qD⟩, va_recv hK.1 hPc (ci := 3) (q0 := 0) rfl rfl, fun U hU hW => ⟨rfl, by rw [hU], by rw [hU]; exact hPc, kK.warm hW hK, hDc.weaken (fun _ _ _ _ => trivial)⟩⟩ rfl rfl hl.1 rfl (lv_room (Nat.le_of_ble_eq_true rfl)) dX7_feed_113 ⟨Nat.zero_le _, Nat.zero_le _⟩) hS (fun q _ h => hFc q h) hFc (fun u t9 H1 locs ht9 hvm9 hw9 hB9 hz9 hk9 hS => ?_)
            obtain ⟨sz2_113, f2_113⟩ := u
            obtain ⟨hP1, hD1⟩ := hB9
            rw [ht9] at hP1
            have hP1 : va_P D vwCl [(ho, .inr (3, [.ref hh, .int sz2_113])), (hh, .inl (cI, 600, .inl f2_113))] H1 := hP1
            obtain ⟨hP, hD⟩ := va_join (wr := [(hk, .inr (7, [.ref ho, .ref hwr, .ref hrd, .ref hp, .int 0]))]) (w1 := [(ho, .inr (3, [.ref hh, .int sz2_113])), (hh, .inl (cI, 600, .inl f2_113))]) hP hD [1, 2] [0] rfl rfl (by decide) (by decide) hk9 hFc hP1 hD1
            have hP := hP.sub (ws' := [(hk, .inr (7, [.ref ho, .ref hwr, .ref hrd, .ref hp, .int 0])), (ho, .inr (3, [.ref hh, .int sz2_113])), (hh, .inl (cI, 600, .inl f2_113))]) [0, 1, 2] rfl
            have hD := hD.sub (ws' := [(hk, .inr (7, [.ref ho, .ref hwr, .ref hrd, .ref hp, .int 0])), (ho, .inr (3, [.ref hh, .int sz2_113])), (hh, .inl (cI, 600, .inl f2_113))]) [0, 1, 2] (by decide) rfl
            generalize H1 = H at hP hS ⊢
            obtain ⟨q113_0, q113_1, q113_2⟩ := hw9
            have q113_0 : kB sz2_113 0 600 := q113_0
            have q113_1 : sz2_113.toInt = if sz2.toInt < 600 then sz2.toInt + 1 else sz2.toInt := q113_1
            have q113_2 : sz2.toInt < 600 → f2_113 = upd f2 sz2.toNatClampNeg (v112 &&& 255) := q113_2
            have F113 := q113_2 (by omega)
            rw [if_pos (show sz2.toInt < 600 by omega)] at q113_1
            obtain ⟨v116, e116⟩ : ∃ y : Int32, y = x6 + 1 := ⟨_, rfl⟩
            refine lv_iinc (v := v116) (lv' := [(6, .int v116), (7, .int fc), (0, .ref hk), (1, .int fn), (2, .int fa), (3, .int fb), (4, .int fc), (5, .int fd)]) hx hb dX7_feed_116 hl (k := 7) rfl (by rw [e116]; rfl) (by decide) rfl (fun ls hl => ?_)
            have b116 : kB v116 9 12 := kB_eq e116 (kB_add c84nx kc_1 (by decide))
            have t116 : v116.toInt = x6.toInt + 1 := by rw [e116]; exact kinc (kB_w c84nx (by decide) (by decide))
            refine lv_goto (tgt := 53) hx hb dX7_feed_119 (by decide) ?_
            exact ih v116 sz2_113 f2_113 (by have := b116.1; have := b116.2; have := q113_0.1; have := q113_0.2; have := c84nx.1; have := c84nx.2; have := bsz2.1; have := bsz2.2; omega) (kB_w c56ny (by decide) (by decide)) (kB_w b116 (by decide) (by decide)) q113_0 (by rw [t116]; omega) (by rw [t116]; omega) n16 f32 (by rw [t116]; exact F113.trans (wFe_u bsz.1 b6.1 hz rfl hfe KB)) _ _ ls hP hD hS (lv_sub hl [2, 3, 4, 5, 6, 7, 0] rfl)
        · have c73n : x6 < 8 := kN_le c73
          have c73nx : kB x6 4 7 := kB_lt_l c62y kc_8 c73n (by decide)
          refine lv_iload_n hx hb dX7_feed_76 rfl (lv_at hl 3 rfl) ?_
          refine lv_goto (tgt := 94) hx hb dX7_feed_77 (by decide) ?_
          refine lv_istore (lv' := [(7, .int fb), (0, .ref hk), (1, .int fn), (2, .int fa), (3, .int fb), (4, .int fc), (5, .int fd), (6, .int x6)]) hx hb dX7_feed_94 hl (by decide) rfl (fun ls hl => ?_)
          have L56 := Int32.lt_iff_toInt_lt.mp c56n
          refine lv_aload_n hx hb dX7_feed_96 rfl (lv_at hl 1 rfl) ?_
          refine va_get (D := D) (ci := 7) (v := .ref ho) (C := RX7) (T := TX7) (N := 5) hx hb hts in_X7 hown hK.1 hP 0 rfl rfl 0 (by decide) (hts _ mk_328) (fun _ h9 => h9) rfl dX7_feed_97 ?_
          refine lv_iload hx hb dX7_feed_100 (lv_at hl 0 rfl) ?_
          refine lv_bipush (v := 24) hx hb dX7_feed_102 (by decide) ?_
          refine lv_bipush (v := 8) hx hb dX7_feed_104 (by decide) ?_
          refine lv_iload hx hb dX7_feed_106 (lv_at hl 7 rfl) ?_
          refine lv_iconst (v := 4) hx hb dX7_feed_108 (by decide) ?_
          refine lv_irem hx hb dX7_feed_109 (kB_ne0 kc_4 (Or.inl (by decide))) ?_
          refine lv_topi (fun v109 e109 => ?_)
          have b109 : kB v109 0 3 := kB_eq e109 (kB_rem c73nx kc_4 (by decide))
          refine lv_imul hx hb dX7_feed_110 ?_
          refine lv_topi (fun v110 e110 => ?_)
          have b110 : kB v110 0 24 := kB_eq e110 (kB_cmul kc_8 b109 (by decide))
          refine lv_isub hx hb dX7_feed_111 ?_
          refine lv_topi (fun v111 e111 => ?_)
          have b111 : kB v111 0 24 := kB_eq e111 (kB_sub kc_24 b110 (by decide))
          refine lv_iushr hx hb dX7_feed_112 rfl ?_
          refine lv_topi (fun v112 e112 => ?_)
          have KB : v112 &&& 255 = wFk fa fb fc fd x6.toInt.toNat := by rw [e112, kbyC (v := v111) (x := x6) ⟨by omega, by omega⟩ (by rw [e111, e110, e109])]; exact wFk_2 (by omega) (by omega)
          have hPc := hP.sub (ws' := [(ho, .inr (3, [.ref hh, .int sz2])), (hh, .inl (cI, 600, .inl f2))]) [1, 2] rfl
          have hDc := hD.sub (ws' := [(ho, .inr (3, [.ref hh, .int sz2])), (hh, .inl (cI, 600, .inl f2))]) [1, 2] (by decide) rfl
          have hFc := va_free (wc := [(ho, .inr (3, [.ref hh, .int sz2])), (hh, .inl (cI, 600, .inl f2))]) hD hS hA [1, 2] rfl
          refine va_callv (va_runV (As := [.int v112]) (rest := []) ⟨hx, hb, hml, hown, hts⟩ (c_X3_append l D cI cJ cZ ho hh sz2 f2 v112 bsz2 (H).size) (cwV 1 hts (kg_V mk_428 mk_315 mk_316 mk_6 mk_317) rfl rfl rfl (by decide +kernel) ⟨Nat.le_of_ble_eq_true rfl, Nat.le_of_ble_eq_true rfl⟩) ⟨fun a U g mk q => by obtain ⟨q0, q1, qP, qK, qD⟩ := q; exact ⟨q0, q1, qP, kK.call qK, qD⟩, va_recv hK.1 hPc (ci := 3) (q0 := 0) rfl rfl, fun U hU hW => ⟨rfl, by rw [hU], by rw [hU]; exact hPc, kK.warm hW hK, hDc.weaken (fun _ _ _ _ => trivial)⟩⟩ rfl rfl hl.1 rfl (lv_room (Nat.le_of_ble_eq_true rfl)) dX7_feed_113 ⟨Nat.zero_le _, Nat.zero_le _⟩) hS (fun q _ h => hFc q h) hFc (fun u t9 H1 locs ht9 hvm9 hw9 hB9 hz9 hk9 hS => ?_)
          obtain ⟨sz2_113, f2_113⟩ := u
          obtain ⟨hP1, hD1⟩ := hB9
          rw [ht9] at hP1
          have hP1 : va_P D vwCl [(ho, .inr (3, [.ref hh, .int sz2_113])), (hh, .inl (cI, 600, .inl f2_113))] H1 := hP1
          obtain ⟨hP, hD⟩ := va_join (wr := [(hk, .inr (7, [.ref ho, .ref hwr, .ref hrd, .ref hp, .int 0]))]) (w1 := [(ho, .inr (3, [.ref hh, .int sz2_113])), (hh, .inl (cI, 600, .inl f2_113))]) hP hD [1, 2] [0] rfl rfl (by decide) (by decide) hk9 hFc hP1 hD1
          have hP := hP.sub (ws' := [(hk, .inr (7, [.ref ho, .ref hwr, .ref hrd, .ref hp, .int 0])), (ho, .inr (3, [.ref hh, .int sz2_113])), (hh, .inl (cI, 600, .inl f2_113))]) [0, 1, 2] rfl
          have hD := hD.sub (ws' := [(hk, .inr (7, [.ref ho, .ref hwr, .ref hrd, .ref hp, .int 0])), (ho, .inr (3, [.ref hh, .int sz2_113])), (hh, .inl (cI, 600, .inl f2_113))]) [0, 1, 2] (by decide) rfl
          generalize H1 = H at hP hS ⊢
          obtain ⟨q113_0, q113_1, q113_2⟩ := hw9
          have q113_0 : kB sz2_113 0 600 := q113_0
          have q113_1 : sz2_113.toInt = if sz2.toInt < 600 then sz2.toInt + 1 else sz2.toInt := q113_1
          have q113_2 : sz2.toInt < 600 → f2_113 = upd f2 sz2.toNatClampNeg (v112 &&& 255) := q113_2
          have F113 := q113_2 (by omega)
          rw [if_pos (show sz2.toInt < 600 by omega)] at q113_1
          obtain ⟨v116, e116⟩ : ∃ y : Int32, y = x6 + 1 := ⟨_, rfl⟩
          refine lv_iinc (v := v116) (lv' := [(6, .int v116), (7, .int fb), (0, .ref hk), (1, .int fn), (2, .int fa), (3, .int fb), (4, .int fc), (5, .int fd)]) hx hb dX7_feed_116 hl (k := 7) rfl (by rw [e116]; rfl) (by decide) rfl (fun ls hl => ?_)
          have b116 : kB v116 5 8 := kB_eq e116 (kB_add c73nx kc_1 (by decide))
          have t116 : v116.toInt = x6.toInt + 1 := by rw [e116]; exact kinc (kB_w c73nx (by decide) (by decide))
          refine lv_goto (tgt := 53) hx hb dX7_feed_119 (by decide) ?_
          exact ih v116 sz2_113 f2_113 (by have := b116.1; have := b116.2; have := q113_0.1; have := q113_0.2; have := c73nx.1; have := c73nx.2; have := bsz2.1; have := bsz2.2; omega) (kB_w c56ny (by decide) (by decide)) (kB_w b116 (by decide) (by decide)) q113_0 (by rw [t116]; omega) (by rw [t116]; omega) n16 f32 (by rw [t116]; exact F113.trans (wFe_u bsz.1 b6.1 hz rfl hfe KB)) _ _ ls hP hD hS (lv_sub hl [2, 3, 4, 5, 6, 7, 0] rfl)
      · have c62n : x6 < 4 := kN_le c62
        have c62nx : kB x6 0 3 := kB_lt_l c56nx kc_4 c62n (by decide)
        refine lv_iload_n hx hb dX7_feed_65 rfl (lv_at hl 2 rfl) ?_
        refine lv_goto (tgt := 94) hx hb dX7_feed_66 (by decide) ?_
        refine lv_istore (lv' := [(7, .int fa), (0, .ref hk), (1, .int fn), (2, .int fa), (3, .int fb), (4, .int fc), (5, .int fd), (6, .int x6)]) hx hb dX7_feed_94 hl (by decide) rfl (fun ls hl => ?_)
        have L56 := Int32.lt_iff_toInt_lt.mp c56n
        refine lv_aload_n hx hb dX7_feed_96 rfl (lv_at hl 1 rfl) ?_
        refine va_get (D := D) (ci := 7) (v := .ref ho) (C := RX7) (T := TX7) (N := 5) hx hb hts in_X7 hown hK.1 hP 0 rfl rfl 0 (by decide) (hts _ mk_328) (fun _ h9 => h9) rfl dX7_feed_97 ?_
        refine lv_iload hx hb dX7_feed_100 (lv_at hl 0 rfl) ?_
        refine lv_bipush (v := 24) hx hb dX7_feed_102 (by decide) ?_
        refine lv_bipush (v := 8) hx hb dX7_feed_104 (by decide) ?_
        refine lv_iload hx hb dX7_feed_106 (lv_at hl 7 rfl) ?_
        refine lv_iconst (v := 4) hx hb dX7_feed_108 (by decide) ?_
        refine lv_irem hx hb dX7_feed_109 (kB_ne0 kc_4 (Or.inl (by decide))) ?_
        refine lv_topi (fun v109 e109 => ?_)
        have b109 : kB v109 0 3 := kB_eq e109 (kB_rem c62nx kc_4 (by decide))
        refine lv_imul hx hb dX7_feed_110 ?_
        refine lv_topi (fun v110 e110 => ?_)
        have b110 : kB v110 0 24 := kB_eq e110 (kB_cmul kc_8 b109 (by decide))
        refine lv_isub hx hb dX7_feed_111 ?_
        refine lv_topi (fun v111 e111 => ?_)
        have b111 : kB v111 0 24 := kB_eq e111 (kB_sub kc_24 b110 (by decide))
        refine lv_iushr hx hb dX7_feed_112 rfl ?_
        refine lv_topi (fun v112 e112 => ?_)
        have KB : v112 &&& 255 = wFk fa fb fc fd x6.toInt.toNat := by rw [e112, kbyC (v := v111) (x := x6) ⟨by omega, by omega⟩ (by rw [e111, e110, e109])]; exact wFk_1 (by omega)
        have hPc := hP.sub (ws' := [(ho, .inr (3, [.ref hh, .int sz2])), (hh, .inl (cI, 600, .inl f2))]) [1, 2] rfl
        have hDc := hD.sub (ws' := [(ho, .inr (3, [.ref hh, .int sz2])), (hh, .inl (cI, 600, .inl f2))]) [1, 2] (by decide) rfl
        have hFc := va_free (wc := [(ho, .inr (3, [.ref hh, .int sz2])), (hh, .inl (cI, 600, .inl f2))]) hD hS hA [1, 2] rfl
        refine va_callv (va_runV (As := [.int v112]) (rest := []) ⟨hx, hb, hml, hown, hts⟩ (c_X3_append l D cI cJ cZ ho hh sz2 f2 v112 bsz2 (H).size) (cwV 1 hts (kg_V mk_428 mk_315 mk_316 mk_6 mk_317) rfl rfl rfl (by decide +kernel) ⟨Nat.le_of_ble_eq_true rfl, Nat.le_of_ble_eq_true rfl⟩) ⟨fun a U g mk q => by obtain ⟨q0, q1, qP, qK, qD⟩ := q; exact ⟨q0, q1, qP, kK.call qK, qD⟩, va_recv hK.1 hPc (ci := 3) (q0 := 0) rfl rfl, fun U hU hW => ⟨rfl, by rw [hU], by rw [hU]; exact hPc, kK.warm hW hK, hDc.weaken (fun _ _ _ _ => trivial)⟩⟩ rfl rfl hl.1 rfl (lv_room (Nat.le_of_ble_eq_true rfl)) dX7_feed_113 ⟨Nat.zero_le _, Nat.zero_le _⟩) hS (fun q _ h => hFc q h) hFc (fun u t9 H1 locs ht9 hvm9 hw9 hB9 hz9 hk9 hS => ?_)
        obtain ⟨sz2_113, f2_113⟩ := u
        obtain ⟨hP1, hD1⟩ := hB9
        rw [ht9] at hP1
        have hP1 : va_P D vwCl [(ho, .inr (3, [.ref hh, .int sz2_113])), (hh, .inl (cI, 600, .inl f2_113))] H1 := hP1
        obtain ⟨hP, hD⟩ := va_join (wr := [(hk, .inr (7, [.ref ho, .ref hwr, .ref hrd, .ref hp, .int 0]))]) (w1 := [(ho, .inr (3, [.ref hh, .int sz2_113])), (hh, .inl (cI, 600, .inl f2_113))]) hP hD [1, 2] [0] rfl rfl (by decide) (by decide) hk9 hFc hP1 hD1
        have hP := hP.sub (ws' := [(hk, .inr (7, [.ref ho, .ref hwr, .ref hrd, .ref hp, .int 0])), (ho, .inr (3, [.ref hh, .int sz2_113])), (hh, .inl (cI, 600, .inl f2_113))]) [0, 1, 2] rfl
        have hD := hD.sub (ws' := [(hk, .inr (7, [.ref ho, .ref hwr, .ref hrd, .ref hp, .int 0])), (ho, .inr (3, [.ref hh, .int sz2_113])), (hh, .inl (cI, 600, .inl f2_113))]) [0, 1, 2] (by decide) rfl
        generalize H1 = H at hP hS ⊢
        obtain ⟨q113_0, q113_1, q113_2⟩ := hw9
        have q113_0 : kB sz2_113 0 600 := q113_0
        have q113_1 : sz2_113.toInt = if sz2.toInt < 600 then sz2.toInt + 1 else sz2.toInt := q113_1
        have q113_2 : sz2.toInt < 600 → f2_113 = upd f2 sz2.toNatClampNeg (v112 &&& 255) := q113_2
        have F113 := q113_2 (by omega)
        rw [if_pos (show sz2.toInt < 600 by omega)] at q113_1
        obtain ⟨v116, e116⟩ : ∃ y : Int32, y = x6 + 1 := ⟨_, rfl⟩
        refine lv_iinc (v := v116) (lv' := [(6, .int v116), (7, .int fa), (0, .ref hk), (1, .int fn), (2, .int fa), (3, .int fb), (4, .int fc), (5, .int fd)]) hx hb dX7_feed_116 hl (k := 7) rfl (by rw [e116]; rfl) (by decide) rfl (fun ls hl => ?_)
        have b116 : kB v116 1 4 := kB_eq e116 (kB_add c62nx kc_1 (by decide))
        have t116 : v116.toInt = x6.toInt + 1 := by rw [e116]; exact kinc (kB_w c62nx (by decide) (by decide))
        refine lv_goto (tgt := 53) hx hb dX7_feed_119 (by decide) ?_
        exact ih v116 sz2_113 f2_113 (by have := b116.1; have := b116.2; have := q113_0.1; have := q113_0.2; have := c62nx.1; have := c62nx.2; have := bsz2.1; have := bsz2.2; omega) (kB_w c56ny (by decide) (by decide)) (kB_w b116 (by decide) (by decide)) q113_0 (by rw [t116]; omega) (by rw [t116]; omega) n16 f32 (by rw [t116]; exact F113.trans (wFe_u bsz.1 b6.1 hz rfl hfe KB)) _ _ ls hP hD hS (lv_sub hl [2, 3, 4, 5, 6, 7, 0] rfl)
set_option maxHeartbeats 4000000 in
set_option maxRecDepth 100000 in
theorem c_X7_feed (l : Launch) (hl0 : l.stackTraces = false) (D : va_G) (cI cJ cZ : ClassId) (hk ho hwr hrd hp hh : Nat) (bg : Int32) (sz : Int32) (f : Nat → Int32) (fn : Int32) (fa : Int32) (fb : Int32) (fc : Int32) (fd : Int32) (bsz : kB sz 0 600) (hpz : Nat) : vx_Met l yX7_feed kw_X7_feed ({ frames := 6, cells := 1, slots := 6, locals := 100 }) (va_Pc [.ref hk, .int fn, .int fa, .int fb, .int fc, .int fd] (fun U => U.heap.size = hpz ∧ va_P D vwCl [(hk, .inr (7, [.ref ho, .ref hwr, .ref hrd, .ref hp, .int bg])), (ho, .inr (3, [.ref hh, .int sz])), (hh, .inl (cI, 600, .inl f))] U.heap ∧ kK D cI cJ cZ U ∧ va_D (fun _ => True) [(hk, .inr (7, [.ref ho, .ref hwr, .ref hrd, .ref hp, .int bg])), (ho, .inr (3, [.ref hh, .int sz])), (hh, .inl (cI, 600, .inl f))] ∧ kX (va_A [(hk, .inr (7, [.ref ho, .ref hwr, .ref hrd, .ref hp, .int bg])), (ho, .inr (3, [.ref hh, .int sz])), (hh, .inl (cI, 600, .inl f))] hpz) U U.heap)) (va_Qi (fun (r : Int32) (u : Int32 × (Nat → Int32)) => (kB u.1 0 600) ∧ ((0 ≤ fn.toInt ∧ fn.toInt ≤ 16)) ∧ (sz.toInt + fn.toInt ≤ 600) ∧ (r = u.1) ∧ (u.1.toInt = sz.toInt + fn.toInt) ∧ (u.2 = wFe (wFk fa fb fc fd) sz.toInt.toNat fn.toInt.toNat f)) (fun (u : Int32 × (Nat → Int32)) (t : State) => va_P D vwCl [(hk, .inr (7, [.ref ho, .ref hwr, .ref hrd, .ref hp, .int 0])), (ho, .inr (3, [.ref hh, .int u.1])), (hh, .inl (cI, 600, .inl u.2))] t.heap ∧ va_D (va_A [(hk, .inr (7, [.ref ho, .ref hwr, .ref hrd, .ref hp, .int bg])), (ho, .inr (3, [.ref hh, .int sz])), (hh, .inl (cI, 600, .inl f))] hpz) [(hk, .inr (7, [.ref ho, .ref hwr, .ref hrd, .ref hp, .int 0])), (ho, .inr (3, [.ref hh, .int u.1])), (hh, .inl (cI, 600, .inl u.2))]) (va_A [(hk, .inr (7, [.ref ho, .ref hwr, .ref hrd, .ref hp, .int bg])), (ho, .inr (3, [.ref hh, .int sz])), (hh, .inl (cI, 600, .inl f))] hpz)) (vx_X (fun _ : Unit => True) (fun (E : String) (_ : Unit) (t : State) => ((E = "java/lang/IllegalArgumentException" ∧ ¬ (0 ≤ fn.toInt ∧ fn.toInt ≤ 16)) ∨ (E = "java/lang/IllegalStateException" ∧ ((0 ≤ fn.toInt ∧ fn.toInt ≤ 16) ∧ 600 < sz.toInt + fn.toInt))) ∧ va_P D vwCl [(hk, .inr (7, [.ref ho, .ref hwr, .ref hrd, .ref hp, .int bg])), (ho, .inr (3, [.ref hh, .int sz])), (hh, .inl (cI, 600, .inl f))] t.heap ∧ va_D (va_A [(hk, .inr (7, [.ref ho, .ref hwr, .ref hrd, .ref hp, .int bg])), (ho, .inr (3, [.ref hh, .int sz])), (hh, .inl (cI, 600, .inl f))] hpz) [(hk, .inr (7, [.ref ho, .ref hwr, .ref hrd, .ref hp, .int bg])), (ho, .inr (3, [.ref hh, .int sz])), (hh, .inl (cI, 600, .inl f))]) (va_A [(hk, .inr (7, [.ref ho, .ref hwr, .ref hrd, .ref hp, .int bg])), (ho, .inr (3, [.ref hh, .int sz])), (hh, .inl (cI, 600, .inl f))] hpz)) 1 6 (va_A [(hk, .inr (7, [.ref ho, .ref hwr, .ref hrd, .ref hp, .int bg])), (ho, .inr (3, [.ref hh, .int sz])), (hh, .inl (cI, 600, .inl f))] hpz) := by
  refine vx_ofW (cc := cX7_feed) (maxL := 8) (ret := (some .int)) (by decide) rfl ?_
  intro p e s m args below meth c s₁ B hml hno hv
  obtain ⟨rfl, hsz, hP, hK, hD0, hX⟩ := hv
  have hx := B.exec
  have hb := B.bytes
  have hr := B.returns
  have hts := fun (w : Cond) (h : w ∈ kW) => atoms_spec (ws := kw_X7_feed) B.pre w (List.mem_cons_of_mem _ h)
  have hown : s.vm.findClass RX7 = some m.cls := findClass_of_methodNamed B.named
  have hlocks := B.notSynchronized
  subst hsz
  have hD := hD0.self (sz := s.heap.size)
  generalize hAe : va_A [(hk, .inr (7, [.ref ho, .ref hwr, .ref hrd, .ref hp, .int bg])), (ho, .inr (3, [.ref hh, .int sz])), (hh, .inl (cI, 600, .inl f))] s.heap.size = A at hD hX ⊢
  have hA : ∀ q : Nat, s.heap.size ≤ q → A q := fun q h => by rw [← hAe]; exact Or.inr h
  have hS : va_S A s.heap s.heap [] := va_S.rf
  have hP : va_P D vwCl [(hk, .inr (7, [.ref ho, .ref hwr, .ref hrd, .ref hp, .int bg])), (ho, .inr (3, [.ref hh, .int sz])), (hh, .inl (cI, 600, .inl f))] s.heap := hP
  have hl := lv_entry ([.ref hk, .int fn, .int fa, .int fb, .int fc, .int fd]) (n := 8) (Nat.le_of_ble_eq_true rfl)
  rw [lg_entry_eq]
  generalize (lg_sl ([.ref hk, .int fn, .int fa, .int fb, .int fc, .int fd]) ++ List.replicate (8 - (lg_sl ([.ref hk, .int fn, .int fa, .int fb, .int fc, .int fd])).length) Slot.unset).toArray = ls at hl ⊢
  have hl : lv_has ls 8 [(0, .ref hk), (1, .int fn), (2, .int fa), (3, .int fb), (4, .int fc), (5, .int fd)] := hl
  refine lv_iload_n hx hb dX7_feed_0 rfl (lv_at hl 1 rfl) ?_
  refine lv_if_lt (tgt := 10) hx hb dX7_feed_1 (by decide) (fun c1 => ?_) (fun c1 => ?_)
  · have c1a := kB_all fn
    have c1x : kB fn (-2147483648) (-1) := kB_lt_l c1a kc_0 c1 (by decide)
    have TH : ¬ (0 ≤ fn.toInt ∧ fn.toInt ≤ 16) := fun h9 => by have := Int32.lt_iff_toInt_lt.mp c1; rw [show (0 : Int32).toInt = 0 from by decide] at this; omega
    obtain ⟨sa10, hR10⟩ := hX.2.2.2 (45, "many is not 0 .. 16") (by decide)
    exact vx_throwS (A := A) (mc := 1) (ms := 6) hx hb hl0 hown (by decide +kernel) (by decide +kernel) (hts _ mk_424) (hts _ mk_425) hR10 (kx_IllegalArgumentException hts hX) kxg_IllegalArgumentException hX.1 hX.2.1 hS (by rw [hml]; exact hl.1) dX7_feed_10 dX7_feed_13 dX7_feed_14 dX7_feed_16 dX7_feed_19 (fun x h => (hno x h).elim) (Nat.lt_of_lt_of_le (by decide) (Nat.le_of_ble_eq_true rfl : 6 ≤ _)) (Nat.le_of_ble_eq_true rfl) (Nat.le_of_ble_eq_true rfl) (Nat.le_of_ble_eq_true rfl) hlocks (fun t9 hvm9 hz9 hk9 => ⟨(), trivial, ⟨Or.inl ⟨rfl, TH⟩, hP.kept (fun k x hx => hk9 x.1 ((hP k x hx).lt)), hD⟩, kFt hS hz9 hk9⟩) hS.2.2 (Nat.le_of_ble_eq_true rfl) (Nat.le_of_ble_eq_true rfl)
  · have c1n : 0 ≤ fn := kN_lt c1
    have c1nb := kB_all fn
    have c1ny : kB fn 0 2147483647 := kB_le_r kc_0 c1nb c1n (by decide)
    refine lv_iload_n hx hb dX7_feed_4 rfl (lv_at hl 1 rfl) ?_
    refine lv_bipush (v := 16) hx hb dX7_feed_5 (by decide) ?_
    refine lv_icmp_le (tgt := 20) hx hb dX7_feed_7 (by decide) (fun c7 => ?_) (fun c7 => ?_)
    · have c7x : kB fn 0 16 := kB_le_l c1ny kc_16 c7 (by decide)
      have BN : kB fn 0 16 := ⟨c1ny.1, c7x.2⟩
      have N16 : (0 ≤ fn.toInt ∧ fn.toInt ≤ 16) := BN
      refine lv_aload_n hx hb dX7_feed_20 rfl (lv_at hl 0 rfl) ?_
      refine va_get (D := D) (ci := 7) (v := .ref ho) (C := RX7) (T := TX7) (N := 5) hx hb hts in_X7 hown hK.1 hP 0 rfl rfl 0 (by decide) (hts _ mk_328) (fun _ h9 => h9) rfl dX7_feed_21 ?_
      have hPc := hP.sub (ws' := [(ho, .inr (3, [.ref hh, .int sz])), (hh, .inl (cI, 600, .inl f))]) [1, 2] rfl
      have hDc := hD.sub (ws' := [(ho, .inr (3, [.ref hh, .int sz])), (hh, .inl (cI, 600, .inl f))]) [1, 2] (by decide) rfl
      have hFc := va_free (wc := [(ho, .inr (3, [.ref hh, .int sz])), (hh, .inl (cI, 600, .inl f))]) hD hS hA [1, 2] rfl
      refine va_calli (va_runV (As := []) (rest := []) ⟨hx, hb, hml, hown, hts⟩ (c_X3_size l D cI cJ cZ ho hh sz f (s.heap).size) (cwV 0 hts (kg_V mk_329 mk_30 mk_31 mk_6 mk_32) rfl rfl rfl (by decide +kernel) ⟨Nat.le_of_ble_eq_true rfl, Nat.le_of_ble_eq_true rfl⟩) ⟨fun a U g mk q => by obtain ⟨q0, q1, qP, qK, qD⟩ := q; exact ⟨q0, q1, qP, kK.call qK, qD⟩, va_recv hK.1 hPc (ci := 3) (q0 := 0) rfl rfl, fun U hU hW => ⟨rfl, by rw [hU], by rw [hU]; exact hPc, kK.warm hW hK, hDc.weaken (fun _ _ _ _ => trivial)⟩⟩ rfl rfl hl.1 rfl (lv_room (Nat.le_of_ble_eq_true rfl)) dX7_feed_24 ⟨Nat.zero_le _, Nat.zero_le _⟩) hS (fun q _ h => hFc q h) hFc (fun r24 u t9 H1 locs ht9 hvm9 hw9 hB9 hz9 hk9 hS => ?_)
      obtain ⟨hP1, hD1⟩ := hB9
      rw [ht9] at hP1
      have hP1 : va_P D vwCl [(ho, .inr (3, [.ref hh, .int sz])), (hh, .inl (cI, 600, .inl f))] H1 := hP1
      obtain ⟨hP, hD⟩ := va_join (wr := [(hk, .inr (7, [.ref ho, .ref hwr, .ref hrd, .ref hp, .int bg]))]) (w1 := [(ho, .inr (3, [.ref hh, .int sz])), (hh, .inl (cI, 600, .inl f))]) hP hD [1, 2] [0] rfl rfl (by decide) (by decide) hk9 hFc hP1 hD1
      have hP := hP.sub (ws' := [(hk, .inr (7, [.ref ho, .ref hwr, .ref hrd, .ref hp, .int bg])), (ho, .inr (3, [.ref hh, .int sz])), (hh, .inl (cI, 600, .inl f))]) [0, 1, 2] rfl
      have hD := hD.sub (ws' := [(hk, .inr (7, [.ref ho, .ref hwr, .ref hrd, .ref hp, .int bg])), (ho, .inr (3, [.ref hh, .int sz])), (hh, .inl (cI, 600, .inl f))]) [0, 1, 2] (by decide) rfl
      generalize H1 = H at hP hS ⊢
      have q24_0 : r24 = sz := hw9
      have B24 : kB r24 0 600 := (by rw [q24_0]; exact bsz)
      refine lv_iload_n hx hb dX7_feed_27 rfl (lv_at hl 1 rfl) ?_
      refine lv_iadd hx hb dX7_feed_28 ?_
      refine lv_topi (fun v28 e28 => ?_)
      have b28 : kB v28 0 616 := kB_eq e28 (kB_add B24 BN (by decide))
      refine lv_sipush (v := 600) hx hb dX7_feed_29 (by decide) ?_
      have X28 : v28.toInt = sz.toInt + fn.toInt := by rw [e28, kI_add (by omega) (by omega), q24_0]
      refine lv_icmp_le (tgt := 45) hx hb dX7_feed_32 (by decide) (fun c32 => ?_) (fun c32 => ?_)
      · have c32x : kB v28 0 600 := kB_le_l b28 kc_600 c32 (by decide)
        have F32 : sz.toInt + fn.toInt ≤ 600 := by have := c32x.2; omega
        refine lv_aload_n hx hb dX7_feed_45 rfl (lv_at hl 0 rfl) ?_
        refine lv_iconst (v := 0) hx hb dX7_feed_46 (by decide) ?_
        refine va_put (D := D) (ci := 7) (v := .int 0) (ty := .int) (C := RX7) (T := TX7) (N := 5) hx hb hts in_X7 tyX7 tyX7_ok nmX7 hown hK.1 hP hD hS 0 rfl rfl 4 (by decide) (hts _ mk_334) (fun _ h9 => h9) rfl (by decide +kernel) rfl rfl (Nat.le_of_ble_eq_true rfl) dX7_feed_47 (fun H locs hP hD hS => ?_)
        have hP : va_P D vwCl [(hk, .inr (7, [.ref ho, .ref hwr, .ref hrd, .ref hp, .int 0])), (ho, .inr (3, [.ref hh, .int sz])), (hh, .inl (cI, 600, .inl f))] H := hP
        have hD : va_D A [(hk, .inr (7, [.ref ho, .ref hwr, .ref hrd, .ref hp, .int 0])), (ho, .inr (3, [.ref hh, .int sz])), (hh, .inl (cI, 600, .inl f))] := hD
        refine lv_iconst (v := 0) hx hb dX7_feed_50 (by decide) ?_
        refine lv_istore (lv' := [(6, .int 0), (0, .ref hk), (1, .int fn), (2, .int fa), (3, .int fb), (4, .int fc), (5, .int fd)]) hx hb dX7_feed_51 hl (by decide) rfl (fun ls hl => ?_)
        exact lp_X7_feed_53 D cI cJ cZ hk ho hwr hrd hp hh bg sz f fn fa fb fc fd bsz hx hb hr hml hown hts hlocks hK hA hX ((16 - (0 : Int32).toInt).toNat + 1) 0 sz f (Nat.lt_succ_self _) BN (kB_w kc_0 (by decide) (by decide)) bsz (by rw [show (0 : Int32).toInt = 0 from by decide]; exact BN.1) (by rw [show (0 : Int32).toInt = 0 from by decide]; omega) N16 F32 (by rw [show (0 : Int32).toInt = 0 from by decide]; rfl) _ _ ls hP hD hS (lv_sub hl [1, 2, 3, 4, 5, 6, 0] rfl)
      · have c32n : 600 < v28 := kN_le c32
        have c32ny : kB v28 601 616 := kB_lt_r kc_600 b28 c32n (by decide)
        have TH2 : (0 ≤ fn.toInt ∧ fn.toInt ≤ 16) ∧ 600 < sz.toInt + fn.toInt := ⟨N16, by have := c32ny.1; omega⟩
        obtain ⟨sa35, hR35⟩ := hX.2.2.2 (56, "there would be more than 600 bytes") (by decide)
        exact vx_throwS (A := A) (mc := 1) (ms := 6) hx hb hl0 hown (by decide +kernel) (by decide +kernel) (hts _ mk_426) (hts _ mk_427) hR35 (kx_IllegalStateException hts hX) kxg_IllegalStateException hX.1 hX.2.1 hS (by rw [hml]; exact hl.1) dX7_feed_35 dX7_feed_38 dX7_feed_39 dX7_feed_41 dX7_feed_44 (fun x h => (hno x h).elim) (Nat.lt_of_lt_of_le (by decide) (Nat.le_of_ble_eq_true rfl : 6 ≤ _)) (Nat.le_of_ble_eq_true rfl) (Nat.le_of_ble_eq_true rfl) (Nat.le_of_ble_eq_true rfl) hlocks (fun t9 hvm9 hz9 hk9 => ⟨(), trivial, ⟨Or.inr ⟨rfl, TH2⟩, hP.kept (fun k x hx => hk9 x.1 ((hP k x hx).lt)), hD⟩, kFt hS hz9 hk9⟩) hS.2.2 (Nat.le_of_ble_eq_true rfl) (Nat.le_of_ble_eq_true rfl)
    · have c7n : 16 < fn := kN_le c7
      have c7ny : kB fn 17 2147483647 := kB_lt_r kc_16 c1ny c7n (by decide)
      have TH : ¬ (0 ≤ fn.toInt ∧ fn.toInt ≤ 16) := fun h9 => by have := c7ny.1; omega
      obtain ⟨sa10, hR10⟩ := hX.2.2.2 (45, "many is not 0 .. 16") (by decide)
      exact vx_throwS (A := A) (mc := 1) (ms := 6) hx hb hl0 hown (by decide +kernel) (by decide +kernel) (hts _ mk_424) (hts _ mk_425) hR10 (kx_IllegalArgumentException hts hX) kxg_IllegalArgumentException hX.1 hX.2.1 hS (by rw [hml]; exact hl.1) dX7_feed_10 dX7_feed_13 dX7_feed_14 dX7_feed_16 dX7_feed_19 (fun x h => (hno x h).elim) (Nat.lt_of_lt_of_le (by decide) (Nat.le_of_ble_eq_true rfl : 6 ≤ _)) (Nat.le_of_ble_eq_true rfl) (Nat.le_of_ble_eq_true rfl) (Nat.le_of_ble_eq_true rfl) hlocks (fun t9 hvm9 hz9 hk9 => ⟨(), trivial, ⟨Or.inl ⟨rfl, TH⟩, hP.kept (fun k x hx => hk9 x.1 ((hP k x hx).lt)), hD⟩, kFt hS hz9 hk9⟩) hS.2.2 (Nat.le_of_ble_eq_true rfl) (Nat.le_of_ble_eq_true rfl)
abbrev kw_X7_checkBits : List Cond := Cond.code yX7_checkBits cX7_checkBits 2 none :: kW
set_option maxHeartbeats 4000000 in
set_option maxRecDepth 100000 in
theorem c_X7_checkBits (l : Launch) (hl0 : l.stackTraces = false) (D : va_G) (cI cJ cZ : ClassId) (pp : Int32) (mn : Int32) (hpz : Nat) : vx_Met l yX7_checkBits kw_X7_checkBits ({ frames := 6, cells := 1, slots := 6, locals := 100 }) (va_Pc [.int pp, .int mn] (fun U => U.heap.size = hpz ∧ va_P D vwCl [] U.heap ∧ kK D cI cJ cZ U ∧ va_D (fun _ => True) [] ∧ kX (va_A [] hpz) U U.heap)) (va_Qv (fun (u : Unit) => (((1 ≤ pp.toInt ∧ pp.toInt ≤ 255) ∧ (0 ≤ mn.toInt ∧ mn.toInt ≤ 32)))) (fun (u : Unit) (t : State) => va_P D vwCl [] t.heap ∧ va_D (va_A [] hpz) []) (va_A [] hpz)) (vx_X (fun _ : Unit => True) (fun (E : String) (_ : Unit) (t : State) => ((E = "java/lang/IllegalArgumentException" ∧ ¬ ((1 ≤ pp.toInt ∧ pp.toInt ≤ 255) ∧ (0 ≤ mn.toInt ∧ mn.toInt ≤ 32)))) ∧ va_P D vwCl [] t.heap ∧ va_D (va_A [] hpz) []) (va_A [] hpz)) 1 6 (va_A [] hpz) := by
  refine vx_ofW (cc := cX7_checkBits) (maxL := 2) (ret := none) (by decide) rfl ?_
  intro p e s m args below meth c s₁ B hml hno hv
  obtain ⟨rfl, hsz, hP, hK, hD0, hX⟩ := hv
  have hx := B.exec
  have hb := B.bytes
  have hr := B.returns
  have hts := fun (w : Cond) (h : w ∈ kW) => atoms_spec (ws := kw_X7_checkBits) B.pre w (List.mem_cons_of_mem _ h)
  have hown : s.vm.findClass RX7 = some m.cls := findClass_of_methodNamed B.named
  have hlocks := B.notSynchronized
  subst hsz
  have hD := hD0.self (sz := s.heap.size)
  generalize hAe : va_A [] s.heap.size = A at hD hX ⊢
  have hA : ∀ q : Nat, s.heap.size ≤ q → A q := fun q h => by rw [← hAe]; exact Or.inr h
  have hS : va_S A s.heap s.heap [] := va_S.rf
  have hP : va_P D vwCl [] s.heap := hP
  have hl := lv_entry ([.int pp, .int mn]) (n := 2) (Nat.le_of_ble_eq_true rfl)
  rw [lg_entry_eq]
  generalize (lg_sl ([.int pp, .int mn]) ++ List.replicate (2 - (lg_sl ([.int pp, .int mn])).length) Slot.unset).toArray = ls at hl ⊢
  have hl : lv_has ls 2 [(0, .int pp), (1, .int mn)] := hl
  refine lv_iload_n hx hb dX7_checkBits_0 rfl (lv_at hl 0 rfl) ?_
  refine lv_iconst (v := 1) hx hb dX7_checkBits_1 (by decide) ?_
  refine lv_icmp_lt (tgt := 12) hx hb dX7_checkBits_2 (by decide) (fun c2 => ?_) (fun c2 => ?_)
  · have c2a := kB_all pp
    have c2x : kB pp (-2147483648) 0 := kB_lt_l c2a kc_1 c2 (by decide)
    have TH : ¬ ((1 ≤ pp.toInt ∧ pp.toInt ≤ 255) ∧ (0 ≤ mn.toInt ∧ mn.toInt ≤ 32)) := fun h9 => by have := c2x.2; omega
    obtain ⟨sa12, hR12⟩ := hX.2.2.2 (138, "p is not 1 .. 255") (by decide)
    exact vx_throwS (A := A) (mc := 1) (ms := 6) hx hb hl0 hown (by decide +kernel) (by decide +kernel) (hts _ mk_424) (hts _ mk_425) hR12 (kx_IllegalArgumentException hts hX) kxg_IllegalArgumentException hX.1 hX.2.1 hS (by rw [hml]; exact hl.1) dX7_checkBits_12 dX7_checkBits_15 dX7_checkBits_16 dX7_checkBits_18 dX7_checkBits_21 (fun x h => (hno x h).elim) (Nat.lt_of_lt_of_le (by decide) (Nat.le_of_ble_eq_true rfl : 6 ≤ _)) (Nat.le_of_ble_eq_true rfl) (Nat.le_of_ble_eq_true rfl) (Nat.le_of_ble_eq_true rfl) hlocks (fun t9 hvm9 hz9 hk9 => ⟨(), trivial, ⟨⟨rfl, TH⟩, hP.kept (fun k x hx => hk9 x.1 ((hP k x hx).lt)), hD⟩, kFt hS hz9 hk9⟩) hS.2.2 (Nat.le_of_ble_eq_true rfl) (Nat.le_of_ble_eq_true rfl)
  · have c2n : 1 ≤ pp := kN_lt c2
    have c2nb := kB_all pp
    have c2ny : kB pp 1 2147483647 := kB_le_r kc_1 c2nb c2n (by decide)
    refine lv_iload_n hx hb dX7_checkBits_5 rfl (lv_at hl 0 rfl) ?_
    refine lv_sipush (v := 255) hx hb dX7_checkBits_6 (by decide) ?_
    refine lv_icmp_le (tgt := 22) hx hb dX7_checkBits_9 (by decide) (fun c9 => ?_) (fun c9 => ?_)
    · have c9x : kB pp 1 255 := kB_le_l c2ny kc_255 c9 (by decide)
      refine lv_iload_n hx hb dX7_checkBits_22 rfl (lv_at hl 1 rfl) ?_
      refine lv_if_lt (tgt := 32) hx hb dX7_checkBits_23 (by decide) (fun c23 => ?_) (fun c23 => ?_)
      · have c23a := kB_all mn
        have c23x : kB mn (-2147483648) (-1) := kB_lt_l c23a kc_0 c23 (by decide)
        have TH : ¬ ((1 ≤ pp.toInt ∧ pp.toInt ≤ 255) ∧ (0 ≤ mn.toInt ∧ mn.toInt ≤ 32)) := fun h9 => by have := c23x.2; omega
        obtain ⟨sa32, hR32⟩ := hX.2.2.2 (140, "many is not 0 .. 32") (by decide)
        exact vx_throwS (A := A) (mc := 1) (ms := 6) hx hb hl0 hown (by decide +kernel) (by decide +kernel) (hts _ mk_424) (hts _ mk_425) hR32 (kx_IllegalArgumentException hts hX) kxg_IllegalArgumentException hX.1 hX.2.1 hS (by rw [hml]; exact hl.1) dX7_checkBits_32 dX7_checkBits_35 dX7_checkBits_36 dX7_checkBits_38 dX7_checkBits_41 (fun x h => (hno x h).elim) (Nat.lt_of_lt_of_le (by decide) (Nat.le_of_ble_eq_true rfl : 6 ≤ _)) (Nat.le_of_ble_eq_true rfl) (Nat.le_of_ble_eq_true rfl) (Nat.le_of_ble_eq_true rfl) hlocks (fun t9 hvm9 hz9 hk9 => ⟨(), trivial, ⟨⟨rfl, TH⟩, hP.kept (fun k x hx => hk9 x.1 ((hP k x hx).lt)), hD⟩, kFt hS hz9 hk9⟩) hS.2.2 (Nat.le_of_ble_eq_true rfl) (Nat.le_of_ble_eq_true rfl)
      · have c23n : 0 ≤ mn := kN_lt c23
        have c23nb := kB_all mn
        have c23ny : kB mn 0 2147483647 := kB_le_r kc_0 c23nb c23n (by decide)
        refine lv_iload_n hx hb dX7_checkBits_26 rfl (lv_at hl 1 rfl) ?_
        refine lv_bipush (v := 32) hx hb dX7_checkBits_27 (by decide) ?_
        refine lv_icmp_le (tgt := 42) hx hb dX7_checkBits_29 (by decide) (fun c29 => ?_) (fun c29 => ?_)
        · have c29x : kB mn 0 32 := kB_le_l c23ny kc_32 c29 (by decide)
          have HS : ((1 ≤ pp.toInt ∧ pp.toInt ≤ 255) ∧ (0 ≤ mn.toInt ∧ mn.toInt ≤ 32)) := ⟨⟨by have := c2ny.1; omega, by have := c9x.2; omega⟩, ⟨by have := c23ny.1; omega, by have := c29x.2; omega⟩⟩
          refine vx_ret ?_
          refine W.widen (k := 1) (n := 6) (by omega) (by omega) ?_
          exact W.vret hx hb hr (fun t9 ht9 hW9 => ⟨⟨(), rfl, HS, by rw [ht9]; exact hP, hD⟩, hS.F ht9⟩) hS.2.2 dX7_checkBits_42
        · have c29n : 32 < mn := kN_le c29
          have c29ny : kB mn 33 2147483647 := kB_lt_r kc_32 c23ny c29n (by decide)
          have TH : ¬ ((1 ≤ pp.toInt ∧ pp.toInt ≤ 255) ∧ (0 ≤ mn.toInt ∧ mn.toInt ≤ 32)) := fun h9 => by have := c29ny.1; omega
          obtain ⟨sa32, hR32⟩ := hX.2.2.2 (140, "many is not 0 .. 32") (by decide)
          exact vx_throwS (A := A) (mc := 1) (ms := 6) hx hb hl0 hown (by decide +kernel) (by decide +kernel) (hts _ mk_424) (hts _ mk_425) hR32 (kx_IllegalArgumentException hts hX) kxg_IllegalArgumentException hX.1 hX.2.1 hS (by rw [hml]; exact hl.1) dX7_checkBits_32 dX7_checkBits_35 dX7_checkBits_36 dX7_checkBits_38 dX7_checkBits_41 (fun x h => (hno x h).elim) (Nat.lt_of_lt_of_le (by decide) (Nat.le_of_ble_eq_true rfl : 6 ≤ _)) (Nat.le_of_ble_eq_true rfl) (Nat.le_of_ble_eq_true rfl) (Nat.le_of_ble_eq_true rfl) hlocks (fun t9 hvm9 hz9 hk9 => ⟨(), trivial, ⟨⟨rfl, TH⟩, hP.kept (fun k x hx => hk9 x.1 ((hP k x hx).lt)), hD⟩, kFt hS hz9 hk9⟩) hS.2.2 (Nat.le_of_ble_eq_true rfl) (Nat.le_of_ble_eq_true rfl)
    · have c9n : 255 < pp := kN_le c9
      have c9ny : kB pp 256 2147483647 := kB_lt_r kc_255 c2ny c9n (by decide)
      have TH : ¬ ((1 ≤ pp.toInt ∧ pp.toInt ≤ 255) ∧ (0 ≤ mn.toInt ∧ mn.toInt ≤ 32)) := fun h9 => by have := c9ny.1; omega
      obtain ⟨sa12, hR12⟩ := hX.2.2.2 (138, "p is not 1 .. 255") (by decide)
      exact vx_throwS (A := A) (mc := 1) (ms := 6) hx hb hl0 hown (by decide +kernel) (by decide +kernel) (hts _ mk_424) (hts _ mk_425) hR12 (kx_IllegalArgumentException hts hX) kxg_IllegalArgumentException hX.1 hX.2.1 hS (by rw [hml]; exact hl.1) dX7_checkBits_12 dX7_checkBits_15 dX7_checkBits_16 dX7_checkBits_18 dX7_checkBits_21 (fun x h => (hno x h).elim) (Nat.lt_of_lt_of_le (by decide) (Nat.le_of_ble_eq_true rfl : 6 ≤ _)) (Nat.le_of_ble_eq_true rfl) (Nat.le_of_ble_eq_true rfl) (Nat.le_of_ble_eq_true rfl) hlocks (fun t9 hvm9 hz9 hk9 => ⟨(), trivial, ⟨⟨rfl, TH⟩, hP.kept (fun k x hx => hk9 x.1 ((hP k x hx).lt)), hD⟩, kFt hS hz9 hk9⟩) hS.2.2 (Nat.le_of_ble_eq_true rfl) (Nat.le_of_ble_eq_true rfl)
abbrev kw_X7_put : List Cond := Cond.code yX7_put cX7_put 5 (some .int) :: kW
set_option maxHeartbeats 4000000 in
set_option maxRecDepth 100000 in
theorem lp_X7_put_51 {p : Program} {l : Launch} {e : Env} {s : State} {m : MethodId} {args : Array Value} {below : List Frame} {meth : Method} {c : Code} {A : Nat → Prop} (D : va_G) (cI cJ cZ : ClassId) (hk ho hwr hrd hp hh : Nat) (bg : Int32) (bo : Int32) (wg : Int32) (sl : Int32) (sz : Int32) (f : Nat → Int32) (pp : Int32) (bi : Int32) (mn : Int32) (Bz : Nat) (bsz : kB sz 0 600) (hwt : bg = 1 → kB wg 128 255 ∧ kB sl 1 24 ∧ kNF sl.toInt sz.toInt) (hB : bg = 1 → bo = nI Bz ∧ Bz < 4294967296) (hx : p.tables.exec = Jvm.exec) (hb : c.code = cX7_put) (hr : meth.sig.returnType = (some .int)) (hml : c.maxLocals = 5) (hown : s.vm.findClass RX7 = some m.cls) (hts : ∀ w ∈ kW, w.before args s = true) (hlocks : meth.locks = false) (hK : kK D cI cJ cZ s) (hA : ∀ q : Nat, s.heap.size ≤ q → A q) (hX : kX A s s.heap) : ∀ n : Nat, ∀ (x4 : Int32) (bo2 : Int32) (wg2 : Int32) (sl2 : Int32) (sz2 : Int32) (f2 : Nat → Int32) (B2 : Nat), (x4.toInt + 1).toNat < n → (bg = 1) → (((1 ≤ pp.toInt ∧ pp.toInt ≤ 255) ∧ (0 ≤ mn.toInt ∧ mn.toInt ≤ 32))) → (sz.toInt ≤ 560) → (kB pp 0 255) → (kB x4 (-1) 31) → (kB wg2 128 255) → (kB sl2 1 24) → (kB sz2 0 600) → (kNF sl2.toInt sz2.toInt) → (8 * sz2.toInt - sl2.toInt + 7 * x4.toInt ≤ 8 * sz.toInt - 1 + 7 * 31) → (kput pp.toInt (kbt bi) (x4.toInt + 1).toNat (wg2.toInt, 8 * sz2.toInt - sl2.toInt) = (kput pp.toInt (kbt bi) mn.toInt.toNat (wg.toInt, 8 * sz.toInt - sl.toInt))) → (bo2 = nI B2) → (B2 < 4294967296) → (wPut pp.toInt (kbt bi) (x4.toInt + 1).toNat (wg2.toInt, sl2.toInt, sz2.toInt, B2, f2) = (wPut pp.toInt (kbt bi) mn.toInt.toNat (wg.toInt, sl.toInt, sz.toInt, Bz, f))) → ∀ (H : Heap) (locs : List Loc) (ls : Array Slot), va_P D vwCl [(hk, .inr (7, [.ref ho, .ref hwr, .ref hrd, .ref hp, .int bg])), (hwr, .inr (1, [.ref ho, .int bo2, .int wg2, .int sl2])), (ho, .inr (3, [.ref hh, .int sz2])), (hh, .inl (cI, 600, .inl f2))] H → va_D A [(hk, .inr (7, [.ref ho, .ref hwr, .ref hrd, .ref hp, .int bg])), (hwr, .inr (1, [.ref ho, .int bo2, .int wg2, .int sl2])), (ho, .inr (3, [.ref hh, .int sz2])), (hh, .inl (cI, 600, .inl f2))] → va_S A s.heap H locs → lv_has ls 5 [(0, .ref hk), (1, .int pp), (2, .int bi), (4, .int x4)] → W p l e (headSpec kw_X7_put ({ frames := 7, cells := 2, slots := 12, locals := 121 })).room s m args below meth c H locs 1 6 (vx_MQ below (va_Qi (fun (r : Int32) (u : Int32 × Int32 × Int32 × Int32 × (Nat → Int32)) => (((1 ≤ pp.toInt ∧ pp.toInt ≤ 255) ∧ (0 ≤ mn.toInt ∧ mn.toInt ≤ 32))) ∧ (bg = 1) ∧ (sz.toInt ≤ 560) ∧ (r = u.2.2.2.1) ∧ (kB u.2.1 128 255) ∧ (kB u.2.2.1 1 24) ∧ (kNF u.2.2.1.toInt u.2.2.2.1.toInt) ∧ (kB u.2.2.2.1 0 595) ∧ ((u.2.1.toInt, 8 * u.2.2.2.1.toInt - u.2.2.1.toInt) = (kput pp.toInt (kbt bi) mn.toInt.toNat (wg.toInt, 8 * sz.toInt - sl.toInt))) ∧ (u.1 = nI (wPut pp.toInt (kbt bi) mn.toInt.toNat (wg.toInt, sl.toInt, sz.toInt, Bz, f)).2.2.2.1) ∧ (u.2.2.2.2 = (wPut pp.toInt (kbt bi) mn.toInt.toNat (wg.toInt, sl.toInt, sz.toInt, Bz, f)).2.2.2.2)) (fun (u : Int32 × Int32 × Int32 × Int32 × (Nat → Int32)) (t : State) => va_P D vwCl [(hk, .inr (7, [.ref ho, .ref hwr, .ref hrd, .ref hp, .int bg])), (hwr, .inr (1, [.ref ho, .int u.1, .int u.2.1, .int u.2.2.1])), (ho, .inr (3, [.ref hh, .int u.2.2.2.1])), (hh, .inl (cI, 600, .inl u.2.2.2.2))] t.heap ∧ va_D A [(hk, .inr (7, [.ref ho, .ref hwr, .ref hrd, .ref hp, .int bg])), (hwr, .inr (1, [.ref ho, .int u.1, .int u.2.1, .int u.2.2.1])), (ho, .inr (3, [.ref hh, .int u.2.2.2.1])), (hh, .inl (cI, 600, .inl u.2.2.2.2))]) A) (vx_X (fun _ : Unit => True) (fun (E : String) (_ : Unit) (t : State) => ((E = "java/lang/IllegalArgumentException" ∧ ¬ ((1 ≤ pp.toInt ∧ pp.toInt ≤ 255) ∧ (0 ≤ mn.toInt ∧ mn.toInt ≤ 32))) ∨ (E = "java/lang/IllegalStateException" ∧ (((1 ≤ pp.toInt ∧ pp.toInt ≤ 255) ∧ (0 ≤ mn.toInt ∧ mn.toInt ≤ 32)) ∧ ¬ (bg = 1 ∧ sz.toInt ≤ 560)))) ∧ va_P D vwCl [(hk, .inr (7, [.ref ho, .ref hwr, .ref hrd, .ref hp, .int bg])), (hwr, .inr (1, [.ref ho, .int bo, .int wg, .int sl])), (ho, .inr (3, [.ref hh, .int sz])), (hh, .inl (cI, 600, .inl f))] t.heap ∧ va_D A [(hk, .inr (7, [.ref ho, .ref hwr, .ref hrd, .ref hp, .int bg])), (hwr, .inr (1, [.ref ho, .int bo, .int wg, .int sl])), (ho, .inr (3, [.ref hh, .int sz])), (hh, .inl (cI, 600, .inl f))]) A) args s 2 12 A) (F0 m 51 ls []) := by
  intro n
  induction n with
  | zero => intro x4 bo2 wg2 sl2 sz2 f2 B2 hmeas; exact absurd hmeas (Nat.not_lt_zero _)
  | succ n ih =>
    intro x4 bo2 wg2 sl2 sz2 f2 B2 hmeas c10 hs0 hb0 bp0 b4 bwg2 bsl2 bsz2 nf2 hph hkp hb2 hb3 hwp H locs ls hP hD hS hl
    refine lv_iload hx hb dX7_put_51 (lv_at hl 3 rfl) ?_
    refine lv_if_lt (tgt := 76) hx hb dX7_put_53 (by decide) (fun c53 => ?_) (fun c53 => ?_)
    · have c53x : kB x4 (-1) (-1) := kB_lt_l b4 kc_0 c53 (by decide)
      have E53 : x4.toInt = -1 := by have := c53x.2; omega
      have EK : (wg2.toInt, 8 * sz2.toInt - sl2.toInt) = (kput pp.toInt (kbt bi) mn.toInt.toNat (wg.toInt, 8 * sz.toInt - sl.toInt)) := by rw [← hkp, E53]; rfl
      have BZ : kB sz2 0 595 := ⟨bsz2.1, by omega⟩
      have EW : (wg2.toInt, sl2.toInt, sz2.toInt, B2, f2) = (wPut pp.toInt (kbt bi) mn.toInt.toNat (wg.toInt, sl.toInt, sz.toInt, Bz, f)) := by rw [← hwp, E53]; rfl
      refine lv_aload_n hx hb dX7_put_76 rfl (lv_at hl 0 rfl) ?_
      refine va_get (D := D) (ci := 7) (v := .ref ho) (C := RX7) (T := TX7) (N := 5) hx hb hts in_X7 hown hK.1 hP 0 rfl rfl 0 (by decide) (hts _ mk_328) (fun _ h9 => h9) rfl dX7_put_77 ?_
      have hPc := hP.sub (ws' := [(ho, .inr (3, [.ref hh, .int sz2])), (hh, .inl (cI, 600, .inl f2))]) [2, 3] rfl
      have hDc := hD.sub (ws' := [(ho, .inr (3, [.ref hh, .int sz2])), (hh, .inl (cI, 600, .inl f2))]) [2, 3] (by decide) rfl
      have hFc := va_free (wc := [(ho, .inr (3, [.ref hh, .int sz2])), (hh, .inl (cI, 600, .inl f2))]) hD hS hA [2, 3] rfl
      refine va_calli (va_runV (As := []) (rest := []) ⟨hx, hb, hml, hown, hts⟩ (c_X3_size l D cI cJ cZ ho hh sz2 f2 (H).size) (cwV 0 hts (kg_V mk_329 mk_30 mk_31 mk_6 mk_32) rfl rfl rfl (by decide +kernel) ⟨Nat.le_of_ble_eq_true rfl, Nat.le_of_ble_eq_true rfl⟩) ⟨fun a U g mk q => by obtain ⟨q0, q1, qP, qK, qD⟩ := q; exact ⟨q0, q1, qP, kK.call qK, qD⟩, va_recv hK.1 hPc (ci := 3) (q0 := 0) rfl rfl, fun U hU hW => ⟨rfl, by rw [hU], by rw [hU]; exact hPc, kK.warm hW hK, hDc.weaken (fun _ _ _ _ => trivial)⟩⟩ rfl rfl hl.1 rfl (lv_room (Nat.le_of_ble_eq_true rfl)) dX7_put_80 ⟨Nat.le_of_ble_eq_true rfl, Nat.le_of_ble_eq_true rfl⟩) hS (fun q _ h => hFc q h) hFc (fun r80 u t9 H1 locs ht9 hvm9 hw9 hB9 hz9 hk9 hS => ?_)
      obtain ⟨hP1, hD1⟩ := hB9
      rw [ht9] at hP1
      have hP1 : va_P D vwCl [(ho, .inr (3, [.ref hh, .int sz2])), (hh, .inl (cI, 600, .inl f2))] H1 := hP1
      obtain ⟨hP, hD⟩ := va_join (wr := [(hk, .inr (7, [.ref ho, .ref hwr, .ref hrd, .ref hp, .int bg])), (hwr, .inr (1, [.ref ho, .int bo2, .int wg2, .int sl2]))]) (w1 := [(ho, .inr (3, [.ref hh, .int sz2])), (hh, .inl (cI, 600, .inl f2))]) hP hD [2, 3] [0, 1] rfl rfl (by decide) (by decide) hk9 hFc hP1 hD1
      refine W.widen (k := 1) (n := 6) (by omega) (by omega) ?_
      have hP := hP.sub (ws' := [(hk, .inr (7, [.ref ho, .ref hwr, .ref hrd, .ref hp, .int bg])), (hwr, .inr (1, [.ref ho, .int bo2, .int wg2, .int sl2])), (ho, .inr (3, [.ref hh, .int sz2])), (hh, .inl (cI, 600, .inl f2))]) [0, 1, 2, 3] rfl
      have hD := hD.sub (ws' := [(hk, .inr (7, [.ref ho, .ref hwr, .ref hrd, .ref hp, .int bg])), (hwr, .inr (1, [.ref ho, .int bo2, .int wg2, .int sl2])), (ho, .inr (3, [.ref hh, .int sz2])), (hh, .inl (cI, 600, .inl f2))]) [0, 1, 2, 3] (by decide) rfl
      generalize H1 = H at hP hS ⊢
      have q80_0 : r80 = sz2 := hw9
      have pf_w1 : bo2 = nI (wPut pp.toInt (kbt bi) mn.toInt.toNat (wg.toInt, sl.toInt, sz.toInt, Bz, f)).2.2.2.1 := (by rw [← EW]; exact hb2)
      have pf_w2 : f2 = (wPut pp.toInt (kbt bi) mn.toInt.toNat (wg.toInt, sl.toInt, sz.toInt, Bz, f)).2.2.2.2 := (by rw [← EW])
      refine vx_ret ?_
      refine W.widen (k := 2) (n := 12) (by omega) (by omega) ?_
      exact W.iret (v := r80) hx hb hr (fun t9 ht9 hW9 => ⟨⟨r80, (bo2, wg2, sl2, sz2, f2), rfl, ⟨hs0, c10, hb0, q80_0, bwg2, bsl2, nf2, BZ, EK, pf_w1, pf_w2⟩, by rw [ht9]; exact hP, hD⟩, hS.F ht9⟩) hS.2.2 dX7_put_83
    · have c53n : 0 ≤ x4 := kN_lt c53
      have c53ny : kB x4 0 31 := kB_le_r kc_0 b4 c53n (by decide)
      have c53nz : kB x4 0 31 := ⟨by have := c53ny.1; omega, b4.2⟩
      refine lv_aload_n hx hb dX7_put_56 rfl (lv_at hl 0 rfl) ?_
      refine va_get (D := D) (ci := 7) (v := .ref hwr) (C := RX7) (T := TX7) (N := 5) hx hb hts in_X7 hown hK.1 hP 0 rfl rfl 1 (by decide) (hts _ mk_335) (fun _ h9 => h9) rfl dX7_put_57 ?_
      refine lv_iload_n hx hb dX7_put_60 rfl (lv_at hl 1 rfl) ?_
      refine lv_iload_n hx hb dX7_put_61 rfl (lv_at hl 2 rfl) ?_
      refine lv_iload hx hb dX7_put_62 (lv_at hl 3 rfl) ?_
      refine lv_iushr hx hb dX7_put_64 rfl ?_
      refine lv_topi (fun v64 e64 => ?_)
      refine lv_iconst (v := 1) hx hb dX7_put_65 (by decide) ?_
      refine lv_iand hx hb dX7_put_66 ?_
      refine lv_topi (fun v66 e66 => ?_)
      have b66 : kB v66 0 1 := kB_eq e66 (kB_and 1 (by decide) (by decide))
      have BB : kB v66 0 1 := kB_eq e66 (kB_and 1 (by decide) (by decide))
      have XB : v66.toInt = kbt bi x4.toInt.toNat := by rw [e66, e64]; exact kbtC c53nz
      have BS : kB sz2 0 592 := ⟨bsz2.1, by omega⟩
      have hPc := hP.sub (ws' := [(hwr, .inr (1, [.ref ho, .int bo2, .int wg2, .int sl2])), (ho, .inr (3, [.ref hh, .int sz2])), (hh, .inl (cI, 600, .inl f2))]) [1, 2, 3] rfl
      have hDc := hD.sub (ws' := [(hwr, .inr (1, [.ref ho, .int bo2, .int wg2, .int sl2])), (ho, .inr (3, [.ref hh, .int sz2])), (hh, .inl (cI, 600, .inl f2))]) [1, 2, 3] (by decide) rfl
      have hFc := va_free (wc := [(hwr, .inr (1, [.ref ho, .int bo2, .int wg2, .int sl2])), (ho, .inr (3, [.ref hh, .int sz2])), (hh, .inl (cI, 600, .inl f2))]) hD hS hA [1, 2, 3] rfl
      refine va_callv (va_runV (As := [.int pp, .int v66]) (rest := []) ⟨hx, hb, hml, hown, hts⟩ (c_X1_writeBit l D cI cJ cZ hwr ho hh bo2 wg2 sl2 sz2 f2 pp v66 B2 bwg2 bp0 BS bsl2 nf2 hb2 hb3 (H).size) (cwV 2 hts (kg_V mk_432 mk_433 mk_434 mk_326 mk_435) rfl rfl rfl (by decide +kernel) ⟨Nat.le_of_ble_eq_true rfl, Nat.le_of_ble_eq_true rfl⟩) ⟨fun a U g mk q => by obtain ⟨q0, q1, qP, qK, qD⟩ := q; exact ⟨q0, q1, qP, kK.call qK, qD⟩, va_recv hK.1 hPc (ci := 1) (q0 := 0) rfl rfl, fun U hU hW => ⟨rfl, by rw [hU], by rw [hU]; exact hPc, kK.warm hW hK, hDc.weaken (fun _ _ _ _ => trivial)⟩⟩ rfl rfl hl.1 rfl (lv_room (Nat.le_of_ble_eq_true rfl)) dX7_put_67 ⟨Nat.le_of_ble_eq_true rfl, Nat.le_of_ble_eq_true rfl⟩) hS (fun q _ h => hFc q h) hFc (fun u t9 H1 locs ht9 hvm9 hw9 hB9 hz9 hk9 hS => ?_)
      obtain ⟨bo2_67, wg2_67, sl2_67, sz2_67, f2_67⟩ := u
      obtain ⟨hP1, hD1⟩ := hB9
      rw [ht9] at hP1
      have hP1 : va_P D vwCl [(hwr, .inr (1, [.ref ho, .int bo2_67, .int wg2_67, .int sl2_67])), (ho, .inr (3, [.ref hh, .int sz2_67])), (hh, .inl (cI, 600, .inl f2_67))] H1 := hP1
      obtain ⟨hP, hD⟩ := va_join (wr := [(hk, .inr (7, [.ref ho, .ref hwr, .ref hrd, .ref hp, .int bg]))]) (w1 := [(hwr, .inr (1, [.ref ho, .int bo2_67, .int wg2_67, .int sl2_67])), (ho, .inr (3, [.ref hh, .int sz2_67])), (hh, .inl (cI, 600, .inl f2_67))]) hP hD [1, 2, 3] [0] rfl rfl (by decide) (by decide) hk9 hFc hP1 hD1
      refine W.widen (k := 1) (n := 6) (by omega) (by omega) ?_
      have hP := hP.sub (ws' := [(hk, .inr (7, [.ref ho, .ref hwr, .ref hrd, .ref hp, .int bg])), (hwr, .inr (1, [.ref ho, .int bo2_67, .int wg2_67, .int sl2_67])), (ho, .inr (3, [.ref hh, .int sz2_67])), (hh, .inl (cI, 600, .inl f2_67))]) [0, 1, 2, 3] rfl
      have hD := hD.sub (ws' := [(hk, .inr (7, [.ref ho, .ref hwr, .ref hrd, .ref hp, .int bg])), (hwr, .inr (1, [.ref ho, .int bo2_67, .int wg2_67, .int sl2_67])), (ho, .inr (3, [.ref hh, .int sz2_67])), (hh, .inl (cI, 600, .inl f2_67))]) [0, 1, 2, 3] (by decide) rfl
      generalize H1 = H at hP hS ⊢
      obtain ⟨q67_0, q67_1, q67_2, q67_3, q67_4, q67_5, q67_6, q67_7, q67_8, q67_9⟩ := hw9
      have q67_0 : kB wg2_67 128 255 := q67_0
      have q67_1 : kB sz2_67 0 600 := q67_1
      have q67_2 : kB sl2_67 1 24 := q67_2
      have q67_3 : kNF sl2_67.toInt sz2_67.toInt := q67_3
      have q67_4 : wg2_67.toInt = krn (kr1 pp.toInt v66.toInt wg2.toInt) := q67_4
      have q67_5 : 8 * sz2_67.toInt - sl2_67.toInt = 8 * sz2.toInt - sl2.toInt + kdl (kr1 pp.toInt v66.toInt wg2.toInt) := q67_5
      have q67_6 : bo2_67 = nI (wIt (kdl (kr1 pp.toInt v66.toInt wg2.toInt)).toNat (sl2.toInt, sz2.toInt, wB1 pp.toInt v66.toInt wg2.toInt B2, f2)).2.2.1 := q67_6
      have q67_7 : sl2_67.toInt = (wIt (kdl (kr1 pp.toInt v66.toInt wg2.toInt)).toNat (sl2.toInt, sz2.toInt, wB1 pp.toInt v66.toInt wg2.toInt B2, f2)).1 := q67_7
      have q67_8 : sz2_67.toInt = (wIt (kdl (kr1 pp.toInt v66.toInt wg2.toInt)).toNat (sl2.toInt, sz2.toInt, wB1 pp.toInt v66.toInt wg2.toInt B2, f2)).2.1 := q67_8
      have q67_9 : f2_67 = (wIt (kdl (kr1 pp.toInt v66.toInt wg2.toInt)).toNat (sl2.toInt, sz2.toInt, wB1 pp.toInt v66.toInt wg2.toInt B2, f2)).2.2.2 := q67_9
      obtain ⟨v70, e70⟩ : ∃ y : Int32, y = x4 + (-1) := ⟨_, rfl⟩
      refine lv_iinc (v := v70) (lv' := [(4, .int v70), (0, .ref hk), (1, .int pp), (2, .int bi)]) hx hb dX7_put_70 hl (k := 3) rfl (by rw [e70]; rfl) (by decide) rfl (fun ls hl => ?_)
      have b70 : kB v70 (-1) 30 := kB_eq e70 (kB_add c53nz kc_m1 (by decide))
      have t70 : v70.toInt = x4.toInt + (-1) := by rw [e70]; exact kdec (kB_w c53nz (by decide) (by decide))
      refine lv_goto (tgt := 51) hx hb dX7_put_73 (by decide) ?_
      exact ih v70 bo2_67 wg2_67 sl2_67 sz2_67 f2_67 ((wIt (kdl (kr1 pp.toInt v66.toInt wg2.toInt)).toNat (sl2.toInt, sz2.toInt, wB1 pp.toInt v66.toInt wg2.toInt B2, f2)).2.2.1) (by have := b70.1; have := b70.2; have := q67_0.1; have := q67_0.2; have := q67_2.1; have := q67_2.2; have := q67_1.1; have := q67_1.2; have := c53nz.1; have := c53nz.2; have := bwg2.1; have := bwg2.2; have := bsl2.1; have := bsl2.2; have := BS.1; have := BS.2; omega) c10 hs0 hb0 bp0 (kB_w b70 (by decide) (by decide)) q67_0 q67_2 q67_1 q67_3 (by rw [t70]; have := (kdl_le (kr1 pp.toInt v66.toInt wg2.toInt)).2; omega) (by rw [t70, show (x4.toInt + -1 + 1).toNat = x4.toInt.toNat by omega, q67_4, q67_5, XB]; rw [show (x4.toInt + 1).toNat = x4.toInt.toNat + 1 by omega, kput_s] at hkp; exact hkp) q67_6 (wIt_lt _ _ (wB1_lt hb3)) (by rw [t70, show (x4.toInt + -1 + 1).toNat = x4.toInt.toNat by omega, q67_4, q67_7, q67_8, q67_9, XB]; rw [show (x4.toInt + 1).toNat = x4.toInt.toNat + 1 by omega, wPut_s] at hwp; exact hwp) _ _ ls hP hD hS (lv_sub hl [1, 2, 3, 0] rfl)
set_option maxHeartbeats 4000000 in
set_option maxRecDepth 100000 in
theorem c_X7_put (l : Launch) (hl0 : l.stackTraces = false) (D : va_G) (cI cJ cZ : ClassId) (hk ho hwr hrd hp hh : Nat) (bg : Int32) (bo : Int32) (wg : Int32) (sl : Int32) (sz : Int32) (f : Nat → Int32) (pp : Int32) (bi : Int32) (mn : Int32) (Bz : Nat) (bsz : kB sz 0 600) (hwt : bg = 1 → kB wg 128 255 ∧ kB sl 1 24 ∧ kNF sl.toInt sz.toInt) (hB : bg = 1 → bo = nI Bz ∧ Bz < 4294967296) (hpz : Nat) : vx_Met l yX7_put kw_X7_put ({ frames := 7, cells := 2, slots := 12, locals := 121 }) (va_Pc [.ref hk, .int pp, .int bi, .int mn] (fun U => U.heap.size = hpz ∧ va_P D vwCl [(hk, .inr (7, [.ref ho, .ref hwr, .ref hrd, .ref hp, .int bg])), (hwr, .inr (1, [.ref ho, .int bo, .int wg, .int sl])), (ho, .inr (3, [.ref hh, .int sz])), (hh, .inl (cI, 600, .inl f))] U.heap ∧ kK D cI cJ cZ U ∧ va_D (fun _ => True) [(hk, .inr (7, [.ref ho, .ref hwr, .ref hrd, .ref hp, .int bg])), (hwr, .inr (1, [.ref ho, .int bo, .int wg, .int sl])), (ho, .inr (3, [.ref hh, .int sz])), (hh, .inl (cI, 600, .inl f))] ∧ kX (va_A [(hk, .inr (7, [.ref ho, .ref hwr, .ref hrd, .ref hp, .int bg])), (hwr, .inr (1, [.ref ho, .int bo, .int wg, .int sl])), (ho, .inr (3, [.ref hh, .int sz])), (hh, .inl (cI, 600, .inl f))] hpz) U U.heap)) (va_Qi (fun (r : Int32) (u : Int32 × Int32 × Int32 × Int32 × (Nat → Int32)) => (((1 ≤ pp.toInt ∧ pp.toInt ≤ 255) ∧ (0 ≤ mn.toInt ∧ mn.toInt ≤ 32))) ∧ (bg = 1) ∧ (sz.toInt ≤ 560) ∧ (r = u.2.2.2.1) ∧ (kB u.2.1 128 255) ∧ (kB u.2.2.1 1 24) ∧ (kNF u.2.2.1.toInt u.2.2.2.1.toInt) ∧ (kB u.2.2.2.1 0 595) ∧ ((u.2.1.toInt, 8 * u.2.2.2.1.toInt - u.2.2.1.toInt) = (kput pp.toInt (kbt bi) mn.toInt.toNat (wg.toInt, 8 * sz.toInt - sl.toInt))) ∧ (u.1 = nI (wPut pp.toInt (kbt bi) mn.toInt.toNat (wg.toInt, sl.toInt, sz.toInt, Bz, f)).2.2.2.1) ∧ (u.2.2.2.2 = (wPut pp.toInt (kbt bi) mn.toInt.toNat (wg.toInt, sl.toInt, sz.toInt, Bz, f)).2.2.2.2)) (fun (u : Int32 × Int32 × Int32 × Int32 × (Nat → Int32)) (t : State) => va_P D vwCl [(hk, .inr (7, [.ref ho, .ref hwr, .ref hrd, .ref hp, .int bg])), (hwr, .inr (1, [.ref ho, .int u.1, .int u.2.1, .int u.2.2.1])), (ho, .inr (3, [.ref hh, .int u.2.2.2.1])), (hh, .inl (cI, 600, .inl u.2.2.2.2))] t.heap ∧ va_D (va_A [(hk, .inr (7, [.ref ho, .ref hwr, .ref hrd, .ref hp, .int bg])), (hwr, .inr (1, [.ref ho, .int bo, .int wg, .int sl])), (ho, .inr (3, [.ref hh, .int sz])), (hh, .inl (cI, 600, .inl f))] hpz) [(hk, .inr (7, [.ref ho, .ref hwr, .ref hrd, .ref hp, .int bg])), (hwr, .inr (1, [.ref ho, .int u.1, .int u.2.1, .int u.2.2.1])), (ho, .inr (3, [.ref hh, .int u.2.2.2.1])), (hh, .inl (cI, 600, .inl u.2.2.2.2))]) (va_A [(hk, .inr (7, [.ref ho, .ref hwr, .ref hrd, .ref hp, .int bg])), (hwr, .inr (1, [.ref ho, .int bo, .int wg, .int sl])), (ho, .inr (3, [.ref hh, .int sz])), (hh, .inl (cI, 600, .inl f))] hpz)) (vx_X (fun _ : Unit => True) (fun (E : String) (_ : Unit) (t : State) => ((E = "java/lang/IllegalArgumentException" ∧ ¬ ((1 ≤ pp.toInt ∧ pp.toInt ≤ 255) ∧ (0 ≤ mn.toInt ∧ mn.toInt ≤ 32))) ∨ (E = "java/lang/IllegalStateException" ∧ (((1 ≤ pp.toInt ∧ pp.toInt ≤ 255) ∧ (0 ≤ mn.toInt ∧ mn.toInt ≤ 32)) ∧ ¬ (bg = 1 ∧ sz.toInt ≤ 560)))) ∧ va_P D vwCl [(hk, .inr (7, [.ref ho, .ref hwr, .ref hrd, .ref hp, .int bg])), (hwr, .inr (1, [.ref ho, .int bo, .int wg, .int sl])), (ho, .inr (3, [.ref hh, .int sz])), (hh, .inl (cI, 600, .inl f))] t.heap ∧ va_D (va_A [(hk, .inr (7, [.ref ho, .ref hwr, .ref hrd, .ref hp, .int bg])), (hwr, .inr (1, [.ref ho, .int bo, .int wg, .int sl])), (ho, .inr (3, [.ref hh, .int sz])), (hh, .inl (cI, 600, .inl f))] hpz) [(hk, .inr (7, [.ref ho, .ref hwr, .ref hrd, .ref hp, .int bg])), (hwr, .inr (1, [.ref ho, .int bo, .int wg, .int sl])), (ho, .inr (3, [.ref hh, .int sz])), (hh, .inl (cI, 600, .inl f))]) (va_A [(hk, .inr (7, [.ref ho, .ref hwr, .ref hrd, .ref hp, .int bg])), (hwr, .inr (1, [.ref ho, .int bo, .int wg, .int sl])), (ho, .inr (3, [.ref hh, .int sz])), (hh, .inl (cI, 600, .inl f))] hpz)) 2 12 (va_A [(hk, .inr (7, [.ref ho, .ref hwr, .ref hrd, .ref hp, .int bg])), (hwr, .inr (1, [.ref ho, .int bo, .int wg, .int sl])), (ho, .inr (3, [.ref hh, .int sz])), (hh, .inl (cI, 600, .inl f))] hpz) := by
  refine vx_ofW (cc := cX7_put) (maxL := 5) (ret := (some .int)) (by decide) rfl ?_
  intro p e s m args below meth c s₁ B hml hno hv
  obtain ⟨rfl, hsz, hP, hK, hD0, hX⟩ := hv
  have hx := B.exec
  have hb := B.bytes
  have hr := B.returns
  have hts := fun (w : Cond) (h : w ∈ kW) => atoms_spec (ws := kw_X7_put) B.pre w (List.mem_cons_of_mem _ h)
  have hown : s.vm.findClass RX7 = some m.cls := findClass_of_methodNamed B.named
  have hlocks := B.notSynchronized
  subst hsz
  have hD := hD0.self (sz := s.heap.size)
  generalize hAe : va_A [(hk, .inr (7, [.ref ho, .ref hwr, .ref hrd, .ref hp, .int bg])), (hwr, .inr (1, [.ref ho, .int bo, .int wg, .int sl])), (ho, .inr (3, [.ref hh, .int sz])), (hh, .inl (cI, 600, .inl f))] s.heap.size = A at hD hX ⊢
  have hA : ∀ q : Nat, s.heap.size ≤ q → A q := fun q h => by rw [← hAe]; exact Or.inr h
  have hS : va_S A s.heap s.heap [] := va_S.rf
  have hP : va_P D vwCl [(hk, .inr (7, [.ref ho, .ref hwr, .ref hrd, .ref hp, .int bg])), (hwr, .inr (1, [.ref ho, .int bo, .int wg, .int sl])), (ho, .inr (3, [.ref hh, .int sz])), (hh, .inl (cI, 600, .inl f))] s.heap := hP
  have hl := lv_entry ([.ref hk, .int pp, .int bi, .int mn]) (n := 5) (Nat.le_of_ble_eq_true rfl)
  rw [lg_entry_eq]
  generalize (lg_sl ([.ref hk, .int pp, .int bi, .int mn]) ++ List.replicate (5 - (lg_sl ([.ref hk, .int pp, .int bi, .int mn])).length) Slot.unset).toArray = ls at hl ⊢
  have hl : lv_has ls 5 [(0, .ref hk), (1, .int pp), (2, .int bi), (3, .int mn)] := hl
  refine lv_iload_n hx hb dX7_put_0 rfl (lv_at hl 1 rfl) ?_
  refine lv_iload_n hx hb dX7_put_1 rfl (lv_at hl 3 rfl) ?_
  have hPc := hP.sub (ws' := []) [] rfl
  have hDc := hD.sub (ws' := []) [] (by decide) rfl
  have hFc := va_free (wc := []) hD hS hA [] rfl
  refine vx_callv (vx_runS (As := [.int pp, .int mn]) (rest := []) ⟨hx, hb, hml, hown, hts⟩ (c_X7_checkBits l hl0 D cI cJ cZ pp mn (s.heap).size) (cwS 2 hts (kg_S mk_429 mk_430 mk_13 mk_431) rfl rfl rfl (by decide +kernel) ⟨Nat.le_of_ble_eq_true rfl, Nat.le_of_ble_eq_true rfl⟩) ⟨fun a U g mk q => by obtain ⟨q0, q1, qP, qK, qD, qX⟩ := q; exact ⟨q0, q1, qP, kK.call qK, qD, kX.call qX⟩, fun U hU hW => ⟨rfl, by rw [hU], by rw [hU]; exact hPc, kK.warm hW hK, hDc.weaken (fun _ _ _ _ => trivial), by rw [hU]; exact kX.at hX hS hFc hW⟩⟩ rfl rfl hl.1 rfl (lv_room (Nat.le_of_ble_eq_true rfl)) dX7_put_2 ⟨Nat.le_of_ble_eq_true rfl, Nat.le_of_ble_eq_true rfl⟩) hS (fun q _ h => hFc q h) hFc (fun q _ h => hFc q h) (fun E ce q9 u t9 H1 locs1 ht9 hvm9 hpx9 hB9 hz9 hk9 hS9 hc1 hc2 hc3 => ?_) (fun u t9 H1 locs ht9 hvm9 hw9 hB9 hz9 hk9 hS => ?_)
  · obtain ⟨hE9, -, -⟩ := hB9
    have hP9 := hP.kept (fun k x hx => hk9 x.1 ((hP k x hx).lt) (fun h9 => by rcases h9 with ⟨k9, e9, h9⟩ | h9 <;> first | exact absurd ((hP k x hx).lt) (Nat.not_lt.mpr h9) | cases h9 | simp at h9))
    exact vx_out (fun x h => (hno x h).elim) hlocks hc1 hc2 hc3 (fun t8 ht8 hvm8 => ⟨(), trivial, ⟨Or.inl hE9, by rw [ht8]; exact hP9, hD⟩, hS9.F ht8⟩) hS9.2.2 (Nat.le_of_ble_eq_true rfl) (Nat.le_of_ble_eq_true rfl)
  obtain ⟨hP1, hD1⟩ := hB9
  rw [ht9] at hP1
  have hP1 : va_P D vwCl [] H1 := hP1
  obtain ⟨hP, hD⟩ := va_join (wr := [(hk, .inr (7, [.ref ho, .ref hwr, .ref hrd, .ref hp, .int bg])), (hwr, .inr (1, [.ref ho, .int bo, .int wg, .int sl])), (ho, .inr (3, [.ref hh, .int sz])), (hh, .inl (cI, 600, .inl f))]) (w1 := []) hP hD [] [0, 1, 2, 3] rfl rfl (by decide) (by decide) hk9 hFc hP1 hD1
  refine W.widen (k := 1) (n := 6) (by omega) (by omega) ?_
  have hP := hP.sub (ws' := [(hk, .inr (7, [.ref ho, .ref hwr, .ref hrd, .ref hp, .int bg])), (hwr, .inr (1, [.ref ho, .int bo, .int wg, .int sl])), (ho, .inr (3, [.ref hh, .int sz])), (hh, .inl (cI, 600, .inl f))]) [0, 1, 2, 3] rfl
  have hD := hD.sub (ws' := [(hk, .inr (7, [.ref ho, .ref hwr, .ref hrd, .ref hp, .int bg])), (hwr, .inr (1, [.ref ho, .int bo, .int wg, .int sl])), (ho, .inr (3, [.ref hh, .int sz])), (hh, .inl (cI, 600, .inl f))]) [0, 1, 2, 3] (by decide) rfl
  generalize H1 = H at hP hS ⊢
  have q2_0 : ((1 ≤ pp.toInt ∧ pp.toInt ≤ 255) ∧ (0 ≤ mn.toInt ∧ mn.toInt ≤ 32)) := hw9
  have HS := q2_0
  refine lv_aload_n hx hb dX7_put_5 rfl (lv_at hl 0 rfl) ?_
  refine va_get (D := D) (ci := 7) (v := .int bg) (C := RX7) (T := TX7) (N := 5) hx hb hts in_X7 hown hK.1 hP 0 rfl rfl 4 (by decide) (hts _ mk_334) (fun _ h9 => h9) rfl dX7_put_6 ?_
  refine lv_iconst (v := 1) hx hb dX7_put_9 (by decide) ?_
  refine lv_icmp_eq (tgt := 23) hx hb dX7_put_10 (by decide) (fun c10 => ?_) (fun c10 => ?_)
  · have c10x : kB bg 1 1 := kB_eq c10 kc_1
    refine lv_aload_n hx hb dX7_put_23 rfl (lv_at hl 0 rfl) ?_
    refine va_get (D := D) (ci := 7) (v := .ref ho) (C := RX7) (T := TX7) (N := 5) hx hb hts in_X7 hown hK.1 hP 0 rfl rfl 0 (by decide) (hts _ mk_328) (fun _ h9 => h9) rfl dX7_put_24 ?_
    have hPc := hP.sub (ws' := [(ho, .inr (3, [.ref hh, .int sz])), (hh, .inl (cI, 600, .inl f))]) [2, 3] rfl
    have hDc := hD.sub (ws' := [(ho, .inr (3, [.ref hh, .int sz])), (hh, .inl (cI, 600, .inl f))]) [2, 3] (by decide) rfl
    have hFc := va_free (wc := [(ho, .inr (3, [.ref hh, .int sz])), (hh, .inl (cI, 600, .inl f))]) hD hS hA [2, 3] rfl
    refine va_calli (va_runV (As := []) (rest := []) ⟨hx, hb, hml, hown, hts⟩ (c_X3_size l D cI cJ cZ ho hh sz f (H).size) (cwV 0 hts (kg_V mk_329 mk_30 mk_31 mk_6 mk_32) rfl rfl rfl (by decide +kernel) ⟨Nat.le_of_ble_eq_true rfl, Nat.le_of_ble_eq_true rfl⟩) ⟨fun a U g mk q => by obtain ⟨q0, q1, qP, qK, qD⟩ := q; exact ⟨q0, q1, qP, kK.call qK, qD⟩, va_recv hK.1 hPc (ci := 3) (q0 := 0) rfl rfl, fun U hU hW => ⟨rfl, by rw [hU], by rw [hU]; exact hPc, kK.warm hW hK, hDc.weaken (fun _ _ _ _ => trivial)⟩⟩ rfl rfl hl.1 rfl (lv_room (Nat.le_of_ble_eq_true rfl)) dX7_put_27 ⟨Nat.le_of_ble_eq_true rfl, Nat.le_of_ble_eq_true rfl⟩) hS (fun q _ h => hFc q h) hFc (fun r27 u t9 H1 locs ht9 hvm9 hw9 hB9 hz9 hk9 hS => ?_)
    obtain ⟨hP1, hD1⟩ := hB9
    rw [ht9] at hP1
    have hP1 : va_P D vwCl [(ho, .inr (3, [.ref hh, .int sz])), (hh, .inl (cI, 600, .inl f))] H1 := hP1
    obtain ⟨hP, hD⟩ := va_join (wr := [(hk, .inr (7, [.ref ho, .ref hwr, .ref hrd, .ref hp, .int bg])), (hwr, .inr (1, [.ref ho, .int bo, .int wg, .int sl]))]) (w1 := [(ho, .inr (3, [.ref hh, .int sz])), (hh, .inl (cI, 600, .inl f))]) hP hD [2, 3] [0, 1] rfl rfl (by decide) (by decide) hk9 hFc hP1 hD1
    refine W.widen (k := 1) (n := 6) (by omega) (by omega) ?_
    have hP := hP.sub (ws' := [(hk, .inr (7, [.ref ho, .ref hwr, .ref hrd, .ref hp, .int bg])), (hwr, .inr (1, [.ref ho, .int bo, .int wg, .int sl])), (ho, .inr (3, [.ref hh, .int sz])), (hh, .inl (cI, 600, .inl f))]) [0, 1, 2, 3] rfl
    have hD := hD.sub (ws' := [(hk, .inr (7, [.ref ho, .ref hwr, .ref hrd, .ref hp, .int bg])), (hwr, .inr (1, [.ref ho, .int bo, .int wg, .int sl])), (ho, .inr (3, [.ref hh, .int sz])), (hh, .inl (cI, 600, .inl f))]) [0, 1, 2, 3] (by decide) rfl
    generalize H1 = H at hP hS ⊢
    have q27_0 : r27 = sz := hw9
    have B27 : kB r27 0 600 := (by rw [q27_0]; exact bsz)
    refine lv_sipush (v := 560) hx hb dX7_put_30 (by decide) ?_
    refine lv_icmp_le (tgt := 46) hx hb dX7_put_33 (by decide) (fun c33 => ?_) (fun c33 => ?_)
    · have c33x : kB r27 0 560 := kB_le_l B27 kc_560 c33 (by decide)
      have HB2 : sz.toInt ≤ 560 := by have := c33x.2; rw [q27_0] at this; exact this
      obtain ⟨bwg0, bsl0, nf0⟩ := hwt c10
      have bp0 : kB pp 0 255 := ⟨by have := HS.1.1; omega, HS.1.2⟩
      have bmn0 : kB mn 0 32 := HS.2
      refine lv_iload_n hx hb dX7_put_46 rfl (lv_at hl 3 rfl) ?_
      refine lv_iconst (v := 1) hx hb dX7_put_47 (by decide) ?_
      refine lv_isub hx hb dX7_put_48 ?_
      refine lv_topi (fun v48 e48 => ?_)
      have b48 : kB v48 (-1) 31 := kB_eq e48 (kB_sub bmn0 kc_1 (by decide))
      have X48 : v48.toInt = mn.toInt - 1 := by rw [e48]; exact kdec1 (kB_w bmn0 (by decide) (by decide))
      refine lv_istore (lv' := [(4, .int v48), (0, .ref hk), (1, .int pp), (2, .int bi), (3, .int mn)]) hx hb dX7_put_49 hl (by decide) rfl (fun ls hl => ?_)
      exact lp_X7_put_51 D cI cJ cZ hk ho hwr hrd hp hh bg bo wg sl sz f pp bi mn Bz bsz hwt hB hx hb hr hml hown hts hlocks hK hA hX ((v48.toInt + 1).toNat + 1) v48 bo wg sl sz f Bz (Nat.lt_succ_self _) c10 HS HB2 bp0 b48 bwg0 bsl0 bsz nf0 (by rw [X48]; have := bsl0.1; have := HS.2.2; omega) (by rw [X48, show mn.toInt - 1 + 1 = mn.toInt by omega]) (hB c10).1 (hB c10).2 (by rw [X48, show mn.toInt - 1 + 1 = mn.toInt by omega]) _ _ ls hP hD hS (lv_sub hl [1, 2, 3, 0] rfl)
    · have c33n : 560 < r27 := kN_le c33
      have c33ny : kB r27 561 600 := kB_lt_r kc_560 B27 c33n (by decide)
      have TH : ((1 ≤ pp.toInt ∧ pp.toInt ≤ 255) ∧ (0 ≤ mn.toInt ∧ mn.toInt ≤ 32)) ∧ ¬ (bg = 1 ∧ sz.toInt ≤ 560) := ⟨HS, fun h9 => by have := c33ny.1; rw [q27_0] at this; omega⟩
      obtain ⟨sa36, hR36⟩ := hX.2.2.2 (75, "there are more than 560 bytes") (by decide)
      exact vx_throwS (A := A) (mc := 2) (ms := 12) hx hb hl0 hown (by decide +kernel) (by decide +kernel) (hts _ mk_426) (hts _ mk_427) hR36 (kx_IllegalStateException hts hX) kxg_IllegalStateException hX.1 hX.2.1 hS (by rw [hml]; exact hl.1) dX7_put_36 dX7_put_39 dX7_put_40 dX7_put_42 dX7_put_45 (fun x h => (hno x h).elim) (Nat.lt_of_lt_of_le (by decide) (Nat.le_of_ble_eq_true rfl : 6 ≤ _)) (Nat.le_of_ble_eq_true rfl) (Nat.le_of_ble_eq_true rfl) (Nat.le_of_ble_eq_true rfl) hlocks (fun t9 hvm9 hz9 hk9 => ⟨(), trivial, ⟨Or.inr ⟨rfl, TH⟩, hP.kept (fun k x hx => hk9 x.1 ((hP k x hx).lt)), hD⟩, kFt hS hz9 hk9⟩) hS.2.2 (Nat.le_of_ble_eq_true rfl) (Nat.le_of_ble_eq_true rfl)
  · have TH : ((1 ≤ pp.toInt ∧ pp.toInt ≤ 255) ∧ (0 ≤ mn.toInt ∧ mn.toInt ≤ 32)) ∧ ¬ (bg = 1 ∧ sz.toInt ≤ 560) := ⟨HS, fun h9 => c10 h9.1⟩
    obtain ⟨sa13, hR13⟩ := hX.2.2.2 (73, "writing is not begun") (by decide)
    exact vx_throwS (A := A) (mc := 2) (ms := 12) hx hb hl0 hown (by decide +kernel) (by decide +kernel) (hts _ mk_426) (hts _ mk_427) hR13 (kx_IllegalStateException hts hX) kxg_IllegalStateException hX.1 hX.2.1 hS (by rw [hml]; exact hl.1) dX7_put_13 dX7_put_16 dX7_put_17 dX7_put_19 dX7_put_22 (fun x h => (hno x h).elim) (Nat.lt_of_lt_of_le (by decide) (Nat.le_of_ble_eq_true rfl : 6 ≤ _)) (Nat.le_of_ble_eq_true rfl) (Nat.le_of_ble_eq_true rfl) (Nat.le_of_ble_eq_true rfl) hlocks (fun t9 hvm9 hz9 hk9 => ⟨(), trivial, ⟨Or.inr ⟨rfl, TH⟩, hP.kept (fun k x hx => hk9 x.1 ((hP k x hx).lt)), hD⟩, kFt hS hz9 hk9⟩) hS.2.2 (Nat.le_of_ble_eq_true rfl) (Nat.le_of_ble_eq_true rfl)
abbrev kw_X7_end : List Cond := Cond.code yX7_end cX7_end 1 (some .int) :: kW
set_option maxHeartbeats 4000000 in
set_option maxRecDepth 100000 in
theorem c_X7_end (l : Launch) (hl0 : l.stackTraces = false) (D : va_G) (cI cJ cZ : ClassId) (hk ho hwr hrd hp hh : Nat) (bg : Int32) (bo : Int32) (wg : Int32) (sl : Int32) (sz : Int32) (f : Nat → Int32) (Bz : Nat) (bsz : kB sz 0 600) (hwt : bg = 1 → kB sl 1 24 ∧ kB sz 0 596) (hB : bg = 1 → bo = nI Bz ∧ Bz < 4294967296) (hpz : Nat) : vx_Met l yX7_end kw_X7_end ({ frames := 6, cells := 1, slots := 6, locals := 100 }) (va_Pc [.ref hk] (fun U => U.heap.size = hpz ∧ va_P D vwCl [(hk, .inr (7, [.ref ho, .ref hwr, .ref hrd, .ref hp, .int bg])), (hwr, .inr (1, [.ref ho, .int bo, .int wg, .int sl])), (ho, .inr (3, [.ref hh, .int sz])), (hh, .inl (cI, 600, .inl f))] U.heap ∧ kK D cI cJ cZ U ∧ va_D (fun _ => True) [(hk, .inr (7, [.ref ho, .ref hwr, .ref hrd, .ref hp, .int bg])), (hwr, .inr (1, [.ref ho, .int bo, .int wg, .int sl])), (ho, .inr (3, [.ref hh, .int sz])), (hh, .inl (cI, 600, .inl f))] ∧ kX (va_A [(hk, .inr (7, [.ref ho, .ref hwr, .ref hrd, .ref hp, .int bg])), (hwr, .inr (1, [.ref ho, .int bo, .int wg, .int sl])), (ho, .inr (3, [.ref hh, .int sz])), (hh, .inl (cI, 600, .inl f))] hpz) U U.heap)) (va_Qi (fun (r : Int32) (u : Int32 × Int32 × (Nat → Int32)) => (bg = 1) ∧ (r = u.2.1) ∧ (u.2.1.toInt = sz.toInt + 4) ∧ (kB u.2.1 0 600) ∧ (u.2.2 = (wAp 4 (sz.toInt, wEb sl.toInt Bz, wEf sl.toInt sz.toInt.toNat Bz f)).2.2)) (fun (u : Int32 × Int32 × (Nat → Int32)) (t : State) => va_P D vwCl [(hk, .inr (7, [.ref ho, .ref hwr, .ref hrd, .ref hp, .int 0])), (hwr, .inr (1, [.ref ho, .int u.1, .int wg, .int sl])), (ho, .inr (3, [.ref hh, .int u.2.1])), (hh, .inl (cI, 600, .inl u.2.2))] t.heap ∧ va_D (va_A [(hk, .inr (7, [.ref ho, .ref hwr, .ref hrd, .ref hp, .int bg])), (hwr, .inr (1, [.ref ho, .int bo, .int wg, .int sl])), (ho, .inr (3, [.ref hh, .int sz])), (hh, .inl (cI, 600, .inl f))] hpz) [(hk, .inr (7, [.ref ho, .ref hwr, .ref hrd, .ref hp, .int 0])), (hwr, .inr (1, [.ref ho, .int u.1, .int wg, .int sl])), (ho, .inr (3, [.ref hh, .int u.2.1])), (hh, .inl (cI, 600, .inl u.2.2))]) (va_A [(hk, .inr (7, [.ref ho, .ref hwr, .ref hrd, .ref hp, .int bg])), (hwr, .inr (1, [.ref ho, .int bo, .int wg, .int sl])), (ho, .inr (3, [.ref hh, .int sz])), (hh, .inl (cI, 600, .inl f))] hpz)) (vx_X (fun _ : Unit => True) (fun (E : String) (_ : Unit) (t : State) => ((E = "java/lang/IllegalStateException" ∧ ¬ bg = 1)) ∧ va_P D vwCl [(hk, .inr (7, [.ref ho, .ref hwr, .ref hrd, .ref hp, .int bg])), (hwr, .inr (1, [.ref ho, .int bo, .int wg, .int sl])), (ho, .inr (3, [.ref hh, .int sz])), (hh, .inl (cI, 600, .inl f))] t.heap ∧ va_D (va_A [(hk, .inr (7, [.ref ho, .ref hwr, .ref hrd, .ref hp, .int bg])), (hwr, .inr (1, [.ref ho, .int bo, .int wg, .int sl])), (ho, .inr (3, [.ref hh, .int sz])), (hh, .inl (cI, 600, .inl f))] hpz) [(hk, .inr (7, [.ref ho, .ref hwr, .ref hrd, .ref hp, .int bg])), (hwr, .inr (1, [.ref ho, .int bo, .int wg, .int sl])), (ho, .inr (3, [.ref hh, .int sz])), (hh, .inl (cI, 600, .inl f))]) (va_A [(hk, .inr (7, [.ref ho, .ref hwr, .ref hrd, .ref hp, .int bg])), (hwr, .inr (1, [.ref ho, .int bo, .int wg, .int sl])), (ho, .inr (3, [.ref hh, .int sz])), (hh, .inl (cI, 600, .inl f))] hpz)) 1 6 (va_A [(hk, .inr (7, [.ref ho, .ref hwr, .ref hrd, .ref hp, .int bg])), (hwr, .inr (1, [.ref ho, .int bo, .int wg, .int sl])), (ho, .inr (3, [.ref hh, .int sz])), (hh, .inl (cI, 600, .inl f))] hpz) := by
  refine vx_ofW (cc := cX7_end) (maxL := 1) (ret := (some .int)) (by decide) rfl ?_
  intro p e s m args below meth c s₁ B hml hno hv
  obtain ⟨rfl, hsz, hP, hK, hD0, hX⟩ := hv
  have hx := B.exec
  have hb := B.bytes
  have hr := B.returns
  have hts := fun (w : Cond) (h : w ∈ kW) => atoms_spec (ws := kw_X7_end) B.pre w (List.mem_cons_of_mem _ h)
  have hown : s.vm.findClass RX7 = some m.cls := findClass_of_methodNamed B.named
  have hlocks := B.notSynchronized
  subst hsz
  have hD := hD0.self (sz := s.heap.size)
  generalize hAe : va_A [(hk, .inr (7, [.ref ho, .ref hwr, .ref hrd, .ref hp, .int bg])), (hwr, .inr (1, [.ref ho, .int bo, .int wg, .int sl])), (ho, .inr (3, [.ref hh, .int sz])), (hh, .inl (cI, 600, .inl f))] s.heap.size = A at hD hX ⊢
  have hA : ∀ q : Nat, s.heap.size ≤ q → A q := fun q h => by rw [← hAe]; exact Or.inr h
  have hS : va_S A s.heap s.heap [] := va_S.rf
  have hP : va_P D vwCl [(hk, .inr (7, [.ref ho, .ref hwr, .ref hrd, .ref hp, .int bg])), (hwr, .inr (1, [.ref ho, .int bo, .int wg, .int sl])), (ho, .inr (3, [.ref hh, .int sz])), (hh, .inl (cI, 600, .inl f))] s.heap := hP
  have hl := lv_entry ([.ref hk]) (n := 1) (Nat.le_of_ble_eq_true rfl)
  rw [lg_entry_eq]
  generalize (lg_sl ([.ref hk]) ++ List.replicate (1 - (lg_sl ([.ref hk])).length) Slot.unset).toArray = ls at hl ⊢
  have hl : lv_has ls 1 [(0, .ref hk)] := hl
  refine lv_aload_n hx hb dX7_end_0 rfl (lv_at hl 0 rfl) ?_
  refine va_get (D := D) (ci := 7) (v := .int bg) (C := RX7) (T := TX7) (N := 5) hx hb hts in_X7 hown hK.1 hP 0 rfl rfl 4 (by decide) (hts _ mk_334) (fun _ h9 => h9) rfl dX7_end_1 ?_
  refine lv_iconst (v := 1) hx hb dX7_end_4 (by decide) ?_
  refine lv_icmp_eq (tgt := 18) hx hb dX7_end_5 (by decide) (fun c5 => ?_) (fun c5 => ?_)
  · have c5x : kB bg 1 1 := kB_eq c5 kc_1
    have bsl0 : kB sl 1 24 := (hwt c5).1
    have bsz0 : kB sz 0 596 := (hwt c5).2
    refine lv_aload_n hx hb dX7_end_18 rfl (lv_at hl 0 rfl) ?_
    refine va_get (D := D) (ci := 7) (v := .ref hwr) (C := RX7) (T := TX7) (N := 5) hx hb hts in_X7 hown hK.1 hP 0 rfl rfl 1 (by decide) (hts _ mk_335) (fun _ h9 => h9) rfl dX7_end_19 ?_
    have hPc := hP.sub (ws' := [(hwr, .inr (1, [.ref ho, .int bo, .int wg, .int sl])), (ho, .inr (3, [.ref hh, .int sz])), (hh, .inl (cI, 600, .inl f))]) [1, 2, 3] rfl
    have hDc := hD.sub (ws' := [(hwr, .inr (1, [.ref ho, .int bo, .int wg, .int sl])), (ho, .inr (3, [.ref hh, .int sz])), (hh, .inl (cI, 600, .inl f))]) [1, 2, 3] (by decide) rfl
    have hFc := va_free (wc := [(hwr, .inr (1, [.ref ho, .int bo, .int wg, .int sl])), (ho, .inr (3, [.ref hh, .int sz])), (hh, .inl (cI, 600, .inl f))]) hD hS hA [1, 2, 3] rfl
    refine va_callv (va_runV (As := []) (rest := []) ⟨hx, hb, hml, hown, hts⟩ (c_X1_finish l D cI cJ cZ hwr ho hh bo wg sl sz f Bz bsz0 bsl0 (hB c5).1 (hB c5).2 (s.heap).size) (cwV 0 hts (kg_V mk_436 mk_437 mk_438 mk_326 mk_439) rfl rfl rfl (by decide +kernel) ⟨Nat.le_of_ble_eq_true rfl, Nat.le_of_ble_eq_true rfl⟩) ⟨fun a U g mk q => by obtain ⟨q0, q1, qP, qK, qD⟩ := q; exact ⟨q0, q1, qP, kK.call qK, qD⟩, va_recv hK.1 hPc (ci := 1) (q0 := 0) rfl rfl, fun U hU hW => ⟨rfl, by rw [hU], by rw [hU]; exact hPc, kK.warm hW hK, hDc.weaken (fun _ _ _ _ => trivial)⟩⟩ rfl rfl hl.1 rfl (lv_room (Nat.le_of_ble_eq_true rfl)) dX7_end_22 ⟨Nat.zero_le _, Nat.zero_le _⟩) hS (fun q _ h => hFc q h) hFc (fun u t9 H1 locs ht9 hvm9 hw9 hB9 hz9 hk9 hS => ?_)
    obtain ⟨bo2_22, sz2_22, f2_22⟩ := u
    obtain ⟨hP1, hD1⟩ := hB9
    rw [ht9] at hP1
    have hP1 : va_P D vwCl [(hwr, .inr (1, [.ref ho, .int bo2_22, .int wg, .int sl])), (ho, .inr (3, [.ref hh, .int sz2_22])), (hh, .inl (cI, 600, .inl f2_22))] H1 := hP1
    obtain ⟨hP, hD⟩ := va_join (wr := [(hk, .inr (7, [.ref ho, .ref hwr, .ref hrd, .ref hp, .int bg]))]) (w1 := [(hwr, .inr (1, [.ref ho, .int bo2_22, .int wg, .int sl])), (ho, .inr (3, [.ref hh, .int sz2_22])), (hh, .inl (cI, 600, .inl f2_22))]) hP hD [1, 2, 3] [0] rfl rfl (by decide) (by decide) hk9 hFc hP1 hD1
    have hP := hP.sub (ws' := [(hk, .inr (7, [.ref ho, .ref hwr, .ref hrd, .ref hp, .int bg])), (hwr, .inr (1, [.ref ho, .int bo2_22, .int wg, .int sl])), (ho, .inr (3, [.ref hh, .int sz2_22])), (hh, .inl (cI, 600, .inl f2_22))]) [0, 1, 2, 3] rfl
    have hD := hD.sub (ws' := [(hk, .inr (7, [.ref ho, .ref hwr, .ref hrd, .ref hp, .int bg])), (hwr, .inr (1, [.ref ho, .int bo2_22, .int wg, .int sl])), (ho, .inr (3, [.ref hh, .int sz2_22])), (hh, .inl (cI, 600, .inl f2_22))]) [0, 1, 2, 3] (by decide) rfl
    generalize H1 = H at hP hS ⊢
    obtain ⟨q22_0, q22_1, q22_2⟩ := hw9
    have q22_0 : kB sz2_22 0 600 := q22_0
    have q22_1 : sz2_22.toInt = sz.toInt + 4 := q22_1
    have q22_2 : f2_22 = (wAp 4 (sz.toInt, wEb sl.toInt Bz, wEf sl.toInt sz.toInt.toNat Bz f)).2.2 := q22_2
    refine lv_aload_n hx hb dX7_end_25 rfl (lv_at hl 0 rfl) ?_
    refine lv_iconst (v := 0) hx hb dX7_end_26 (by decide) ?_
    refine va_put (D := D) (ci := 7) (v := .int 0) (ty := .int) (C := RX7) (T := TX7) (N := 5) hx hb hts in_X7 tyX7 tyX7_ok nmX7 hown hK.1 hP hD hS 0 rfl rfl 4 (by decide) (hts _ mk_334) (fun _ h9 => h9) rfl (by decide +kernel) rfl rfl (Nat.le_of_ble_eq_true rfl) dX7_end_27 (fun H locs hP hD hS => ?_)
    have hP : va_P D vwCl [(hk, .inr (7, [.ref ho, .ref hwr, .ref hrd, .ref hp, .int 0])), (hwr, .inr (1, [.ref ho, .int bo2_22, .int wg, .int sl])), (ho, .inr (3, [.ref hh, .int sz2_22])), (hh, .inl (cI, 600, .inl f2_22))] H := hP
    have hD : va_D A [(hk, .inr (7, [.ref ho, .ref hwr, .ref hrd, .ref hp, .int 0])), (hwr, .inr (1, [.ref ho, .int bo2_22, .int wg, .int sl])), (ho, .inr (3, [.ref hh, .int sz2_22])), (hh, .inl (cI, 600, .inl f2_22))] := hD
    refine lv_aload_n hx hb dX7_end_30 rfl (lv_at hl 0 rfl) ?_
    refine va_get (D := D) (ci := 7) (v := .ref ho) (C := RX7) (T := TX7) (N := 5) hx hb hts in_X7 hown hK.1 hP 0 rfl rfl 0 (by decide) (hts _ mk_328) (fun _ h9 => h9) rfl dX7_end_31 ?_
    have hPc := hP.sub (ws' := [(ho, .inr (3, [.ref hh, .int sz2_22])), (hh, .inl (cI, 600, .inl f2_22))]) [2, 3] rfl
    have hDc := hD.sub (ws' := [(ho, .inr (3, [.ref hh, .int sz2_22])), (hh, .inl (cI, 600, .inl f2_22))]) [2, 3] (by decide) rfl
    have hFc := va_free (wc := [(ho, .inr (3, [.ref hh, .int sz2_22])), (hh, .inl (cI, 600, .inl f2_22))]) hD hS hA [2, 3] rfl
    refine va_calli (va_runV (As := []) (rest := []) ⟨hx, hb, hml, hown, hts⟩ (c_X3_size l D cI cJ cZ ho hh sz2_22 f2_22 (H).size) (cwV 0 hts (kg_V mk_329 mk_30 mk_31 mk_6 mk_32) rfl rfl rfl (by decide +kernel) ⟨Nat.le_of_ble_eq_true rfl, Nat.le_of_ble_eq_true rfl⟩) ⟨fun a U g mk q => by obtain ⟨q0, q1, qP, qK, qD⟩ := q; exact ⟨q0, q1, qP, kK.call qK, qD⟩, va_recv hK.1 hPc (ci := 3) (q0 := 0) rfl rfl, fun U hU hW => ⟨rfl, by rw [hU], by rw [hU]; exact hPc, kK.warm hW hK, hDc.weaken (fun _ _ _ _ => trivial)⟩⟩ rfl rfl hl.1 rfl (lv_room (Nat.le_of_ble_eq_true rfl)) dX7_end_34 ⟨Nat.zero_le _, Nat.zero_le _⟩) hS (fun q _ h => hFc q h) hFc (fun r34 u t9 H1 locs ht9 hvm9 hw9 hB9 hz9 hk9 hS => ?_)
    obtain ⟨hP1, hD1⟩ := hB9
    rw [ht9] at hP1
    have hP1 : va_P D vwCl [(ho, .inr (3, [.ref hh, .int sz2_22])), (hh, .inl (cI, 600, .inl f2_22))] H1 := hP1
    obtain ⟨hP, hD⟩ := va_join (wr := [(hk, .inr (7, [.ref ho, .ref hwr, .ref hrd, .ref hp, .int 0])), (hwr, .inr (1, [.ref ho, .int bo2_22, .int wg, .int sl]))]) (w1 := [(ho, .inr (3, [.ref hh, .int sz2_22])), (hh, .inl (cI, 600, .inl f2_22))]) hP hD [2, 3] [0, 1] rfl rfl (by decide) (by decide) hk9 hFc hP1 hD1
    have hP := hP.sub (ws' := [(hk, .inr (7, [.ref ho, .ref hwr, .ref hrd, .ref hp, .int 0])), (hwr, .inr (1, [.ref ho, .int bo2_22, .int wg, .int sl])), (ho, .inr (3, [.ref hh, .int sz2_22])), (hh, .inl (cI, 600, .inl f2_22))]) [0, 1, 2, 3] rfl
    have hD := hD.sub (ws' := [(hk, .inr (7, [.ref ho, .ref hwr, .ref hrd, .ref hp, .int 0])), (hwr, .inr (1, [.ref ho, .int bo2_22, .int wg, .int sl])), (ho, .inr (3, [.ref hh, .int sz2_22])), (hh, .inl (cI, 600, .inl f2_22))]) [0, 1, 2, 3] (by decide) rfl
    generalize H1 = H at hP hS ⊢
    have q34_0 : r34 = sz2_22 := hw9
    refine vx_ret ?_
    refine W.widen (k := 1) (n := 6) (by omega) (by omega) ?_
    exact W.iret (v := r34) hx hb hr (fun t9 ht9 hW9 => ⟨⟨r34, (bo2_22, sz2_22, f2_22), rfl, ⟨c5, q34_0, q22_1, q22_0, q22_2⟩, by rw [ht9]; exact hP, hD⟩, hS.F ht9⟩) hS.2.2 dX7_end_37
  · obtain ⟨sa8, hR8⟩ := hX.2.2.2 (73, "writing is not begun") (by decide)
    exact vx_throwS (A := A) (mc := 1) (ms := 6) hx hb hl0 hown (by decide +kernel) (by decide +kernel) (hts _ mk_426) (hts _ mk_427) hR8 (kx_IllegalStateException hts hX) kxg_IllegalStateException hX.1 hX.2.1 hS (by rw [hml]; exact hl.1) dX7_end_8 dX7_end_11 dX7_end_12 dX7_end_14 dX7_end_17 (fun x h => (hno x h).elim) (Nat.lt_of_lt_of_le (by decide) (Nat.le_of_ble_eq_true rfl : 6 ≤ _)) (Nat.le_of_ble_eq_true rfl) (Nat.le_of_ble_eq_true rfl) (Nat.le_of_ble_eq_true rfl) hlocks (fun t9 hvm9 hz9 hk9 => ⟨(), trivial, ⟨⟨rfl, c5⟩, hP.kept (fun k x hx => hk9 x.1 ((hP k x hx).lt)), hD⟩, kFt hS hz9 hk9⟩) hS.2.2 (Nat.le_of_ble_eq_true rfl) (Nat.le_of_ble_eq_true rfl)
abbrev kw_X7_get : List Cond := Cond.code yX7_get cX7_get 3 (some .int) :: kW
set_option maxHeartbeats 4000000 in
set_option maxRecDepth 100000 in
theorem c_X7_get (l : Launch) (hl0 : l.stackTraces = false) (D : va_G) (cI cJ cZ : ClassId) (hk ho hwr hrd hp hh : Nat) (bg : Int32) (va : Int32) (rg : Int32) (sh : Int32) (nx : Int32) (sz : Int32) (f : Nat → Int32) (pp : Int32) (mn : Int32) (brg : kB rg 128 255) (bsh : kB sh 0 7) (bsz : kB sz 0 600) (hpz : Nat) : vx_Met l yX7_get kw_X7_get ({ frames := 7, cells := 2, slots := 12, locals := 121 }) (va_Pc [.ref hk, .int pp, .int mn] (fun U => U.heap.size = hpz ∧ va_P D vwCl [(hk, .inr (7, [.ref ho, .ref hwr, .ref hrd, .ref hp, .int bg])), (hrd, .inr (0, [.ref ho, .int va, .int rg, .int sh, .int nx])), (ho, .inr (3, [.ref hh, .int sz])), (hh, .inl (cI, 600, .inl f))] U.heap ∧ kK D cI cJ cZ U ∧ va_D (fun _ => True) [(hk, .inr (7, [.ref ho, .ref hwr, .ref hrd, .ref hp, .int bg])), (hrd, .inr (0, [.ref ho, .int va, .int rg, .int sh, .int nx])), (ho, .inr (3, [.ref hh, .int sz])), (hh, .inl (cI, 600, .inl f))] ∧ kX (va_A [(hk, .inr (7, [.ref ho, .ref hwr, .ref hrd, .ref hp, .int bg])), (hrd, .inr (0, [.ref ho, .int va, .int rg, .int sh, .int nx])), (ho, .inr (3, [.ref hh, .int sz])), (hh, .inl (cI, 600, .inl f))] hpz) U U.heap)) (va_Qi (fun (r : Int32) (u : Int32 × Int32 × Int32 × Int32) => (kB u.2.1 128 255) ∧ (kB u.2.2.1 0 7) ∧ (bg = 2)) (fun (u : Int32 × Int32 × Int32 × Int32) (t : State) => va_P D vwCl [(hk, .inr (7, [.ref ho, .ref hwr, .ref hrd, .ref hp, .int bg])), (hrd, .inr (0, [.ref ho, .int u.1, .int u.2.1, .int u.2.2.1, .int u.2.2.2])), (ho, .inr (3, [.ref hh, .int sz])), (hh, .inl (cI, 600, .inl f))] t.heap ∧ va_D (va_A [(hk, .inr (7, [.ref ho, .ref hwr, .ref hrd, .ref hp, .int bg])), (hrd, .inr (0, [.ref ho, .int va, .int rg, .int sh, .int nx])), (ho, .inr (3, [.ref hh, .int sz])), (hh, .inl (cI, 600, .inl f))] hpz) [(hk, .inr (7, [.ref ho, .ref hwr, .ref hrd, .ref hp, .int bg])), (hrd, .inr (0, [.ref ho, .int u.1, .int u.2.1, .int u.2.2.1, .int u.2.2.2])), (ho, .inr (3, [.ref hh, .int sz])), (hh, .inl (cI, 600, .inl f))]) (va_A [(hk, .inr (7, [.ref ho, .ref hwr, .ref hrd, .ref hp, .int bg])), (hrd, .inr (0, [.ref ho, .int va, .int rg, .int sh, .int nx])), (ho, .inr (3, [.ref hh, .int sz])), (hh, .inl (cI, 600, .inl f))] hpz)) (vx_X (fun _ : Unit => True) (fun (E : String) (_ : Unit) (t : State) => ((E = "java/lang/IllegalArgumentException" ∧ ¬ ((1 ≤ pp.toInt ∧ pp.toInt ≤ 255) ∧ (0 ≤ mn.toInt ∧ mn.toInt ≤ 32))) ∨ (E = "java/lang/IllegalStateException" ∧ (((1 ≤ pp.toInt ∧ pp.toInt ≤ 255) ∧ (0 ≤ mn.toInt ∧ mn.toInt ≤ 32)) ∧ ¬ bg = 2))) ∧ va_P D vwCl [(hk, .inr (7, [.ref ho, .ref hwr, .ref hrd, .ref hp, .int bg])), (hrd, .inr (0, [.ref ho, .int va, .int rg, .int sh, .int nx])), (ho, .inr (3, [.ref hh, .int sz])), (hh, .inl (cI, 600, .inl f))] t.heap ∧ va_D (va_A [(hk, .inr (7, [.ref ho, .ref hwr, .ref hrd, .ref hp, .int bg])), (hrd, .inr (0, [.ref ho, .int va, .int rg, .int sh, .int nx])), (ho, .inr (3, [.ref hh, .int sz])), (hh, .inl (cI, 600, .inl f))] hpz) [(hk, .inr (7, [.ref ho, .ref hwr, .ref hrd, .ref hp, .int bg])), (hrd, .inr (0, [.ref ho, .int va, .int rg, .int sh, .int nx])), (ho, .inr (3, [.ref hh, .int sz])), (hh, .inl (cI, 600, .inl f))]) (va_A [(hk, .inr (7, [.ref ho, .ref hwr, .ref hrd, .ref hp, .int bg])), (hrd, .inr (0, [.ref ho, .int va, .int rg, .int sh, .int nx])), (ho, .inr (3, [.ref hh, .int sz])), (hh, .inl (cI, 600, .inl f))] hpz)) 2 12 (va_A [(hk, .inr (7, [.ref ho, .ref hwr, .ref hrd, .ref hp, .int bg])), (hrd, .inr (0, [.ref ho, .int va, .int rg, .int sh, .int nx])), (ho, .inr (3, [.ref hh, .int sz])), (hh, .inl (cI, 600, .inl f))] hpz) := by
  refine vx_ofW (cc := cX7_get) (maxL := 3) (ret := (some .int)) (by decide) rfl ?_
  intro p e s m args below meth c s₁ B hml hno hv
  obtain ⟨rfl, hsz, hP, hK, hD0, hX⟩ := hv
  have hx := B.exec
  have hb := B.bytes
  have hr := B.returns
  have hts := fun (w : Cond) (h : w ∈ kW) => atoms_spec (ws := kw_X7_get) B.pre w (List.mem_cons_of_mem _ h)
  have hown : s.vm.findClass RX7 = some m.cls := findClass_of_methodNamed B.named
  have hlocks := B.notSynchronized
  subst hsz
  have hD := hD0.self (sz := s.heap.size)
  generalize hAe : va_A [(hk, .inr (7, [.ref ho, .ref hwr, .ref hrd, .ref hp, .int bg])), (hrd, .inr (0, [.ref ho, .int va, .int rg, .int sh, .int nx])), (ho, .inr (3, [.ref hh, .int sz])), (hh, .inl (cI, 600, .inl f))] s.heap.size = A at hD hX ⊢
  have hA : ∀ q : Nat, s.heap.size ≤ q → A q := fun q h => by rw [← hAe]; exact Or.inr h
  have hS : va_S A s.heap s.heap [] := va_S.rf
  have hP : va_P D vwCl [(hk, .inr (7, [.ref ho, .ref hwr, .ref hrd, .ref hp, .int bg])), (hrd, .inr (0, [.ref ho, .int va, .int rg, .int sh, .int nx])), (ho, .inr (3, [.ref hh, .int sz])), (hh, .inl (cI, 600, .inl f))] s.heap := hP
  have hl := lv_entry ([.ref hk, .int pp, .int mn]) (n := 3) (Nat.le_of_ble_eq_true rfl)
  rw [lg_entry_eq]
  generalize (lg_sl ([.ref hk, .int pp, .int mn]) ++ List.replicate (3 - (lg_sl ([.ref hk, .int pp, .int mn])).length) Slot.unset).toArray = ls at hl ⊢
  have hl : lv_has ls 3 [(0, .ref hk), (1, .int pp), (2, .int mn)] := hl
  refine lv_iload_n hx hb dX7_get_0 rfl (lv_at hl 1 rfl) ?_
  refine lv_iload_n hx hb dX7_get_1 rfl (lv_at hl 2 rfl) ?_
  have hPc := hP.sub (ws' := []) [] rfl
  have hDc := hD.sub (ws' := []) [] (by decide) rfl
  have hFc := va_free (wc := []) hD hS hA [] rfl
  refine vx_callv (vx_runS (As := [.int pp, .int mn]) (rest := []) ⟨hx, hb, hml, hown, hts⟩ (c_X7_checkBits l hl0 D cI cJ cZ pp mn (s.heap).size) (cwS 2 hts (kg_S mk_429 mk_430 mk_13 mk_431) rfl rfl rfl (by decide +kernel) ⟨Nat.le_of_ble_eq_true rfl, Nat.le_of_ble_eq_true rfl⟩) ⟨fun a U g mk q => by obtain ⟨q0, q1, qP, qK, qD, qX⟩ := q; exact ⟨q0, q1, qP, kK.call qK, qD, kX.call qX⟩, fun U hU hW => ⟨rfl, by rw [hU], by rw [hU]; exact hPc, kK.warm hW hK, hDc.weaken (fun _ _ _ _ => trivial), by rw [hU]; exact kX.at hX hS hFc hW⟩⟩ rfl rfl hl.1 rfl (lv_room (Nat.le_of_ble_eq_true rfl)) dX7_get_2 ⟨Nat.le_of_ble_eq_true rfl, Nat.le_of_ble_eq_true rfl⟩) hS (fun q _ h => hFc q h) hFc (fun q _ h => hFc q h) (fun E ce q9 u t9 H1 locs1 ht9 hvm9 hpx9 hB9 hz9 hk9 hS9 hc1 hc2 hc3 => ?_) (fun u t9 H1 locs ht9 hvm9 hw9 hB9 hz9 hk9 hS => ?_)
  · obtain ⟨hE9, -, -⟩ := hB9
    have hP9 := hP.kept (fun k x hx => hk9 x.1 ((hP k x hx).lt) (fun h9 => by rcases h9 with ⟨k9, e9, h9⟩ | h9 <;> first | exact absurd ((hP k x hx).lt) (Nat.not_lt.mpr h9) | cases h9 | simp at h9))
    exact vx_out (fun x h => (hno x h).elim) hlocks hc1 hc2 hc3 (fun t8 ht8 hvm8 => ⟨(), trivial, ⟨Or.inl hE9, by rw [ht8]; exact hP9, hD⟩, hS9.F ht8⟩) hS9.2.2 (Nat.le_of_ble_eq_true rfl) (Nat.le_of_ble_eq_true rfl)
  obtain ⟨hP1, hD1⟩ := hB9
  rw [ht9] at hP1
  have hP1 : va_P D vwCl [] H1 := hP1
  obtain ⟨hP, hD⟩ := va_join (wr := [(hk, .inr (7, [.ref ho, .ref hwr, .ref hrd, .ref hp, .int bg])), (hrd, .inr (0, [.ref ho, .int va, .int rg, .int sh, .int nx])), (ho, .inr (3, [.ref hh, .int sz])), (hh, .inl (cI, 600, .inl f))]) (w1 := []) hP hD [] [0, 1, 2, 3] rfl rfl (by decide) (by decide) hk9 hFc hP1 hD1
  refine W.widen (k := 1) (n := 6) (by omega) (by omega) ?_
  have hP := hP.sub (ws' := [(hk, .inr (7, [.ref ho, .ref hwr, .ref hrd, .ref hp, .int bg])), (hrd, .inr (0, [.ref ho, .int va, .int rg, .int sh, .int nx])), (ho, .inr (3, [.ref hh, .int sz])), (hh, .inl (cI, 600, .inl f))]) [0, 1, 2, 3] rfl
  have hD := hD.sub (ws' := [(hk, .inr (7, [.ref ho, .ref hwr, .ref hrd, .ref hp, .int bg])), (hrd, .inr (0, [.ref ho, .int va, .int rg, .int sh, .int nx])), (ho, .inr (3, [.ref hh, .int sz])), (hh, .inl (cI, 600, .inl f))]) [0, 1, 2, 3] (by decide) rfl
  generalize H1 = H at hP hS ⊢
  have q2_0 : ((1 ≤ pp.toInt ∧ pp.toInt ≤ 255) ∧ (0 ≤ mn.toInt ∧ mn.toInt ≤ 32)) := hw9
  have HS := q2_0
  refine lv_aload_n hx hb dX7_get_5 rfl (lv_at hl 0 rfl) ?_
  refine va_get (D := D) (ci := 7) (v := .int bg) (C := RX7) (T := TX7) (N := 5) hx hb hts in_X7 hown hK.1 hP 0 rfl rfl 4 (by decide) (hts _ mk_334) (fun _ h9 => h9) rfl dX7_get_6 ?_
  refine lv_iconst (v := 2) hx hb dX7_get_9 (by decide) ?_
  refine lv_icmp_eq (tgt := 23) hx hb dX7_get_10 (by decide) (fun c10 => ?_) (fun c10 => ?_)
  · have c10x : kB bg 2 2 := kB_eq c10 kc_2
    have bp0 : kB pp 0 255 := ⟨by have := HS.1.1; omega, HS.1.2⟩
    have bmn0 : kB mn 0 32 := HS.2
    refine lv_aload_n hx hb dX7_get_23 rfl (lv_at hl 0 rfl) ?_
    refine va_get (D := D) (ci := 7) (v := .ref hrd) (C := RX7) (T := TX7) (N := 5) hx hb hts in_X7 hown hK.1 hP 0 rfl rfl 2 (by decide) (hts _ mk_340) (fun _ h9 => h9) rfl dX7_get_24 ?_
    refine lv_iload_n hx hb dX7_get_27 rfl (lv_at hl 1 rfl) ?_
    refine lv_iload_n hx hb dX7_get_28 rfl (lv_at hl 2 rfl) ?_
    have hPc := hP.sub (ws' := [(hrd, .inr (0, [.ref ho, .int va, .int rg, .int sh, .int nx])), (ho, .inr (3, [.ref hh, .int sz])), (hh, .inl (cI, 600, .inl f))]) [1, 2, 3] rfl
    have hDc := hD.sub (ws' := [(hrd, .inr (0, [.ref ho, .int va, .int rg, .int sh, .int nx])), (ho, .inr (3, [.ref hh, .int sz])), (hh, .inl (cI, 600, .inl f))]) [1, 2, 3] (by decide) rfl
    have hFc := va_free (wc := [(hrd, .inr (0, [.ref ho, .int va, .int rg, .int sh, .int nx])), (ho, .inr (3, [.ref hh, .int sz])), (hh, .inl (cI, 600, .inl f))]) hD hS hA [1, 2, 3] rfl
    refine va_calli (va_runV (As := [.int pp, .int mn]) (rest := []) ⟨hx, hb, hml, hown, hts⟩ (c_X0_readBits l D cI cJ cZ hrd ho hh va rg sh nx sz f pp mn brg bsh bp0 bsz bmn0 (H).size) (cwV 2 hts (kg_V mk_440 mk_26 mk_27 mk_23 mk_28) rfl rfl rfl (by decide +kernel) ⟨Nat.le_of_ble_eq_true rfl, Nat.le_of_ble_eq_true rfl⟩) ⟨fun a U g mk q => by obtain ⟨q0, q1, qP, qK, qD⟩ := q; exact ⟨q0, q1, qP, kK.call qK, qD⟩, va_recv hK.1 hPc (ci := 0) (q0 := 0) rfl rfl, fun U hU hW => ⟨rfl, by rw [hU], by rw [hU]; exact hPc, kK.warm hW hK, hDc.weaken (fun _ _ _ _ => trivial)⟩⟩ rfl rfl hl.1 rfl (lv_room (Nat.le_of_ble_eq_true rfl)) dX7_get_29 ⟨Nat.le_of_ble_eq_true rfl, Nat.le_of_ble_eq_true rfl⟩) hS (fun q _ h => hFc q h) hFc (fun r29 u t9 H1 locs ht9 hvm9 hw9 hB9 hz9 hk9 hS => ?_)
    obtain ⟨va2_29, rg2_29, sh2_29, nx2_29⟩ := u
    obtain ⟨hP1, hD1⟩ := hB9
    rw [ht9] at hP1
    have hP1 : va_P D vwCl [(hrd, .inr (0, [.ref ho, .int va2_29, .int rg2_29, .int sh2_29, .int nx2_29])), (ho, .inr (3, [.ref hh, .int sz])), (hh, .inl (cI, 600, .inl f))] H1 := hP1
    obtain ⟨hP, hD⟩ := va_join (wr := [(hk, .inr (7, [.ref ho, .ref hwr, .ref hrd, .ref hp, .int bg]))]) (w1 := [(hrd, .inr (0, [.ref ho, .int va2_29, .int rg2_29, .int sh2_29, .int nx2_29])), (ho, .inr (3, [.ref hh, .int sz])), (hh, .inl (cI, 600, .inl f))]) hP hD [1, 2, 3] [0] rfl rfl (by decide) (by decide) hk9 hFc hP1 hD1
    refine W.widen (k := 1) (n := 6) (by omega) (by omega) ?_
    have hP := hP.sub (ws' := [(hk, .inr (7, [.ref ho, .ref hwr, .ref hrd, .ref hp, .int bg])), (hrd, .inr (0, [.ref ho, .int va2_29, .int rg2_29, .int sh2_29, .int nx2_29])), (ho, .inr (3, [.ref hh, .int sz])), (hh, .inl (cI, 600, .inl f))]) [0, 1, 2, 3] rfl
    have hD := hD.sub (ws' := [(hk, .inr (7, [.ref ho, .ref hwr, .ref hrd, .ref hp, .int bg])), (hrd, .inr (0, [.ref ho, .int va2_29, .int rg2_29, .int sh2_29, .int nx2_29])), (ho, .inr (3, [.ref hh, .int sz])), (hh, .inl (cI, 600, .inl f))]) [0, 1, 2, 3] (by decide) rfl
    generalize H1 = H at hP hS ⊢
    obtain ⟨q29_0, q29_1, q29_2, q29_3⟩ := hw9
    have q29_0 : kB rg2_29 128 255 := q29_0
    have q29_1 : kB sh2_29 0 7 := q29_1
    have q29_2 : mn.toInt ≤ 16 → 0 ≤ r29.toInt ∧ r29.toInt < pw2 mn.toInt := q29_2
    have q29_3 : kIf (pp.toInt = 128 ∧ mn.toInt = 2 ∧ 0 ≤ va.toInt ∧ va.toInt ≤ 500000 ∧ sh.toInt ≤ 4) ((r29.toInt, va2_29.toInt, rg2_29.toInt, sh2_29.toInt) = rI 2 (0, va.toInt, rg.toInt, sh.toInt)) := q29_3
    refine vx_ret ?_
    refine W.widen (k := 2) (n := 12) (by omega) (by omega) ?_
    exact W.iret (v := r29) hx hb hr (fun t9 ht9 hW9 => ⟨⟨r29, (va2_29, rg2_29, sh2_29, nx2_29), rfl, ⟨q29_0, q29_1, c10⟩, by rw [ht9]; exact hP, hD⟩, hS.F ht9⟩) hS.2.2 dX7_get_32
  · obtain ⟨sa13, hR13⟩ := hX.2.2.2 (84, "reading is not begun") (by decide)
    exact vx_throwS (A := A) (mc := 2) (ms := 12) hx hb hl0 hown (by decide +kernel) (by decide +kernel) (hts _ mk_426) (hts _ mk_427) hR13 (kx_IllegalStateException hts hX) kxg_IllegalStateException hX.1 hX.2.1 hS (by rw [hml]; exact hl.1) dX7_get_13 dX7_get_16 dX7_get_17 dX7_get_19 dX7_get_22 (fun x h => (hno x h).elim) (Nat.lt_of_lt_of_le (by decide) (Nat.le_of_ble_eq_true rfl : 6 ≤ _)) (Nat.le_of_ble_eq_true rfl) (Nat.le_of_ble_eq_true rfl) (Nat.le_of_ble_eq_true rfl) hlocks (fun t9 hvm9 hz9 hk9 => ⟨(), trivial, ⟨Or.inr ⟨rfl, ⟨HS, c10⟩⟩, hP.kept (fun k x hx => hk9 x.1 ((hP k x hx).lt)), hD⟩, kFt hS hz9 hk9⟩) hS.2.2 (Nat.le_of_ble_eq_true rfl) (Nat.le_of_ble_eq_true rfl)
abbrev kw_X7_block : List Cond := Cond.code yX7_block cX7_block 3 (some .int) :: kW
set_option maxHeartbeats 4000000 in
set_option maxRecDepth 100000 in
theorem c_X7_block (l : Launch) (hl0 : l.stackTraces = false) (D : va_G) (cI cJ cZ : ClassId) (hk ho hwr hrd hp ht htr hpl hw hcr hco hhs : Nat) (bg : Int32) (cols : Int32) (rows : Int32) (q : Int32) (lev : Int32) (ta : Int32) (ob : Int32) (fch : Int32) (wy : Nat → Int32) (cr : Nat → Int32) (co : Nat → Int32) (k : Int32) (wt : Int32) (bcols : kB cols 0 4) (brows : kB rows 0 4) (hpz : Nat) : vx_Met l yX7_block kw_X7_block ({ frames := 6, cells := 1, slots := 6, locals := 100 }) (va_Pc [.ref hk, .int k, .int wt] (fun U => U.heap.size = hpz ∧ va_P D vwCl [(hk, .inr (7, [.ref ho, .ref hwr, .ref hrd, .ref hp, .int bg])), (hp, .inr (4, [.ref ht, .ref htr, .ref hpl, .ref hw, .ref hcr, .ref hco, .ref hhs, .int cols, .int rows, .int q, .int lev, .int ta, .int ob, .int fch])), (hw, .inl (cI, 16, .inl wy)), (hcr, .inl (cI, 16, .inl cr)), (hco, .inl (cI, 256, .inl co))] U.heap ∧ kK D cI cJ cZ U ∧ va_D (fun _ => True) [(hk, .inr (7, [.ref ho, .ref hwr, .ref hrd, .ref hp, .int bg])), (hp, .inr (4, [.ref ht, .ref htr, .ref hpl, .ref hw, .ref hcr, .ref hco, .ref hhs, .int cols, .int rows, .int q, .int lev, .int ta, .int ob, .int fch])), (hw, .inl (cI, 16, .inl wy)), (hcr, .inl (cI, 16, .inl cr)), (hco, .inl (cI, 256, .inl co))] ∧ kX (va_A [(hk, .inr (7, [.ref ho, .ref hwr, .ref hrd, .ref hp, .int bg])), (hp, .inr (4, [.ref ht, .ref htr, .ref hpl, .ref hw, .ref hcr, .ref hco, .ref hhs, .int cols, .int rows, .int q, .int lev, .int ta, .int ob, .int fch])), (hw, .inl (cI, 16, .inl wy)), (hcr, .inl (cI, 16, .inl cr)), (hco, .inl (cI, 256, .inl co))] hpz) U U.heap)) (va_Qi (fun (r : Int32) (u : Unit) => ((0 ≤ wt.toInt ∧ wt.toInt ≤ 17)) ∧ (kIf (cols = 0) (r = if wt.toInt < 2 then (-1 : Int32) else 0))) (fun (u : Unit) (t : State) => va_P D vwCl [(hk, .inr (7, [.ref ho, .ref hwr, .ref hrd, .ref hp, .int bg])), (hp, .inr (4, [.ref ht, .ref htr, .ref hpl, .ref hw, .ref hcr, .ref hco, .ref hhs, .int cols, .int rows, .int q, .int lev, .int ta, .int ob, .int fch])), (hw, .inl (cI, 16, .inl wy)), (hcr, .inl (cI, 16, .inl cr)), (hco, .inl (cI, 256, .inl co))] t.heap ∧ va_D (va_A [(hk, .inr (7, [.ref ho, .ref hwr, .ref hrd, .ref hp, .int bg])), (hp, .inr (4, [.ref ht, .ref htr, .ref hpl, .ref hw, .ref hcr, .ref hco, .ref hhs, .int cols, .int rows, .int q, .int lev, .int ta, .int ob, .int fch])), (hw, .inl (cI, 16, .inl wy)), (hcr, .inl (cI, 16, .inl cr)), (hco, .inl (cI, 256, .inl co))] hpz) [(hk, .inr (7, [.ref ho, .ref hwr, .ref hrd, .ref hp, .int bg])), (hp, .inr (4, [.ref ht, .ref htr, .ref hpl, .ref hw, .ref hcr, .ref hco, .ref hhs, .int cols, .int rows, .int q, .int lev, .int ta, .int ob, .int fch])), (hw, .inl (cI, 16, .inl wy)), (hcr, .inl (cI, 16, .inl cr)), (hco, .inl (cI, 256, .inl co))]) (va_A [(hk, .inr (7, [.ref ho, .ref hwr, .ref hrd, .ref hp, .int bg])), (hp, .inr (4, [.ref ht, .ref htr, .ref hpl, .ref hw, .ref hcr, .ref hco, .ref hhs, .int cols, .int rows, .int q, .int lev, .int ta, .int ob, .int fch])), (hw, .inl (cI, 16, .inl wy)), (hcr, .inl (cI, 16, .inl cr)), (hco, .inl (cI, 256, .inl co))] hpz)) (vx_X (fun _ : Unit => True) (fun (E : String) (_ : Unit) (t : State) => ((E = "java/lang/IllegalArgumentException" ∧ ¬ (0 ≤ wt.toInt ∧ wt.toInt ≤ 17))) ∧ va_P D vwCl [(hk, .inr (7, [.ref ho, .ref hwr, .ref hrd, .ref hp, .int bg])), (hp, .inr (4, [.ref ht, .ref htr, .ref hpl, .ref hw, .ref hcr, .ref hco, .ref hhs, .int cols, .int rows, .int q, .int lev, .int ta, .int ob, .int fch])), (hw, .inl (cI, 16, .inl wy)), (hcr, .inl (cI, 16, .inl cr)), (hco, .inl (cI, 256, .inl co))] t.heap ∧ va_D (va_A [(hk, .inr (7, [.ref ho, .ref hwr, .ref hrd, .ref hp, .int bg])), (hp, .inr (4, [.ref ht, .ref htr, .ref hpl, .ref hw, .ref hcr, .ref hco, .ref hhs, .int cols, .int rows, .int q, .int lev, .int ta, .int ob, .int fch])), (hw, .inl (cI, 16, .inl wy)), (hcr, .inl (cI, 16, .inl cr)), (hco, .inl (cI, 256, .inl co))] hpz) [(hk, .inr (7, [.ref ho, .ref hwr, .ref hrd, .ref hp, .int bg])), (hp, .inr (4, [.ref ht, .ref htr, .ref hpl, .ref hw, .ref hcr, .ref hco, .ref hhs, .int cols, .int rows, .int q, .int lev, .int ta, .int ob, .int fch])), (hw, .inl (cI, 16, .inl wy)), (hcr, .inl (cI, 16, .inl cr)), (hco, .inl (cI, 256, .inl co))]) (va_A [(hk, .inr (7, [.ref ho, .ref hwr, .ref hrd, .ref hp, .int bg])), (hp, .inr (4, [.ref ht, .ref htr, .ref hpl, .ref hw, .ref hcr, .ref hco, .ref hhs, .int cols, .int rows, .int q, .int lev, .int ta, .int ob, .int fch])), (hw, .inl (cI, 16, .inl wy)), (hcr, .inl (cI, 16, .inl cr)), (hco, .inl (cI, 256, .inl co))] hpz)) 1 6 (va_A [(hk, .inr (7, [.ref ho, .ref hwr, .ref hrd, .ref hp, .int bg])), (hp, .inr (4, [.ref ht, .ref htr, .ref hpl, .ref hw, .ref hcr, .ref hco, .ref hhs, .int cols, .int rows, .int q, .int lev, .int ta, .int ob, .int fch])), (hw, .inl (cI, 16, .inl wy)), (hcr, .inl (cI, 16, .inl cr)), (hco, .inl (cI, 256, .inl co))] hpz) := by
  refine vx_ofW (cc := cX7_block) (maxL := 3) (ret := (some .int)) (by decide) rfl ?_
  intro p e s m args below meth c s₁ B hml hno hv
  obtain ⟨rfl, hsz, hP, hK, hD0, hX⟩ := hv
  have hx := B.exec
  have hb := B.bytes
  have hr := B.returns
  have hts := fun (w : Cond) (h : w ∈ kW) => atoms_spec (ws := kw_X7_block) B.pre w (List.mem_cons_of_mem _ h)
  have hown : s.vm.findClass RX7 = some m.cls := findClass_of_methodNamed B.named
  have hlocks := B.notSynchronized
  subst hsz
  have hD := hD0.self (sz := s.heap.size)
  generalize hAe : va_A [(hk, .inr (7, [.ref ho, .ref hwr, .ref hrd, .ref hp, .int bg])), (hp, .inr (4, [.ref ht, .ref htr, .ref hpl, .ref hw, .ref hcr, .ref hco, .ref hhs, .int cols, .int rows, .int q, .int lev, .int ta, .int ob, .int fch])), (hw, .inl (cI, 16, .inl wy)), (hcr, .inl (cI, 16, .inl cr)), (hco, .inl (cI, 256, .inl co))] s.heap.size = A at hD hX ⊢
  have hA : ∀ q : Nat, s.heap.size ≤ q → A q := fun q h => by rw [← hAe]; exact Or.inr h
  have hS : va_S A s.heap s.heap [] := va_S.rf
  have hP : va_P D vwCl [(hk, .inr (7, [.ref ho, .ref hwr, .ref hrd, .ref hp, .int bg])), (hp, .inr (4, [.ref ht, .ref htr, .ref hpl, .ref hw, .ref hcr, .ref hco, .ref hhs, .int cols, .int rows, .int q, .int lev, .int ta, .int ob, .int fch])), (hw, .inl (cI, 16, .inl wy)), (hcr, .inl (cI, 16, .inl cr)), (hco, .inl (cI, 256, .inl co))] s.heap := hP
  have hl := lv_entry ([.ref hk, .int k, .int wt]) (n := 3) (Nat.le_of_ble_eq_true rfl)
  rw [lg_entry_eq]
  generalize (lg_sl ([.ref hk, .int k, .int wt]) ++ List.replicate (3 - (lg_sl ([.ref hk, .int k, .int wt])).length) Slot.unset).toArray = ls at hl ⊢
  have hl : lv_has ls 3 [(0, .ref hk), (1, .int k), (2, .int wt)] := hl
  refine lv_iload_n hx hb dX7_block_0 rfl (lv_at hl 2 rfl) ?_
  refine lv_if_lt (tgt := 10) hx hb dX7_block_1 (by decide) (fun c1 => ?_) (fun c1 => ?_)
  · have c1a := kB_all wt
    have c1x : kB wt (-2147483648) (-1) := kB_lt_l c1a kc_0 c1 (by decide)
    have TH : ¬ (0 ≤ wt.toInt ∧ wt.toInt ≤ 17) := fun h9 => by have := Int32.lt_iff_toInt_lt.mp c1; rw [show (0 : Int32).toInt = 0 from by decide] at this; omega
    obtain ⟨sa10, hR10⟩ := hX.2.2.2 (100, "what is not 0 .. 17") (by decide)
    exact vx_throwS (A := A) (mc := 1) (ms := 6) hx hb hl0 hown (by decide +kernel) (by decide +kernel) (hts _ mk_424) (hts _ mk_425) hR10 (kx_IllegalArgumentException hts hX) kxg_IllegalArgumentException hX.1 hX.2.1 hS (by rw [hml]; exact hl.1) dX7_block_10 dX7_block_13 dX7_block_14 dX7_block_16 dX7_block_19 (fun x h => (hno x h).elim) (Nat.lt_of_lt_of_le (by decide) (Nat.le_of_ble_eq_true rfl : 6 ≤ _)) (Nat.le_of_ble_eq_true rfl) (Nat.le_of_ble_eq_true rfl) (Nat.le_of_ble_eq_true rfl) hlocks (fun t9 hvm9 hz9 hk9 => ⟨(), trivial, ⟨⟨rfl, TH⟩, hP.kept (fun k x hx => hk9 x.1 ((hP k x hx).lt)), hD⟩, kFt hS hz9 hk9⟩) hS.2.2 (Nat.le_of_ble_eq_true rfl) (Nat.le_of_ble_eq_true rfl)
  · have c1n : 0 ≤ wt := kN_lt c1
    have c1nb := kB_all wt
    have c1ny : kB wt 0 2147483647 := kB_le_r kc_0 c1nb c1n (by decide)
    refine lv_iload_n hx hb dX7_block_4 rfl (lv_at hl 2 rfl) ?_
    refine lv_bipush (v := 18) hx hb dX7_block_5 (by decide) ?_
    refine lv_icmp_lt (tgt := 20) hx hb dX7_block_7 (by decide) (fun c7 => ?_) (fun c7 => ?_)
    · have c7x : kB wt 0 17 := kB_lt_l c1ny kc_18 c7 (by decide)
      have HI9 : (0 ≤ wt.toInt ∧ wt.toInt ≤ 17) := ⟨c1ny.1, c7x.2⟩
      refine lv_iload_n hx hb dX7_block_20 rfl (lv_at hl 2 rfl) ?_
      refine lv_iconst (v := 2) hx hb dX7_block_21 (by decide) ?_
      refine lv_icmp_lt (tgt := 37) hx hb dX7_block_22 (by decide) (fun c22 => ?_) (fun c22 => ?_)
      · have c22x : kB wt 0 1 := kB_lt_l c7x kc_2 c22 (by decide)
        refine lv_iload_n hx hb dX7_block_37 rfl (lv_at hl 2 rfl) ?_
        refine lv_if_ne (tgt := 52) hx hb dX7_block_38 (by decide) (fun c38 => ?_) (fun c38 => ?_)
        · have c38x : kB wt 1 1 := kB_nlo c22x c38 kc_0 (by decide)
          refine lv_aload_n hx hb dX7_block_52 rfl (lv_at hl 0 rfl) ?_
          refine va_get (D := D) (ci := 7) (v := .ref hp) (C := RX7) (T := TX7) (N := 5) hx hb hts in_X7 hown hK.1 hP 0 rfl rfl 3 (by decide) (hts _ mk_346) (fun _ h9 => h9) rfl dX7_block_53 ?_
          refine lv_iload_n hx hb dX7_block_56 rfl (lv_at hl 1 rfl) ?_
          have hPc := hP.sub (ws' := [(hp, .inr (4, [.ref ht, .ref htr, .ref hpl, .ref hw, .ref hcr, .ref hco, .ref hhs, .int cols, .int rows, .int q, .int lev, .int ta, .int ob, .int fch])), (hcr, .inl (cI, 16, .inl cr))]) [1, 3] rfl
          have hDc := hD.sub (ws' := [(hp, .inr (4, [.ref ht, .ref htr, .ref hpl, .ref hw, .ref hcr, .ref hco, .ref hhs, .int cols, .int rows, .int q, .int lev, .int ta, .int ob, .int fch])), (hcr, .inl (cI, 16, .inl cr))]) [1, 3] (by decide) rfl
          have hFc := va_free (wc := [(hp, .inr (4, [.ref ht, .ref htr, .ref hpl, .ref hw, .ref hcr, .ref hco, .ref hhs, .int cols, .int rows, .int q, .int lev, .int ta, .int ob, .int fch])), (hcr, .inl (cI, 16, .inl cr))]) hD hS hA [1, 3] rfl
          refine va_calli (va_runV (As := [.int k]) (rest := []) ⟨hx, hb, hml, hown, hts⟩ (c_X4_coefficientsReadOf l D cI cJ cZ hp ht htr hpl hw hcr hco hhs cols rows q lev ta ob fch cr k bcols brows (s.heap).size) (cwV 1 hts (kg_V mk_441 mk_442 mk_443 mk_119 mk_444) rfl rfl rfl (by decide +kernel) ⟨Nat.le_of_ble_eq_true rfl, Nat.le_of_ble_eq_true rfl⟩) ⟨fun a U g mk q => by obtain ⟨q0, q1, qP, qK, qD⟩ := q; exact ⟨q0, q1, qP, kK.call qK, qD⟩, va_recv hK.1 hPc (ci := 4) (q0 := 0) rfl rfl, fun U hU hW => ⟨rfl, by rw [hU], by rw [hU]; exact hPc, kK.warm hW hK, hDc.weaken (fun _ _ _ _ => trivial)⟩⟩ rfl rfl hl.1 rfl (lv_room (Nat.le_of_ble_eq_true rfl)) dX7_block_57 ⟨Nat.zero_le _, Nat.zero_le _⟩) hS (fun q _ h => hFc q h) hFc (fun r57 u t9 H1 locs ht9 hvm9 hw9 hB9 hz9 hk9 hS => ?_)
          obtain ⟨hP1, hD1⟩ := hB9
          rw [ht9] at hP1
          have hP1 : va_P D vwCl [(hp, .inr (4, [.ref ht, .ref htr, .ref hpl, .ref hw, .ref hcr, .ref hco, .ref hhs, .int cols, .int rows, .int q, .int lev, .int ta, .int ob, .int fch])), (hcr, .inl (cI, 16, .inl cr))] H1 := hP1
          obtain ⟨hP, hD⟩ := va_join (wr := [(hk, .inr (7, [.ref ho, .ref hwr, .ref hrd, .ref hp, .int bg])), (hw, .inl (cI, 16, .inl wy)), (hco, .inl (cI, 256, .inl co))]) (w1 := [(hp, .inr (4, [.ref ht, .ref htr, .ref hpl, .ref hw, .ref hcr, .ref hco, .ref hhs, .int cols, .int rows, .int q, .int lev, .int ta, .int ob, .int fch])), (hcr, .inl (cI, 16, .inl cr))]) hP hD [1, 3] [0, 2, 4] rfl rfl (by decide) (by decide) hk9 hFc hP1 hD1
          have hP := hP.sub (ws' := [(hk, .inr (7, [.ref ho, .ref hwr, .ref hrd, .ref hp, .int bg])), (hp, .inr (4, [.ref ht, .ref htr, .ref hpl, .ref hw, .ref hcr, .ref hco, .ref hhs, .int cols, .int rows, .int q, .int lev, .int ta, .int ob, .int fch])), (hw, .inl (cI, 16, .inl wy)), (hcr, .inl (cI, 16, .inl cr)), (hco, .inl (cI, 256, .inl co))]) [0, 3, 1, 4, 2] rfl
          have hD := hD.sub (ws' := [(hk, .inr (7, [.ref ho, .ref hwr, .ref hrd, .ref hp, .int bg])), (hp, .inr (4, [.ref ht, .ref htr, .ref hpl, .ref hw, .ref hcr, .ref hco, .ref hhs, .int cols, .int rows, .int q, .int lev, .int ta, .int ob, .int fch])), (hw, .inl (cI, 16, .inl wy)), (hcr, .inl (cI, 16, .inl cr)), (hco, .inl (cI, 256, .inl co))]) [0, 3, 1, 4, 2] (by decide) rfl
          generalize H1 = H at hP hS ⊢
          have q57_0 : kIf (cols = 0) (r57 = -1) := hw9
          have pf_fr : kIf (cols = 0) (r57 = if wt.toInt < 2 then (-1 : Int32) else 0) := (fun h9 => by rw [if_pos (by have := c22x.2; omega)]; exact q57_0 h9)
          refine vx_ret ?_
          refine W.widen (k := 1) (n := 6) (by omega) (by omega) ?_
          exact W.iret (v := r57) hx hb hr (fun t9 ht9 hW9 => ⟨⟨r57, (), rfl, ⟨HI9, pf_fr⟩, by rw [ht9]; exact hP, hD⟩, hS.F ht9⟩) hS.2.2 dX7_block_60
        · have c38x : kB wt 0 0 := kB_eq c38 kc_0
          refine lv_aload_n hx hb dX7_block_41 rfl (lv_at hl 0 rfl) ?_
          refine va_get (D := D) (ci := 7) (v := .ref hp) (C := RX7) (T := TX7) (N := 5) hx hb hts in_X7 hown hK.1 hP 0 rfl rfl 3 (by decide) (hts _ mk_346) (fun _ h9 => h9) rfl dX7_block_42 ?_
          refine lv_iload_n hx hb dX7_block_45 rfl (lv_at hl 1 rfl) ?_
          have hPc := hP.sub (ws' := [(hp, .inr (4, [.ref ht, .ref htr, .ref hpl, .ref hw, .ref hcr, .ref hco, .ref hhs, .int cols, .int rows, .int q, .int lev, .int ta, .int ob, .int fch])), (hw, .inl (cI, 16, .inl wy))]) [1, 2] rfl
          have hDc := hD.sub (ws' := [(hp, .inr (4, [.ref ht, .ref htr, .ref hpl, .ref hw, .ref hcr, .ref hco, .ref hhs, .int cols, .int rows, .int q, .int lev, .int ta, .int ob, .int fch])), (hw, .inl (cI, 16, .inl wy))]) [1, 2] (by decide) rfl
          have hFc := va_free (wc := [(hp, .inr (4, [.ref ht, .ref htr, .ref hpl, .ref hw, .ref hcr, .ref hco, .ref hhs, .int cols, .int rows, .int q, .int lev, .int ta, .int ob, .int fch])), (hw, .inl (cI, 16, .inl wy))]) hD hS hA [1, 2] rfl
          refine va_calli (va_runV (As := [.int k]) (rest := []) ⟨hx, hb, hml, hown, hts⟩ (c_X4_wayOf l D cI cJ cZ hp ht htr hpl hw hcr hco hhs cols rows q lev ta ob fch wy k bcols brows (s.heap).size) (cwV 1 hts (kg_V mk_445 mk_446 mk_447 mk_119 mk_448) rfl rfl rfl (by decide +kernel) ⟨Nat.le_of_ble_eq_true rfl, Nat.le_of_ble_eq_true rfl⟩) ⟨fun a U g mk q => by obtain ⟨q0, q1, qP, qK, qD⟩ := q; exact ⟨q0, q1, qP, kK.call qK, qD⟩, va_recv hK.1 hPc (ci := 4) (q0 := 0) rfl rfl, fun U hU hW => ⟨rfl, by rw [hU], by rw [hU]; exact hPc, kK.warm hW hK, hDc.weaken (fun _ _ _ _ => trivial)⟩⟩ rfl rfl hl.1 rfl (lv_room (Nat.le_of_ble_eq_true rfl)) dX7_block_46 ⟨Nat.zero_le _, Nat.zero_le _⟩) hS (fun q _ h => hFc q h) hFc (fun r46 u t9 H1 locs ht9 hvm9 hw9 hB9 hz9 hk9 hS => ?_)
          obtain ⟨hP1, hD1⟩ := hB9
          rw [ht9] at hP1
          have hP1 : va_P D vwCl [(hp, .inr (4, [.ref ht, .ref htr, .ref hpl, .ref hw, .ref hcr, .ref hco, .ref hhs, .int cols, .int rows, .int q, .int lev, .int ta, .int ob, .int fch])), (hw, .inl (cI, 16, .inl wy))] H1 := hP1
          obtain ⟨hP, hD⟩ := va_join (wr := [(hk, .inr (7, [.ref ho, .ref hwr, .ref hrd, .ref hp, .int bg])), (hcr, .inl (cI, 16, .inl cr)), (hco, .inl (cI, 256, .inl co))]) (w1 := [(hp, .inr (4, [.ref ht, .ref htr, .ref hpl, .ref hw, .ref hcr, .ref hco, .ref hhs, .int cols, .int rows, .int q, .int lev, .int ta, .int ob, .int fch])), (hw, .inl (cI, 16, .inl wy))]) hP hD [1, 2] [0, 3, 4] rfl rfl (by decide) (by decide) hk9 hFc hP1 hD1
          have hP := hP.sub (ws' := [(hk, .inr (7, [.ref ho, .ref hwr, .ref hrd, .ref hp, .int bg])), (hp, .inr (4, [.ref ht, .ref htr, .ref hpl, .ref hw, .ref hcr, .ref hco, .ref hhs, .int cols, .int rows, .int q, .int lev, .int ta, .int ob, .int fch])), (hw, .inl (cI, 16, .inl wy)), (hcr, .inl (cI, 16, .inl cr)), (hco, .inl (cI, 256, .inl co))]) [0, 3, 4, 1, 2] rfl
          have hD := hD.sub (ws' := [(hk, .inr (7, [.ref ho, .ref hwr, .ref hrd, .ref hp, .int bg])), (hp, .inr (4, [.ref ht, .ref htr, .ref hpl, .ref hw, .ref hcr, .ref hco, .ref hhs, .int cols, .int rows, .int q, .int lev, .int ta, .int ob, .int fch])), (hw, .inl (cI, 16, .inl wy)), (hcr, .inl (cI, 16, .inl cr)), (hco, .inl (cI, 256, .inl co))]) [0, 3, 4, 1, 2] (by decide) rfl
          generalize H1 = H at hP hS ⊢
          have q46_0 : kIf (cols = 0) (r46 = -1) := hw9
          refine lv_goto (tgt := 60) hx hb dX7_block_49 (by decide) ?_
          have pf_fr : kIf (cols = 0) (r46 = if wt.toInt < 2 then (-1 : Int32) else 0) := (fun h9 => by rw [if_pos (by have := c22x.2; omega)]; exact q46_0 h9)
          refine vx_ret ?_
          refine W.widen (k := 1) (n := 6) (by omega) (by omega) ?_
          exact W.iret (v := r46) hx hb hr (fun t9 ht9 hW9 => ⟨⟨r46, (), rfl, ⟨HI9, pf_fr⟩, by rw [ht9]; exact hP, hD⟩, hS.F ht9⟩) hS.2.2 dX7_block_60
      · have c22n : 2 ≤ wt := kN_lt c22
        have c22ny : kB wt 2 17 := kB_le_r kc_2 c7x c22n (by decide)
        refine lv_aload_n hx hb dX7_block_25 rfl (lv_at hl 0 rfl) ?_
        refine va_get (D := D) (ci := 7) (v := .ref hp) (C := RX7) (T := TX7) (N := 5) hx hb hts in_X7 hown hK.1 hP 0 rfl rfl 3 (by decide) (hts _ mk_346) (fun _ h9 => h9) rfl dX7_block_26 ?_
        refine lv_iload_n hx hb dX7_block_29 rfl (lv_at hl 1 rfl) ?_
        refine lv_iload_n hx hb dX7_block_30 rfl (lv_at hl 2 rfl) ?_
        refine lv_iconst (v := 2) hx hb dX7_block_31 (by decide) ?_
        refine lv_isub hx hb dX7_block_32 ?_
        refine lv_topi (fun v32 e32 => ?_)
        have b32 : kB v32 0 15 := kB_eq e32 (kB_sub c22ny kc_2 (by decide))
        have hPc := hP.sub (ws' := [(hp, .inr (4, [.ref ht, .ref htr, .ref hpl, .ref hw, .ref hcr, .ref hco, .ref hhs, .int cols, .int rows, .int q, .int lev, .int ta, .int ob, .int fch])), (hco, .inl (cI, 256, .inl co))]) [1, 4] rfl
        have hDc := hD.sub (ws' := [(hp, .inr (4, [.ref ht, .ref htr, .ref hpl, .ref hw, .ref hcr, .ref hco, .ref hhs, .int cols, .int rows, .int q, .int lev, .int ta, .int ob, .int fch])), (hco, .inl (cI, 256, .inl co))]) [1, 4] (by decide) rfl
        have hFc := va_free (wc := [(hp, .inr (4, [.ref ht, .ref htr, .ref hpl, .ref hw, .ref hcr, .ref hco, .ref hhs, .int cols, .int rows, .int q, .int lev, .int ta, .int ob, .int fch])), (hco, .inl (cI, 256, .inl co))]) hD hS hA [1, 4] rfl
        refine va_calli (va_runV (As := [.int k, .int v32]) (rest := []) ⟨hx, hb, hml, hown, hts⟩ (c_X4_coefficientOf l D cI cJ cZ hp ht htr hpl hw hcr hco hhs cols rows q lev ta ob fch co k v32 bcols brows b32 (s.heap).size) (cwV 2 hts (kg_V mk_449 mk_450 mk_451 mk_119 mk_452) rfl rfl rfl (by decide +kernel) ⟨Nat.le_of_ble_eq_true rfl, Nat.le_of_ble_eq_true rfl⟩) ⟨fun a U g mk q => by obtain ⟨q0, q1, qP, qK, qD⟩ := q; exact ⟨q0, q1, qP, kK.call qK, qD⟩, va_recv hK.1 hPc (ci := 4) (q0 := 0) rfl rfl, fun U hU hW => ⟨rfl, by rw [hU], by rw [hU]; exact hPc, kK.warm hW hK, hDc.weaken (fun _ _ _ _ => trivial)⟩⟩ rfl rfl hl.1 rfl (lv_room (Nat.le_of_ble_eq_true rfl)) dX7_block_33 ⟨Nat.zero_le _, Nat.zero_le _⟩) hS (fun q _ h => hFc q h) hFc (fun r33 u t9 H1 locs ht9 hvm9 hw9 hB9 hz9 hk9 hS => ?_)
        obtain ⟨hP1, hD1⟩ := hB9
        rw [ht9] at hP1
        have hP1 : va_P D vwCl [(hp, .inr (4, [.ref ht, .ref htr, .ref hpl, .ref hw, .ref hcr, .ref hco, .ref hhs, .int cols, .int rows, .int q, .int lev, .int ta, .int ob, .int fch])), (hco, .inl (cI, 256, .inl co))] H1 := hP1
        obtain ⟨hP, hD⟩ := va_join (wr := [(hk, .inr (7, [.ref ho, .ref hwr, .ref hrd, .ref hp, .int bg])), (hw, .inl (cI, 16, .inl wy)), (hcr, .inl (cI, 16, .inl cr))]) (w1 := [(hp, .inr (4, [.ref ht, .ref htr, .ref hpl, .ref hw, .ref hcr, .ref hco, .ref hhs, .int cols, .int rows, .int q, .int lev, .int ta, .int ob, .int fch])), (hco, .inl (cI, 256, .inl co))]) hP hD [1, 4] [0, 2, 3] rfl rfl (by decide) (by decide) hk9 hFc hP1 hD1
        have hP := hP.sub (ws' := [(hk, .inr (7, [.ref ho, .ref hwr, .ref hrd, .ref hp, .int bg])), (hp, .inr (4, [.ref ht, .ref htr, .ref hpl, .ref hw, .ref hcr, .ref hco, .ref hhs, .int cols, .int rows, .int q, .int lev, .int ta, .int ob, .int fch])), (hw, .inl (cI, 16, .inl wy)), (hcr, .inl (cI, 16, .inl cr)), (hco, .inl (cI, 256, .inl co))]) [0, 3, 1, 2, 4] rfl
        have hD := hD.sub (ws' := [(hk, .inr (7, [.ref ho, .ref hwr, .ref hrd, .ref hp, .int bg])), (hp, .inr (4, [.ref ht, .ref htr, .ref hpl, .ref hw, .ref hcr, .ref hco, .ref hhs, .int cols, .int rows, .int q, .int lev, .int ta, .int ob, .int fch])), (hw, .inl (cI, 16, .inl wy)), (hcr, .inl (cI, 16, .inl cr)), (hco, .inl (cI, 256, .inl co))]) [0, 3, 1, 2, 4] (by decide) rfl
        generalize H1 = H at hP hS ⊢
        have q33_0 : kIf (cols = 0) (r33 = 0) := hw9
        have pf_fr : kIf (cols = 0) (r33 = if wt.toInt < 2 then (-1 : Int32) else 0) := (fun h9 => by rw [if_neg (by have := c22ny.1; omega)]; exact q33_0 h9)
        refine vx_ret ?_
        refine W.widen (k := 1) (n := 6) (by omega) (by omega) ?_
        exact W.iret (v := r33) hx hb hr (fun t9 ht9 hW9 => ⟨⟨r33, (), rfl, ⟨HI9, pf_fr⟩, by rw [ht9]; exact hP, hD⟩, hS.F ht9⟩) hS.2.2 dX7_block_36
    · have c7n : 18 ≤ wt := kN_lt c7
      have c7ny : kB wt 18 2147483647 := kB_le_r kc_18 c1ny c7n (by decide)
      have TH : ¬ (0 ≤ wt.toInt ∧ wt.toInt ≤ 17) := fun h9 => by have := c7ny.1; omega
      obtain ⟨sa10, hR10⟩ := hX.2.2.2 (100, "what is not 0 .. 17") (by decide)
      exact vx_throwS (A := A) (mc := 1) (ms := 6) hx hb hl0 hown (by decide +kernel) (by decide +kernel) (hts _ mk_424) (hts _ mk_425) hR10 (kx_IllegalArgumentException hts hX) kxg_IllegalArgumentException hX.1 hX.2.1 hS (by rw [hml]; exact hl.1) dX7_block_10 dX7_block_13 dX7_block_14 dX7_block_16 dX7_block_19 (fun x h => (hno x h).elim) (Nat.lt_of_lt_of_le (by decide) (Nat.le_of_ble_eq_true rfl : 6 ≤ _)) (Nat.le_of_ble_eq_true rfl) (Nat.le_of_ble_eq_true rfl) (Nat.le_of_ble_eq_true rfl) hlocks (fun t9 hvm9 hz9 hk9 => ⟨(), trivial, ⟨⟨rfl, TH⟩, hP.kept (fun k x hx => hk9 x.1 ((hP k x hx).lt)), hD⟩, kFt hS hz9 hk9⟩) hS.2.2 (Nat.le_of_ble_eq_true rfl) (Nat.le_of_ble_eq_true rfl)
abbrev kw_X7_count : List Cond := Cond.code yX7_count cX7_count 2 (some .int) :: kW
set_option maxHeartbeats 4000000 in
set_option maxRecDepth 100000 in
theorem c_X7_count (l : Launch) (hl0 : l.stackTraces = false) (D : va_G) (cI cJ cZ : ClassId) (hk ho hwr hrd hp ht htr hpl hw hcr hco hhs : Nat) (bg : Int32) (cols : Int32) (rows : Int32) (q : Int32) (lev : Int32) (ta : Int32) (ob : Int32) (fch : Int32) (wt : Int32) (hpz : Nat) : vx_Met l yX7_count kw_X7_count ({ frames := 6, cells := 1, slots := 6, locals := 100 }) (va_Pc [.ref hk, .int wt] (fun U => U.heap.size = hpz ∧ va_P D vwCl [(hk, .inr (7, [.ref ho, .ref hwr, .ref hrd, .ref hp, .int bg])), (hp, .inr (4, [.ref ht, .ref htr, .ref hpl, .ref hw, .ref hcr, .ref hco, .ref hhs, .int cols, .int rows, .int q, .int lev, .int ta, .int ob, .int fch]))] U.heap ∧ kK D cI cJ cZ U ∧ va_D (fun _ => True) [(hk, .inr (7, [.ref ho, .ref hwr, .ref hrd, .ref hp, .int bg])), (hp, .inr (4, [.ref ht, .ref htr, .ref hpl, .ref hw, .ref hcr, .ref hco, .ref hhs, .int cols, .int rows, .int q, .int lev, .int ta, .int ob, .int fch]))] ∧ kX (va_A [(hk, .inr (7, [.ref ho, .ref hwr, .ref hrd, .ref hp, .int bg])), (hp, .inr (4, [.ref ht, .ref htr, .ref hpl, .ref hw, .ref hcr, .ref hco, .ref hhs, .int cols, .int rows, .int q, .int lev, .int ta, .int ob, .int fch]))] hpz) U U.heap)) (va_Qi (fun (r : Int32) (u : Unit) => ((0 ≤ wt.toInt ∧ wt.toInt ≤ 6)) ∧ (kIf (cols = 0 ∧ rows = 0 ∧ q = 0 ∧ lev = 0 ∧ ta = 0 ∧ ob = 0 ∧ fch = 0) (r = 0))) (fun (u : Unit) (t : State) => va_P D vwCl [(hk, .inr (7, [.ref ho, .ref hwr, .ref hrd, .ref hp, .int bg])), (hp, .inr (4, [.ref ht, .ref htr, .ref hpl, .ref hw, .ref hcr, .ref hco, .ref hhs, .int cols, .int rows, .int q, .int lev, .int ta, .int ob, .int fch]))] t.heap ∧ va_D (va_A [(hk, .inr (7, [.ref ho, .ref hwr, .ref hrd, .ref hp, .int bg])), (hp, .inr (4, [.ref ht, .ref htr, .ref hpl, .ref hw, .ref hcr, .ref hco, .ref hhs, .int cols, .int rows, .int q, .int lev, .int ta, .int ob, .int fch]))] hpz) [(hk, .inr (7, [.ref ho, .ref hwr, .ref hrd, .ref hp, .int bg])), (hp, .inr (4, [.ref ht, .ref htr, .ref hpl, .ref hw, .ref hcr, .ref hco, .ref hhs, .int cols, .int rows, .int q, .int lev, .int ta, .int ob, .int fch]))]) (va_A [(hk, .inr (7, [.ref ho, .ref hwr, .ref hrd, .ref hp, .int bg])), (hp, .inr (4, [.ref ht, .ref htr, .ref hpl, .ref hw, .ref hcr, .ref hco, .ref hhs, .int cols, .int rows, .int q, .int lev, .int ta, .int ob, .int fch]))] hpz)) (vx_X (fun _ : Unit => True) (fun (E : String) (_ : Unit) (t : State) => ((E = "java/lang/IllegalArgumentException" ∧ ¬ (0 ≤ wt.toInt ∧ wt.toInt ≤ 6))) ∧ va_P D vwCl [(hk, .inr (7, [.ref ho, .ref hwr, .ref hrd, .ref hp, .int bg])), (hp, .inr (4, [.ref ht, .ref htr, .ref hpl, .ref hw, .ref hcr, .ref hco, .ref hhs, .int cols, .int rows, .int q, .int lev, .int ta, .int ob, .int fch]))] t.heap ∧ va_D (va_A [(hk, .inr (7, [.ref ho, .ref hwr, .ref hrd, .ref hp, .int bg])), (hp, .inr (4, [.ref ht, .ref htr, .ref hpl, .ref hw, .ref hcr, .ref hco, .ref hhs, .int cols, .int rows, .int q, .int lev, .int ta, .int ob, .int fch]))] hpz) [(hk, .inr (7, [.ref ho, .ref hwr, .ref hrd, .ref hp, .int bg])), (hp, .inr (4, [.ref ht, .ref htr, .ref hpl, .ref hw, .ref hcr, .ref hco, .ref hhs, .int cols, .int rows, .int q, .int lev, .int ta, .int ob, .int fch]))]) (va_A [(hk, .inr (7, [.ref ho, .ref hwr, .ref hrd, .ref hp, .int bg])), (hp, .inr (4, [.ref ht, .ref htr, .ref hpl, .ref hw, .ref hcr, .ref hco, .ref hhs, .int cols, .int rows, .int q, .int lev, .int ta, .int ob, .int fch]))] hpz)) 1 6 (va_A [(hk, .inr (7, [.ref ho, .ref hwr, .ref hrd, .ref hp, .int bg])), (hp, .inr (4, [.ref ht, .ref htr, .ref hpl, .ref hw, .ref hcr, .ref hco, .ref hhs, .int cols, .int rows, .int q, .int lev, .int ta, .int ob, .int fch]))] hpz) := by
  refine vx_ofW (cc := cX7_count) (maxL := 2) (ret := (some .int)) (by decide) rfl ?_
  intro p e s m args below meth c s₁ B hml hno hv
  obtain ⟨rfl, hsz, hP, hK, hD0, hX⟩ := hv
  have hx := B.exec
  have hb := B.bytes
  have hr := B.returns
  have hts := fun (w : Cond) (h : w ∈ kW) => atoms_spec (ws := kw_X7_count) B.pre w (List.mem_cons_of_mem _ h)
  have hown : s.vm.findClass RX7 = some m.cls := findClass_of_methodNamed B.named
  have hlocks := B.notSynchronized
  subst hsz
  have hD := hD0.self (sz := s.heap.size)
  generalize hAe : va_A [(hk, .inr (7, [.ref ho, .ref hwr, .ref hrd, .ref hp, .int bg])), (hp, .inr (4, [.ref ht, .ref htr, .ref hpl, .ref hw, .ref hcr, .ref hco, .ref hhs, .int cols, .int rows, .int q, .int lev, .int ta, .int ob, .int fch]))] s.heap.size = A at hD hX ⊢
  have hA : ∀ q : Nat, s.heap.size ≤ q → A q := fun q h => by rw [← hAe]; exact Or.inr h
  have hS : va_S A s.heap s.heap [] := va_S.rf
  have hP : va_P D vwCl [(hk, .inr (7, [.ref ho, .ref hwr, .ref hrd, .ref hp, .int bg])), (hp, .inr (4, [.ref ht, .ref htr, .ref hpl, .ref hw, .ref hcr, .ref hco, .ref hhs, .int cols, .int rows, .int q, .int lev, .int ta, .int ob, .int fch]))] s.heap := hP
  have hl := lv_entry ([.ref hk, .int wt]) (n := 2) (Nat.le_of_ble_eq_true rfl)
  rw [lg_entry_eq]
  generalize (lg_sl ([.ref hk, .int wt]) ++ List.replicate (2 - (lg_sl ([.ref hk, .int wt])).length) Slot.unset).toArray = ls at hl ⊢
  have hl : lv_has ls 2 [(0, .ref hk), (1, .int wt)] := hl
  refine lv_iload_n hx hb dX7_count_0 rfl (lv_at hl 1 rfl) ?_
  by_cases h1 : wt.toInt < 0 ∨ 6 < wt.toInt
  · refine lv_tableOut (tgt := 100) hx hb dX7_count_1 h1 (by decide) ?_
    obtain ⟨sa100, hR100⟩ := hX.2.2.2 (133, "what is not 0 .. 6") (by decide)
    exact vx_throwS (A := A) (mc := 1) (ms := 6) hx hb hl0 hown (by decide +kernel) (by decide +kernel) (hts _ mk_424) (hts _ mk_425) hR100 (kx_IllegalArgumentException hts hX) kxg_IllegalArgumentException hX.1 hX.2.1 hS (by rw [hml]; exact hl.1) dX7_count_100 dX7_count_103 dX7_count_104 dX7_count_106 dX7_count_109 (fun x h => (hno x h).elim) (Nat.lt_of_lt_of_le (by decide) (Nat.le_of_ble_eq_true rfl : 6 ≤ _)) (Nat.le_of_ble_eq_true rfl) (Nat.le_of_ble_eq_true rfl) (Nat.le_of_ble_eq_true rfl) hlocks (fun t9 hvm9 hz9 hk9 => ⟨(), trivial, ⟨⟨rfl, (fun h9 => by have h8 := h1; omega)⟩, hP.kept (fun k x hx => hk9 x.1 ((hP k x hx).lt)), hD⟩, kFt hS hz9 hk9⟩) hS.2.2 (Nat.le_of_ble_eq_true rfl) (Nat.le_of_ble_eq_true rfl)
  · have g1 : wt.toInt = 0 ∨ wt.toInt = 1 ∨ wt.toInt = 2 ∨ wt.toInt = 3 ∨ wt.toInt = 4 ∨ wt.toInt = 5 ∨ wt.toInt = 6 := by omega
    rcases g1 with k1 | k1 | k1 | k1 | k1 | k1 | k1
    · have x1 : kB wt 0 0 := ⟨Int.le_of_eq k1.symm, Int.le_of_eq k1⟩
      refine lv_tableIn (tgt := 44) (off := 43) hx hb dX7_count_1 (by omega) (by omega) (by rw [k1]; rfl) (by decide) ?_
      refine lv_aload_n hx hb dX7_count_44 rfl (lv_at hl 0 rfl) ?_
      refine va_get (D := D) (ci := 7) (v := .ref hp) (C := RX7) (T := TX7) (N := 5) hx hb hts in_X7 hown hK.1 hP 0 rfl rfl 3 (by decide) (hts _ mk_346) (fun _ h9 => h9) rfl dX7_count_45 ?_
      refine va_getN (D := D) (ci := 4) (v := .int cols) (C := RX4) (T := TX4) (N := 14) hx hb hts in_X4 hown hK.1 hP 1 rfl rfl 7 (by decide) (va_Nw.use rfl (hK.2 (.fieldLinkNest RX7 112 "KeyFrames$Picture" "columns" "I" "KeyFrames") (by decide +kernel))) (fun _ h9 => h9) rfl dX7_count_48 ?_
      have pf_i : (0 ≤ wt.toInt ∧ wt.toInt ≤ 6) := ⟨by omega, by omega⟩
      have pf_fr : kIf (cols = 0 ∧ rows = 0 ∧ q = 0 ∧ lev = 0 ∧ ta = 0 ∧ ob = 0 ∧ fch = 0) (cols = 0) := (fun h9 => h9.1)
      refine vx_ret ?_
      refine W.widen (k := 1) (n := 6) (by omega) (by omega) ?_
      exact W.iret (v := cols) hx hb hr (fun t9 ht9 hW9 => ⟨⟨cols, (), rfl, ⟨pf_i, pf_fr⟩, by rw [ht9]; exact hP, hD⟩, hS.F ht9⟩) hS.2.2 dX7_count_51
    · have x1 : kB wt 1 1 := ⟨Int.le_of_eq k1.symm, Int.le_of_eq k1⟩
      refine lv_tableIn (tgt := 52) (off := 51) hx hb dX7_count_1 (by omega) (by omega) (by rw [k1]; rfl) (by decide) ?_
      refine lv_aload_n hx hb dX7_count_52 rfl (lv_at hl 0 rfl) ?_
      refine va_get (D := D) (ci := 7) (v := .ref hp) (C := RX7) (T := TX7) (N := 5) hx hb hts in_X7 hown hK.1 hP 0 rfl rfl 3 (by decide) (hts _ mk_346) (fun _ h9 => h9) rfl dX7_count_53 ?_
      refine va_getN (D := D) (ci := 4) (v := .int rows) (C := RX4) (T := TX4) (N := 14) hx hb hts in_X4 hown hK.1 hP 1 rfl rfl 8 (by decide) (va_Nw.use rfl (hK.2 (.fieldLinkNest RX7 115 "KeyFrames$Picture" "rows" "I" "KeyFrames") (by decide +kernel))) (fun _ h9 => h9) rfl dX7_count_56 ?_
      have pf_i : (0 ≤ wt.toInt ∧ wt.toInt ≤ 6) := ⟨by omega, by omega⟩
      have pf_fr : kIf (cols = 0 ∧ rows = 0 ∧ q = 0 ∧ lev = 0 ∧ ta = 0 ∧ ob = 0 ∧ fch = 0) (rows = 0) := (fun h9 => h9.2.1)
      refine vx_ret ?_
      refine W.widen (k := 1) (n := 6) (by omega) (by omega) ?_
      exact W.iret (v := rows) hx hb hr (fun t9 ht9 hW9 => ⟨⟨rows, (), rfl, ⟨pf_i, pf_fr⟩, by rw [ht9]; exact hP, hD⟩, hS.F ht9⟩) hS.2.2 dX7_count_59
    · have x1 : kB wt 2 2 := ⟨Int.le_of_eq k1.symm, Int.le_of_eq k1⟩
      refine lv_tableIn (tgt := 60) (off := 59) hx hb dX7_count_1 (by omega) (by omega) (by rw [k1]; rfl) (by decide) ?_
      refine lv_aload_n hx hb dX7_count_60 rfl (lv_at hl 0 rfl) ?_
      refine va_get (D := D) (ci := 7) (v := .ref hp) (C := RX7) (T := TX7) (N := 5) hx hb hts in_X7 hown hK.1 hP 0 rfl rfl 3 (by decide) (hts _ mk_346) (fun _ h9 => h9) rfl dX7_count_61 ?_
      refine va_getN (D := D) (ci := 4) (v := .int q) (C := RX4) (T := TX4) (N := 14) hx hb hts in_X4 hown hK.1 hP 1 rfl rfl 9 (by decide) (va_Nw.use rfl (hK.2 (.fieldLinkNest RX7 118 "KeyFrames$Picture" "q" "I" "KeyFrames") (by decide +kernel))) (fun _ h9 => h9) rfl dX7_count_64 ?_
      have pf_i : (0 ≤ wt.toInt ∧ wt.toInt ≤ 6) := ⟨by omega, by omega⟩
      have pf_fr : kIf (cols = 0 ∧ rows = 0 ∧ q = 0 ∧ lev = 0 ∧ ta = 0 ∧ ob = 0 ∧ fch = 0) (q = 0) := (fun h9 => h9.2.2.1)
      refine vx_ret ?_
      refine W.widen (k := 1) (n := 6) (by omega) (by omega) ?_
      exact W.iret (v := q) hx hb hr (fun t9 ht9 hW9 => ⟨⟨q, (), rfl, ⟨pf_i, pf_fr⟩, by rw [ht9]; exact hP, hD⟩, hS.F ht9⟩) hS.2.2 dX7_count_67
    · have x1 : kB wt 3 3 := ⟨Int.le_of_eq k1.symm, Int.le_of_eq k1⟩
      refine lv_tableIn (tgt := 68) (off := 67) hx hb dX7_count_1 (by omega) (by omega) (by rw [k1]; rfl) (by decide) ?_
      refine lv_aload_n hx hb dX7_count_68 rfl (lv_at hl 0 rfl) ?_
      refine va_get (D := D) (ci := 7) (v := .ref hp) (C := RX7) (T := TX7) (N := 5) hx hb hts in_X7 hown hK.1 hP 0 rfl rfl 3 (by decide) (hts _ mk_346) (fun _ h9 => h9) rfl dX7_count_69 ?_
      refine va_getN (D := D) (ci := 4) (v := .int lev) (C := RX4) (T := TX4) (N := 14) hx hb hts in_X4 hown hK.1 hP 1 rfl rfl 10 (by decide) (va_Nw.use rfl (hK.2 (.fieldLinkNest RX7 121 "KeyFrames$Picture" "level" "I" "KeyFrames") (by decide +kernel))) (fun _ h9 => h9) rfl dX7_count_72 ?_
      have pf_i : (0 ≤ wt.toInt ∧ wt.toInt ≤ 6) := ⟨by omega, by omega⟩
      have pf_fr : kIf (cols = 0 ∧ rows = 0 ∧ q = 0 ∧ lev = 0 ∧ ta = 0 ∧ ob = 0 ∧ fch = 0) (lev = 0) := (fun h9 => h9.2.2.2.1)
      refine vx_ret ?_
      refine W.widen (k := 1) (n := 6) (by omega) (by omega) ?_
      exact W.iret (v := lev) hx hb hr (fun t9 ht9 hW9 => ⟨⟨lev, (), rfl, ⟨pf_i, pf_fr⟩, by rw [ht9]; exact hP, hD⟩, hS.F ht9⟩) hS.2.2 dX7_count_75
    · have x1 : kB wt 4 4 := ⟨Int.le_of_eq k1.symm, Int.le_of_eq k1⟩
      refine lv_tableIn (tgt := 76) (off := 75) hx hb dX7_count_1 (by omega) (by omega) (by rw [k1]; rfl) (by decide) ?_
      refine lv_aload_n hx hb dX7_count_76 rfl (lv_at hl 0 rfl) ?_
      refine va_get (D := D) (ci := 7) (v := .ref hp) (C := RX7) (T := TX7) (N := 5) hx hb hts in_X7 hown hK.1 hP 0 rfl rfl 3 (by decide) (hts _ mk_346) (fun _ h9 => h9) rfl dX7_count_77 ?_
      refine va_getN (D := D) (ci := 4) (v := .int ta) (C := RX4) (T := TX4) (N := 14) hx hb hts in_X4 hown hK.1 hP 1 rfl rfl 11 (by decide) (va_Nw.use rfl (hK.2 (.fieldLinkNest RX7 124 "KeyFrames$Picture" "toldAnew" "I" "KeyFrames") (by decide +kernel))) (fun _ h9 => h9) rfl dX7_count_80 ?_
      have pf_i : (0 ≤ wt.toInt ∧ wt.toInt ≤ 6) := ⟨by omega, by omega⟩
      have pf_fr : kIf (cols = 0 ∧ rows = 0 ∧ q = 0 ∧ lev = 0 ∧ ta = 0 ∧ ob = 0 ∧ fch = 0) (ta = 0) := (fun h9 => h9.2.2.2.2.1)
      refine vx_ret ?_
      refine W.widen (k := 1) (n := 6) (by omega) (by omega) ?_
      exact W.iret (v := ta) hx hb hr (fun t9 ht9 hW9 => ⟨⟨ta, (), rfl, ⟨pf_i, pf_fr⟩, by rw [ht9]; exact hP, hD⟩, hS.F ht9⟩) hS.2.2 dX7_count_83
    · have x1 : kB wt 5 5 := ⟨Int.le_of_eq k1.symm, Int.le_of_eq k1⟩
      refine lv_tableIn (tgt := 84) (off := 83) hx hb dX7_count_1 (by omega) (by omega) (by rw [k1]; rfl) (by decide) ?_
      refine lv_aload_n hx hb dX7_count_84 rfl (lv_at hl 0 rfl) ?_
      refine va_get (D := D) (ci := 7) (v := .ref hp) (C := RX7) (T := TX7) (N := 5) hx hb hts in_X7 hown hK.1 hP 0 rfl rfl 3 (by decide) (hts _ mk_346) (fun _ h9 => h9) rfl dX7_count_85 ?_
      refine va_getN (D := D) (ci := 4) (v := .int ob) (C := RX4) (T := TX4) (N := 14) hx hb hts in_X4 hown hK.1 hP 1 rfl rfl 12 (by decide) (va_Nw.use rfl (hK.2 (.fieldLinkNest RX7 127 "KeyFrames$Picture" "octetsBeyond" "I" "KeyFrames") (by decide +kernel))) (fun _ h9 => h9) rfl dX7_count_88 ?_
      have pf_i : (0 ≤ wt.toInt ∧ wt.toInt ≤ 6) := ⟨by omega, by omega⟩
      have pf_fr : kIf (cols = 0 ∧ rows = 0 ∧ q = 0 ∧ lev = 0 ∧ ta = 0 ∧ ob = 0 ∧ fch = 0) (ob = 0) := (fun h9 => h9.2.2.2.2.2.1)
      refine vx_ret ?_
      refine W.widen (k := 1) (n := 6) (by omega) (by omega) ?_
      exact W.iret (v := ob) hx hb hr (fun t9 ht9 hW9 => ⟨⟨ob, (), rfl, ⟨pf_i, pf_fr⟩, by rw [ht9]; exact hP, hD⟩, hS.F ht9⟩) hS.2.2 dX7_count_91
    · have x1 : kB wt 6 6 := ⟨Int.le_of_eq k1.symm, Int.le_of_eq k1⟩
      refine lv_tableIn (tgt := 92) (off := 91) hx hb dX7_count_1 (by omega) (by omega) (by rw [k1]; rfl) (by decide) ?_
      refine lv_aload_n hx hb dX7_count_92 rfl (lv_at hl 0 rfl) ?_
      refine va_get (D := D) (ci := 7) (v := .ref hp) (C := RX7) (T := TX7) (N := 5) hx hb hts in_X7 hown hK.1 hP 0 rfl rfl 3 (by decide) (hts _ mk_346) (fun _ h9 => h9) rfl dX7_count_93 ?_
      refine va_getN (D := D) (ci := 4) (v := .int fch) (C := RX4) (T := TX4) (N := 14) hx hb hts in_X4 hown hK.1 hP 1 rfl rfl 13 (by decide) (va_Nw.use rfl (hK.2 (.fieldLinkNest RX7 130 "KeyFrames$Picture" "foursChanged" "I" "KeyFrames") (by decide +kernel))) (fun _ h9 => h9) rfl dX7_count_96 ?_
      have pf_i : (0 ≤ wt.toInt ∧ wt.toInt ≤ 6) := ⟨by omega, by omega⟩
      have pf_fr : kIf (cols = 0 ∧ rows = 0 ∧ q = 0 ∧ lev = 0 ∧ ta = 0 ∧ ob = 0 ∧ fch = 0) (fch = 0) := (fun h9 => h9.2.2.2.2.2.2)
      refine vx_ret ?_
      refine W.widen (k := 1) (n := 6) (by omega) (by omega) ?_
      exact W.iret (v := fch) hx hb hr (fun t9 ht9 hW9 => ⟨⟨fch, (), rfl, ⟨pf_i, pf_fr⟩, by rw [ht9]; exact hP, hD⟩, hS.F ht9⟩) hS.2.2 dX7_count_99
