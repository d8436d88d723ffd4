abbrev kw_X8_feed : List Cond := Cond.code yX8_feed cX8_feed 8 (some .int) :: kW
set_option maxHeartbeats 4000000 in
set_option maxRecDepth 100000 in
theorem lp_X8_feed_48 {p : Program} {l : Launch} {e : Env} {s : State} {m : MethodId} {args : Array Value} {below : List Frame} {meth : Method} {c : Code} {A : Nat → Prop} (D : va_G) (cI cJ cZ : ClassId) (hm hby hpb hwa hmn hcf hsa hro : Nat) (mrf : Int32) (msz : Int32) (mbg : Int32) (mrg : Int32) (mct : Int32) (mvl : Int32) (mpl : Int32) (mcl : Int32) (mrw : Int32) (mqt : Int32) (mlv : Int32) (mtl : Int32) (mbe : Int32) (mch : Int32) (mbt : Int64) (mby : Nat → Int32) (fn : Int32) (fa : Int32) (fb : Int32) (fc : Int32) (fd : Int32) (bsz : kB msz 0 600) (hx : p.tables.exec = Jvm.exec) (hb : c.code = cX8_feed) (hr : meth.sig.returnType = (some .int)) (hml : c.maxLocals = 8) (hown : s.vm.findClass RX8 = some m.cls) (hts : ∀ w ∈ kW, w.before args s = true) (hlocks : meth.locks = false) (hK : kK D cI cJ cZ s) (hA : ∀ q : Nat, s.heap.size ≤ q → A q) : ∀ n : Nat, ∀ (x6 : Int32) (msz2 : Int32) (mby2 : Nat → Int32), (16 - x6.toInt).toNat < n → (kB fn 0 16) → (kB x6 0 16) → (kB msz2 0 600) → (x6.toInt ≤ fn.toInt) → (msz2.toInt = msz.toInt + x6.toInt) → ((0 ≤ fn.toInt ∧ fn.toInt ≤ 16)) → (msz.toInt + fn.toInt ≤ 600) → (mby2 = wFe (wFk fa fb fc fd) msz.toInt.toNat x6.toInt.toNat mby) → ∀ (H : Heap) (locs : List Loc) (ls : Array Slot), va_P D vwCl [(hm, .inr (8, [.int 0, .ref hby, .int msz2, .int 0, .long mbt, .int mrg, .int mct, .int mvl, .int mpl, .int mcl, .int mrw, .int mqt, .int mlv, .int mtl, .int mbe, .int mch, .ref hpb, .ref hwa, .ref hmn, .ref hcf, .ref hsa, .ref hro])), (hby, .inl (cI, 600, .inl mby2))] H → va_D A [(hm, .inr (8, [.int 0, .ref hby, .int msz2, .int 0, .long mbt, .int mrg, .int mct, .int mvl, .int mpl, .int mcl, .int mrw, .int mqt, .int mlv, .int mtl, .int mbe, .int mch, .ref hpb, .ref hwa, .ref hmn, .ref hcf, .ref hsa, .ref hro])), (hby, .inl (cI, 600, .inl mby2))] → va_S A s.heap H locs → lv_has ls 8 [(0, .ref hm), (1, .int fn), (2, .int fa), (3, .int fb), (4, .int fc), (5, .int fd), (6, .int x6)] → W p l e (headSpec kw_X8_feed ({ frames := 1, cells := 0, slots := 0, locals := 22 })).room s m args below meth c H locs 0 0 (MQ below (va_Qi (fun (r : Int32) (u : Int32 × Int32 × Int32 × (Nat → Int32)) => (kB u.2.1 0 600) ∧ ((¬ (0 ≤ fn.toInt ∧ fn.toInt ≤ 16) ∧ u.1 = 1 ∧ r = 0 ∧ u.2.1 = msz ∧ u.2.2.1 = mbg ∧ u.2.2.2 = mby) ∨ ((0 ≤ fn.toInt ∧ fn.toInt ≤ 16) ∧ 600 < msz.toInt + fn.toInt ∧ u.1 = 2 ∧ r = 0 ∧ u.2.1 = msz ∧ u.2.2.1 = mbg ∧ u.2.2.2 = mby) ∨ ((0 ≤ fn.toInt ∧ fn.toInt ≤ 16) ∧ msz.toInt + fn.toInt ≤ 600 ∧ u.1 = 0 ∧ r = u.2.1 ∧ u.2.1.toInt = msz.toInt + fn.toInt ∧ u.2.2.1 = 0)) ∧ ((u.1 = 0 → u.2.2.2 = wFe (wFk fa fb fc fd) msz.toInt.toNat fn.toInt.toNat mby) ∧ (¬ u.1 = 0 → u.2.2.2 = mby))) (fun (u : Int32 × Int32 × Int32 × (Nat → Int32)) (t : State) => va_P D vwCl [(hm, .inr (8, [.int u.1, .ref hby, .int u.2.1, .int u.2.2.1, .long mbt, .int mrg, .int mct, .int mvl, .int mpl, .int mcl, .int mrw, .int mqt, .int mlv, .int mtl, .int mbe, .int mch, .ref hpb, .ref hwa, .ref hmn, .ref hcf, .ref hsa, .ref hro])), (hby, .inl (cI, 600, .inl u.2.2.2))] t.heap ∧ va_D A [(hm, .inr (8, [.int u.1, .ref hby, .int u.2.1, .int u.2.2.1, .long mbt, .int mrg, .int mct, .int mvl, .int mpl, .int mcl, .int mrw, .int mqt, .int mlv, .int mtl, .int mbe, .int mch, .ref hpb, .ref hwa, .ref hmn, .ref hcf, .ref hsa, .ref hro])), (hby, .inl (cI, 600, .inl u.2.2.2))]) A) args s 0 0 A) (F0 m 48 ls []) := by
  intro n
  induction n with
  | zero => intro x6 msz2 mby2 hmeas; exact absurd hmeas (Nat.not_lt_zero _)
  | succ n ih =>
    intro x6 msz2 mby2 hmeas bn b6 bsz2 l6 hz n16 f24 hfe H locs ls hP hD hS hl
    refine lv_iload hx hb dX8_feed_48 (lv_at hl 6 rfl) ?_
    refine lv_iload_n hx hb dX8_feed_50 rfl (lv_at hl 1 rfl) ?_
    refine lv_icmp_ge (tgt := 133) hx hb dX8_feed_51 (by decide) (fun c51 => ?_) (fun c51 => ?_)
    · have E51 : x6.toInt = fn.toInt := by have := Int32.le_iff_toInt_le.mp c51; omega
      have HF : mby2 = wFe (wFk fa fb fc fd) msz.toInt.toNat fn.toInt.toNat mby := by rw [hfe, E51]
      refine lv_aload_n hx hb dX8_feed_133 rfl (lv_at hl 0 rfl) ?_
      refine va_get (D := D) (ci := 8) (v := .int msz2) (C := RX8) (T := TX8) (N := 22) hx hb hts in_X8 hown hK.1 hP 0 rfl rfl 2 (by decide) (hts _ mk_184) (fun _ h9 => h9) rfl dX8_feed_134 ?_
      have pf_x : (¬ (0 ≤ fn.toInt ∧ fn.toInt ≤ 16) ∧ (0 : Int32) = 1 ∧ msz2 = 0 ∧ msz2 = msz ∧ (0 : Int32) = mbg ∧ mby2 = mby) ∨ ((0 ≤ fn.toInt ∧ fn.toInt ≤ 16) ∧ 600 < msz.toInt + fn.toInt ∧ (0 : Int32) = 2 ∧ msz2 = 0 ∧ msz2 = msz ∧ (0 : Int32) = mbg ∧ mby2 = mby) ∨ ((0 ≤ fn.toInt ∧ fn.toInt ≤ 16) ∧ msz.toInt + fn.toInt ≤ 600 ∧ (0 : Int32) = 0 ∧ msz2 = msz2 ∧ msz2.toInt = msz.toInt + fn.toInt ∧ (0 : Int32) = 0) := (Or.inr (Or.inr ⟨n16, f24, rfl, rfl, by omega, rfl⟩))
      have pf_w : ((0 : Int32) = 0 → mby2 = wFe (wFk fa fb fc fd) msz.toInt.toNat fn.toInt.toNat mby) ∧ (¬ (0 : Int32) = 0 → mby2 = mby) := ⟨fun _ => HF, fun h => absurd rfl h⟩
      exact W.iret (v := msz2) hx hb hr (fun t9 ht9 hW9 => ⟨⟨msz2, (0, msz2, 0, mby2), rfl, ⟨bsz2, pf_x, pf_w⟩, by rw [ht9]; exact hP, hD⟩, hS.F ht9⟩) hS.2.2 dX8_feed_137
    · have c51n : x6 < fn := kN_le c51
      have c51nx : kB x6 0 15 := kB_lt_l b6 bn c51n (by decide)
      have c51ny : kB fn 1 16 := kB_lt_r b6 bn c51n (by decide)
      refine lv_iload hx hb dX8_feed_54 (lv_at hl 6 rfl) ?_
      refine lv_iconst (v := 4) hx hb dX8_feed_56 (by decide) ?_
      refine lv_icmp_ge (tgt := 64) hx hb dX8_feed_57 (by decide) (fun c57 => ?_) (fun c57 => ?_)
      · have c57y : kB x6 4 15 := kB_le_r kc_4 c51nx c57 (by decide)
        refine lv_iload hx hb dX8_feed_64 (lv_at hl 6 rfl) ?_
        refine lv_bipush (v := 8) hx hb dX8_feed_66 (by decide) ?_
        refine lv_icmp_ge (tgt := 75) hx hb dX8_feed_68 (by decide) (fun c68 => ?_) (fun c68 => ?_)
        · have c68y : kB x6 8 15 := kB_le_r kc_8 c57y c68 (by decide)
          refine lv_iload hx hb dX8_feed_75 (lv_at hl 6 rfl) ?_
          refine lv_bipush (v := 12) hx hb dX8_feed_77 (by decide) ?_
          refine lv_icmp_ge (tgt := 87) hx hb dX8_feed_79 (by decide) (fun c79 => ?_) (fun c79 => ?_)
          · have c79y : kB x6 12 15 := kB_le_r kc_12 c68y c79 (by decide)
            refine lv_iload hx hb dX8_feed_87 (lv_at hl 5 rfl) ?_
            refine lv_istore (lv' := [(7, .int fd), (0, .ref hm), (1, .int fn), (2, .int fa), (3, .int fb), (4, .int fc), (5, .int fd), (6, .int x6)]) hx hb dX8_feed_89 hl (by decide) rfl (fun ls hl => ?_)
            refine lv_aload_n hx hb dX8_feed_91 rfl (lv_at hl 1 rfl) ?_
            refine va_get (D := D) (ci := 8) (v := .ref hby) (C := RX8) (T := TX8) (N := 22) hx hb hts in_X8 hown hK.1 hP 0 rfl rfl 1 (by decide) (hts _ mk_185) (fun _ h9 => h9) rfl dX8_feed_92 ?_
            refine lv_aload_n hx hb dX8_feed_95 rfl (lv_at hl 1 rfl) ?_
            have B96 : kB msz2 0 599 := ⟨by omega, by have := Int32.lt_iff_toInt_lt.mp c51n; omega⟩
            refine va_get (D := D) (ci := 8) (v := .int msz2) (C := RX8) (T := TX8) (N := 22) hx hb hts in_X8 hown hK.1 hP 0 rfl rfl 2 (by decide) (hts _ mk_184) (fun _ h9 => h9) rfl dX8_feed_96 ?_
            refine lv_iload hx hb dX8_feed_99 (lv_at hl 0 rfl) ?_
            refine lv_bipush (v := 24) hx hb dX8_feed_101 (by decide) ?_
            refine lv_bipush (v := 8) hx hb dX8_feed_103 (by decide) ?_
            refine lv_iload hx hb dX8_feed_105 (lv_at hl 7 rfl) ?_
            refine lv_iconst (v := 4) hx hb dX8_feed_107 (by decide) ?_
            refine lv_irem hx hb dX8_feed_108 (kB_ne0 kc_4 (Or.inl (by decide))) ?_
            refine lv_topi (fun v108 e108 => ?_)
            have b108 : kB v108 0 3 := kB_eq e108 (kB_rem c79y kc_4 (by decide))
            refine lv_imul hx hb dX8_feed_109 ?_
            refine lv_topi (fun v109 e109 => ?_)
            have b109 : kB v109 0 24 := kB_eq e109 (kB_cmul kc_8 b108 (by decide))
            refine lv_isub hx hb dX8_feed_110 ?_
            refine lv_topi (fun v110 e110 => ?_)
            have b110 : kB v110 0 24 := kB_eq e110 (kB_sub kc_24 b109 (by decide))
            refine lv_ishr hx hb dX8_feed_111 ?_
            refine lv_topi (fun v111 e111 => ?_)
            refine lv_sipush (v := 255) hx hb dX8_feed_112 (by decide) ?_
            refine lv_iand hx hb dX8_feed_115 ?_
            refine lv_topi (fun v115 e115 => ?_)
            have b115 : kB v115 0 255 := kB_eq e115 (kB_and 8 (by decide) (by decide))
            have L51 := Int32.lt_iff_toInt_lt.mp c51n
            have KB : v115 = wFk fa fb fc fd x6.toInt.toNat := by rw [e115, e111, kbyM (v := v110) (x := x6) ⟨by omega, by omega⟩ (by rw [e110, e109, e108])]; exact wFk_4 (by omega)
            refine va_iast hx hb hK.1 hP hD hS 1 0 rfl rfl (kB_in B96 (by decide)) dX8_feed_116 (fun H locs hP hD hS => ?_)
            have hP : va_P D vwCl [(hm, .inr (8, [.int 0, .ref hby, .int msz2, .int 0, .long mbt, .int mrg, .int mct, .int mvl, .int mpl, .int mcl, .int mrw, .int mqt, .int mlv, .int mtl, .int mbe, .int mch, .ref hpb, .ref hwa, .ref hmn, .ref hcf, .ref hsa, .ref hro])), (hby, .inl (cI, 600, .inl (upd mby2 msz2.toNatClampNeg v115)))] H := hP
            have hD : va_D A [(hm, .inr (8, [.int 0, .ref hby, .int msz2, .int 0, .long mbt, .int mrg, .int mct, .int mvl, .int mpl, .int mcl, .int mrw, .int mqt, .int mlv, .int mtl, .int mbe, .int mch, .ref hpb, .ref hwa, .ref hmn, .ref hcf, .ref hsa, .ref hro])), (hby, .inl (cI, 600, .inl (upd mby2 msz2.toNatClampNeg v115)))] := hD
            generalize hf116 : upd mby2 msz2.toNatClampNeg v115 = f116 at hP hD
            refine lv_aload_n hx hb dX8_feed_117 rfl (lv_at hl 1 rfl) ?_
            refine lv_dup hx hb dX8_feed_118 rfl ?_
            refine va_get (D := D) (ci := 8) (v := .int msz2) (C := RX8) (T := TX8) (N := 22) hx hb hts in_X8 hown hK.1 hP 0 rfl rfl 2 (by decide) (hts _ mk_184) (fun _ h9 => h9) rfl dX8_feed_119 ?_
            refine lv_iconst (v := 1) hx hb dX8_feed_122 (by decide) ?_
            refine lv_iadd hx hb dX8_feed_123 ?_
            refine lv_topi (fun v123 e123 => ?_)
            have b123 : kB v123 1 600 := kB_eq e123 (kB_add B96 kc_1 (by decide))
            have K123 : v123.toInt = msz2.toInt + 1 := by rw [e123]; exact kinc (kB_w B96 (by decide) (by decide))
            refine va_put (D := D) (ci := 8) (v := .int v123) (ty := .int) (C := RX8) (T := TX8) (N := 22) hx hb hts in_X8 tyX8 tyX8_ok nmX8 hown hK.1 hP hD hS 0 rfl rfl 2 (by decide) (hts _ mk_184) (fun _ h9 => h9) rfl (by decide +kernel) rfl rfl (Nat.le_of_ble_eq_true rfl) dX8_feed_124 (fun H locs hP hD hS => ?_)
            have hP : va_P D vwCl [(hm, .inr (8, [.int 0, .ref hby, .int v123, .int 0, .long mbt, .int mrg, .int mct, .int mvl, .int mpl, .int mcl, .int mrw, .int mqt, .int mlv, .int mtl, .int mbe, .int mch, .ref hpb, .ref hwa, .ref hmn, .ref hcf, .ref hsa, .ref hro])), (hby, .inl (cI, 600, .inl f116))] H := hP
            have hD : va_D A [(hm, .inr (8, [.int 0, .ref hby, .int v123, .int 0, .long mbt, .int mrg, .int mct, .int mvl, .int mpl, .int mcl, .int mrw, .int mqt, .int mlv, .int mtl, .int mbe, .int mch, .ref hpb, .ref hwa, .ref hmn, .ref hcf, .ref hsa, .ref hro])), (hby, .inl (cI, 600, .inl f116))] := hD
            obtain ⟨v127, e127⟩ : ∃ y : Int32, y = x6 + 1 := ⟨_, rfl⟩
            refine lv_iinc (v := v127) (lv' := [(6, .int v127), (7, .int fd), (0, .ref hm), (1, .int fn), (2, .int fa), (3, .int fb), (4, .int fc), (5, .int fd)]) hx hb dX8_feed_127 hl (k := 7) rfl (by rw [e127]; rfl) (by decide) rfl (fun ls hl => ?_)
            have b127 : kB v127 13 16 := kB_eq e127 (kB_add c79y kc_1 (by decide))
            have t127 : v127.toInt = x6.toInt + 1 := by rw [e127]; exact kinc (kB_w c79y (by decide) (by decide))
            refine lv_goto (tgt := 48) hx hb dX8_feed_130 (by decide) ?_
            exact ih v127 v123 f116 (by have := b127.1; have := b127.2; have := b123.1; have := b123.2; have := c79y.1; have := c79y.2; have := B96.1; have := B96.2; omega) (kB_w c51ny (by decide) (by decide)) (kB_w b127 (by decide) (by decide)) (kB_w b123 (by decide) (by decide)) (by rw [t127]; have := Int32.lt_iff_toInt_lt.mp c51n; omega) (by rw [t127, K123]; omega) n16 f24 (by rw [t127]; exact hf116.symm.trans (wFe_u bsz.1 b6.1 hz rfl hfe KB)) _ _ ls hP hD hS (lv_sub hl [2, 3, 4, 5, 6, 7, 0] rfl)
          · have c79n : x6 < 12 := kN_le c79
            have c79nx : kB x6 8 11 := kB_lt_l c68y kc_12 c79n (by decide)
            refine lv_iload hx hb dX8_feed_82 (lv_at hl 4 rfl) ?_
            refine lv_goto (tgt := 89) hx hb dX8_feed_84 (by decide) ?_
            refine lv_istore (lv' := [(7, .int fc), (0, .ref hm), (1, .int fn), (2, .int fa), (3, .int fb), (4, .int fc), (5, .int fd), (6, .int x6)]) hx hb dX8_feed_89 hl (by decide) rfl (fun ls hl => ?_)
            refine lv_aload_n hx hb dX8_feed_91 rfl (lv_at hl 1 rfl) ?_
            refine va_get (D := D) (ci := 8) (v := .ref hby) (C := RX8) (T := TX8) (N := 22) hx hb hts in_X8 hown hK.1 hP 0 rfl rfl 1 (by decide) (hts _ mk_185) (fun _ h9 => h9) rfl dX8_feed_92 ?_
            refine lv_aload_n hx hb dX8_feed_95 rfl (lv_at hl 1 rfl) ?_
            have B96 : kB msz2 0 599 := ⟨by omega, by have := Int32.lt_iff_toInt_lt.mp c51n; omega⟩
            refine va_get (D := D) (ci := 8) (v := .int msz2) (C := RX8) (T := TX8) (N := 22) hx hb hts in_X8 hown hK.1 hP 0 rfl rfl 2 (by decide) (hts _ mk_184) (fun _ h9 => h9) rfl dX8_feed_96 ?_
            refine lv_iload hx hb dX8_feed_99 (lv_at hl 0 rfl) ?_
            refine lv_bipush (v := 24) hx hb dX8_feed_101 (by decide) ?_
            refine lv_bipush (v := 8) hx hb dX8_feed_103 (by decide) ?_
            refine lv_iload hx hb dX8_feed_105 (lv_at hl 7 rfl) ?_
            refine lv_iconst (v := 4) hx hb dX8_feed_107 (by decide) ?_
            refine lv_irem hx hb dX8_feed_108 (kB_ne0 kc_4 (Or.inl (by decide))) ?_
            refine lv_topi (fun v108 e108 => ?_)
            have b108 : kB v108 0 3 := kB_eq e108 (kB_rem c79nx kc_4 (by decide))
            refine lv_imul hx hb dX8_feed_109 ?_
            refine lv_topi (fun v109 e109 => ?_)
            have b109 : kB v109 0 24 := kB_eq e109 (kB_cmul kc_8 b108 (by decide))
            refine lv_isub hx hb dX8_feed_110 ?_
            refine lv_topi (fun v110 e110 => ?_)
            have b110 : kB v110 0 24 := kB_eq e110 (kB_sub kc_24 b109 (by decide))
            refine lv_ishr hx hb dX8_feed_111 ?_
            refine lv_topi (fun v111 e111 => ?_)
            refine lv_sipush (v := 255) hx hb dX8_feed_112 (by decide) ?_
            refine lv_iand hx hb dX8_feed_115 ?_
            refine lv_topi (fun v115 e115 => ?_)
            have b115 : kB v115 0 255 := kB_eq e115 (kB_and 8 (by decide) (by decide))
            have L51 := Int32.lt_iff_toInt_lt.mp c51n
            have KB : v115 = wFk fa fb fc fd x6.toInt.toNat := by rw [e115, e111, kbyM (v := v110) (x := x6) ⟨by omega, by omega⟩ (by rw [e110, e109, e108])]; exact wFk_3 (by omega) (by omega)
            refine va_iast hx hb hK.1 hP hD hS 1 0 rfl rfl (kB_in B96 (by decide)) dX8_feed_116 (fun H locs hP hD hS => ?_)
            have hP : va_P D vwCl [(hm, .inr (8, [.int 0, .ref hby, .int msz2, .int 0, .long mbt, .int mrg, .int mct, .int mvl, .int mpl, .int mcl, .int mrw, .int mqt, .int mlv, .int mtl, .int mbe, .int mch, .ref hpb, .ref hwa, .ref hmn, .ref hcf, .ref hsa, .ref hro])), (hby, .inl (cI, 600, .inl (upd mby2 msz2.toNatClampNeg v115)))] H := hP
            have hD : va_D A [(hm, .inr (8, [.int 0, .ref hby, .int msz2, .int 0, .long mbt, .int mrg, .int mct, .int mvl, .int mpl, .int mcl, .int mrw, .int mqt, .int mlv, .int mtl, .int mbe, .int mch, .ref hpb, .ref hwa, .ref hmn, .ref hcf, .ref hsa, .ref hro])), (hby, .inl (cI, 600, .inl (upd mby2 msz2.toNatClampNeg v115)))] := hD
            generalize hf116 : upd mby2 msz2.toNatClampNeg v115 = f116 at hP hD
            refine lv_aload_n hx hb dX8_feed_117 rfl (lv_at hl 1 rfl) ?_
            refine lv_dup hx hb dX8_feed_118 rfl ?_
            refine va_get (D := D) (ci := 8) (v := .int msz2) (C := RX8) (T := TX8) (N := 22) hx hb hts in_X8 hown hK.1 hP 0 rfl rfl 2 (by decide) (hts _ mk_184) (fun _ h9 => h9) rfl dX8_feed_119 ?_
            refine lv_iconst (v := 1) hx hb dX8_feed_122 (by decide) ?_
            refine lv_iadd hx hb dX8_feed_123 ?_
            refine lv_topi (fun v123 e123 => ?_)
            have b123 : kB v123 1 600 := kB_eq e123 (kB_add B96 kc_1 (by decide))
            have K123 : v123.toInt = msz2.toInt + 1 := by rw [e123]; exact kinc (kB_w B96 (by decide) (by decide))
            refine va_put (D := D) (ci := 8) (v := .int v123) (ty := .int) (C := RX8) (T := TX8) (N := 22) hx hb hts in_X8 tyX8 tyX8_ok nmX8 hown hK.1 hP hD hS 0 rfl rfl 2 (by decide) (hts _ mk_184) (fun _ h9 => h9) rfl (by decide +kernel) rfl rfl (Nat.le_of_ble_eq_true rfl) dX8_feed_124 (fun H locs hP hD hS => ?_)
            have hP : va_P D vwCl [(hm, .inr (8, [.int 0, .ref hby, .int v123, .int 0, .long mbt, .int mrg, .int mct, .int mvl, .int mpl, .int mcl, .int mrw, .int mqt, .int mlv, .int mtl, .int mbe, .int mch, .ref hpb, .ref hwa, .ref hmn, .ref hcf, .ref hsa, .ref hro])), (hby, .inl (cI, 600, .inl f116))] H := hP
            have hD : va_D A [(hm, .inr (8, [.int 0, .ref hby, .int v123, .int 0, .long mbt, .int mrg, .int mct, .int mvl, .int mpl, .int mcl, .int mrw, .int mqt, .int mlv, .int mtl, .int mbe, .int mch, .ref hpb, .ref hwa, .ref hmn, .ref hcf, .ref hsa, .ref hro])), (hby, .inl (cI, 600, .inl f116))] := hD
            obtain ⟨v127, e127⟩ : ∃ y : Int32, y = x6 + 1 := ⟨_, rfl⟩
            refine lv_iinc (v := v127) (lv' := [(6, .int v127), (7, .int fc), (0, .ref hm), (1, .int fn), (2, .int fa), (3, .int fb), (4, .int fc), (5, .int fd)]) hx hb dX8_feed_127 hl (k := 7) rfl (by rw [e127]; rfl) (by decide) rfl (fun ls hl => ?_)
            have b127 : kB v127 9 12 := kB_eq e127 (kB_add c79nx kc_1 (by decide))
            have t127 : v127.toInt = x6.toInt + 1 := by rw [e127]; exact kinc (kB_w c79nx (by decide) (by decide))
            refine lv_goto (tgt := 48) hx hb dX8_feed_130 (by decide) ?_
            exact ih v127 v123 f116 (by have := b127.1; have := b127.2; have := b123.1; have := b123.2; have := c79nx.1; have := c79nx.2; have := B96.1; have := B96.2; omega) (kB_w c51ny (by decide) (by decide)) (kB_w b127 (by decide) (by decide)) (kB_w b123 (by decide) (by decide)) (by rw [t127]; have := Int32.lt_iff_toInt_lt.mp c51n; omega) (by rw [t127, K123]; omega) n16 f24 (by rw [t127]; exact hf116.symm.trans (wFe_u bsz.1 b6.1 hz rfl hfe KB)) _ _ ls hP hD hS (lv_sub hl [2, 3, 4, 5, 6, 7, 0] rfl)
        · have c68n : x6 < 8 := kN_le c68
          have c68nx : kB x6 4 7 := kB_lt_l c57y kc_8 c68n (by decide)
          refine lv_iload_n hx hb dX8_feed_71 rfl (lv_at hl 3 rfl) ?_
          refine lv_goto (tgt := 89) hx hb dX8_feed_72 (by decide) ?_
          refine lv_istore (lv' := [(7, .int fb), (0, .ref hm), (1, .int fn), (2, .int fa), (3, .int fb), (4, .int fc), (5, .int fd), (6, .int x6)]) hx hb dX8_feed_89 hl (by decide) rfl (fun ls hl => ?_)
          refine lv_aload_n hx hb dX8_feed_91 rfl (lv_at hl 1 rfl) ?_
          refine va_get (D := D) (ci := 8) (v := .ref hby) (C := RX8) (T := TX8) (N := 22) hx hb hts in_X8 hown hK.1 hP 0 rfl rfl 1 (by decide) (hts _ mk_185) (fun _ h9 => h9) rfl dX8_feed_92 ?_
          refine lv_aload_n hx hb dX8_feed_95 rfl (lv_at hl 1 rfl) ?_
          have B96 : kB msz2 0 599 := ⟨by omega, by have := Int32.lt_iff_toInt_lt.mp c51n; omega⟩
          refine va_get (D := D) (ci := 8) (v := .int msz2) (C := RX8) (T := TX8) (N := 22) hx hb hts in_X8 hown hK.1 hP 0 rfl rfl 2 (by decide) (hts _ mk_184) (fun _ h9 => h9) rfl dX8_feed_96 ?_
          refine lv_iload hx hb dX8_feed_99 (lv_at hl 0 rfl) ?_
          refine lv_bipush (v := 24) hx hb dX8_feed_101 (by decide) ?_
          refine lv_bipush (v := 8) hx hb dX8_feed_103 (by decide) ?_
          refine lv_iload hx hb dX8_feed_105 (lv_at hl 7 rfl) ?_
          refine lv_iconst (v := 4) hx hb dX8_feed_107 (by decide) ?_
          refine lv_irem hx hb dX8_feed_108 (kB_ne0 kc_4 (Or.inl (by decide))) ?_
          refine lv_topi (fun v108 e108 => ?_)
          have b108 : kB v108 0 3 := kB_eq e108 (kB_rem c68nx kc_4 (by decide))
          refine lv_imul hx hb dX8_feed_109 ?_
          refine lv_topi (fun v109 e109 => ?_)
          have b109 : kB v109 0 24 := kB_eq e109 (kB_cmul kc_8 b108 (by decide))
          refine lv_isub hx hb dX8_feed_110 ?_
          refine lv_topi (fun v110 e110 => ?_)
          have b110 : kB v110 0 24 := kB_eq e110 (kB_sub kc_24 b109 (by decide))
          refine lv_ishr hx hb dX8_feed_111 ?_
          refine lv_topi (fun v111 e111 => ?_)
          refine lv_sipush (v := 255) hx hb dX8_feed_112 (by decide) ?_
          refine lv_iand hx hb dX8_feed_115 ?_
          refine lv_topi (fun v115 e115 => ?_)
          have b115 : kB v115 0 255 := kB_eq e115 (kB_and 8 (by decide) (by decide))
          have L51 := Int32.lt_iff_toInt_lt.mp c51n
          have KB : v115 = wFk fa fb fc fd x6.toInt.toNat := by rw [e115, e111, kbyM (v := v110) (x := x6) ⟨by omega, by omega⟩ (by rw [e110, e109, e108])]; exact wFk_2 (by omega) (by omega)
          refine va_iast hx hb hK.1 hP hD hS 1 0 rfl rfl (kB_in B96 (by decide)) dX8_feed_116 (fun H locs hP hD hS => ?_)
          have hP : va_P D vwCl [(hm, .inr (8, [.int 0, .ref hby, .int msz2, .int 0, .long mbt, .int mrg, .int mct, .int mvl, .int mpl, .int mcl, .int mrw, .int mqt, .int mlv, .int mtl, .int mbe, .int mch, .ref hpb, .ref hwa, .ref hmn, .ref hcf, .ref hsa, .ref hro])), (hby, .inl (cI, 600, .inl (upd mby2 msz2.toNatClampNeg v115)))] H := hP
          have hD : va_D A [(hm, .inr (8, [.int 0, .ref hby, .int msz2, .int 0, .long mbt, .int mrg, .int mct, .int mvl, .int mpl, .int mcl, .int mrw, .int mqt, .int mlv, .int mtl, .int mbe, .int mch, .ref hpb, .ref hwa, .ref hmn, .ref hcf, .ref hsa, .ref hro])), (hby, .inl (cI, 600, .inl (upd mby2 msz2.toNatClampNeg v115)))] := hD
          generalize hf116 : upd mby2 msz2.toNatClampNeg v115 = f116 at hP hD
          refine lv_aload_n hx hb dX8_feed_117 rfl (lv_at hl 1 rfl) ?_
          refine lv_dup hx hb dX8_feed_118 rfl ?_
          refine va_get (D := D) (ci := 8) (v := .int msz2) (C := RX8) (T := TX8) (N := 22) hx hb hts in_X8 hown hK.1 hP 0 rfl rfl 2 (by decide) (hts _ mk_184) (fun _ h9 => h9) rfl dX8_feed_119 ?_
          refine lv_iconst (v := 1) hx hb dX8_feed_122 (by decide) ?_
          refine lv_iadd hx hb dX8_feed_123 ?_
          refine lv_topi (fun v123 e123 => ?_)
          have b123 : kB v123 1 600 := kB_eq e123 (kB_add B96 kc_1 (by decide))
          have K123 : v123.toInt = msz2.toInt + 1 := by rw [e123]; exact kinc (kB_w B96 (by decide) (by decide))
          refine va_put (D := D) (ci := 8) (v := .int v123) (ty := .int) (C := RX8) (T := TX8) (N := 22) hx hb hts in_X8 tyX8 tyX8_ok nmX8 hown hK.1 hP hD hS 0 rfl rfl 2 (by decide) (hts _ mk_184) (fun _ h9 => h9) rfl (by decide +kernel) rfl rfl (Nat.le_of_ble_eq_true rfl) dX8_feed_124 (fun H locs hP hD hS => ?_)
          have hP : va_P D vwCl [(hm, .inr (8, [.int 0, .ref hby, .int v123, .int 0, .long mbt, .int mrg, .int mct, .int mvl, .int mpl, .int mcl, .int mrw, .int mqt, .int mlv, .int mtl, .int mbe, .int mch, .ref hpb, .ref hwa, .ref hmn, .ref hcf, .ref hsa, .ref hro])), (hby, .inl (cI, 600, .inl f116))] H := hP
          have hD : va_D A [(hm, .inr (8, [.int 0, .ref hby, .int v123, .int 0, .long mbt, .int mrg, .int mct, .int mvl, .int mpl, .int mcl, .int mrw, .int mqt, .int mlv, .int mtl, .int mbe, .int mch, .ref hpb, .ref hwa, .ref hmn, .ref hcf, .ref hsa, .ref hro])), (hby, .inl (cI, 600, .inl f116))] := hD
          obtain ⟨v127, e127⟩ : ∃ y : Int32, y = x6 + 1 := ⟨_, rfl⟩
          refine lv_iinc (v := v127) (lv' := [(6, .int v127), (7, .int fb), (0, .ref hm), (1, .int fn), (2, .int fa), (3, .int fb), (4, .int fc), (5, .int fd)]) hx hb dX8_feed_127 hl (k := 7) rfl (by rw [e127]; rfl) (by decide) rfl (fun ls hl => ?_)
          have b127 : kB v127 5 8 := kB_eq e127 (kB_add c68nx kc_1 (by decide))
          have t127 : v127.toInt = x6.toInt + 1 := by rw [e127]; exact kinc (kB_w c68nx (by decide) (by decide))
          refine lv_goto (tgt := 48) hx hb dX8_feed_130 (by decide) ?_
          exact ih v127 v123 f116 (by have := b127.1; have := b127.2; have := b123.1; have := b123.2; have := c68nx.1; have := c68nx.2; have := B96.1; have := B96.2; omega) (kB_w c51ny (by decide) (by decide)) (kB_w b127 (by decide) (by decide)) (kB_w b123 (by decide) (by decide)) (by rw [t127]; have := Int32.lt_iff_toInt_lt.mp c51n; omega) (by rw [t127, K123]; omega) n16 f24 (by rw [t127]; exact hf116.symm.trans (wFe_u bsz.1 b6.1 hz rfl hfe KB)) _ _ ls hP hD hS (lv_sub hl [2, 3, 4, 5, 6, 7, 0] rfl)
      · have c57n : x6 < 4 := kN_le c57
        have c57nx : kB x6 0 3 := kB_lt_l c51nx kc_4 c57n (by decide)
        refine lv_iload_n hx hb dX8_feed_60 rfl (lv_at hl 2 rfl) ?_
        refine lv_goto (tgt := 89) hx hb dX8_feed_61 (by decide) ?_
        refine lv_istore (lv' := [(7, .int fa), (0, .ref hm), (1, .int fn), (2, .int fa), (3, .int fb), (4, .int fc), (5, .int fd), (6, .int x6)]) hx hb dX8_feed_89 hl (by decide) rfl (fun ls hl => ?_)
        refine lv_aload_n hx hb dX8_feed_91 rfl (lv_at hl 1 rfl) ?_
        refine va_get (D := D) (ci := 8) (v := .ref hby) (C := RX8) (T := TX8) (N := 22) hx hb hts in_X8 hown hK.1 hP 0 rfl rfl 1 (by decide) (hts _ mk_185) (fun _ h9 => h9) rfl dX8_feed_92 ?_
        refine lv_aload_n hx hb dX8_feed_95 rfl (lv_at hl 1 rfl) ?_
        have B96 : kB msz2 0 599 := ⟨by omega, by have := Int32.lt_iff_toInt_lt.mp c51n; omega⟩
        refine va_get (D := D) (ci := 8) (v := .int msz2) (C := RX8) (T := TX8) (N := 22) hx hb hts in_X8 hown hK.1 hP 0 rfl rfl 2 (by decide) (hts _ mk_184) (fun _ h9 => h9) rfl dX8_feed_96 ?_
        refine lv_iload hx hb dX8_feed_99 (lv_at hl 0 rfl) ?_
        refine lv_bipush (v := 24) hx hb dX8_feed_101 (by decide) ?_
        refine lv_bipush (v := 8) hx hb dX8_feed_103 (by decide) ?_
        refine lv_iload hx hb dX8_feed_105 (lv_at hl 7 rfl) ?_
        refine lv_iconst (v := 4) hx hb dX8_feed_107 (by decide) ?_
        refine lv_irem hx hb dX8_feed_108 (kB_ne0 kc_4 (Or.inl (by decide))) ?_
        refine lv_topi (fun v108 e108 => ?_)
        have b108 : kB v108 0 3 := kB_eq e108 (kB_rem c57nx kc_4 (by decide))
        refine lv_imul hx hb dX8_feed_109 ?_
        refine lv_topi (fun v109 e109 => ?_)
        have b109 : kB v109 0 24 := kB_eq e109 (kB_cmul kc_8 b108 (by decide))
        refine lv_isub hx hb dX8_feed_110 ?_
        refine lv_topi (fun v110 e110 => ?_)
        have b110 : kB v110 0 24 := kB_eq e110 (kB_sub kc_24 b109 (by decide))
        refine lv_ishr hx hb dX8_feed_111 ?_
        refine lv_topi (fun v111 e111 => ?_)
        refine lv_sipush (v := 255) hx hb dX8_feed_112 (by decide) ?_
        refine lv_iand hx hb dX8_feed_115 ?_
        refine lv_topi (fun v115 e115 => ?_)
        have b115 : kB v115 0 255 := kB_eq e115 (kB_and 8 (by decide) (by decide))
        have L51 := Int32.lt_iff_toInt_lt.mp c51n
        have KB : v115 = wFk fa fb fc fd x6.toInt.toNat := by rw [e115, e111, kbyM (v := v110) (x := x6) ⟨by omega, by omega⟩ (by rw [e110, e109, e108])]; exact wFk_1 (by omega)
        refine va_iast hx hb hK.1 hP hD hS 1 0 rfl rfl (kB_in B96 (by decide)) dX8_feed_116 (fun H locs hP hD hS => ?_)
        have hP : va_P D vwCl [(hm, .inr (8, [.int 0, .ref hby, .int msz2, .int 0, .long mbt, .int mrg, .int mct, .int mvl, .int mpl, .int mcl, .int mrw, .int mqt, .int mlv, .int mtl, .int mbe, .int mch, .ref hpb, .ref hwa, .ref hmn, .ref hcf, .ref hsa, .ref hro])), (hby, .inl (cI, 600, .inl (upd mby2 msz2.toNatClampNeg v115)))] H := hP
        have hD : va_D A [(hm, .inr (8, [.int 0, .ref hby, .int msz2, .int 0, .long mbt, .int mrg, .int mct, .int mvl, .int mpl, .int mcl, .int mrw, .int mqt, .int mlv, .int mtl, .int mbe, .int mch, .ref hpb, .ref hwa, .ref hmn, .ref hcf, .ref hsa, .ref hro])), (hby, .inl (cI, 600, .inl (upd mby2 msz2.toNatClampNeg v115)))] := hD
        generalize hf116 : upd mby2 msz2.toNatClampNeg v115 = f116 at hP hD
        refine lv_aload_n hx hb dX8_feed_117 rfl (lv_at hl 1 rfl) ?_
        refine lv_dup hx hb dX8_feed_118 rfl ?_
        refine va_get (D := D) (ci := 8) (v := .int msz2) (C := RX8) (T := TX8) (N := 22) hx hb hts in_X8 hown hK.1 hP 0 rfl rfl 2 (by decide) (hts _ mk_184) (fun _ h9 => h9) rfl dX8_feed_119 ?_
        refine lv_iconst (v := 1) hx hb dX8_feed_122 (by decide) ?_
        refine lv_iadd hx hb dX8_feed_123 ?_
        refine lv_topi (fun v123 e123 => ?_)
        have b123 : kB v123 1 600 := kB_eq e123 (kB_add B96 kc_1 (by decide))
        have K123 : v123.toInt = msz2.toInt + 1 := by rw [e123]; exact kinc (kB_w B96 (by decide) (by decide))
        refine va_put (D := D) (ci := 8) (v := .int v123) (ty := .int) (C := RX8) (T := TX8) (N := 22) hx hb hts in_X8 tyX8 tyX8_ok nmX8 hown hK.1 hP hD hS 0 rfl rfl 2 (by decide) (hts _ mk_184) (fun _ h9 => h9) rfl (by decide +kernel) rfl rfl (Nat.le_of_ble_eq_true rfl) dX8_feed_124 (fun H locs hP hD hS => ?_)
        have hP : va_P D vwCl [(hm, .inr (8, [.int 0, .ref hby, .int v123, .int 0, .long mbt, .int mrg, .int mct, .int mvl, .int mpl, .int mcl, .int mrw, .int mqt, .int mlv, .int mtl, .int mbe, .int mch, .ref hpb, .ref hwa, .ref hmn, .ref hcf, .ref hsa, .ref hro])), (hby, .inl (cI, 600, .inl f116))] H := hP
        have hD : va_D A [(hm, .inr (8, [.int 0, .ref hby, .int v123, .int 0, .long mbt, .int mrg, .int mct, .int mvl, .int mpl, .int mcl, .int mrw, .int mqt, .int mlv, .int mtl, .int mbe, .int mch, .ref hpb, .ref hwa, .ref hmn, .ref hcf, .ref hsa, .ref hro])), (hby, .inl (cI, 600, .inl f116))] := hD
        obtain ⟨v127, e127⟩ : ∃ y : Int32, y = x6 + 1 := ⟨_, rfl⟩
        refine lv_iinc (v := v127) (lv' := [(6, .int v127), (7, .int fa), (0, .ref hm), (1, .int fn), (2, .int fa), (3, .int fb), (4, .int fc), (5, .int fd)]) hx hb dX8_feed_127 hl (k := 7) rfl (by rw [e127]; rfl) (by decide) rfl (fun ls hl => ?_)
        have b127 : kB v127 1 4 := kB_eq e127 (kB_add c57nx kc_1 (by decide))
        have t127 : v127.toInt = x6.toInt + 1 := by rw [e127]; exact kinc (kB_w c57nx (by decide) (by decide))
        refine lv_goto (tgt := 48) hx hb dX8_feed_130 (by decide) ?_
        exact ih v127 v123 f116 (by have := b127.1; have := b127.2; have := b123.1; have := b123.2; have := c57nx.1; have := c57nx.2; have := B96.1; have := B96.2; omega) (kB_w c51ny (by decide) (by decide)) (kB_w b127 (by decide) (by decide)) (kB_w b123 (by decide) (by decide)) (by rw [t127]; have := Int32.lt_iff_toInt_lt.mp c51n; omega) (by rw [t127, K123]; omega) n16 f24 (by rw [t127]; exact hf116.symm.trans (wFe_u bsz.1 b6.1 hz rfl hfe KB)) _ _ ls hP hD hS (lv_sub hl [2, 3, 4, 5, 6, 7, 0] rfl)
set_option maxHeartbeats 4000000 in
set_option maxRecDepth 100000 in
theorem c_X8_feed (l : Launch) (D : va_G) (cI cJ cZ : ClassId) (hm hby hpb hwa hmn hcf hsa hro : Nat) (mrf : Int32) (msz : Int32) (mbg : Int32) (mrg : Int32) (mct : Int32) (mvl : Int32) (mpl : Int32) (mcl : Int32) (mrw : Int32) (mqt : Int32) (mlv : Int32) (mtl : Int32) (mbe : Int32) (mch : Int32) (mbt : Int64) (mby : Nat → Int32) (fn : Int32) (fa : Int32) (fb : Int32) (fc : Int32) (fd : Int32) (bsz : kB msz 0 600) (hpz : Nat) : Met l yX8_feed kw_X8_feed ({ frames := 1, cells := 0, slots := 0, locals := 22 }) (va_Pc [.ref hm, .int fn, .int fa, .int fb, .int fc, .int fd] (fun U => U.heap.size = hpz ∧ va_P D vwCl [(hm, .inr (8, [.int mrf, .ref hby, .int msz, .int mbg, .long mbt, .int mrg, .int mct, .int mvl, .int mpl, .int mcl, .int mrw, .int mqt, .int mlv, .int mtl, .int mbe, .int mch, .ref hpb, .ref hwa, .ref hmn, .ref hcf, .ref hsa, .ref hro])), (hby, .inl (cI, 600, .inl mby))] U.heap ∧ kK D cI cJ cZ U ∧ va_D (fun _ => True) [(hm, .inr (8, [.int mrf, .ref hby, .int msz, .int mbg, .long mbt, .int mrg, .int mct, .int mvl, .int mpl, .int mcl, .int mrw, .int mqt, .int mlv, .int mtl, .int mbe, .int mch, .ref hpb, .ref hwa, .ref hmn, .ref hcf, .ref hsa, .ref hro])), (hby, .inl (cI, 600, .inl mby))])) (va_Qi (fun (r : Int32) (u : Int32 × Int32 × Int32 × (Nat → Int32)) => (kB u.2.1 0 600) ∧ ((¬ (0 ≤ fn.toInt ∧ fn.toInt ≤ 16) ∧ u.1 = 1 ∧ r = 0 ∧ u.2.1 = msz ∧ u.2.2.1 = mbg ∧ u.2.2.2 = mby) ∨ ((0 ≤ fn.toInt ∧ fn.toInt ≤ 16) ∧ 600 < msz.toInt + fn.toInt ∧ u.1 = 2 ∧ r = 0 ∧ u.2.1 = msz ∧ u.2.2.1 = mbg ∧ u.2.2.2 = mby) ∨ ((0 ≤ fn.toInt ∧ fn.toInt ≤ 16) ∧ msz.toInt + fn.toInt ≤ 600 ∧ u.1 = 0 ∧ r = u.2.1 ∧ u.2.1.toInt = msz.toInt + fn.toInt ∧ u.2.2.1 = 0)) ∧ ((u.1 = 0 → u.2.2.2 = wFe (wFk fa fb fc fd) msz.toInt.toNat fn.toInt.toNat mby) ∧ (¬ u.1 = 0 → u.2.2.2 = mby))) (fun (u : Int32 × Int32 × Int32 × (Nat → Int32)) (t : State) => va_P D vwCl [(hm, .inr (8, [.int u.1, .ref hby, .int u.2.1, .int u.2.2.1, .long mbt, .int mrg, .int mct, .int mvl, .int mpl, .int mcl, .int mrw, .int mqt, .int mlv, .int mtl, .int mbe, .int mch, .ref hpb, .ref hwa, .ref hmn, .ref hcf, .ref hsa, .ref hro])), (hby, .inl (cI, 600, .inl u.2.2.2))] t.heap ∧ va_D (va_A [(hm, .inr (8, [.int mrf, .ref hby, .int msz, .int mbg, .long mbt, .int mrg, .int mct, .int mvl, .int mpl, .int mcl, .int mrw, .int mqt, .int mlv, .int mtl, .int mbe, .int mch, .ref hpb, .ref hwa, .ref hmn, .ref hcf, .ref hsa, .ref hro])), (hby, .inl (cI, 600, .inl mby))] hpz) [(hm, .inr (8, [.int u.1, .ref hby, .int u.2.1, .int u.2.2.1, .long mbt, .int mrg, .int mct, .int mvl, .int mpl, .int mcl, .int mrw, .int mqt, .int mlv, .int mtl, .int mbe, .int mch, .ref hpb, .ref hwa, .ref hmn, .ref hcf, .ref hsa, .ref hro])), (hby, .inl (cI, 600, .inl u.2.2.2))]) (va_A [(hm, .inr (8, [.int mrf, .ref hby, .int msz, .int mbg, .long mbt, .int mrg, .int mct, .int mvl, .int mpl, .int mcl, .int mrw, .int mqt, .int mlv, .int mtl, .int mbe, .int mch, .ref hpb, .ref hwa, .ref hmn, .ref hcf, .ref hsa, .ref hro])), (hby, .inl (cI, 600, .inl mby))] hpz)) 0 0 (va_A [(hm, .inr (8, [.int mrf, .ref hby, .int msz, .int mbg, .long mbt, .int mrg, .int mct, .int mvl, .int mpl, .int mcl, .int mrw, .int mqt, .int mlv, .int mtl, .int mbe, .int mch, .ref hpb, .ref hwa, .ref hmn, .ref hcf, .ref hsa, .ref hro])), (hby, .inl (cI, 600, .inl mby))] hpz) := by
  refine Met.ofW (cc := cX8_feed) (maxL := 8) (ret := (some .int)) (by decide) rfl ?_
  intro p e s m args below meth c s₁ B hml hv
  obtain ⟨rfl, hsz, hP, hK, hD0⟩ := hv
  have hx := B.exec
  have hb := B.bytes
  have hr := B.returns
  have hts := fun (w : Cond) (h : w ∈ kW) => atoms_spec (ws := kw_X8_feed) B.pre w (List.mem_cons_of_mem _ h)
  have hown : s.vm.findClass RX8 = some m.cls := findClass_of_methodNamed B.named
  have hlocks := B.notSynchronized
  subst hsz
  have hD := hD0.self (sz := s.heap.size)
  generalize hAe : va_A [(hm, .inr (8, [.int mrf, .ref hby, .int msz, .int mbg, .long mbt, .int mrg, .int mct, .int mvl, .int mpl, .int mcl, .int mrw, .int mqt, .int mlv, .int mtl, .int mbe, .int mch, .ref hpb, .ref hwa, .ref hmn, .ref hcf, .ref hsa, .ref hro])), (hby, .inl (cI, 600, .inl mby))] s.heap.size = A at hD ⊢
  have hA : ∀ q : Nat, s.heap.size ≤ q → A q := fun q h => by rw [← hAe]; exact Or.inr h
  have hS : va_S A s.heap s.heap [] := va_S.rf
  have hP : va_P D vwCl [(hm, .inr (8, [.int mrf, .ref hby, .int msz, .int mbg, .long mbt, .int mrg, .int mct, .int mvl, .int mpl, .int mcl, .int mrw, .int mqt, .int mlv, .int mtl, .int mbe, .int mch, .ref hpb, .ref hwa, .ref hmn, .ref hcf, .ref hsa, .ref hro])), (hby, .inl (cI, 600, .inl mby))] s.heap := hP
  have hl := lv_entry ([.ref hm, .int fn, .int fa, .int fb, .int fc, .int fd]) (n := 8) (Nat.le_of_ble_eq_true rfl)
  rw [lg_entry_eq]
  generalize (lg_sl ([.ref hm, .int fn, .int fa, .int fb, .int fc, .int fd]) ++ List.replicate (8 - (lg_sl ([.ref hm, .int fn, .int fa, .int fb, .int fc, .int fd])).length) Slot.unset).toArray = ls at hl ⊢
  have hl : lv_has ls 8 [(0, .ref hm), (1, .int fn), (2, .int fa), (3, .int fb), (4, .int fc), (5, .int fd)] := hl
  refine lv_aload_n hx hb dX8_feed_0 rfl (lv_at hl 0 rfl) ?_
  refine lv_iload_n hx hb dX8_feed_1 rfl (lv_at hl 1 rfl) ?_
  refine lv_iconst (v := 0) hx hb dX8_feed_2 (by decide) ?_
  refine lv_bipush (v := 16) hx hb dX8_feed_3 (by decide) ?_
  have hPc := hP.sub (ws' := []) [] rfl
  have hDc := hD.sub (ws' := []) [] (by decide) rfl
  have hFc := va_free (wc := []) hD hS hA [] rfl
  refine va_calli (va_runS (As := [.int fn, .int 0, .int 16]) (rest := [.ref hm]) ⟨hx, hb, hml, hown, hts⟩ (c_X8_isIn l D cI cJ cZ fn 0 16 (s.heap).size) (cwS 3 hts (kg_S mk_369 mk_370 mk_189 mk_371) rfl rfl rfl (by decide +kernel) ⟨Nat.le_of_ble_eq_true rfl, Nat.le_of_ble_eq_true rfl⟩) ⟨fun a U g mk q => by obtain ⟨q0, q1, qP, qK, qD⟩ := q; exact ⟨q0, q1, qP, kK.call qK, qD⟩, fun U hU hW => ⟨rfl, by rw [hU], by rw [hU]; exact hPc, kK.warm hW hK, hDc.weaken (fun _ _ _ _ => trivial)⟩⟩ rfl rfl hl.1 rfl (lv_room (Nat.le_of_ble_eq_true rfl)) dX8_feed_5 ⟨Nat.zero_le _, Nat.zero_le _⟩) hS (fun q _ h => hFc q h) hFc (fun r5 u t9 H1 locs ht9 hvm9 hw9 hB9 hz9 hk9 hS => ?_)
  obtain ⟨hP1, hD1⟩ := hB9
  rw [ht9] at hP1
  have hP1 : va_P D vwCl [] H1 := hP1
  obtain ⟨hP, hD⟩ := va_join (wr := [(hm, .inr (8, [.int mrf, .ref hby, .int msz, .int mbg, .long mbt, .int mrg, .int mct, .int mvl, .int mpl, .int mcl, .int mrw, .int mqt, .int mlv, .int mtl, .int mbe, .int mch, .ref hpb, .ref hwa, .ref hmn, .ref hcf, .ref hsa, .ref hro])), (hby, .inl (cI, 600, .inl mby))]) (w1 := []) hP hD [] [0, 1] rfl rfl (by decide) (by decide) hk9 hFc hP1 hD1
  have hP := hP.sub (ws' := [(hm, .inr (8, [.int mrf, .ref hby, .int msz, .int mbg, .long mbt, .int mrg, .int mct, .int mvl, .int mpl, .int mcl, .int mrw, .int mqt, .int mlv, .int mtl, .int mbe, .int mch, .ref hpb, .ref hwa, .ref hmn, .ref hcf, .ref hsa, .ref hro])), (hby, .inl (cI, 600, .inl mby))]) [0, 1] rfl
  have hD := hD.sub (ws' := [(hm, .inr (8, [.int mrf, .ref hby, .int msz, .int mbg, .long mbt, .int mrg, .int mct, .int mvl, .int mpl, .int mcl, .int mrw, .int mqt, .int mlv, .int mtl, .int mbe, .int mch, .ref hpb, .ref hwa, .ref hmn, .ref hcf, .ref hsa, .ref hro])), (hby, .inl (cI, 600, .inl mby))]) [0, 1] (by decide) rfl
  generalize H1 = H at hP hS ⊢
  obtain ⟨q5_0, q5_1, q5_2⟩ := hw9
  have q5_0 : kB r5 0 1 := q5_0
  have q5_1 : r5 = if (0 : Int32).toInt ≤ fn.toInt ∧ fn.toInt ≤ (16 : Int32).toInt then 1 else 0 := q5_1
  have q5_2 : ¬ r5 = 0 → (0 : Int32).toInt ≤ fn.toInt ∧ fn.toInt ≤ (16 : Int32).toInt := q5_2
  refine lv_if_ne (tgt := 15) hx hb dX8_feed_8 (by decide) (fun c8 => ?_) (fun c8 => ?_)
  · have c8x : kB r5 1 1 := kB_nlo q5_0 c8 kc_0 (by decide)
    have N16 : (0 ≤ fn.toInt ∧ fn.toInt ≤ 16) := by have h9 := q5_2 c8; rw [show (0 : Int32).toInt = 0 from by decide, show (16 : Int32).toInt = 16 from by decide] at h9; exact h9
    have BN : kB fn 0 16 := N16
    refine lv_aload_n hx hb dX8_feed_15 rfl (lv_at hl 0 rfl) ?_
    refine va_get (D := D) (ci := 8) (v := .int msz) (C := RX8) (T := TX8) (N := 22) hx hb hts in_X8 hown hK.1 hP 0 rfl rfl 2 (by decide) (hts _ mk_184) (fun _ h9 => h9) rfl dX8_feed_16 ?_
    refine lv_iload_n hx hb dX8_feed_19 rfl (lv_at hl 1 rfl) ?_
    refine lv_iadd hx hb dX8_feed_20 ?_
    refine lv_topi (fun v20 e20 => ?_)
    have b20 : kB v20 0 616 := kB_eq e20 (kB_add bsz BN (by decide))
    refine lv_sipush (v := 600) hx hb dX8_feed_21 (by decide) ?_
    have X20 : v20.toInt = msz.toInt + fn.toInt := by rw [e20, kI_add (by omega) (by omega)]
    refine lv_icmp_le (tgt := 31) hx hb dX8_feed_24 (by decide) (fun c24 => ?_) (fun c24 => ?_)
    · have c24x : kB v20 0 600 := kB_le_l b20 kc_600 c24 (by decide)
      have F24 : msz.toInt + fn.toInt ≤ 600 := by have := c24x.2; omega
      refine lv_iconst (v := 0) hx hb dX8_feed_31 (by decide) ?_
      have hPc := hP.sub (ws' := [(hm, .inr (8, [.int mrf, .ref hby, .int msz, .int mbg, .long mbt, .int mrg, .int mct, .int mvl, .int mpl, .int mcl, .int mrw, .int mqt, .int mlv, .int mtl, .int mbe, .int mch, .ref hpb, .ref hwa, .ref hmn, .ref hcf, .ref hsa, .ref hro]))]) [0] rfl
      have hDc := hD.sub (ws' := [(hm, .inr (8, [.int mrf, .ref hby, .int msz, .int mbg, .long mbt, .int mrg, .int mct, .int mvl, .int mpl, .int mcl, .int mrw, .int mqt, .int mlv, .int mtl, .int mbe, .int mch, .ref hpb, .ref hwa, .ref hmn, .ref hcf, .ref hsa, .ref hro]))]) [0] (by decide) rfl
      have hFc := va_free (wc := [(hm, .inr (8, [.int mrf, .ref hby, .int msz, .int mbg, .long mbt, .int mrg, .int mct, .int mvl, .int mpl, .int mcl, .int mrw, .int mqt, .int mlv, .int mtl, .int mbe, .int mch, .ref hpb, .ref hwa, .ref hmn, .ref hcf, .ref hsa, .ref hro]))]) hD hS hA [0] rfl
      refine va_calli (va_runV (As := [.int 0]) (rest := []) ⟨hx, hb, hml, hown, hts⟩ (c_X8_refused l D cI cJ cZ hm hby hpb hwa hmn hcf hsa hro mrf msz mbg mrg mct mvl mpl mcl mrw mqt mlv mtl mbe mch mbt 0 (H).size) (cwV 1 hts (kg_V mk_372 mk_373 mk_374 mk_189 mk_375) rfl rfl rfl (by decide +kernel) ⟨Nat.le_of_ble_eq_true rfl, Nat.le_of_ble_eq_true rfl⟩) ⟨fun a U g mk q => by obtain ⟨q0, q1, qP, qK, qD⟩ := q; exact ⟨q0, q1, qP, kK.call qK, qD⟩, va_recv hK.1 hPc (ci := 8) (q0 := 0) rfl rfl, fun U hU hW => ⟨rfl, by rw [hU], by rw [hU]; exact hPc, kK.warm hW hK, hDc.weaken (fun _ _ _ _ => trivial)⟩⟩ rfl rfl hl.1 rfl (lv_room (Nat.le_of_ble_eq_true rfl)) dX8_feed_32 ⟨Nat.zero_le _, Nat.zero_le _⟩) hS (fun q _ h => hFc q h) hFc (fun r32 u t9 H1 locs ht9 hvm9 hw9 hB9 hz9 hk9 hS => ?_)
      obtain ⟨hP1, hD1⟩ := hB9
      rw [ht9] at hP1
      have hP1 : va_P D vwCl [(hm, .inr (8, [.int 0, .ref hby, .int msz, .int mbg, .long mbt, .int mrg, .int mct, .int mvl, .int mpl, .int mcl, .int mrw, .int mqt, .int mlv, .int mtl, .int mbe, .int mch, .ref hpb, .ref hwa, .ref hmn, .ref hcf, .ref hsa, .ref hro]))] H1 := hP1
      obtain ⟨hP, hD⟩ := va_join (wr := [(hby, .inl (cI, 600, .inl mby))]) (w1 := [(hm, .inr (8, [.int 0, .ref hby, .int msz, .int mbg, .long mbt, .int mrg, .int mct, .int mvl, .int mpl, .int mcl, .int mrw, .int mqt, .int mlv, .int mtl, .int mbe, .int mch, .ref hpb, .ref hwa, .ref hmn, .ref hcf, .ref hsa, .ref hro]))]) hP hD [0] [1] rfl rfl (by decide) (by decide) hk9 hFc hP1 hD1
      have hP := hP.sub (ws' := [(hm, .inr (8, [.int 0, .ref hby, .int msz, .int mbg, .long mbt, .int mrg, .int mct, .int mvl, .int mpl, .int mcl, .int mrw, .int mqt, .int mlv, .int mtl, .int mbe, .int mch, .ref hpb, .ref hwa, .ref hmn, .ref hcf, .ref hsa, .ref hro])), (hby, .inl (cI, 600, .inl mby))]) [1, 0] rfl
      have hD := hD.sub (ws' := [(hm, .inr (8, [.int 0, .ref hby, .int msz, .int mbg, .long mbt, .int mrg, .int mct, .int mvl, .int mpl, .int mcl, .int mrw, .int mqt, .int mlv, .int mtl, .int mbe, .int mch, .ref hpb, .ref hwa, .ref hmn, .ref hcf, .ref hsa, .ref hro])), (hby, .inl (cI, 600, .inl mby))]) [1, 0] (by decide) rfl
      generalize H1 = H at hP hS ⊢
      obtain ⟨q32_0, q32_1⟩ := hw9
      have q32_0 : kB r32 0 1 := q32_0
      have q32_1 : r32 = if 0 < (0 : Int32).toInt then 1 else 0 := q32_1
      have RB32 : kB r32 0 0 := by rw [q32_1]; decide
      refine lv_if_eq (tgt := 40) hx hb dX8_feed_35 (by decide) (fun c35 => ?_) (fun c35 => ?_)
      · refine lv_aload_n hx hb dX8_feed_40 rfl (lv_at hl 0 rfl) ?_
        refine lv_iconst (v := 0) hx hb dX8_feed_41 (by decide) ?_
        refine va_put (D := D) (ci := 8) (v := .int 0) (ty := .int) (C := RX8) (T := TX8) (N := 22) hx hb hts in_X8 tyX8 tyX8_ok nmX8 hown hK.1 hP hD hS 0 rfl rfl 3 (by decide) (hts _ mk_195) (fun _ h9 => h9) rfl (by decide +kernel) rfl rfl (Nat.le_of_ble_eq_true rfl) dX8_feed_42 (fun H locs hP hD hS => ?_)
        have hP : va_P D vwCl [(hm, .inr (8, [.int 0, .ref hby, .int msz, .int 0, .long mbt, .int mrg, .int mct, .int mvl, .int mpl, .int mcl, .int mrw, .int mqt, .int mlv, .int mtl, .int mbe, .int mch, .ref hpb, .ref hwa, .ref hmn, .ref hcf, .ref hsa, .ref hro])), (hby, .inl (cI, 600, .inl mby))] H := hP
        have hD : va_D A [(hm, .inr (8, [.int 0, .ref hby, .int msz, .int 0, .long mbt, .int mrg, .int mct, .int mvl, .int mpl, .int mcl, .int mrw, .int mqt, .int mlv, .int mtl, .int mbe, .int mch, .ref hpb, .ref hwa, .ref hmn, .ref hcf, .ref hsa, .ref hro])), (hby, .inl (cI, 600, .inl mby))] := hD
        refine lv_iconst (v := 0) hx hb dX8_feed_45 (by decide) ?_
        refine lv_istore (lv' := [(6, .int 0), (0, .ref hm), (1, .int fn), (2, .int fa), (3, .int fb), (4, .int fc), (5, .int fd)]) hx hb dX8_feed_46 hl (by decide) rfl (fun ls hl => ?_)
        exact lp_X8_feed_48 D cI cJ cZ hm hby hpb hwa hmn hcf hsa hro mrf msz mbg mrg mct mvl mpl mcl mrw mqt mlv mtl mbe mch mbt mby fn fa fb fc fd bsz hx hb hr hml hown hts hlocks hK hA ((16 - (0 : Int32).toInt).toNat + 1) 0 msz mby (Nat.lt_succ_self _) BN (kB_w kc_0 (by decide) (by decide)) bsz (by rw [show (0 : Int32).toInt = 0 from by decide]; exact BN.1) (by rw [show (0 : Int32).toInt = 0 from by decide]; omega) N16 F24 (by rw [show (0 : Int32).toInt = 0 from by decide]; rfl) _ _ ls hP hD hS (lv_sub hl [1, 2, 3, 4, 5, 6, 0] rfl)
      · have c35x : kB r32 1 0 := kB_nlo RB32 c35 kc_0 (by decide)
        exact absurd (Int.le_trans c35x.1 c35x.2) (by decide)
    · have c24n : 600 < v20 := kN_le c24
      have c24ny : kB v20 601 616 := kB_lt_r kc_600 b20 c24n (by decide)
      have F24 : 600 < msz.toInt + fn.toInt := by have := c24ny.1; omega
      refine lv_iconst (v := 2) hx hb dX8_feed_27 (by decide) ?_
      refine lv_goto (tgt := 32) hx hb dX8_feed_28 (by decide) ?_
      have hPc := hP.sub (ws' := [(hm, .inr (8, [.int mrf, .ref hby, .int msz, .int mbg, .long mbt, .int mrg, .int mct, .int mvl, .int mpl, .int mcl, .int mrw, .int mqt, .int mlv, .int mtl, .int mbe, .int mch, .ref hpb, .ref hwa, .ref hmn, .ref hcf, .ref hsa, .ref hro]))]) [0] rfl
      have hDc := hD.sub (ws' := [(hm, .inr (8, [.int mrf, .ref hby, .int msz, .int mbg, .long mbt, .int mrg, .int mct, .int mvl, .int mpl, .int mcl, .int mrw, .int mqt, .int mlv, .int mtl, .int mbe, .int mch, .ref hpb, .ref hwa, .ref hmn, .ref hcf, .ref hsa, .ref hro]))]) [0] (by decide) rfl
      have hFc := va_free (wc := [(hm, .inr (8, [.int mrf, .ref hby, .int msz, .int mbg, .long mbt, .int mrg, .int mct, .int mvl, .int mpl, .int mcl, .int mrw, .int mqt, .int mlv, .int mtl, .int mbe, .int mch, .ref hpb, .ref hwa, .ref hmn, .ref hcf, .ref hsa, .ref hro]))]) hD hS hA [0] rfl
      refine va_calli (va_runV (As := [.int 2]) (rest := []) ⟨hx, hb, hml, hown, hts⟩ (c_X8_refused l D cI cJ cZ hm hby hpb hwa hmn hcf hsa hro mrf msz mbg mrg mct mvl mpl mcl mrw mqt mlv mtl mbe mch mbt 2 (H).size) (cwV 1 hts (kg_V mk_372 mk_373 mk_374 mk_189 mk_375) rfl rfl rfl (by decide +kernel) ⟨Nat.le_of_ble_eq_true rfl, Nat.le_of_ble_eq_true rfl⟩) ⟨fun a U g mk q => by obtain ⟨q0, q1, qP, qK, qD⟩ := q; exact ⟨q0, q1, qP, kK.call qK, qD⟩, va_recv hK.1 hPc (ci := 8) (q0 := 0) rfl rfl, fun U hU hW => ⟨rfl, by rw [hU], by rw [hU]; exact hPc, kK.warm hW hK, hDc.weaken (fun _ _ _ _ => trivial)⟩⟩ rfl rfl hl.1 rfl (lv_room (Nat.le_of_ble_eq_true rfl)) dX8_feed_32 ⟨Nat.zero_le _, Nat.zero_le _⟩) hS (fun q _ h => hFc q h) hFc (fun r32 u t9 H1 locs ht9 hvm9 hw9 hB9 hz9 hk9 hS => ?_)
      obtain ⟨hP1, hD1⟩ := hB9
      rw [ht9] at hP1
      have hP1 : va_P D vwCl [(hm, .inr (8, [.int 2, .ref hby, .int msz, .int mbg, .long mbt, .int mrg, .int mct, .int mvl, .int mpl, .int mcl, .int mrw, .int mqt, .int mlv, .int mtl, .int mbe, .int mch, .ref hpb, .ref hwa, .ref hmn, .ref hcf, .ref hsa, .ref hro]))] H1 := hP1
      obtain ⟨hP, hD⟩ := va_join (wr := [(hby, .inl (cI, 600, .inl mby))]) (w1 := [(hm, .inr (8, [.int 2, .ref hby, .int msz, .int mbg, .long mbt, .int mrg, .int mct, .int mvl, .int mpl, .int mcl, .int mrw, .int mqt, .int mlv, .int mtl, .int mbe, .int mch, .ref hpb, .ref hwa, .ref hmn, .ref hcf, .ref hsa, .ref hro]))]) hP hD [0] [1] rfl rfl (by decide) (by decide) hk9 hFc hP1 hD1
      have hP := hP.sub (ws' := [(hm, .inr (8, [.int 2, .ref hby, .int msz, .int mbg, .long mbt, .int mrg, .int mct, .int mvl, .int mpl, .int mcl, .int mrw, .int mqt, .int mlv, .int mtl, .int mbe, .int mch, .ref hpb, .ref hwa, .ref hmn, .ref hcf, .ref hsa, .ref hro])), (hby, .inl (cI, 600, .inl mby))]) [1, 0] rfl
      have hD := hD.sub (ws' := [(hm, .inr (8, [.int 2, .ref hby, .int msz, .int mbg, .long mbt, .int mrg, .int mct, .int mvl, .int mpl, .int mcl, .int mrw, .int mqt, .int mlv, .int mtl, .int mbe, .int mch, .ref hpb, .ref hwa, .ref hmn, .ref hcf, .ref hsa, .ref hro])), (hby, .inl (cI, 600, .inl mby))]) [1, 0] (by decide) rfl
      generalize H1 = H at hP hS ⊢
      obtain ⟨q32_0, q32_1⟩ := hw9
      have q32_0 : kB r32 0 1 := q32_0
      have q32_1 : r32 = if 0 < (2 : Int32).toInt then 1 else 0 := q32_1
      have RB32 : kB r32 1 1 := by rw [q32_1]; decide
      refine lv_if_eq (tgt := 40) hx hb dX8_feed_35 (by decide) (fun c35 => ?_) (fun c35 => ?_)
      · have c35x : kB r32 0 0 := kB_eq c35 kc_0
        exact absurd (Int.le_trans RB32.1 c35x.2) (by decide)
      · refine lv_iconst (v := 0) hx hb dX8_feed_38 (by decide) ?_
        have pf_x : (¬ (0 ≤ fn.toInt ∧ fn.toInt ≤ 16) ∧ (2 : Int32) = 1 ∧ (0 : Int32) = 0 ∧ msz = msz ∧ mbg = mbg ∧ mby = mby) ∨ ((0 ≤ fn.toInt ∧ fn.toInt ≤ 16) ∧ 600 < msz.toInt + fn.toInt ∧ (2 : Int32) = 2 ∧ (0 : Int32) = 0 ∧ msz = msz ∧ mbg = mbg ∧ mby = mby) ∨ ((0 ≤ fn.toInt ∧ fn.toInt ≤ 16) ∧ msz.toInt + fn.toInt ≤ 600 ∧ (2 : Int32) = 0 ∧ (0 : Int32) = msz ∧ msz.toInt = msz.toInt + fn.toInt ∧ mbg = 0) := (Or.inr (Or.inl ⟨N16, F24, rfl, rfl, rfl, rfl, rfl⟩))
        have pf_w : ((2 : Int32) = 0 → mby = wFe (wFk fa fb fc fd) msz.toInt.toNat fn.toInt.toNat mby) ∧ (¬ (2 : Int32) = 0 → mby = mby) := ⟨fun h => absurd h (by decide), fun _ => rfl⟩
        exact W.iret (v := 0) hx hb hr (fun t9 ht9 hW9 => ⟨⟨0, (2, msz, mbg, mby), rfl, ⟨bsz, pf_x, pf_w⟩, by rw [ht9]; exact hP, hD⟩, hS.F ht9⟩) hS.2.2 dX8_feed_39
  · have c8x : kB r5 0 0 := kB_eq c8 kc_0
    have N16 : ¬ (0 ≤ fn.toInt ∧ fn.toInt ≤ 16) := fun h9 => by have h8 := q5_1; rw [if_pos (by rw [show (0 : Int32).toInt = 0 from by decide, show (16 : Int32).toInt = 16 from by decide]; exact h9), c8] at h8; exact absurd h8 (by decide)
    refine lv_iconst (v := 1) hx hb dX8_feed_11 (by decide) ?_
    refine lv_goto (tgt := 32) hx hb dX8_feed_12 (by decide) ?_
    have hPc := hP.sub (ws' := [(hm, .inr (8, [.int mrf, .ref hby, .int msz, .int mbg, .long mbt, .int mrg, .int mct, .int mvl, .int mpl, .int mcl, .int mrw, .int mqt, .int mlv, .int mtl, .int mbe, .int mch, .ref hpb, .ref hwa, .ref hmn, .ref hcf, .ref hsa, .ref hro]))]) [0] rfl
    have hDc := hD.sub (ws' := [(hm, .inr (8, [.int mrf, .ref hby, .int msz, .int mbg, .long mbt, .int mrg, .int mct, .int mvl, .int mpl, .int mcl, .int mrw, .int mqt, .int mlv, .int mtl, .int mbe, .int mch, .ref hpb, .ref hwa, .ref hmn, .ref hcf, .ref hsa, .ref hro]))]) [0] (by decide) rfl
    have hFc := va_free (wc := [(hm, .inr (8, [.int mrf, .ref hby, .int msz, .int mbg, .long mbt, .int mrg, .int mct, .int mvl, .int mpl, .int mcl, .int mrw, .int mqt, .int mlv, .int mtl, .int mbe, .int mch, .ref hpb, .ref hwa, .ref hmn, .ref hcf, .ref hsa, .ref hro]))]) hD hS hA [0] rfl
    refine va_calli (va_runV (As := [.int 1]) (rest := []) ⟨hx, hb, hml, hown, hts⟩ (c_X8_refused l D cI cJ cZ hm hby hpb hwa hmn hcf hsa hro mrf msz mbg mrg mct mvl mpl mcl mrw mqt mlv mtl mbe mch mbt 1 (H).size) (cwV 1 hts (kg_V mk_372 mk_373 mk_374 mk_189 mk_375) rfl rfl rfl (by decide +kernel) ⟨Nat.le_of_ble_eq_true rfl, Nat.le_of_ble_eq_true rfl⟩) ⟨fun a U g mk q => by obtain ⟨q0, q1, qP, qK, qD⟩ := q; exact ⟨q0, q1, qP, kK.call qK, qD⟩, va_recv hK.1 hPc (ci := 8) (q0 := 0) rfl rfl, fun U hU hW => ⟨rfl, by rw [hU], by rw [hU]; exact hPc, kK.warm hW hK, hDc.weaken (fun _ _ _ _ => trivial)⟩⟩ rfl rfl hl.1 rfl (lv_room (Nat.le_of_ble_eq_true rfl)) dX8_feed_32 ⟨Nat.zero_le _, Nat.zero_le _⟩) hS (fun q _ h => hFc q h) hFc (fun r32 u t9 H1 locs ht9 hvm9 hw9 hB9 hz9 hk9 hS => ?_)
    obtain ⟨hP1, hD1⟩ := hB9
    rw [ht9] at hP1
    have hP1 : va_P D vwCl [(hm, .inr (8, [.int 1, .ref hby, .int msz, .int mbg, .long mbt, .int mrg, .int mct, .int mvl, .int mpl, .int mcl, .int mrw, .int mqt, .int mlv, .int mtl, .int mbe, .int mch, .ref hpb, .ref hwa, .ref hmn, .ref hcf, .ref hsa, .ref hro]))] H1 := hP1
    obtain ⟨hP, hD⟩ := va_join (wr := [(hby, .inl (cI, 600, .inl mby))]) (w1 := [(hm, .inr (8, [.int 1, .ref hby, .int msz, .int mbg, .long mbt, .int mrg, .int mct, .int mvl, .int mpl, .int mcl, .int mrw, .int mqt, .int mlv, .int mtl, .int mbe, .int mch, .ref hpb, .ref hwa, .ref hmn, .ref hcf, .ref hsa, .ref hro]))]) hP hD [0] [1] rfl rfl (by decide) (by decide) hk9 hFc hP1 hD1
    have hP := hP.sub (ws' := [(hm, .inr (8, [.int 1, .ref hby, .int msz, .int mbg, .long mbt, .int mrg, .int mct, .int mvl, .int mpl, .int mcl, .int mrw, .int mqt, .int mlv, .int mtl, .int mbe, .int mch, .ref hpb, .ref hwa, .ref hmn, .ref hcf, .ref hsa, .ref hro])), (hby, .inl (cI, 600, .inl mby))]) [1, 0] rfl
    have hD := hD.sub (ws' := [(hm, .inr (8, [.int 1, .ref hby, .int msz, .int mbg, .long mbt, .int mrg, .int mct, .int mvl, .int mpl, .int mcl, .int mrw, .int mqt, .int mlv, .int mtl, .int mbe, .int mch, .ref hpb, .ref hwa, .ref hmn, .ref hcf, .ref hsa, .ref hro])), (hby, .inl (cI, 600, .inl mby))]) [1, 0] (by decide) rfl
    generalize H1 = H at hP hS ⊢
    obtain ⟨q32_0, q32_1⟩ := hw9
    have q32_0 : kB r32 0 1 := q32_0
    have q32_1 : r32 = if 0 < (1 : Int32).toInt then 1 else 0 := q32_1
    have RB32 : kB r32 1 1 := by rw [q32_1]; decide
    refine lv_if_eq (tgt := 40) hx hb dX8_feed_35 (by decide) (fun c35 => ?_) (fun c35 => ?_)
    · have c35x : kB r32 0 0 := kB_eq c35 kc_0
      exact absurd (Int.le_trans RB32.1 c35x.2) (by decide)
    · refine lv_iconst (v := 0) hx hb dX8_feed_38 (by decide) ?_
      have pf_x : (¬ (0 ≤ fn.toInt ∧ fn.toInt ≤ 16) ∧ (1 : Int32) = 1 ∧ (0 : Int32) = 0 ∧ msz = msz ∧ mbg = mbg ∧ mby = mby) ∨ ((0 ≤ fn.toInt ∧ fn.toInt ≤ 16) ∧ 600 < msz.toInt + fn.toInt ∧ (1 : Int32) = 2 ∧ (0 : Int32) = 0 ∧ msz = msz ∧ mbg = mbg ∧ mby = mby) ∨ ((0 ≤ fn.toInt ∧ fn.toInt ≤ 16) ∧ msz.toInt + fn.toInt ≤ 600 ∧ (1 : Int32) = 0 ∧ (0 : Int32) = msz ∧ msz.toInt = msz.toInt + fn.toInt ∧ mbg = 0) := (Or.inl ⟨N16, rfl, rfl, rfl, rfl, rfl⟩)
      have pf_w : ((1 : Int32) = 0 → mby = wFe (wFk fa fb fc fd) msz.toInt.toNat fn.toInt.toNat mby) ∧ (¬ (1 : Int32) = 0 → mby = mby) := ⟨fun h => absurd h (by decide), fun _ => rfl⟩
      exact W.iret (v := 0) hx hb hr (fun t9 ht9 hW9 => ⟨⟨0, (1, msz, mbg, mby), rfl, ⟨bsz, pf_x, pf_w⟩, by rw [ht9]; exact hP, hD⟩, hS.F ht9⟩) hS.2.2 dX8_feed_39
abbrev kw_X8_put : List Cond := Cond.code yX8_put cX8_put 6 (some .int) :: kW
set_option maxHeartbeats 4000000 in
set_option maxRecDepth 100000 in
theorem lp_X8_put_74 {p : Program} {l : Launch} {e : Env} {s : State} {m : MethodId} {args : Array Value} {below : List Frame} {meth : Method} {c : Code} {A : Nat → Prop} (D : va_G) (cI cJ cZ : ClassId) (hm hby hpb hwa hmn hcf hsa hro : Nat) (mrf : Int32) (msz : Int32) (mbg : Int32) (mrg : Int32) (mct : Int32) (mvl : Int32) (mpl : Int32) (mcl : Int32) (mrw : Int32) (mqt : Int32) (mlv : Int32) (mtl : Int32) (mbe : Int32) (mch : Int32) (mbt : Int64) (mby : Nat → Int32) (pp : Int32) (bi : Int32) (mn : Int32) (Bz : Nat) (bsz : kB msz 0 600) (hwr : mbg = 1 → kB mrg 128 255 ∧ kB mct 1 24 ∧ kNF mct.toInt msz.toInt) (hB : mbg = 1 → mbt = lN Bz ∧ Bz < 4294967296) (hx : p.tables.exec = Jvm.exec) (hb : c.code = cX8_put) (hr : meth.sig.returnType = (some .int)) (hml : c.maxLocals = 6) (hown : s.vm.findClass RX8 = some m.cls) (hts : ∀ w ∈ kW, w.before args s = true) (hlocks : meth.locks = false) (hK : kK D cI cJ cZ s) (hA : ∀ q : Nat, s.heap.size ≤ q → A q) : ∀ n : Nat, ∀ (x5 : Int32) (msz2 : Int32) (mbt2 : Int64) (mrg2 : Int32) (mct2 : Int32) (mby2 : Nat → Int32) (B2 : Nat), (x5.toInt + 1).toNat < n → (mbg = 1) → (((1 ≤ pp.toInt ∧ pp.toInt ≤ 255) ∧ (0 ≤ mn.toInt ∧ mn.toInt ≤ 32))) → (msz.toInt ≤ 560) → (kB pp 0 255) → (kB x5 (-1) 31) → (kB mrg2 128 255) → (kB mct2 1 24) → (kB msz2 0 600) → (kNF mct2.toInt msz2.toInt) → (8 * msz2.toInt - mct2.toInt + 7 * x5.toInt ≤ 8 * msz.toInt - 1 + 7 * 31) → (kput pp.toInt (kbt bi) (x5.toInt + 1).toNat (mrg2.toInt, 8 * msz2.toInt - mct2.toInt) = (kput pp.toInt (kbt bi) mn.toInt.toNat (mrg.toInt, 8 * msz.toInt - mct.toInt))) → (mbt2 = lN B2) → (B2 < 4294967296) → (wPut pp.toInt (kbt bi) (x5.toInt + 1).toNat (mrg2.toInt, mct2.toInt, msz2.toInt, B2, mby2) = (wPut pp.toInt (kbt bi) mn.toInt.toNat (mrg.toInt, mct.toInt, msz.toInt, Bz, mby))) → ∀ (H : Heap) (locs : List Loc) (ls : Array Slot), va_P D vwCl [(hm, .inr (8, [.int 0, .ref hby, .int msz2, .int mbg, .long mbt2, .int mrg2, .int mct2, .int mvl, .int mpl, .int mcl, .int mrw, .int mqt, .int mlv, .int mtl, .int mbe, .int mch, .ref hpb, .ref hwa, .ref hmn, .ref hcf, .ref hsa, .ref hro])), (hby, .inl (cI, 600, .inl mby2))] H → va_D A [(hm, .inr (8, [.int 0, .ref hby, .int msz2, .int mbg, .long mbt2, .int mrg2, .int mct2, .int mvl, .int mpl, .int mcl, .int mrw, .int mqt, .int mlv, .int mtl, .int mbe, .int mch, .ref hpb, .ref hwa, .ref hmn, .ref hcf, .ref hsa, .ref hro])), (hby, .inl (cI, 600, .inl mby2))] → va_S A s.heap H locs → lv_has ls 6 [(0, .ref hm), (1, .int pp), (2, .int bi), (5, .int x5)] → W p l e (headSpec kw_X8_put ({ frames := 2, cells := 0, slots := 0, locals := 45 })).room s m args below meth c H locs 0 0 (MQ below (va_Qi (fun (r : Int32) (u : Int32 × Int32 × Int64 × Int32 × Int32 × (Nat → Int32)) => ((¬ ((1 ≤ pp.toInt ∧ pp.toInt ≤ 255) ∧ (0 ≤ mn.toInt ∧ mn.toInt ≤ 32)) ∧ u.1 = 1 ∧ r = 0 ∧ u.2.1 = msz ∧ u.2.2.2.1 = mrg ∧ u.2.2.2.2.1 = mct) ∨ (((1 ≤ pp.toInt ∧ pp.toInt ≤ 255) ∧ (0 ≤ mn.toInt ∧ mn.toInt ≤ 32)) ∧ ¬ (mbg = 1 ∧ msz.toInt ≤ 560) ∧ u.1 = 2 ∧ r = 0 ∧ u.2.1 = msz ∧ u.2.2.2.1 = mrg ∧ u.2.2.2.2.1 = mct) ∨ (((1 ≤ pp.toInt ∧ pp.toInt ≤ 255) ∧ (0 ≤ mn.toInt ∧ mn.toInt ≤ 32)) ∧ mbg = 1 ∧ msz.toInt ≤ 560 ∧ u.1 = 0 ∧ r = u.2.1 ∧ kB u.2.2.2.1 128 255 ∧ kB u.2.2.2.2.1 1 24 ∧ kNF u.2.2.2.2.1.toInt u.2.1.toInt ∧ kB u.2.1 0 595 ∧ (u.2.2.2.1.toInt, 8 * u.2.1.toInt - u.2.2.2.2.1.toInt) = (kput pp.toInt (kbt bi) mn.toInt.toNat (mrg.toInt, 8 * msz.toInt - mct.toInt)))) ∧ ((u.1 = 0 → u.2.2.1 = lN (wPut pp.toInt (kbt bi) mn.toInt.toNat (mrg.toInt, mct.toInt, msz.toInt, Bz, mby)).2.2.2.1 ∧ u.2.2.2.2.2 = (wPut pp.toInt (kbt bi) mn.toInt.toNat (mrg.toInt, mct.toInt, msz.toInt, Bz, mby)).2.2.2.2) ∧ (¬ u.1 = 0 → u.2.2.1 = mbt ∧ u.2.2.2.2.2 = mby))) (fun (u : Int32 × Int32 × Int64 × Int32 × Int32 × (Nat → Int32)) (t : State) => va_P D vwCl [(hm, .inr (8, [.int u.1, .ref hby, .int u.2.1, .int mbg, .long u.2.2.1, .int u.2.2.2.1, .int u.2.2.2.2.1, .int mvl, .int mpl, .int mcl, .int mrw, .int mqt, .int mlv, .int mtl, .int mbe, .int mch, .ref hpb, .ref hwa, .ref hmn, .ref hcf, .ref hsa, .ref hro])), (hby, .inl (cI, 600, .inl u.2.2.2.2.2))] t.heap ∧ va_D A [(hm, .inr (8, [.int u.1, .ref hby, .int u.2.1, .int mbg, .long u.2.2.1, .int u.2.2.2.1, .int u.2.2.2.2.1, .int mvl, .int mpl, .int mcl, .int mrw, .int mqt, .int mlv, .int mtl, .int mbe, .int mch, .ref hpb, .ref hwa, .ref hmn, .ref hcf, .ref hsa, .ref hro])), (hby, .inl (cI, 600, .inl u.2.2.2.2.2))]) A) args s 0 0 A) (F0 m 74 ls []) := by
  intro n
  induction n with
  | zero => intro x5 msz2 mbt2 mrg2 mct2 mby2 B2 hmeas; exact absurd hmeas (Nat.not_lt_zero _)
  | succ n ih =>
    intro x5 msz2 mbt2 mrg2 mct2 mby2 B2 hmeas c43 hs0 hb0 bp0 b5 brg2 bct2 bsz2 nf2 hph hk hb2 hb3 hwp H locs ls hP hD hS hl
    refine lv_iload hx hb dX8_put_74 (lv_at hl 3 rfl) ?_
    refine lv_if_lt (tgt := 96) hx hb dX8_put_76 (by decide) (fun c76 => ?_) (fun c76 => ?_)
    · have c76x : kB x5 (-1) (-1) := kB_lt_l b5 kc_0 c76 (by decide)
      have E76 : x5.toInt = -1 := by have := c76x.2; omega
      have EK : (mrg2.toInt, 8 * msz2.toInt - mct2.toInt) = (kput pp.toInt (kbt bi) mn.toInt.toNat (mrg.toInt, 8 * msz.toInt - mct.toInt)) := by rw [← hk, E76]; rfl
      have EW : (mrg2.toInt, mct2.toInt, msz2.toInt, B2, mby2) = (wPut pp.toInt (kbt bi) mn.toInt.toNat (mrg.toInt, mct.toInt, msz.toInt, Bz, mby)) := by rw [← hwp, E76]; rfl
      refine lv_aload_n hx hb dX8_put_96 rfl (lv_at hl 0 rfl) ?_
      refine va_get (D := D) (ci := 8) (v := .int msz2) (C := RX8) (T := TX8) (N := 22) hx hb hts in_X8 hown hK.1 hP 0 rfl rfl 2 (by decide) (hts _ mk_184) (fun _ h9 => h9) rfl dX8_put_97 ?_
      have pf_x : (¬ ((1 ≤ pp.toInt ∧ pp.toInt ≤ 255) ∧ (0 ≤ mn.toInt ∧ mn.toInt ≤ 32)) ∧ (0 : Int32) = 1 ∧ msz2 = 0 ∧ msz2 = msz ∧ mrg2 = mrg ∧ mct2 = mct) ∨ (((1 ≤ pp.toInt ∧ pp.toInt ≤ 255) ∧ (0 ≤ mn.toInt ∧ mn.toInt ≤ 32)) ∧ ¬ (mbg = 1 ∧ msz.toInt ≤ 560) ∧ (0 : Int32) = 2 ∧ msz2 = 0 ∧ msz2 = msz ∧ mrg2 = mrg ∧ mct2 = mct) ∨ (((1 ≤ pp.toInt ∧ pp.toInt ≤ 255) ∧ (0 ≤ mn.toInt ∧ mn.toInt ≤ 32)) ∧ mbg = 1 ∧ msz.toInt ≤ 560 ∧ (0 : Int32) = 0 ∧ msz2 = msz2 ∧ kB mrg2 128 255 ∧ kB mct2 1 24 ∧ kNF mct2.toInt msz2.toInt ∧ kB msz2 0 595 ∧ (mrg2.toInt, 8 * msz2.toInt - mct2.toInt) = (kput pp.toInt (kbt bi) mn.toInt.toNat (mrg.toInt, 8 * msz.toInt - mct.toInt))) := (Or.inr (Or.inr ⟨hs0, c43, hb0, rfl, rfl, brg2, bct2, nf2, ⟨bsz2.1, by omega⟩, EK⟩))
      have pf_w : ((0 : Int32) = 0 → mbt2 = lN (wPut pp.toInt (kbt bi) mn.toInt.toNat (mrg.toInt, mct.toInt, msz.toInt, Bz, mby)).2.2.2.1 ∧ mby2 = (wPut pp.toInt (kbt bi) mn.toInt.toNat (mrg.toInt, mct.toInt, msz.toInt, Bz, mby)).2.2.2.2) ∧ (¬ (0 : Int32) = 0 → mbt2 = mbt ∧ mby2 = mby) := ⟨fun _ => ⟨by rw [← EW]; exact hb2, by rw [← EW]⟩, fun h => absurd rfl h⟩
      exact W.iret (v := msz2) hx hb hr (fun t9 ht9 hW9 => ⟨⟨msz2, (0, msz2, mbt2, mrg2, mct2, mby2), rfl, ⟨pf_x, pf_w⟩, by rw [ht9]; exact hP, hD⟩, hS.F ht9⟩) hS.2.2 dX8_put_100
    · have c76n : 0 ≤ x5 := kN_lt c76
      have c76ny : kB x5 0 31 := kB_le_r kc_0 b5 c76n (by decide)
      have c76nz : kB x5 0 31 := ⟨by have := c76ny.1; omega, b5.2⟩
      refine lv_aload_n hx hb dX8_put_79 rfl (lv_at hl 0 rfl) ?_
      refine lv_iload_n hx hb dX8_put_80 rfl (lv_at hl 1 rfl) ?_
      refine lv_iload_n hx hb dX8_put_81 rfl (lv_at hl 2 rfl) ?_
      refine lv_iload hx hb dX8_put_82 (lv_at hl 3 rfl) ?_
      refine lv_ishr hx hb dX8_put_84 ?_
      refine lv_topi (fun v84 e84 => ?_)
      refine lv_iconst (v := 1) hx hb dX8_put_85 (by decide) ?_
      refine lv_iand hx hb dX8_put_86 ?_
      refine lv_topi (fun v86 e86 => ?_)
      have b86 : kB v86 0 1 := kB_eq e86 (kB_and 1 (by decide) (by decide))
      have BB : kB v86 0 1 := kB_eq e86 (kB_and 1 (by decide) (by decide))
      have XB : v86.toInt = kbt bi x5.toInt.toNat := by rw [e86, e84]; exact kbtM c76nz
      have BS : kB msz2 0 592 := ⟨bsz2.1, by omega⟩
      have hPc := hP.sub (ws' := [(hm, .inr (8, [.int 0, .ref hby, .int msz2, .int mbg, .long mbt2, .int mrg2, .int mct2, .int mvl, .int mpl, .int mcl, .int mrw, .int mqt, .int mlv, .int mtl, .int mbe, .int mch, .ref hpb, .ref hwa, .ref hmn, .ref hcf, .ref hsa, .ref hro])), (hby, .inl (cI, 600, .inl mby2))]) [0, 1] rfl
      have hDc := hD.sub (ws' := [(hm, .inr (8, [.int 0, .ref hby, .int msz2, .int mbg, .long mbt2, .int mrg2, .int mct2, .int mvl, .int mpl, .int mcl, .int mrw, .int mqt, .int mlv, .int mtl, .int mbe, .int mch, .ref hpb, .ref hwa, .ref hmn, .ref hcf, .ref hsa, .ref hro])), (hby, .inl (cI, 600, .inl mby2))]) [0, 1] (by decide) rfl
      have hFc := va_free (wc := [(hm, .inr (8, [.int 0, .ref hby, .int msz2, .int mbg, .long mbt2, .int mrg2, .int mct2, .int mvl, .int mpl, .int mcl, .int mrw, .int mqt, .int mlv, .int mtl, .int mbe, .int mch, .ref hpb, .ref hwa, .ref hmn, .ref hcf, .ref hsa, .ref hro])), (hby, .inl (cI, 600, .inl mby2))]) hD hS hA [0, 1] rfl
      refine va_callv (va_runV (As := [.int pp, .int v86]) (rest := []) ⟨hx, hb, hml, hown, hts⟩ (c_X8_writeBit l D cI cJ cZ hm hby hpb hwa hmn hcf hsa hro 0 msz2 mbg mrg2 mct2 mvl mpl mcl mrw mqt mlv mtl mbe mch mbt2 mby2 pp v86 B2 brg2 bp0 BS bct2 nf2 hb2 hb3 (H).size) (cwV 2 hts (kg_V mk_376 mk_377 mk_378 mk_189 mk_379) rfl rfl rfl (by decide +kernel) ⟨Nat.le_of_ble_eq_true rfl, Nat.le_of_ble_eq_true rfl⟩) ⟨fun a U g mk q => by obtain ⟨q0, q1, qP, qK, qD⟩ := q; exact ⟨q0, q1, qP, kK.call qK, qD⟩, va_recv hK.1 hPc (ci := 8) (q0 := 0) rfl rfl, fun U hU hW => ⟨rfl, by rw [hU], by rw [hU]; exact hPc, kK.warm hW hK, hDc.weaken (fun _ _ _ _ => trivial)⟩⟩ rfl rfl hl.1 rfl (lv_room (Nat.le_of_ble_eq_true rfl)) dX8_put_87 ⟨Nat.zero_le _, Nat.zero_le _⟩) hS (fun q _ h => hFc q h) hFc (fun u t9 H1 locs ht9 hvm9 hw9 hB9 hz9 hk9 hS => ?_)
      obtain ⟨msz2_87, mbt2_87, mrg2_87, mct2_87, mby2_87⟩ := u
      obtain ⟨hP1, hD1⟩ := hB9
      rw [ht9] at hP1
      have hP1 : va_P D vwCl [(hm, .inr (8, [.int 0, .ref hby, .int msz2_87, .int mbg, .long mbt2_87, .int mrg2_87, .int mct2_87, .int mvl, .int mpl, .int mcl, .int mrw, .int mqt, .int mlv, .int mtl, .int mbe, .int mch, .ref hpb, .ref hwa, .ref hmn, .ref hcf, .ref hsa, .ref hro])), (hby, .inl (cI, 600, .inl mby2_87))] H1 := hP1
      obtain ⟨hP, hD⟩ := va_join (wr := []) (w1 := [(hm, .inr (8, [.int 0, .ref hby, .int msz2_87, .int mbg, .long mbt2_87, .int mrg2_87, .int mct2_87, .int mvl, .int mpl, .int mcl, .int mrw, .int mqt, .int mlv, .int mtl, .int mbe, .int mch, .ref hpb, .ref hwa, .ref hmn, .ref hcf, .ref hsa, .ref hro])), (hby, .inl (cI, 600, .inl mby2_87))]) hP hD [0, 1] [] rfl rfl (by decide) (by decide) hk9 hFc hP1 hD1
      have hP := hP.sub (ws' := [(hm, .inr (8, [.int 0, .ref hby, .int msz2_87, .int mbg, .long mbt2_87, .int mrg2_87, .int mct2_87, .int mvl, .int mpl, .int mcl, .int mrw, .int mqt, .int mlv, .int mtl, .int mbe, .int mch, .ref hpb, .ref hwa, .ref hmn, .ref hcf, .ref hsa, .ref hro])), (hby, .inl (cI, 600, .inl mby2_87))]) [0, 1] rfl
      have hD := hD.sub (ws' := [(hm, .inr (8, [.int 0, .ref hby, .int msz2_87, .int mbg, .long mbt2_87, .int mrg2_87, .int mct2_87, .int mvl, .int mpl, .int mcl, .int mrw, .int mqt, .int mlv, .int mtl, .int mbe, .int mch, .ref hpb, .ref hwa, .ref hmn, .ref hcf, .ref hsa, .ref hro])), (hby, .inl (cI, 600, .inl mby2_87))]) [0, 1] (by decide) rfl
      generalize H1 = H at hP hS ⊢
      obtain ⟨q87_0, q87_1, q87_2, q87_3, q87_4, q87_5, q87_6, q87_7, q87_8, q87_9⟩ := hw9
      have q87_0 : kB mrg2_87 128 255 := q87_0
      have q87_1 : kB msz2_87 0 600 := q87_1
      have q87_2 : kB mct2_87 1 24 := q87_2
      have q87_3 : kNF mct2_87.toInt msz2_87.toInt := q87_3
      have q87_4 : mrg2_87.toInt = krn (kr1 pp.toInt v86.toInt mrg2.toInt) := q87_4
      have q87_5 : 8 * msz2_87.toInt - mct2_87.toInt = 8 * msz2.toInt - mct2.toInt + kdl (kr1 pp.toInt v86.toInt mrg2.toInt) := q87_5
      have q87_6 : mbt2_87 = lN (wIt (kdl (kr1 pp.toInt v86.toInt mrg2.toInt)).toNat (mct2.toInt, msz2.toInt, wB1 pp.toInt v86.toInt mrg2.toInt B2, mby2)).2.2.1 := q87_6
      have q87_7 : mct2_87.toInt = (wIt (kdl (kr1 pp.toInt v86.toInt mrg2.toInt)).toNat (mct2.toInt, msz2.toInt, wB1 pp.toInt v86.toInt mrg2.toInt B2, mby2)).1 := q87_7
      have q87_8 : msz2_87.toInt = (wIt (kdl (kr1 pp.toInt v86.toInt mrg2.toInt)).toNat (mct2.toInt, msz2.toInt, wB1 pp.toInt v86.toInt mrg2.toInt B2, mby2)).2.1 := q87_8
      have q87_9 : mby2_87 = (wIt (kdl (kr1 pp.toInt v86.toInt mrg2.toInt)).toNat (mct2.toInt, msz2.toInt, wB1 pp.toInt v86.toInt mrg2.toInt B2, mby2)).2.2.2 := q87_9
      obtain ⟨v90, e90⟩ : ∃ y : Int32, y = x5 + (-1) := ⟨_, rfl⟩
      refine lv_iinc (v := v90) (lv' := [(5, .int v90), (0, .ref hm), (1, .int pp), (2, .int bi)]) hx hb dX8_put_90 hl (k := 3) rfl (by rw [e90]; rfl) (by decide) rfl (fun ls hl => ?_)
      have b90 : kB v90 (-1) 30 := kB_eq e90 (kB_add c76nz kc_m1 (by decide))
      have t90 : v90.toInt = x5.toInt + (-1) := by rw [e90]; exact kdec (kB_w c76nz (by decide) (by decide))
      refine lv_goto (tgt := 74) hx hb dX8_put_93 (by decide) ?_
      exact ih v90 msz2_87 mbt2_87 mrg2_87 mct2_87 mby2_87 ((wIt (kdl (kr1 pp.toInt v86.toInt mrg2.toInt)).toNat (mct2.toInt, msz2.toInt, wB1 pp.toInt v86.toInt mrg2.toInt B2, mby2)).2.2.1) (by have := b90.1; have := b90.2; have := q87_1.1; have := q87_1.2; have := q87_0.1; have := q87_0.2; have := q87_2.1; have := q87_2.2; have := c76nz.1; have := c76nz.2; have := BS.1; have := BS.2; have := brg2.1; have := brg2.2; have := bct2.1; have := bct2.2; omega) c43 hs0 hb0 bp0 (kB_w b90 (by decide) (by decide)) q87_0 q87_2 q87_1 q87_3 (by rw [t90]; have := (kdl_le (kr1 pp.toInt v86.toInt mrg2.toInt)).2; omega) (by rw [t90, show (x5.toInt + -1 + 1).toNat = x5.toInt.toNat by omega, q87_4, q87_5, XB]; rw [show (x5.toInt + 1).toNat = x5.toInt.toNat + 1 by omega, kput_s] at hk; exact hk) q87_6 (wIt_lt _ _ (wB1_lt hb3)) (by rw [t90, show (x5.toInt + -1 + 1).toNat = x5.toInt.toNat by omega, q87_4, q87_7, q87_8, q87_9, XB]; rw [show (x5.toInt + 1).toNat = x5.toInt.toNat + 1 by omega, wPut_s] at hwp; exact hwp) _ _ ls hP hD hS (lv_sub hl [1, 2, 3, 0] rfl)
set_option maxHeartbeats 4000000 in
set_option maxRecDepth 100000 in
theorem c_X8_put (l : Launch) (D : va_G) (cI cJ cZ : ClassId) (hm hby hpb hwa hmn hcf hsa hro : Nat) (mrf : Int32) (msz : Int32) (mbg : Int32) (mrg : Int32) (mct : Int32) (mvl : Int32) (mpl : Int32) (mcl : Int32) (mrw : Int32) (mqt : Int32) (mlv : Int32) (mtl : Int32) (mbe : Int32) (mch : Int32) (mbt : Int64) (mby : Nat → Int32) (pp : Int32) (bi : Int32) (mn : Int32) (Bz : Nat) (bsz : kB msz 0 600) (hwr : mbg = 1 → kB mrg 128 255 ∧ kB mct 1 24 ∧ kNF mct.toInt msz.toInt) (hB : mbg = 1 → mbt = lN Bz ∧ Bz < 4294967296) (hpz : Nat) : Met l yX8_put kw_X8_put ({ frames := 2, cells := 0, slots := 0, locals := 45 }) (va_Pc [.ref hm, .int pp, .int bi, .int mn] (fun U => U.heap.size = hpz ∧ va_P D vwCl [(hm, .inr (8, [.int mrf, .ref hby, .int msz, .int mbg, .long mbt, .int mrg, .int mct, .int mvl, .int mpl, .int mcl, .int mrw, .int mqt, .int mlv, .int mtl, .int mbe, .int mch, .ref hpb, .ref hwa, .ref hmn, .ref hcf, .ref hsa, .ref hro])), (hby, .inl (cI, 600, .inl mby))] U.heap ∧ kK D cI cJ cZ U ∧ va_D (fun _ => True) [(hm, .inr (8, [.int mrf, .ref hby, .int msz, .int mbg, .long mbt, .int mrg, .int mct, .int mvl, .int mpl, .int mcl, .int mrw, .int mqt, .int mlv, .int mtl, .int mbe, .int mch, .ref hpb, .ref hwa, .ref hmn, .ref hcf, .ref hsa, .ref hro])), (hby, .inl (cI, 600, .inl mby))])) (va_Qi (fun (r : Int32) (u : Int32 × Int32 × Int64 × Int32 × Int32 × (Nat → Int32)) => ((¬ ((1 ≤ pp.toInt ∧ pp.toInt ≤ 255) ∧ (0 ≤ mn.toInt ∧ mn.toInt ≤ 32)) ∧ u.1 = 1 ∧ r = 0 ∧ u.2.1 = msz ∧ u.2.2.2.1 = mrg ∧ u.2.2.2.2.1 = mct) ∨ (((1 ≤ pp.toInt ∧ pp.toInt ≤ 255) ∧ (0 ≤ mn.toInt ∧ mn.toInt ≤ 32)) ∧ ¬ (mbg = 1 ∧ msz.toInt ≤ 560) ∧ u.1 = 2 ∧ r = 0 ∧ u.2.1 = msz ∧ u.2.2.2.1 = mrg ∧ u.2.2.2.2.1 = mct) ∨ (((1 ≤ pp.toInt ∧ pp.toInt ≤ 255) ∧ (0 ≤ mn.toInt ∧ mn.toInt ≤ 32)) ∧ mbg = 1 ∧ msz.toInt ≤ 560 ∧ u.1 = 0 ∧ r = u.2.1 ∧ kB u.2.2.2.1 128 255 ∧ kB u.2.2.2.2.1 1 24 ∧ kNF u.2.2.2.2.1.toInt u.2.1.toInt ∧ kB u.2.1 0 595 ∧ (u.2.2.2.1.toInt, 8 * u.2.1.toInt - u.2.2.2.2.1.toInt) = (kput pp.toInt (kbt bi) mn.toInt.toNat (mrg.toInt, 8 * msz.toInt - mct.toInt)))) ∧ ((u.1 = 0 → u.2.2.1 = lN (wPut pp.toInt (kbt bi) mn.toInt.toNat (mrg.toInt, mct.toInt, msz.toInt, Bz, mby)).2.2.2.1 ∧ u.2.2.2.2.2 = (wPut pp.toInt (kbt bi) mn.toInt.toNat (mrg.toInt, mct.toInt, msz.toInt, Bz, mby)).2.2.2.2) ∧ (¬ u.1 = 0 → u.2.2.1 = mbt ∧ u.2.2.2.2.2 = mby))) (fun (u : Int32 × Int32 × Int64 × Int32 × Int32 × (Nat → Int32)) (t : State) => va_P D vwCl [(hm, .inr (8, [.int u.1, .ref hby, .int u.2.1, .int mbg, .long u.2.2.1, .int u.2.2.2.1, .int u.2.2.2.2.1, .int mvl, .int mpl, .int mcl, .int mrw, .int mqt, .int mlv, .int mtl, .int mbe, .int mch, .ref hpb, .ref hwa, .ref hmn, .ref hcf, .ref hsa, .ref hro])), (hby, .inl (cI, 600, .inl u.2.2.2.2.2))] t.heap ∧ va_D (va_A [(hm, .inr (8, [.int mrf, .ref hby, .int msz, .int mbg, .long mbt, .int mrg, .int mct, .int mvl, .int mpl, .int mcl, .int mrw, .int mqt, .int mlv, .int mtl, .int mbe, .int mch, .ref hpb, .ref hwa, .ref hmn, .ref hcf, .ref hsa, .ref hro])), (hby, .inl (cI, 600, .inl mby))] hpz) [(hm, .inr (8, [.int u.1, .ref hby, .int u.2.1, .int mbg, .long u.2.2.1, .int u.2.2.2.1, .int u.2.2.2.2.1, .int mvl, .int mpl, .int mcl, .int mrw, .int mqt, .int mlv, .int mtl, .int mbe, .int mch, .ref hpb, .ref hwa, .ref hmn, .ref hcf, .ref hsa, .ref hro])), (hby, .inl (cI, 600, .inl u.2.2.2.2.2))]) (va_A [(hm, .inr (8, [.int mrf, .ref hby, .int msz, .int mbg, .long mbt, .int mrg, .int mct, .int mvl, .int mpl, .int mcl, .int mrw, .int mqt, .int mlv, .int mtl, .int mbe, .int mch, .ref hpb, .ref hwa, .ref hmn, .ref hcf, .ref hsa, .ref hro])), (hby, .inl (cI, 600, .inl mby))] hpz)) 0 0 (va_A [(hm, .inr (8, [.int mrf, .ref hby, .int msz, .int mbg, .long mbt, .int mrg, .int mct, .int mvl, .int mpl, .int mcl, .int mrw, .int mqt, .int mlv, .int mtl, .int mbe, .int mch, .ref hpb, .ref hwa, .ref hmn, .ref hcf, .ref hsa, .ref hro])), (hby, .inl (cI, 600, .inl mby))] hpz) := by
  refine Met.ofW (cc := cX8_put) (maxL := 6) (ret := (some .int)) (by decide) rfl ?_
  intro p e s m args below meth c s₁ B hml hv
  obtain ⟨rfl, hsz, hP, hK, hD0⟩ := hv
  have hx := B.exec
  have hb := B.bytes
  have hr := B.returns
  have hts := fun (w : Cond) (h : w ∈ kW) => atoms_spec (ws := kw_X8_put) B.pre w (List.mem_cons_of_mem _ h)
  have hown : s.vm.findClass RX8 = some m.cls := findClass_of_methodNamed B.named
  have hlocks := B.notSynchronized
  subst hsz
  have hD := hD0.self (sz := s.heap.size)
  generalize hAe : va_A [(hm, .inr (8, [.int mrf, .ref hby, .int msz, .int mbg, .long mbt, .int mrg, .int mct, .int mvl, .int mpl, .int mcl, .int mrw, .int mqt, .int mlv, .int mtl, .int mbe, .int mch, .ref hpb, .ref hwa, .ref hmn, .ref hcf, .ref hsa, .ref hro])), (hby, .inl (cI, 600, .inl mby))] s.heap.size = A at hD ⊢
  have hA : ∀ q : Nat, s.heap.size ≤ q → A q := fun q h => by rw [← hAe]; exact Or.inr h
  have hS : va_S A s.heap s.heap [] := va_S.rf
  have hP : va_P D vwCl [(hm, .inr (8, [.int mrf, .ref hby, .int msz, .int mbg, .long mbt, .int mrg, .int mct, .int mvl, .int mpl, .int mcl, .int mrw, .int mqt, .int mlv, .int mtl, .int mbe, .int mch, .ref hpb, .ref hwa, .ref hmn, .ref hcf, .ref hsa, .ref hro])), (hby, .inl (cI, 600, .inl mby))] s.heap := hP
  have hl := lv_entry ([.ref hm, .int pp, .int bi, .int mn]) (n := 6) (Nat.le_of_ble_eq_true rfl)
  rw [lg_entry_eq]
  generalize (lg_sl ([.ref hm, .int pp, .int bi, .int mn]) ++ List.replicate (6 - (lg_sl ([.ref hm, .int pp, .int bi, .int mn])).length) Slot.unset).toArray = ls at hl ⊢
  have hl : lv_has ls 6 [(0, .ref hm), (1, .int pp), (2, .int bi), (3, .int mn)] := hl
  refine lv_iload_n hx hb dX8_put_0 rfl (lv_at hl 1 rfl) ?_
  refine lv_iconst (v := 1) hx hb dX8_put_1 (by decide) ?_
  refine lv_sipush (v := 255) hx hb dX8_put_2 (by decide) ?_
  have hPc := hP.sub (ws' := []) [] rfl
  have hDc := hD.sub (ws' := []) [] (by decide) rfl
  have hFc := va_free (wc := []) hD hS hA [] rfl
  refine va_calli (va_runS (As := [.int pp, .int 1, .int 255]) (rest := []) ⟨hx, hb, hml, hown, hts⟩ (c_X8_isIn l D cI cJ cZ pp 1 255 (s.heap).size) (cwS 3 hts (kg_S mk_369 mk_370 mk_189 mk_371) rfl rfl rfl (by decide +kernel) ⟨Nat.le_of_ble_eq_true rfl, Nat.le_of_ble_eq_true rfl⟩) ⟨fun a U g mk q => by obtain ⟨q0, q1, qP, qK, qD⟩ := q; exact ⟨q0, q1, qP, kK.call qK, qD⟩, fun U hU hW => ⟨rfl, by rw [hU], by rw [hU]; exact hPc, kK.warm hW hK, hDc.weaken (fun _ _ _ _ => trivial)⟩⟩ rfl rfl hl.1 rfl (lv_room (Nat.le_of_ble_eq_true rfl)) dX8_put_5 ⟨Nat.zero_le _, Nat.zero_le _⟩) hS (fun q _ h => hFc q h) hFc (fun r5 u t9 H1 locs ht9 hvm9 hw9 hB9 hz9 hk9 hS => ?_)
  obtain ⟨hP1, hD1⟩ := hB9
  rw [ht9] at hP1
  have hP1 : va_P D vwCl [] H1 := hP1
  obtain ⟨hP, hD⟩ := va_join (wr := [(hm, .inr (8, [.int mrf, .ref hby, .int msz, .int mbg, .long mbt, .int mrg, .int mct, .int mvl, .int mpl, .int mcl, .int mrw, .int mqt, .int mlv, .int mtl, .int mbe, .int mch, .ref hpb, .ref hwa, .ref hmn, .ref hcf, .ref hsa, .ref hro])), (hby, .inl (cI, 600, .inl mby))]) (w1 := []) hP hD [] [0, 1] rfl rfl (by decide) (by decide) hk9 hFc hP1 hD1
  have hP := hP.sub (ws' := [(hm, .inr (8, [.int mrf, .ref hby, .int msz, .int mbg, .long mbt, .int mrg, .int mct, .int mvl, .int mpl, .int mcl, .int mrw, .int mqt, .int mlv, .int mtl, .int mbe, .int mch, .ref hpb, .ref hwa, .ref hmn, .ref hcf, .ref hsa, .ref hro])), (hby, .inl (cI, 600, .inl mby))]) [0, 1] rfl
  have hD := hD.sub (ws' := [(hm, .inr (8, [.int mrf, .ref hby, .int msz, .int mbg, .long mbt, .int mrg, .int mct, .int mvl, .int mpl, .int mcl, .int mrw, .int mqt, .int mlv, .int mtl, .int mbe, .int mch, .ref hpb, .ref hwa, .ref hmn, .ref hcf, .ref hsa, .ref hro])), (hby, .inl (cI, 600, .inl mby))]) [0, 1] (by decide) rfl
  generalize H1 = H at hP hS ⊢
  obtain ⟨q5_0, q5_1, q5_2⟩ := hw9
  have q5_0 : kB r5 0 1 := q5_0
  have q5_1 : r5 = if (1 : Int32).toInt ≤ pp.toInt ∧ pp.toInt ≤ (255 : Int32).toInt then 1 else 0 := q5_1
  have q5_2 : ¬ r5 = 0 → (1 : Int32).toInt ≤ pp.toInt ∧ pp.toInt ≤ (255 : Int32).toInt := q5_2
  refine lv_if_eq (tgt := 25) hx hb dX8_put_8 (by decide) (fun c8 => ?_) (fun c8 => ?_)
  · have c8x : kB r5 0 0 := kB_eq c8 kc_0
    have HP : ¬ (1 ≤ pp.toInt ∧ pp.toInt ≤ 255) := fun h9 => by have h8 := q5_1; rw [if_pos (by rw [show (1 : Int32).toInt = 1 from by decide, show (255 : Int32).toInt = 255 from by decide]; exact h9), c8] at h8; exact absurd h8 (by decide)
    have HS : ¬ ((1 ≤ pp.toInt ∧ pp.toInt ≤ 255) ∧ (0 ≤ mn.toInt ∧ mn.toInt ≤ 32)) := fun h9 => by first | exact HN h9.2 | exact HP h9.1
    refine lv_iconst (v := 0) hx hb dX8_put_25 (by decide) ?_
    refine lv_istore (lv' := [(4, .int 0), (0, .ref hm), (1, .int pp), (2, .int bi), (3, .int mn)]) hx hb dX8_put_26 hl (by decide) rfl (fun ls hl => ?_)
    refine lv_aload_n hx hb dX8_put_28 rfl (lv_at hl 1 rfl) ?_
    refine lv_iload hx hb dX8_put_29 (lv_at hl 0 rfl) ?_
    refine lv_if_ne (tgt := 38) hx hb dX8_put_31 (by decide) (fun c31 => ?_) (fun c31 => ?_)
    · exact absurd rfl c31
    · refine lv_iconst (v := 1) hx hb dX8_put_34 (by decide) ?_
      refine lv_goto (tgt := 61) hx hb dX8_put_35 (by decide) ?_
      have hPc := hP.sub (ws' := [(hm, .inr (8, [.int mrf, .ref hby, .int msz, .int mbg, .long mbt, .int mrg, .int mct, .int mvl, .int mpl, .int mcl, .int mrw, .int mqt, .int mlv, .int mtl, .int mbe, .int mch, .ref hpb, .ref hwa, .ref hmn, .ref hcf, .ref hsa, .ref hro]))]) [0] rfl
      have hDc := hD.sub (ws' := [(hm, .inr (8, [.int mrf, .ref hby, .int msz, .int mbg, .long mbt, .int mrg, .int mct, .int mvl, .int mpl, .int mcl, .int mrw, .int mqt, .int mlv, .int mtl, .int mbe, .int mch, .ref hpb, .ref hwa, .ref hmn, .ref hcf, .ref hsa, .ref hro]))]) [0] (by decide) rfl
      have hFc := va_free (wc := [(hm, .inr (8, [.int mrf, .ref hby, .int msz, .int mbg, .long mbt, .int mrg, .int mct, .int mvl, .int mpl, .int mcl, .int mrw, .int mqt, .int mlv, .int mtl, .int mbe, .int mch, .ref hpb, .ref hwa, .ref hmn, .ref hcf, .ref hsa, .ref hro]))]) hD hS hA [0] rfl
      refine va_calli (va_runV (As := [.int 1]) (rest := []) ⟨hx, hb, hml, hown, hts⟩ (c_X8_refused l D cI cJ cZ hm hby hpb hwa hmn hcf hsa hro mrf msz mbg mrg mct mvl mpl mcl mrw mqt mlv mtl mbe mch mbt 1 (H).size) (cwV 1 hts (kg_V mk_372 mk_373 mk_374 mk_189 mk_375) rfl rfl rfl (by decide +kernel) ⟨Nat.le_of_ble_eq_true rfl, Nat.le_of_ble_eq_true rfl⟩) ⟨fun a U g mk q => by obtain ⟨q0, q1, qP, qK, qD⟩ := q; exact ⟨q0, q1, qP, kK.call qK, qD⟩, va_recv hK.1 hPc (ci := 8) (q0 := 0) rfl rfl, fun U hU hW => ⟨rfl, by rw [hU], by rw [hU]; exact hPc, kK.warm hW hK, hDc.weaken (fun _ _ _ _ => trivial)⟩⟩ rfl rfl hl.1 rfl (lv_room (Nat.le_of_ble_eq_true rfl)) dX8_put_61 ⟨Nat.zero_le _, Nat.zero_le _⟩) hS (fun q _ h => hFc q h) hFc (fun r61 u t9 H1 locs ht9 hvm9 hw9 hB9 hz9 hk9 hS => ?_)
      obtain ⟨hP1, hD1⟩ := hB9
      rw [ht9] at hP1
      have hP1 : va_P D vwCl [(hm, .inr (8, [.int 1, .ref hby, .int msz, .int mbg, .long mbt, .int mrg, .int mct, .int mvl, .int mpl, .int mcl, .int mrw, .int mqt, .int mlv, .int mtl, .int mbe, .int mch, .ref hpb, .ref hwa, .ref hmn, .ref hcf, .ref hsa, .ref hro]))] H1 := hP1
      obtain ⟨hP, hD⟩ := va_join (wr := [(hby, .inl (cI, 600, .inl mby))]) (w1 := [(hm, .inr (8, [.int 1, .ref hby, .int msz, .int mbg, .long mbt, .int mrg, .int mct, .int mvl, .int mpl, .int mcl, .int mrw, .int mqt, .int mlv, .int mtl, .int mbe, .int mch, .ref hpb, .ref hwa, .ref hmn, .ref hcf, .ref hsa, .ref hro]))]) hP hD [0] [1] rfl rfl (by decide) (by decide) hk9 hFc hP1 hD1
      have hP := hP.sub (ws' := [(hm, .inr (8, [.int 1, .ref hby, .int msz, .int mbg, .long mbt, .int mrg, .int mct, .int mvl, .int mpl, .int mcl, .int mrw, .int mqt, .int mlv, .int mtl, .int mbe, .int mch, .ref hpb, .ref hwa, .ref hmn, .ref hcf, .ref hsa, .ref hro])), (hby, .inl (cI, 600, .inl mby))]) [1, 0] rfl
      have hD := hD.sub (ws' := [(hm, .inr (8, [.int 1, .ref hby, .int msz, .int mbg, .long mbt, .int mrg, .int mct, .int mvl, .int mpl, .int mcl, .int mrw, .int mqt, .int mlv, .int mtl, .int mbe, .int mch, .ref hpb, .ref hwa, .ref hmn, .ref hcf, .ref hsa, .ref hro])), (hby, .inl (cI, 600, .inl mby))]) [1, 0] (by decide) rfl
      generalize H1 = H at hP hS ⊢
      obtain ⟨q61_0, q61_1⟩ := hw9
      have q61_0 : kB r61 0 1 := q61_0
      have q61_1 : r61 = if 0 < (1 : Int32).toInt then 1 else 0 := q61_1
      have RB61 : kB r61 1 1 := by rw [q61_1]; decide
      refine lv_if_eq (tgt := 69) hx hb dX8_put_64 (by decide) (fun c64 => ?_) (fun c64 => ?_)
      · have c64x : kB r61 0 0 := kB_eq c64 kc_0
        exact absurd (Int.le_trans RB61.1 c64x.2) (by decide)
      · refine lv_iconst (v := 0) hx hb dX8_put_67 (by decide) ?_
        have pf_x : (¬ ((1 ≤ pp.toInt ∧ pp.toInt ≤ 255) ∧ (0 ≤ mn.toInt ∧ mn.toInt ≤ 32)) ∧ (1 : Int32) = 1 ∧ (0 : Int32) = 0 ∧ msz = msz ∧ mrg = mrg ∧ mct = mct) ∨ (((1 ≤ pp.toInt ∧ pp.toInt ≤ 255) ∧ (0 ≤ mn.toInt ∧ mn.toInt ≤ 32)) ∧ ¬ (mbg = 1 ∧ msz.toInt ≤ 560) ∧ (1 : Int32) = 2 ∧ (0 : Int32) = 0 ∧ msz = msz ∧ mrg = mrg ∧ mct = mct) ∨ (((1 ≤ pp.toInt ∧ pp.toInt ≤ 255) ∧ (0 ≤ mn.toInt ∧ mn.toInt ≤ 32)) ∧ mbg = 1 ∧ msz.toInt ≤ 560 ∧ (1 : Int32) = 0 ∧ (0 : Int32) = msz ∧ kB mrg 128 255 ∧ kB mct 1 24 ∧ kNF mct.toInt msz.toInt ∧ kB msz 0 595 ∧ (mrg.toInt, 8 * msz.toInt - mct.toInt) = (kput pp.toInt (kbt bi) mn.toInt.toNat (mrg.toInt, 8 * msz.toInt - mct.toInt))) := (Or.inl ⟨HS, rfl, rfl, rfl, rfl, rfl⟩)
        have pf_w : ((1 : Int32) = 0 → mbt = lN (wPut pp.toInt (kbt bi) mn.toInt.toNat (mrg.toInt, mct.toInt, msz.toInt, Bz, mby)).2.2.2.1 ∧ mby = (wPut pp.toInt (kbt bi) mn.toInt.toNat (mrg.toInt, mct.toInt, msz.toInt, Bz, mby)).2.2.2.2) ∧ (¬ (1 : Int32) = 0 → mbt = mbt ∧ mby = mby) := ⟨fun h => absurd h (by decide), fun _ => ⟨rfl, rfl⟩⟩
        exact W.iret (v := 0) hx hb hr (fun t9 ht9 hW9 => ⟨⟨0, (1, msz, mbt, mrg, mct, mby), rfl, ⟨pf_x, pf_w⟩, by rw [ht9]; exact hP, hD⟩, hS.F ht9⟩) hS.2.2 dX8_put_68
  · have c8x : kB r5 1 1 := kB_nlo q5_0 c8 kc_0 (by decide)
    have HP : (1 ≤ pp.toInt ∧ pp.toInt ≤ 255) := by have h9 := q5_2 c8; rw [show (1 : Int32).toInt = 1 from by decide, show (255 : Int32).toInt = 255 from by decide] at h9; exact h9
    refine lv_iload_n hx hb dX8_put_11 rfl (lv_at hl 3 rfl) ?_
    refine lv_iconst (v := 0) hx hb dX8_put_12 (by decide) ?_
    refine lv_bipush (v := 32) hx hb dX8_put_13 (by decide) ?_
    have hPc := hP.sub (ws' := []) [] rfl
    have hDc := hD.sub (ws' := []) [] (by decide) rfl
    have hFc := va_free (wc := []) hD hS hA [] rfl
    refine va_calli (va_runS (As := [.int mn, .int 0, .int 32]) (rest := []) ⟨hx, hb, hml, hown, hts⟩ (c_X8_isIn l D cI cJ cZ mn 0 32 (H).size) (cwS 3 hts (kg_S mk_369 mk_370 mk_189 mk_371) rfl rfl rfl (by decide +kernel) ⟨Nat.le_of_ble_eq_true rfl, Nat.le_of_ble_eq_true rfl⟩) ⟨fun a U g mk q => by obtain ⟨q0, q1, qP, qK, qD⟩ := q; exact ⟨q0, q1, qP, kK.call qK, qD⟩, fun U hU hW => ⟨rfl, by rw [hU], by rw [hU]; exact hPc, kK.warm hW hK, hDc.weaken (fun _ _ _ _ => trivial)⟩⟩ rfl rfl hl.1 rfl (lv_room (Nat.le_of_ble_eq_true rfl)) dX8_put_15 ⟨Nat.zero_le _, Nat.zero_le _⟩) hS (fun q _ h => hFc q h) hFc (fun r15 u t9 H1 locs ht9 hvm9 hw9 hB9 hz9 hk9 hS => ?_)
    obtain ⟨hP1, hD1⟩ := hB9
    rw [ht9] at hP1
    have hP1 : va_P D vwCl [] H1 := hP1
    obtain ⟨hP, hD⟩ := va_join (wr := [(hm, .inr (8, [.int mrf, .ref hby, .int msz, .int mbg, .long mbt, .int mrg, .int mct, .int mvl, .int mpl, .int mcl, .int mrw, .int mqt, .int mlv, .int mtl, .int mbe, .int mch, .ref hpb, .ref hwa, .ref hmn, .ref hcf, .ref hsa, .ref hro])), (hby, .inl (cI, 600, .inl mby))]) (w1 := []) hP hD [] [0, 1] rfl rfl (by decide) (by decide) hk9 hFc hP1 hD1
    have hP := hP.sub (ws' := [(hm, .inr (8, [.int mrf, .ref hby, .int msz, .int mbg, .long mbt, .int mrg, .int mct, .int mvl, .int mpl, .int mcl, .int mrw, .int mqt, .int mlv, .int mtl, .int mbe, .int mch, .ref hpb, .ref hwa, .ref hmn, .ref hcf, .ref hsa, .ref hro])), (hby, .inl (cI, 600, .inl mby))]) [0, 1] rfl
    have hD := hD.sub (ws' := [(hm, .inr (8, [.int mrf, .ref hby, .int msz, .int mbg, .long mbt, .int mrg, .int mct, .int mvl, .int mpl, .int mcl, .int mrw, .int mqt, .int mlv, .int mtl, .int mbe, .int mch, .ref hpb, .ref hwa, .ref hmn, .ref hcf, .ref hsa, .ref hro])), (hby, .inl (cI, 600, .inl mby))]) [0, 1] (by decide) rfl
    generalize H1 = H at hP hS ⊢
    obtain ⟨q15_0, q15_1, q15_2⟩ := hw9
    have q15_0 : kB r15 0 1 := q15_0
    have q15_1 : r15 = if (0 : Int32).toInt ≤ mn.toInt ∧ mn.toInt ≤ (32 : Int32).toInt then 1 else 0 := q15_1
    have q15_2 : ¬ r15 = 0 → (0 : Int32).toInt ≤ mn.toInt ∧ mn.toInt ≤ (32 : Int32).toInt := q15_2
    refine lv_if_eq (tgt := 25) hx hb dX8_put_18 (by decide) (fun c18 => ?_) (fun c18 => ?_)
    · have c18x : kB r15 0 0 := kB_eq c18 kc_0
      have HN : ¬ (0 ≤ mn.toInt ∧ mn.toInt ≤ 32) := fun h9 => by have h8 := q15_1; rw [if_pos (by rw [show (0 : Int32).toInt = 0 from by decide, show (32 : Int32).toInt = 32 from by decide]; exact h9), c18] at h8; exact absurd h8 (by decide)
      have HS : ¬ ((1 ≤ pp.toInt ∧ pp.toInt ≤ 255) ∧ (0 ≤ mn.toInt ∧ mn.toInt ≤ 32)) := fun h9 => by first | exact HN h9.2 | exact HP h9.1
      refine lv_iconst (v := 0) hx hb dX8_put_25 (by decide) ?_
      refine lv_istore (lv' := [(4, .int 0), (0, .ref hm), (1, .int pp), (2, .int bi), (3, .int mn)]) hx hb dX8_put_26 hl (by decide) rfl (fun ls hl => ?_)
      refine lv_aload_n hx hb dX8_put_28 rfl (lv_at hl 1 rfl) ?_
      refine lv_iload hx hb dX8_put_29 (lv_at hl 0 rfl) ?_
      refine lv_if_ne (tgt := 38) hx hb dX8_put_31 (by decide) (fun c31 => ?_) (fun c31 => ?_)
      · exact absurd rfl c31
      · refine lv_iconst (v := 1) hx hb dX8_put_34 (by decide) ?_
        refine lv_goto (tgt := 61) hx hb dX8_put_35 (by decide) ?_
        have hPc := hP.sub (ws' := [(hm, .inr (8, [.int mrf, .ref hby, .int msz, .int mbg, .long mbt, .int mrg, .int mct, .int mvl, .int mpl, .int mcl, .int mrw, .int mqt, .int mlv, .int mtl, .int mbe, .int mch, .ref hpb, .ref hwa, .ref hmn, .ref hcf, .ref hsa, .ref hro]))]) [0] rfl
        have hDc := hD.sub (ws' := [(hm, .inr (8, [.int mrf, .ref hby, .int msz, .int mbg, .long mbt, .int mrg, .int mct, .int mvl, .int mpl, .int mcl, .int mrw, .int mqt, .int mlv, .int mtl, .int mbe, .int mch, .ref hpb, .ref hwa, .ref hmn, .ref hcf, .ref hsa, .ref hro]))]) [0] (by decide) rfl
        have hFc := va_free (wc := [(hm, .inr (8, [.int mrf, .ref hby, .int msz, .int mbg, .long mbt, .int mrg, .int mct, .int mvl, .int mpl, .int mcl, .int mrw, .int mqt, .int mlv, .int mtl, .int mbe, .int mch, .ref hpb, .ref hwa, .ref hmn, .ref hcf, .ref hsa, .ref hro]))]) hD hS hA [0] rfl
        refine va_calli (va_runV (As := [.int 1]) (rest := []) ⟨hx, hb, hml, hown, hts⟩ (c_X8_refused l D cI cJ cZ hm hby hpb hwa hmn hcf hsa hro mrf msz mbg mrg mct mvl mpl mcl mrw mqt mlv mtl mbe mch mbt 1 (H).size) (cwV 1 hts (kg_V mk_372 mk_373 mk_374 mk_189 mk_375) rfl rfl rfl (by decide +kernel) ⟨Nat.le_of_ble_eq_true rfl, Nat.le_of_ble_eq_true rfl⟩) ⟨fun a U g mk q => by obtain ⟨q0, q1, qP, qK, qD⟩ := q; exact ⟨q0, q1, qP, kK.call qK, qD⟩, va_recv hK.1 hPc (ci := 8) (q0 := 0) rfl rfl, fun U hU hW => ⟨rfl, by rw [hU], by rw [hU]; exact hPc, kK.warm hW hK, hDc.weaken (fun _ _ _ _ => trivial)⟩⟩ rfl rfl hl.1 rfl (lv_room (Nat.le_of_ble_eq_true rfl)) dX8_put_61 ⟨Nat.zero_le _, Nat.zero_le _⟩) hS (fun q _ h => hFc q h) hFc (fun r61 u t9 H1 locs ht9 hvm9 hw9 hB9 hz9 hk9 hS => ?_)
        obtain ⟨hP1, hD1⟩ := hB9
        rw [ht9] at hP1
        have hP1 : va_P D vwCl [(hm, .inr (8, [.int 1, .ref hby, .int msz, .int mbg, .long mbt, .int mrg, .int mct, .int mvl, .int mpl, .int mcl, .int mrw, .int mqt, .int mlv, .int mtl, .int mbe, .int mch, .ref hpb, .ref hwa, .ref hmn, .ref hcf, .ref hsa, .ref hro]))] H1 := hP1
        obtain ⟨hP, hD⟩ := va_join (wr := [(hby, .inl (cI, 600, .inl mby))]) (w1 := [(hm, .inr (8, [.int 1, .ref hby, .int msz, .int mbg, .long mbt, .int mrg, .int mct, .int mvl, .int mpl, .int mcl, .int mrw, .int mqt, .int mlv, .int mtl, .int mbe, .int mch, .ref hpb, .ref hwa, .ref hmn, .ref hcf, .ref hsa, .ref hro]))]) hP hD [0] [1] rfl rfl (by decide) (by decide) hk9 hFc hP1 hD1
        have hP := hP.sub (ws' := [(hm, .inr (8, [.int 1, .ref hby, .int msz, .int mbg, .long mbt, .int mrg, .int mct, .int mvl, .int mpl, .int mcl, .int mrw, .int mqt, .int mlv, .int mtl, .int mbe, .int mch, .ref hpb, .ref hwa, .ref hmn, .ref hcf, .ref hsa, .ref hro])), (hby, .inl (cI, 600, .inl mby))]) [1, 0] rfl
        have hD := hD.sub (ws' := [(hm, .inr (8, [.int 1, .ref hby, .int msz, .int mbg, .long mbt, .int mrg, .int mct, .int mvl, .int mpl, .int mcl, .int mrw, .int mqt, .int mlv, .int mtl, .int mbe, .int mch, .ref hpb, .ref hwa, .ref hmn, .ref hcf, .ref hsa, .ref hro])), (hby, .inl (cI, 600, .inl mby))]) [1, 0] (by decide) rfl
        generalize H1 = H at hP hS ⊢
        obtain ⟨q61_0, q61_1⟩ := hw9
        have q61_0 : kB r61 0 1 := q61_0
        have q61_1 : r61 = if 0 < (1 : Int32).toInt then 1 else 0 := q61_1
        have RB61 : kB r61 1 1 := by rw [q61_1]; decide
        refine lv_if_eq (tgt := 69) hx hb dX8_put_64 (by decide) (fun c64 => ?_) (fun c64 => ?_)
        · have c64x : kB r61 0 0 := kB_eq c64 kc_0
          exact absurd (Int.le_trans RB61.1 c64x.2) (by decide)
        · refine lv_iconst (v := 0) hx hb dX8_put_67 (by decide) ?_
          have pf_x : (¬ ((1 ≤ pp.toInt ∧ pp.toInt ≤ 255) ∧ (0 ≤ mn.toInt ∧ mn.toInt ≤ 32)) ∧ (1 : Int32) = 1 ∧ (0 : Int32) = 0 ∧ msz = msz ∧ mrg = mrg ∧ mct = mct) ∨ (((1 ≤ pp.toInt ∧ pp.toInt ≤ 255) ∧ (0 ≤ mn.toInt ∧ mn.toInt ≤ 32)) ∧ ¬ (mbg = 1 ∧ msz.toInt ≤ 560) ∧ (1 : Int32) = 2 ∧ (0 : Int32) = 0 ∧ msz = msz ∧ mrg = mrg ∧ mct = mct) ∨ (((1 ≤ pp.toInt ∧ pp.toInt ≤ 255) ∧ (0 ≤ mn.toInt ∧ mn.toInt ≤ 32)) ∧ mbg = 1 ∧ msz.toInt ≤ 560 ∧ (1 : Int32) = 0 ∧ (0 : Int32) = msz ∧ kB mrg 128 255 ∧ kB mct 1 24 ∧ kNF mct.toInt msz.toInt ∧ kB msz 0 595 ∧ (mrg.toInt, 8 * msz.toInt - mct.toInt) = (kput pp.toInt (kbt bi) mn.toInt.toNat (mrg.toInt, 8 * msz.toInt - mct.toInt))) := (Or.inl ⟨HS, rfl, rfl, rfl, rfl, rfl⟩)
          have pf_w : ((1 : Int32) = 0 → mbt = lN (wPut pp.toInt (kbt bi) mn.toInt.toNat (mrg.toInt, mct.toInt, msz.toInt, Bz, mby)).2.2.2.1 ∧ mby = (wPut pp.toInt (kbt bi) mn.toInt.toNat (mrg.toInt, mct.toInt, msz.toInt, Bz, mby)).2.2.2.2) ∧ (¬ (1 : Int32) = 0 → mbt = mbt ∧ mby = mby) := ⟨fun h => absurd h (by decide), fun _ => ⟨rfl, rfl⟩⟩
          exact W.iret (v := 0) hx hb hr (fun t9 ht9 hW9 => ⟨⟨0, (1, msz, mbt, mrg, mct, mby), rfl, ⟨pf_x, pf_w⟩, by rw [ht9]; exact hP, hD⟩, hS.F ht9⟩) hS.2.2 dX8_put_68
    · have c18x : kB r15 1 1 := kB_nlo q15_0 c18 kc_0 (by decide)
      have HN : (0 ≤ mn.toInt ∧ mn.toInt ≤ 32) := by have h9 := q15_2 c18; rw [show (0 : Int32).toInt = 0 from by decide, show (32 : Int32).toInt = 32 from by decide] at h9; exact h9
      have HS : ((1 ≤ pp.toInt ∧ pp.toInt ≤ 255) ∧ (0 ≤ mn.toInt ∧ mn.toInt ≤ 32)) := ⟨HP, HN⟩
      refine lv_iconst (v := 1) hx hb dX8_put_21 (by decide) ?_
      refine lv_goto (tgt := 26) hx hb dX8_put_22 (by decide) ?_
      refine lv_istore (lv' := [(4, .int 1), (0, .ref hm), (1, .int pp), (2, .int bi), (3, .int mn)]) hx hb dX8_put_26 hl (by decide) rfl (fun ls hl => ?_)
      refine lv_aload_n hx hb dX8_put_28 rfl (lv_at hl 1 rfl) ?_
      refine lv_iload hx hb dX8_put_29 (lv_at hl 0 rfl) ?_
      refine lv_if_ne (tgt := 38) hx hb dX8_put_31 (by decide) (fun c31 => ?_) (fun c31 => ?_)
      · refine lv_aload_n hx hb dX8_put_38 rfl (lv_at hl 1 rfl) ?_
        refine va_get (D := D) (ci := 8) (v := .int mbg) (C := RX8) (T := TX8) (N := 22) hx hb hts in_X8 hown hK.1 hP 0 rfl rfl 3 (by decide) (hts _ mk_195) (fun _ h9 => h9) rfl dX8_put_39 ?_
        refine lv_iconst (v := 1) hx hb dX8_put_42 (by decide) ?_
        refine lv_icmp_ne (tgt := 56) hx hb dX8_put_43 (by decide) (fun c43 => ?_) (fun c43 => ?_)
        · have HB : ¬ (mbg = 1 ∧ msz.toInt ≤ 560) := fun h9 => c43 h9.1
          refine lv_iconst (v := 2) hx hb dX8_put_56 (by decide) ?_
          refine lv_goto (tgt := 61) hx hb dX8_put_57 (by decide) ?_
          have hPc := hP.sub (ws' := [(hm, .inr (8, [.int mrf, .ref hby, .int msz, .int mbg, .long mbt, .int mrg, .int mct, .int mvl, .int mpl, .int mcl, .int mrw, .int mqt, .int mlv, .int mtl, .int mbe, .int mch, .ref hpb, .ref hwa, .ref hmn, .ref hcf, .ref hsa, .ref hro]))]) [0] rfl
          have hDc := hD.sub (ws' := [(hm, .inr (8, [.int mrf, .ref hby, .int msz, .int mbg, .long mbt, .int mrg, .int mct, .int mvl, .int mpl, .int mcl, .int mrw, .int mqt, .int mlv, .int mtl, .int mbe, .int mch, .ref hpb, .ref hwa, .ref hmn, .ref hcf, .ref hsa, .ref hro]))]) [0] (by decide) rfl
          have hFc := va_free (wc := [(hm, .inr (8, [.int mrf, .ref hby, .int msz, .int mbg, .long mbt, .int mrg, .int mct, .int mvl, .int mpl, .int mcl, .int mrw, .int mqt, .int mlv, .int mtl, .int mbe, .int mch, .ref hpb, .ref hwa, .ref hmn, .ref hcf, .ref hsa, .ref hro]))]) hD hS hA [0] rfl
          refine va_calli (va_runV (As := [.int 2]) (rest := []) ⟨hx, hb, hml, hown, hts⟩ (c_X8_refused l D cI cJ cZ hm hby hpb hwa hmn hcf hsa hro mrf msz mbg mrg mct mvl mpl mcl mrw mqt mlv mtl mbe mch mbt 2 (H).size) (cwV 1 hts (kg_V mk_372 mk_373 mk_374 mk_189 mk_375) rfl rfl rfl (by decide +kernel) ⟨Nat.le_of_ble_eq_true rfl, Nat.le_of_ble_eq_true rfl⟩) ⟨fun a U g mk q => by obtain ⟨q0, q1, qP, qK, qD⟩ := q; exact ⟨q0, q1, qP, kK.call qK, qD⟩, va_recv hK.1 hPc (ci := 8) (q0 := 0) rfl rfl, fun U hU hW => ⟨rfl, by rw [hU], by rw [hU]; exact hPc, kK.warm hW hK, hDc.weaken (fun _ _ _ _ => trivial)⟩⟩ rfl rfl hl.1 rfl (lv_room (Nat.le_of_ble_eq_true rfl)) dX8_put_61 ⟨Nat.zero_le _, Nat.zero_le _⟩) hS (fun q _ h => hFc q h) hFc (fun r61 u t9 H1 locs ht9 hvm9 hw9 hB9 hz9 hk9 hS => ?_)
          obtain ⟨hP1, hD1⟩ := hB9
          rw [ht9] at hP1
          have hP1 : va_P D vwCl [(hm, .inr (8, [.int 2, .ref hby, .int msz, .int mbg, .long mbt, .int mrg, .int mct, .int mvl, .int mpl, .int mcl, .int mrw, .int mqt, .int mlv, .int mtl, .int mbe, .int mch, .ref hpb, .ref hwa, .ref hmn, .ref hcf, .ref hsa, .ref hro]))] H1 := hP1
          obtain ⟨hP, hD⟩ := va_join (wr := [(hby, .inl (cI, 600, .inl mby))]) (w1 := [(hm, .inr (8, [.int 2, .ref hby, .int msz, .int mbg, .long mbt, .int mrg, .int mct, .int mvl, .int mpl, .int mcl, .int mrw, .int mqt, .int mlv, .int mtl, .int mbe, .int mch, .ref hpb, .ref hwa, .ref hmn, .ref hcf, .ref hsa, .ref hro]))]) hP hD [0] [1] rfl rfl (by decide) (by decide) hk9 hFc hP1 hD1
          have hP := hP.sub (ws' := [(hm, .inr (8, [.int 2, .ref hby, .int msz, .int mbg, .long mbt, .int mrg, .int mct, .int mvl, .int mpl, .int mcl, .int mrw, .int mqt, .int mlv, .int mtl, .int mbe, .int mch, .ref hpb, .ref hwa, .ref hmn, .ref hcf, .ref hsa, .ref hro])), (hby, .inl (cI, 600, .inl mby))]) [1, 0] rfl
          have hD := hD.sub (ws' := [(hm, .inr (8, [.int 2, .ref hby, .int msz, .int mbg, .long mbt, .int mrg, .int mct, .int mvl, .int mpl, .int mcl, .int mrw, .int mqt, .int mlv, .int mtl, .int mbe, .int mch, .ref hpb, .ref hwa, .ref hmn, .ref hcf, .ref hsa, .ref hro])), (hby, .inl (cI, 600, .inl mby))]) [1, 0] (by decide) rfl
          generalize H1 = H at hP hS ⊢
          obtain ⟨q61_0, q61_1⟩ := hw9
          have q61_0 : kB r61 0 1 := q61_0
          have q61_1 : r61 = if 0 < (2 : Int32).toInt then 1 else 0 := q61_1
          have RB61 : kB r61 1 1 := by rw [q61_1]; decide
          refine lv_if_eq (tgt := 69) hx hb dX8_put_64 (by decide) (fun c64 => ?_) (fun c64 => ?_)
          · have c64x : kB r61 0 0 := kB_eq c64 kc_0
            exact absurd (Int.le_trans RB61.1 c64x.2) (by decide)
          · refine lv_iconst (v := 0) hx hb dX8_put_67 (by decide) ?_
            have pf_x : (¬ ((1 ≤ pp.toInt ∧ pp.toInt ≤ 255) ∧ (0 ≤ mn.toInt ∧ mn.toInt ≤ 32)) ∧ (2 : Int32) = 1 ∧ (0 : Int32) = 0 ∧ msz = msz ∧ mrg = mrg ∧ mct = mct) ∨ (((1 ≤ pp.toInt ∧ pp.toInt ≤ 255) ∧ (0 ≤ mn.toInt ∧ mn.toInt ≤ 32)) ∧ ¬ (mbg = 1 ∧ msz.toInt ≤ 560) ∧ (2 : Int32) = 2 ∧ (0 : Int32) = 0 ∧ msz = msz ∧ mrg = mrg ∧ mct = mct) ∨ (((1 ≤ pp.toInt ∧ pp.toInt ≤ 255) ∧ (0 ≤ mn.toInt ∧ mn.toInt ≤ 32)) ∧ mbg = 1 ∧ msz.toInt ≤ 560 ∧ (2 : Int32) = 0 ∧ (0 : Int32) = msz ∧ kB mrg 128 255 ∧ kB mct 1 24 ∧ kNF mct.toInt msz.toInt ∧ kB msz 0 595 ∧ (mrg.toInt, 8 * msz.toInt - mct.toInt) = (kput pp.toInt (kbt bi) mn.toInt.toNat (mrg.toInt, 8 * msz.toInt - mct.toInt))) := (Or.inr (Or.inl ⟨HS, HB, rfl, rfl, rfl, rfl, rfl⟩))
            have pf_w : ((2 : Int32) = 0 → mbt = lN (wPut pp.toInt (kbt bi) mn.toInt.toNat (mrg.toInt, mct.toInt, msz.toInt, Bz, mby)).2.2.2.1 ∧ mby = (wPut pp.toInt (kbt bi) mn.toInt.toNat (mrg.toInt, mct.toInt, msz.toInt, Bz, mby)).2.2.2.2) ∧ (¬ (2 : Int32) = 0 → mbt = mbt ∧ mby = mby) := ⟨fun h => absurd h (by decide), fun _ => ⟨rfl, rfl⟩⟩
            exact W.iret (v := 0) hx hb hr (fun t9 ht9 hW9 => ⟨⟨0, (2, msz, mbt, mrg, mct, mby), rfl, ⟨pf_x, pf_w⟩, by rw [ht9]; exact hP, hD⟩, hS.F ht9⟩) hS.2.2 dX8_put_68
        · have c43x : kB mbg 1 1 := kB_eq c43 kc_1
          refine lv_aload_n hx hb dX8_put_46 rfl (lv_at hl 1 rfl) ?_
          refine va_get (D := D) (ci := 8) (v := .int msz) (C := RX8) (T := TX8) (N := 22) hx hb hts in_X8 hown hK.1 hP 0 rfl rfl 2 (by decide) (hts _ mk_184) (fun _ h9 => h9) rfl dX8_put_47 ?_
          refine lv_sipush (v := 560) hx hb dX8_put_50 (by decide) ?_
          refine lv_icmp_le (tgt := 60) hx hb dX8_put_53 (by decide) (fun c53 => ?_) (fun c53 => ?_)
          · have c53x : kB msz 0 560 := kB_le_l bsz kc_560 c53 (by decide)
            have HB2 : msz.toInt ≤ 560 := c53x.2
            refine lv_iconst (v := 0) hx hb dX8_put_60 (by decide) ?_
            have hPc := hP.sub (ws' := [(hm, .inr (8, [.int mrf, .ref hby, .int msz, .int mbg, .long mbt, .int mrg, .int mct, .int mvl, .int mpl, .int mcl, .int mrw, .int mqt, .int mlv, .int mtl, .int mbe, .int mch, .ref hpb, .ref hwa, .ref hmn, .ref hcf, .ref hsa, .ref hro]))]) [0] rfl
            have hDc := hD.sub (ws' := [(hm, .inr (8, [.int mrf, .ref hby, .int msz, .int mbg, .long mbt, .int mrg, .int mct, .int mvl, .int mpl, .int mcl, .int mrw, .int mqt, .int mlv, .int mtl, .int mbe, .int mch, .ref hpb, .ref hwa, .ref hmn, .ref hcf, .ref hsa, .ref hro]))]) [0] (by decide) rfl
            have hFc := va_free (wc := [(hm, .inr (8, [.int mrf, .ref hby, .int msz, .int mbg, .long mbt, .int mrg, .int mct, .int mvl, .int mpl, .int mcl, .int mrw, .int mqt, .int mlv, .int mtl, .int mbe, .int mch, .ref hpb, .ref hwa, .ref hmn, .ref hcf, .ref hsa, .ref hro]))]) hD hS hA [0] rfl
            refine va_calli (va_runV (As := [.int 0]) (rest := []) ⟨hx, hb, hml, hown, hts⟩ (c_X8_refused l D cI cJ cZ hm hby hpb hwa hmn hcf hsa hro mrf msz mbg mrg mct mvl mpl mcl mrw mqt mlv mtl mbe mch mbt 0 (H).size) (cwV 1 hts (kg_V mk_372 mk_373 mk_374 mk_189 mk_375) rfl rfl rfl (by decide +kernel) ⟨Nat.le_of_ble_eq_true rfl, Nat.le_of_ble_eq_true rfl⟩) ⟨fun a U g mk q => by obtain ⟨q0, q1, qP, qK, qD⟩ := q; exact ⟨q0, q1, qP, kK.call qK, qD⟩, va_recv hK.1 hPc (ci := 8) (q0 := 0) rfl rfl, fun U hU hW => ⟨rfl, by rw [hU], by rw [hU]; exact hPc, kK.warm hW hK, hDc.weaken (fun _ _ _ _ => trivial)⟩⟩ rfl rfl hl.1 rfl (lv_room (Nat.le_of_ble_eq_true rfl)) dX8_put_61 ⟨Nat.zero_le _, Nat.zero_le _⟩) hS (fun q _ h => hFc q h) hFc (fun r61 u t9 H1 locs ht9 hvm9 hw9 hB9 hz9 hk9 hS => ?_)
            obtain ⟨hP1, hD1⟩ := hB9
            rw [ht9] at hP1
            have hP1 : va_P D vwCl [(hm, .inr (8, [.int 0, .ref hby, .int msz, .int mbg, .long mbt, .int mrg, .int mct, .int mvl, .int mpl, .int mcl, .int mrw, .int mqt, .int mlv, .int mtl, .int mbe, .int mch, .ref hpb, .ref hwa, .ref hmn, .ref hcf, .ref hsa, .ref hro]))] H1 := hP1
            obtain ⟨hP, hD⟩ := va_join (wr := [(hby, .inl (cI, 600, .inl mby))]) (w1 := [(hm, .inr (8, [.int 0, .ref hby, .int msz, .int mbg, .long mbt, .int mrg, .int mct, .int mvl, .int mpl, .int mcl, .int mrw, .int mqt, .int mlv, .int mtl, .int mbe, .int mch, .ref hpb, .ref hwa, .ref hmn, .ref hcf, .ref hsa, .ref hro]))]) hP hD [0] [1] rfl rfl (by decide) (by decide) hk9 hFc hP1 hD1
            have hP := hP.sub (ws' := [(hm, .inr (8, [.int 0, .ref hby, .int msz, .int mbg, .long mbt, .int mrg, .int mct, .int mvl, .int mpl, .int mcl, .int mrw, .int mqt, .int mlv, .int mtl, .int mbe, .int mch, .ref hpb, .ref hwa, .ref hmn, .ref hcf, .ref hsa, .ref hro])), (hby, .inl (cI, 600, .inl mby))]) [1, 0] rfl
            have hD := hD.sub (ws' := [(hm, .inr (8, [.int 0, .ref hby, .int msz, .int mbg, .long mbt, .int mrg, .int mct, .int mvl, .int mpl, .int mcl, .int mrw, .int mqt, .int mlv, .int mtl, .int mbe, .int mch, .ref hpb, .ref hwa, .ref hmn, .ref hcf, .ref hsa, .ref hro])), (hby, .inl (cI, 600, .inl mby))]) [1, 0] (by decide) rfl
            generalize H1 = H at hP hS ⊢
            obtain ⟨q61_0, q61_1⟩ := hw9
            have q61_0 : kB r61 0 1 := q61_0
            have q61_1 : r61 = if 0 < (0 : Int32).toInt then 1 else 0 := q61_1
            have RB61 : kB r61 0 0 := by rw [q61_1]; decide
            refine lv_if_eq (tgt := 69) hx hb dX8_put_64 (by decide) (fun c64 => ?_) (fun c64 => ?_)
            · obtain ⟨brg0, bct0, nf0⟩ := hwr c43
              have bp0 : kB pp 0 255 := ⟨by have := HP.1; omega, HP.2⟩
              have bmn0 : kB mn 0 32 := HN
              refine lv_iload_n hx hb dX8_put_69 rfl (lv_at hl 4 rfl) ?_
              refine lv_iconst (v := 1) hx hb dX8_put_70 (by decide) ?_
              refine lv_isub hx hb dX8_put_71 ?_
              refine lv_topi (fun v71 e71 => ?_)
              have b71 : kB v71 (-1) 31 := kB_eq e71 (kB_sub bmn0 kc_1 (by decide))
              have X71 : v71.toInt = mn.toInt - 1 := by rw [e71]; exact kdec1 (kB_w bmn0 (by decide) (by decide))
              refine lv_istore (lv' := [(5, .int v71), (4, .int 1), (0, .ref hm), (1, .int pp), (2, .int bi), (3, .int mn)]) hx hb dX8_put_72 hl (by decide) rfl (fun ls hl => ?_)
              exact lp_X8_put_74 D cI cJ cZ hm hby hpb hwa hmn hcf hsa hro mrf msz mbg mrg mct mvl mpl mcl mrw mqt mlv mtl mbe mch mbt mby pp bi mn Bz bsz hwr hB hx hb hr hml hown hts hlocks hK hA ((v71.toInt + 1).toNat + 1) v71 msz mbt mrg mct mby Bz (Nat.lt_succ_self _) c43 HS HB2 bp0 b71 brg0 bct0 (kB_w c53x (by decide) (by decide)) nf0 (by rw [X71]; have := bct0.1; have := HN.2; omega) (by rw [X71, show mn.toInt - 1 + 1 = mn.toInt by omega]) (hB c43).1 (hB c43).2 (by rw [X71, show mn.toInt - 1 + 1 = mn.toInt by omega]) _ _ ls hP hD hS (lv_sub hl [2, 3, 4, 0] rfl)
            · have c64x : kB r61 1 0 := kB_nlo RB61 c64 kc_0 (by decide)
              exact absurd (Int.le_trans c64x.1 c64x.2) (by decide)
          · have c53n : 560 < msz := kN_le c53
            have c53ny : kB msz 561 600 := kB_lt_r kc_560 bsz c53n (by decide)
            have HB : ¬ (mbg = 1 ∧ msz.toInt ≤ 560) := fun h9 => by have := c53ny.1; omega
            refine lv_iconst (v := 2) hx hb dX8_put_56 (by decide) ?_
            refine lv_goto (tgt := 61) hx hb dX8_put_57 (by decide) ?_
            have hPc := hP.sub (ws' := [(hm, .inr (8, [.int mrf, .ref hby, .int msz, .int mbg, .long mbt, .int mrg, .int mct, .int mvl, .int mpl, .int mcl, .int mrw, .int mqt, .int mlv, .int mtl, .int mbe, .int mch, .ref hpb, .ref hwa, .ref hmn, .ref hcf, .ref hsa, .ref hro]))]) [0] rfl
            have hDc := hD.sub (ws' := [(hm, .inr (8, [.int mrf, .ref hby, .int msz, .int mbg, .long mbt, .int mrg, .int mct, .int mvl, .int mpl, .int mcl, .int mrw, .int mqt, .int mlv, .int mtl, .int mbe, .int mch, .ref hpb, .ref hwa, .ref hmn, .ref hcf, .ref hsa, .ref hro]))]) [0] (by decide) rfl
            have hFc := va_free (wc := [(hm, .inr (8, [.int mrf, .ref hby, .int msz, .int mbg, .long mbt, .int mrg, .int mct, .int mvl, .int mpl, .int mcl, .int mrw, .int mqt, .int mlv, .int mtl, .int mbe, .int mch, .ref hpb, .ref hwa, .ref hmn, .ref hcf, .ref hsa, .ref hro]))]) hD hS hA [0] rfl
            refine va_calli (va_runV (As := [.int 2]) (rest := []) ⟨hx, hb, hml, hown, hts⟩ (c_X8_refused l D cI cJ cZ hm hby hpb hwa hmn hcf hsa hro mrf msz mbg mrg mct mvl mpl mcl mrw mqt mlv mtl mbe mch mbt 2 (H).size) (cwV 1 hts (kg_V mk_372 mk_373 mk_374 mk_189 mk_375) rfl rfl rfl (by decide +kernel) ⟨Nat.le_of_ble_eq_true rfl, Nat.le_of_ble_eq_true rfl⟩) ⟨fun a U g mk q => by obtain ⟨q0, q1, qP, qK, qD⟩ := q; exact ⟨q0, q1, qP, kK.call qK, qD⟩, va_recv hK.1 hPc (ci := 8) (q0 := 0) rfl rfl, fun U hU hW => ⟨rfl, by rw [hU], by rw [hU]; exact hPc, kK.warm hW hK, hDc.weaken (fun _ _ _ _ => trivial)⟩⟩ rfl rfl hl.1 rfl (lv_room (Nat.le_of_ble_eq_true rfl)) dX8_put_61 ⟨Nat.zero_le _, Nat.zero_le _⟩) hS (fun q _ h => hFc q h) hFc (fun r61 u t9 H1 locs ht9 hvm9 hw9 hB9 hz9 hk9 hS => ?_)
            obtain ⟨hP1, hD1⟩ := hB9
            rw [ht9] at hP1
            have hP1 : va_P D vwCl [(hm, .inr (8, [.int 2, .ref hby, .int msz, .int mbg, .long mbt, .int mrg, .int mct, .int mvl, .int mpl, .int mcl, .int mrw, .int mqt, .int mlv, .int mtl, .int mbe, .int mch, .ref hpb, .ref hwa, .ref hmn, .ref hcf, .ref hsa, .ref hro]))] H1 := hP1
            obtain ⟨hP, hD⟩ := va_join (wr := [(hby, .inl (cI, 600, .inl mby))]) (w1 := [(hm, .inr (8, [.int 2, .ref hby, .int msz, .int mbg, .long mbt, .int mrg, .int mct, .int mvl, .int mpl, .int mcl, .int mrw, .int mqt, .int mlv, .int mtl, .int mbe, .int mch, .ref hpb, .ref hwa, .ref hmn, .ref hcf, .ref hsa, .ref hro]))]) hP hD [0] [1] rfl rfl (by decide) (by decide) hk9 hFc hP1 hD1
            have hP := hP.sub (ws' := [(hm, .inr (8, [.int 2, .ref hby, .int msz, .int mbg, .long mbt, .int mrg, .int mct, .int mvl, .int mpl, .int mcl, .int mrw, .int mqt, .int mlv, .int mtl, .int mbe, .int mch, .ref hpb, .ref hwa, .ref hmn, .ref hcf, .ref hsa, .ref hro])), (hby, .inl (cI, 600, .inl mby))]) [1, 0] rfl
            have hD := hD.sub (ws' := [(hm, .inr (8, [.int 2, .ref hby, .int msz, .int mbg, .long mbt, .int mrg, .int mct, .int mvl, .int mpl, .int mcl, .int mrw, .int mqt, .int mlv, .int mtl, .int mbe, .int mch, .ref hpb, .ref hwa, .ref hmn, .ref hcf, .ref hsa, .ref hro])), (hby, .inl (cI, 600, .inl mby))]) [1, 0] (by decide) rfl
            generalize H1 = H at hP hS ⊢
            obtain ⟨q61_0, q61_1⟩ := hw9
            have q61_0 : kB r61 0 1 := q61_0
            have q61_1 : r61 = if 0 < (2 : Int32).toInt then 1 else 0 := q61_1
            have RB61 : kB r61 1 1 := by rw [q61_1]; decide
            refine lv_if_eq (tgt := 69) hx hb dX8_put_64 (by decide) (fun c64 => ?_) (fun c64 => ?_)
            · have c64x : kB r61 0 0 := kB_eq c64 kc_0
              exact absurd (Int.le_trans RB61.1 c64x.2) (by decide)
            · refine lv_iconst (v := 0) hx hb dX8_put_67 (by decide) ?_
              have pf_x : (¬ ((1 ≤ pp.toInt ∧ pp.toInt ≤ 255) ∧ (0 ≤ mn.toInt ∧ mn.toInt ≤ 32)) ∧ (2 : Int32) = 1 ∧ (0 : Int32) = 0 ∧ msz = msz ∧ mrg = mrg ∧ mct = mct) ∨ (((1 ≤ pp.toInt ∧ pp.toInt ≤ 255) ∧ (0 ≤ mn.toInt ∧ mn.toInt ≤ 32)) ∧ ¬ (mbg = 1 ∧ msz.toInt ≤ 560) ∧ (2 : Int32) = 2 ∧ (0 : Int32) = 0 ∧ msz = msz ∧ mrg = mrg ∧ mct = mct) ∨ (((1 ≤ pp.toInt ∧ pp.toInt ≤ 255) ∧ (0 ≤ mn.toInt ∧ mn.toInt ≤ 32)) ∧ mbg = 1 ∧ msz.toInt ≤ 560 ∧ (2 : Int32) = 0 ∧ (0 : Int32) = msz ∧ kB mrg 128 255 ∧ kB mct 1 24 ∧ kNF mct.toInt msz.toInt ∧ kB msz 0 595 ∧ (mrg.toInt, 8 * msz.toInt - mct.toInt) = (kput pp.toInt (kbt bi) mn.toInt.toNat (mrg.toInt, 8 * msz.toInt - mct.toInt))) := (Or.inr (Or.inl ⟨HS, HB, rfl, rfl, rfl, rfl, rfl⟩))
              have pf_w : ((2 : Int32) = 0 → mbt = lN (wPut pp.toInt (kbt bi) mn.toInt.toNat (mrg.toInt, mct.toInt, msz.toInt, Bz, mby)).2.2.2.1 ∧ mby = (wPut pp.toInt (kbt bi) mn.toInt.toNat (mrg.toInt, mct.toInt, msz.toInt, Bz, mby)).2.2.2.2) ∧ (¬ (2 : Int32) = 0 → mbt = mbt ∧ mby = mby) := ⟨fun h => absurd h (by decide), fun _ => ⟨rfl, rfl⟩⟩
              exact W.iret (v := 0) hx hb hr (fun t9 ht9 hW9 => ⟨⟨0, (2, msz, mbt, mrg, mct, mby), rfl, ⟨pf_x, pf_w⟩, by rw [ht9]; exact hP, hD⟩, hS.F ht9⟩) hS.2.2 dX8_put_68
      · exact absurd c31 (by decide)
abbrev kw_X8_end : List Cond := Cond.code yX8_end cX8_end 4 (some .int) :: kW
set_option maxHeartbeats 4000000 in
set_option maxRecDepth 100000 in
theorem lp_X8_end_97 {p : Program} {l : Launch} {e : Env} {s : State} {m : MethodId} {args : Array Value} {below : List Frame} {meth : Method} {c : Code} {A : Nat → Prop} (D : va_G) (cI cJ cZ : ClassId) (hm hby hpb hwa hmn hcf hsa hro : Nat) (mrf : Int32) (msz : Int32) (mbg : Int32) (mrg : Int32) (mct : Int32) (mvl : Int32) (mpl : Int32) (mcl : Int32) (mrw : Int32) (mqt : Int32) (mlv : Int32) (mtl : Int32) (mbe : Int32) (mch : Int32) (mbt : Int64) (mby : Nat → Int32) (Bz : Nat) (bsz : kB msz 0 600) (hwr : mbg = 1 → kB mct 1 24 ∧ kB msz 0 596) (hB : mbg = 1 → mbt = lN Bz ∧ Bz < 4294967296) (hx : p.tables.exec = Jvm.exec) (hb : c.code = cX8_end) (hr : meth.sig.returnType = (some .int)) (hml : c.maxLocals = 4) (hown : s.vm.findClass RX8 = some m.cls) (hts : ∀ w ∈ kW, w.before args s = true) (hlocks : meth.locks = false) (hK : kK D cI cJ cZ s) (hA : ∀ q : Nat, s.heap.size ≤ q → A q) : ∀ n : Nat, ∀ (v1 : Int64) (x3 : Int32) (msz2 : Int32) (mby2 : Nat → Int32) (V : Nat), (4 - x3.toInt).toNat < n → (mbg = 1) → (kB msz 0 596) → (kB x3 0 4) → (kB msz2 0 600) → (msz2.toInt = msz.toInt + x3.toInt) → (v1 = lN V) → (V < 4294967296) → (wAp (4 - x3.toInt).toNat (msz2.toInt, V, mby2) = (wAp 4 (msz.toInt, wEb mct.toInt Bz, (wEf mct.toInt msz.toInt.toNat Bz mby)))) → ∀ (H : Heap) (locs : List Loc) (ls : Array Slot), va_P D vwCl [(hm, .inr (8, [.int 0, .ref hby, .int msz2, .int 0, .long mbt, .int mrg, .int mct, .int mvl, .int mpl, .int mcl, .int mrw, .int mqt, .int mlv, .int mtl, .int mbe, .int mch, .ref hpb, .ref hwa, .ref hmn, .ref hcf, .ref hsa, .ref hro])), (hby, .inl (cI, 600, .inl mby2))] H → va_D A [(hm, .inr (8, [.int 0, .ref hby, .int msz2, .int 0, .long mbt, .int mrg, .int mct, .int mvl, .int mpl, .int mcl, .int mrw, .int mqt, .int mlv, .int mtl, .int mbe, .int mch, .ref hpb, .ref hwa, .ref hmn, .ref hcf, .ref hsa, .ref hro])), (hby, .inl (cI, 600, .inl mby2))] → va_S A s.heap H locs → lv_has ls 4 [(0, .ref hm), (1, .long v1), (3, .int x3)] → W p l e (headSpec kw_X8_end ({ frames := 1, cells := 0, slots := 0, locals := 22 })).room s m args below meth c H locs 0 0 (MQ below (va_Qi (fun (r : Int32) (u : Int32 × Int32 × Int32 × (Nat → Int32)) => (kB u.2.1 0 600) ∧ ((¬ mbg = 1 ∧ u.1 = 1 ∧ r = 0 ∧ u.2.1 = msz ∧ u.2.2.1 = mbg ∧ u.2.2.2 = mby) ∨ (mbg = 1 ∧ u.1 = 0 ∧ r = u.2.1 ∧ u.2.1.toInt = msz.toInt + 4 ∧ u.2.2.1 = 0)) ∧ ((u.1 = 0 → u.2.2.2 = (wAp 4 (msz.toInt, wEb mct.toInt Bz, (wEf mct.toInt msz.toInt.toNat Bz mby))).2.2) ∧ (¬ u.1 = 0 → u.2.2.2 = mby))) (fun (u : Int32 × Int32 × Int32 × (Nat → Int32)) (t : State) => va_P D vwCl [(hm, .inr (8, [.int u.1, .ref hby, .int u.2.1, .int u.2.2.1, .long mbt, .int mrg, .int mct, .int mvl, .int mpl, .int mcl, .int mrw, .int mqt, .int mlv, .int mtl, .int mbe, .int mch, .ref hpb, .ref hwa, .ref hmn, .ref hcf, .ref hsa, .ref hro])), (hby, .inl (cI, 600, .inl u.2.2.2))] t.heap ∧ va_D A [(hm, .inr (8, [.int u.1, .ref hby, .int u.2.1, .int u.2.2.1, .long mbt, .int mrg, .int mct, .int mvl, .int mpl, .int mcl, .int mrw, .int mqt, .int mlv, .int mtl, .int mbe, .int mch, .ref hpb, .ref hwa, .ref hmn, .ref hcf, .ref hsa, .ref hro])), (hby, .inl (cI, 600, .inl u.2.2.2))]) A) args s 0 0 A) (F0 m 97 ls []) := by
  intro n
  induction n with
  | zero => intro v1 x3 msz2 mby2 V hmeas; exact absurd hmeas (Nat.not_lt_zero _)
  | succ n ih =>
    intro v1 x3 msz2 mby2 V hmeas c6 bsz0 b3 bsz2 hz hv hv2 hap H locs ls hP hD hS hl
    refine lv_iload_n hx hb dX8_end_97 rfl (lv_at hl 2 rfl) ?_
    refine lv_iconst (v := 4) hx hb dX8_end_98 (by decide) ?_
    refine lv_icmp_ge (tgt := 122) hx hb dX8_end_99 (by decide) (fun c99 => ?_) (fun c99 => ?_)
    · have c99y : kB x3 4 4 := kB_le_r kc_4 b3 c99 (by decide)
      have E99 : (msz2.toInt, V, mby2) = (wAp 4 (msz.toInt, wEb mct.toInt Bz, (wEf mct.toInt msz.toInt.toNat Bz mby))) := by rw [← hap, show (4 - x3.toInt).toNat = 0 by have := c99y.1; omega]; rfl
      refine lv_aload_n hx hb dX8_end_122 rfl (lv_at hl 0 rfl) ?_
      refine va_get (D := D) (ci := 8) (v := .int msz2) (C := RX8) (T := TX8) (N := 22) hx hb hts in_X8 hown hK.1 hP 0 rfl rfl 2 (by decide) (hts _ mk_184) (fun _ h9 => h9) rfl dX8_end_123 ?_
      have pf_x : (¬ mbg = 1 ∧ (0 : Int32) = 1 ∧ msz2 = 0 ∧ msz2 = msz ∧ (0 : Int32) = mbg ∧ mby2 = mby) ∨ (mbg = 1 ∧ (0 : Int32) = 0 ∧ msz2 = msz2 ∧ msz2.toInt = msz.toInt + 4 ∧ (0 : Int32) = 0) := (Or.inr ⟨c6, rfl, rfl, by have := c99y.1; omega, rfl⟩)
      have pf_w : ((0 : Int32) = 0 → mby2 = (wAp 4 (msz.toInt, wEb mct.toInt Bz, (wEf mct.toInt msz.toInt.toNat Bz mby))).2.2) ∧ (¬ (0 : Int32) = 0 → mby2 = mby) := ⟨fun _ => by rw [← E99], fun h => absurd rfl h⟩
      exact W.iret (v := msz2) hx hb hr (fun t9 ht9 hW9 => ⟨⟨msz2, (0, msz2, 0, mby2), rfl, ⟨bsz2, pf_x, pf_w⟩, by rw [ht9]; exact hP, hD⟩, hS.F ht9⟩) hS.2.2 dX8_end_126
    · have c99n : x3 < 4 := kN_le c99
      have c99nx : kB x3 0 3 := kB_lt_l b3 kc_4 c99n (by decide)
      refine lv_aload_n hx hb dX8_end_102 rfl (lv_at hl 0 rfl) ?_
      refine lv_lload_n hx hb dX8_end_103 rfl (lv_at hl 1 rfl) ?_
      have B104 : kB msz2 0 599 := ⟨bsz2.1, by have := c99nx.2; omega⟩
      have hPc := hP.sub (ws' := [(hm, .inr (8, [.int 0, .ref hby, .int msz2, .int 0, .long mbt, .int mrg, .int mct, .int mvl, .int mpl, .int mcl, .int mrw, .int mqt, .int mlv, .int mtl, .int mbe, .int mch, .ref hpb, .ref hwa, .ref hmn, .ref hcf, .ref hsa, .ref hro])), (hby, .inl (cI, 600, .inl mby2))]) [0, 1] rfl
      have hDc := hD.sub (ws' := [(hm, .inr (8, [.int 0, .ref hby, .int msz2, .int 0, .long mbt, .int mrg, .int mct, .int mvl, .int mpl, .int mcl, .int mrw, .int mqt, .int mlv, .int mtl, .int mbe, .int mch, .ref hpb, .ref hwa, .ref hmn, .ref hcf, .ref hsa, .ref hro])), (hby, .inl (cI, 600, .inl mby2))]) [0, 1] (by decide) rfl
      have hFc := va_free (wc := [(hm, .inr (8, [.int 0, .ref hby, .int msz2, .int 0, .long mbt, .int mrg, .int mct, .int mvl, .int mpl, .int mcl, .int mrw, .int mqt, .int mlv, .int mtl, .int mbe, .int mch, .ref hpb, .ref hwa, .ref hmn, .ref hcf, .ref hsa, .ref hro])), (hby, .inl (cI, 600, .inl mby2))]) hD hS hA [0, 1] rfl
      refine va_callv (va_runV (As := [.long v1]) (rest := []) ⟨hx, hb, hml, hown, hts⟩ (c_X8_append l D cI cJ cZ hm hby hpb hwa hmn hcf hsa hro 0 msz2 0 mrg mct mvl mpl mcl mrw mqt mlv mtl mbe mch mbt mby2 v1 V B104 hv hv2 (H).size) (cwV 1 hts (kg_V mk_360 mk_361 mk_362 mk_189 mk_363) rfl rfl rfl (by decide +kernel) ⟨Nat.le_of_ble_eq_true rfl, Nat.le_of_ble_eq_true rfl⟩) ⟨fun a U g mk q => by obtain ⟨q0, q1, qP, qK, qD⟩ := q; exact ⟨q0, q1, qP, kK.call qK, qD⟩, va_recv hK.1 hPc (ci := 8) (q0 := 0) rfl rfl, fun U hU hW => ⟨rfl, by rw [hU], by rw [hU]; exact hPc, kK.warm hW hK, hDc.weaken (fun _ _ _ _ => trivial)⟩⟩ rfl rfl hl.1 rfl (lv_room (Nat.le_of_ble_eq_true rfl)) dX8_end_104 ⟨Nat.zero_le _, Nat.zero_le _⟩) hS (fun q _ h => hFc q h) hFc (fun u t9 H1 locs ht9 hvm9 hw9 hB9 hz9 hk9 hS => ?_)
      obtain ⟨msz2_104, mby2_104⟩ := u
      obtain ⟨hP1, hD1⟩ := hB9
      rw [ht9] at hP1
      have hP1 : va_P D vwCl [(hm, .inr (8, [.int 0, .ref hby, .int msz2_104, .int 0, .long mbt, .int mrg, .int mct, .int mvl, .int mpl, .int mcl, .int mrw, .int mqt, .int mlv, .int mtl, .int mbe, .int mch, .ref hpb, .ref hwa, .ref hmn, .ref hcf, .ref hsa, .ref hro])), (hby, .inl (cI, 600, .inl mby2_104))] H1 := hP1
      obtain ⟨hP, hD⟩ := va_join (wr := []) (w1 := [(hm, .inr (8, [.int 0, .ref hby, .int msz2_104, .int 0, .long mbt, .int mrg, .int mct, .int mvl, .int mpl, .int mcl, .int mrw, .int mqt, .int mlv, .int mtl, .int mbe, .int mch, .ref hpb, .ref hwa, .ref hmn, .ref hcf, .ref hsa, .ref hro])), (hby, .inl (cI, 600, .inl mby2_104))]) hP hD [0, 1] [] rfl rfl (by decide) (by decide) hk9 hFc hP1 hD1
      have hP := hP.sub (ws' := [(hm, .inr (8, [.int 0, .ref hby, .int msz2_104, .int 0, .long mbt, .int mrg, .int mct, .int mvl, .int mpl, .int mcl, .int mrw, .int mqt, .int mlv, .int mtl, .int mbe, .int mch, .ref hpb, .ref hwa, .ref hmn, .ref hcf, .ref hsa, .ref hro])), (hby, .inl (cI, 600, .inl mby2_104))]) [0, 1] rfl
      have hD := hD.sub (ws' := [(hm, .inr (8, [.int 0, .ref hby, .int msz2_104, .int 0, .long mbt, .int mrg, .int mct, .int mvl, .int mpl, .int mcl, .int mrw, .int mqt, .int mlv, .int mtl, .int mbe, .int mch, .ref hpb, .ref hwa, .ref hmn, .ref hcf, .ref hsa, .ref hro])), (hby, .inl (cI, 600, .inl mby2_104))]) [0, 1] (by decide) rfl
      generalize H1 = H at hP hS ⊢
      obtain ⟨q104_0, q104_1, q104_2⟩ := hw9
      have q104_0 : kB msz2_104 0 600 := q104_0
      have q104_1 : msz2_104.toInt = msz2.toInt + 1 := q104_1
      have q104_2 : mby2_104 = upd mby2 msz2.toInt.toNat (nI (V / 16777216)) := q104_2
      refine lv_lload_n hx hb dX8_end_107 rfl (lv_at hl 1 rfl) ?_
      refine lv_bipush (v := 8) hx hb dX8_end_108 (by decide) ?_
      refine lv_lshl hx hb dX8_end_110 rfl ?_
      refine lv_topl (fun v110 e110 => ?_)
      refine lv_ldc2 (v := 4294967295) hx hb hown (hts _ mk_357) dX8_end_111 ?_
      refine lv_land hx hb dX8_end_114 ?_
      refine lv_topl (fun v114 e114 => ?_)
      have V114 : v114 = lN (V * 2 ^ 8 % 4294967296) := by rw [e114, e110, hv]; exact lM_shl (k := 8) hv2 (by decide) (by decide)
      refine lv_lstore_n (lv' := [(1, .long v114), (0, .ref hm), (3, .int x3)]) hx hb dX8_end_115 rfl hl (by decide) rfl (fun ls hl => ?_)
      obtain ⟨v116, e116⟩ : ∃ y : Int32, y = x3 + 1 := ⟨_, rfl⟩
      refine lv_iinc (v := v116) (lv' := [(3, .int v116), (1, .long v114), (0, .ref hm)]) hx hb dX8_end_116 hl (k := 2) rfl (by rw [e116]; rfl) (by decide) rfl (fun ls hl => ?_)
      have b116 : kB v116 1 4 := kB_eq e116 (kB_add c99nx kc_1 (by decide))
      have t116 : v116.toInt = x3.toInt + 1 := by rw [e116]; exact kinc (kB_w c99nx (by decide) (by decide))
      refine lv_goto (tgt := 97) hx hb dX8_end_119 (by decide) ?_
      exact ih v114 v116 msz2_104 mby2_104 (V * 2 ^ 8 % 4294967296) (by have := b116.1; have := b116.2; have := q104_0.1; have := q104_0.2; have := c99nx.1; have := c99nx.2; have := B104.1; have := B104.2; omega) c6 bsz0 (kB_w b116 (by decide) (by decide)) q104_0 (by rw [t116]; omega) V114 (Nat.mod_lt _ (by decide)) (by rw [t116, q104_1, q104_2]; rw [show (4 - x3.toInt).toNat = (4 - (x3.toInt + 1)).toNat + 1 by omega, wAp_s] at hap; rw [show V * 2 ^ 8 = 256 * V by omega]; exact hap) _ _ ls hP hD hS (lv_sub hl [2, 1, 0] rfl)
set_option maxHeartbeats 4000000 in
set_option maxRecDepth 100000 in
theorem lp_X8_end_69 {p : Program} {l : Launch} {e : Env} {s : State} {m : MethodId} {args : Array Value} {below : List Frame} {meth : Method} {c : Code} {A : Nat → Prop} (D : va_G) (cI cJ cZ : ClassId) (hm hby hpb hwa hmn hcf hsa hro : Nat) (mrf : Int32) (msz : Int32) (mbg : Int32) (mrg : Int32) (mct : Int32) (mvl : Int32) (mpl : Int32) (mcl : Int32) (mrw : Int32) (mqt : Int32) (mlv : Int32) (mtl : Int32) (mbe : Int32) (mch : Int32) (mbt : Int64) (mby : Nat → Int32) (Bz : Nat) (bsz : kB msz 0 600) (hwr : mbg = 1 → kB mct 1 24 ∧ kB msz 0 596) (hB : mbg = 1 → mbt = lN Bz ∧ Bz < 4294967296) (hx : p.tables.exec = Jvm.exec) (hb : c.code = cX8_end) (hr : meth.sig.returnType = (some .int)) (hml : c.maxLocals = 4) (hown : s.vm.findClass RX8 = some m.cls) (hts : ∀ w ∈ kW, w.before args s = true) (hlocks : meth.locks = false) (hK : kK D cI cJ cZ s) (hA : ∀ q : Nat, s.heap.size ≤ q → A q) : ∀ n : Nat, ∀ (v1 : Int64) (x3 : Int32) (mby2 : Nat → Int32) (V : Nat), (3 - x3.toInt).toNat < n → (mbg = 1) → (kB mct 1 24) → (kB msz 0 596) → (kB x3 0 3) → (mby2 = (wEf mct.toInt msz.toInt.toNat Bz mby)) → (v1 = lN V) → (V < 4294967296) → (wEs mct.toInt x3.toInt V = wEb mct.toInt Bz) → ∀ (H : Heap) (locs : List Loc) (ls : Array Slot), va_P D vwCl [(hm, .inr (8, [.int 0, .ref hby, .int msz, .int 0, .long mbt, .int mrg, .int mct, .int mvl, .int mpl, .int mcl, .int mrw, .int mqt, .int mlv, .int mtl, .int mbe, .int mch, .ref hpb, .ref hwa, .ref hmn, .ref hcf, .ref hsa, .ref hro])), (hby, .inl (cI, 600, .inl mby2))] H → va_D A [(hm, .inr (8, [.int 0, .ref hby, .int msz, .int 0, .long mbt, .int mrg, .int mct, .int mvl, .int mpl, .int mcl, .int mrw, .int mqt, .int mlv, .int mtl, .int mbe, .int mch, .ref hpb, .ref hwa, .ref hmn, .ref hcf, .ref hsa, .ref hro])), (hby, .inl (cI, 600, .inl mby2))] → va_S A s.heap H locs → lv_has ls 4 [(0, .ref hm), (1, .long v1), (3, .int x3)] → W p l e (headSpec kw_X8_end ({ frames := 1, cells := 0, slots := 0, locals := 22 })).room s m args below meth c H locs 0 0 (MQ below (va_Qi (fun (r : Int32) (u : Int32 × Int32 × Int32 × (Nat → Int32)) => (kB u.2.1 0 600) ∧ ((¬ mbg = 1 ∧ u.1 = 1 ∧ r = 0 ∧ u.2.1 = msz ∧ u.2.2.1 = mbg ∧ u.2.2.2 = mby) ∨ (mbg = 1 ∧ u.1 = 0 ∧ r = u.2.1 ∧ u.2.1.toInt = msz.toInt + 4 ∧ u.2.2.1 = 0)) ∧ ((u.1 = 0 → u.2.2.2 = (wAp 4 (msz.toInt, wEb mct.toInt Bz, (wEf mct.toInt msz.toInt.toNat Bz mby))).2.2) ∧ (¬ u.1 = 0 → u.2.2.2 = mby))) (fun (u : Int32 × Int32 × Int32 × (Nat → Int32)) (t : State) => va_P D vwCl [(hm, .inr (8, [.int u.1, .ref hby, .int u.2.1, .int u.2.2.1, .long mbt, .int mrg, .int mct, .int mvl, .int mpl, .int mcl, .int mrw, .int mqt, .int mlv, .int mtl, .int mbe, .int mch, .ref hpb, .ref hwa, .ref hmn, .ref hcf, .ref hsa, .ref hro])), (hby, .inl (cI, 600, .inl u.2.2.2))] t.heap ∧ va_D A [(hm, .inr (8, [.int u.1, .ref hby, .int u.2.1, .int u.2.2.1, .long mbt, .int mrg, .int mct, .int mvl, .int mpl, .int mcl, .int mrw, .int mqt, .int mlv, .int mtl, .int mbe, .int mch, .ref hpb, .ref hwa, .ref hmn, .ref hcf, .ref hsa, .ref hro])), (hby, .inl (cI, 600, .inl u.2.2.2))]) A) args s 0 0 A) (F0 m 69 ls []) := by
  intro n
  induction n with
  | zero => intro v1 x3 mby2 V hmeas; exact absurd hmeas (Nat.not_lt_zero _)
  | succ n ih =>
    intro v1 x3 mby2 V hmeas c6 bct0 bsz0 b3 hwe hv hv2 hes H locs ls hP hD hS hl
    refine lv_iload_n hx hb dX8_end_69 rfl (lv_at hl 2 rfl) ?_
    refine lv_aload_n hx hb dX8_end_70 rfl (lv_at hl 0 rfl) ?_
    refine va_get (D := D) (ci := 8) (v := .int mct) (C := RX8) (T := TX8) (N := 22) hx hb hts in_X8 hown hK.1 hP 0 rfl rfl 6 (by decide) (hts _ mk_194) (fun _ h9 => h9) rfl dX8_end_71 ?_
    refine lv_bipush (v := 8) hx hb dX8_end_74 (by decide) ?_
    refine lv_idiv hx hb dX8_end_76 (kB_ne0 kc_8 (Or.inl (by decide))) ?_
    refine lv_topi (fun v76 e76 => ?_)
    have b76 : kB v76 0 3 := kB_eq e76 (kB_div bct0 kc_8 (by decide))
    refine lv_icmp_ge (tgt := 95) hx hb dX8_end_77 (by decide) (fun c77 => ?_) (fun c77 => ?_)
    · have G77 : mct.toInt / 8 ≤ x3.toInt := by have h9 := Int32.le_iff_toInt_le.mp c77; rw [k8d bct0 e76] at h9; exact h9
      have EB : V = wEb mct.toInt Bz := by rw [← hes, wEs_e G77 hv2]
      refine lv_iconst (v := 0) hx hb dX8_end_95 (by decide) ?_
      refine lv_istore_n (lv' := [(3, .int 0), (0, .ref hm), (1, .long v1)]) hx hb dX8_end_96 rfl hl (by decide) rfl (fun ls hl => ?_)
      exact lp_X8_end_97 D cI cJ cZ hm hby hpb hwa hmn hcf hsa hro mrf msz mbg mrg mct mvl mpl mcl mrw mqt mlv mtl mbe mch mbt mby Bz bsz hwr hB hx hb hr hml hown hts hlocks hK hA ((4 - (0 : Int32).toInt).toNat + 1) v1 0 msz mby2 V (Nat.lt_succ_self _) c6 bsz0 (kB_w kc_0 (by decide) (by decide)) (kB_w bsz0 (by decide) (by decide)) (by rw [show (0 : Int32).toInt = 0 from by decide]; omega) hv hv2 (by rw [show (4 - (0 : Int32).toInt).toNat = 4 from by decide, EB, ← hwe]) _ _ ls hP hD hS (lv_sub hl [1, 2, 0] rfl)
    · have c77n : x3 < v76 := kN_le c77
      have c77nx : kB x3 0 2 := kB_lt_l b3 b76 c77n (by decide)
      have c77ny : kB v76 1 3 := kB_lt_r b3 b76 c77n (by decide)
      have L77 : x3.toInt < mct.toInt / 8 := by have h9 := Int32.lt_iff_toInt_lt.mp c77n; rw [k8d bct0 e76] at h9; exact h9
      refine lv_lload_n hx hb dX8_end_80 rfl (lv_at hl 1 rfl) ?_
      refine lv_bipush (v := 8) hx hb dX8_end_81 (by decide) ?_
      refine lv_lshl hx hb dX8_end_83 rfl ?_
      refine lv_topl (fun v83 e83 => ?_)
      refine lv_ldc2 (v := 4294967295) hx hb hown (hts _ mk_357) dX8_end_84 ?_
      refine lv_land hx hb dX8_end_87 ?_
      refine lv_topl (fun v87 e87 => ?_)
      have V87 : v87 = lN (V * 2 ^ 8 % 4294967296) := by rw [e87, e83, hv]; exact lM_shl (k := 8) hv2 (by decide) (by decide)
      refine lv_lstore_n (lv' := [(1, .long v87), (0, .ref hm), (3, .int x3)]) hx hb dX8_end_88 rfl hl (by decide) rfl (fun ls hl => ?_)
      obtain ⟨v89, e89⟩ : ∃ y : Int32, y = x3 + 1 := ⟨_, rfl⟩
      refine lv_iinc (v := v89) (lv' := [(3, .int v89), (1, .long v87), (0, .ref hm)]) hx hb dX8_end_89 hl (k := 2) rfl (by rw [e89]; rfl) (by decide) rfl (fun ls hl => ?_)
      have b89 : kB v89 1 3 := kB_eq e89 (kB_add c77nx kc_1 (by decide))
      have t89 : v89.toInt = x3.toInt + 1 := by rw [e89]; exact kinc (kB_w c77nx (by decide) (by decide))
      refine lv_goto (tgt := 69) hx hb dX8_end_92 (by decide) ?_
      exact ih v87 v89 mby2 (V * 2 ^ 8 % 4294967296) (by have := b89.1; have := b89.2; have := c77nx.1; have := c77nx.2; omega) c6 bct0 bsz0 (kB_w b89 (by decide) (by decide)) hwe V87 (Nat.mod_lt _ (by decide)) (by rw [t89, wEs_s L77]; exact hes) _ _ ls hP hD hS (lv_sub hl [2, 1, 0] rfl)
set_option maxHeartbeats 4000000 in
set_option maxRecDepth 100000 in
theorem c_X8_end (l : Launch) (D : va_G) (cI cJ cZ : ClassId) (hm hby hpb hwa hmn hcf hsa hro : Nat) (mrf : Int32) (msz : Int32) (mbg : Int32) (mrg : Int32) (mct : Int32) (mvl : Int32) (mpl : Int32) (mcl : Int32) (mrw : Int32) (mqt : Int32) (mlv : Int32) (mtl : Int32) (mbe : Int32) (mch : Int32) (mbt : Int64) (mby : Nat → Int32) (Bz : Nat) (bsz : kB msz 0 600) (hwr : mbg = 1 → kB mct 1 24 ∧ kB msz 0 596) (hB : mbg = 1 → mbt = lN Bz ∧ Bz < 4294967296) (hpz : Nat) : Met l yX8_end kw_X8_end ({ frames := 1, cells := 0, slots := 0, locals := 22 }) (va_Pc [.ref hm] (fun U => U.heap.size = hpz ∧ va_P D vwCl [(hm, .inr (8, [.int mrf, .ref hby, .int msz, .int mbg, .long mbt, .int mrg, .int mct, .int mvl, .int mpl, .int mcl, .int mrw, .int mqt, .int mlv, .int mtl, .int mbe, .int mch, .ref hpb, .ref hwa, .ref hmn, .ref hcf, .ref hsa, .ref hro])), (hby, .inl (cI, 600, .inl mby))] U.heap ∧ kK D cI cJ cZ U ∧ va_D (fun _ => True) [(hm, .inr (8, [.int mrf, .ref hby, .int msz, .int mbg, .long mbt, .int mrg, .int mct, .int mvl, .int mpl, .int mcl, .int mrw, .int mqt, .int mlv, .int mtl, .int mbe, .int mch, .ref hpb, .ref hwa, .ref hmn, .ref hcf, .ref hsa, .ref hro])), (hby, .inl (cI, 600, .inl mby))])) (va_Qi (fun (r : Int32) (u : Int32 × Int32 × Int32 × (Nat → Int32)) => (kB u.2.1 0 600) ∧ ((¬ mbg = 1 ∧ u.1 = 1 ∧ r = 0 ∧ u.2.1 = msz ∧ u.2.2.1 = mbg ∧ u.2.2.2 = mby) ∨ (mbg = 1 ∧ u.1 = 0 ∧ r = u.2.1 ∧ u.2.1.toInt = msz.toInt + 4 ∧ u.2.2.1 = 0)) ∧ ((u.1 = 0 → u.2.2.2 = (wAp 4 (msz.toInt, wEb mct.toInt Bz, (wEf mct.toInt msz.toInt.toNat Bz mby))).2.2) ∧ (¬ u.1 = 0 → u.2.2.2 = mby))) (fun (u : Int32 × Int32 × Int32 × (Nat → Int32)) (t : State) => va_P D vwCl [(hm, .inr (8, [.int u.1, .ref hby, .int u.2.1, .int u.2.2.1, .long mbt, .int mrg, .int mct, .int mvl, .int mpl, .int mcl, .int mrw, .int mqt, .int mlv, .int mtl, .int mbe, .int mch, .ref hpb, .ref hwa, .ref hmn, .ref hcf, .ref hsa, .ref hro])), (hby, .inl (cI, 600, .inl u.2.2.2))] t.heap ∧ va_D (va_A [(hm, .inr (8, [.int mrf, .ref hby, .int msz, .int mbg, .long mbt, .int mrg, .int mct, .int mvl, .int mpl, .int mcl, .int mrw, .int mqt, .int mlv, .int mtl, .int mbe, .int mch, .ref hpb, .ref hwa, .ref hmn, .ref hcf, .ref hsa, .ref hro])), (hby, .inl (cI, 600, .inl mby))] hpz) [(hm, .inr (8, [.int u.1, .ref hby, .int u.2.1, .int u.2.2.1, .long mbt, .int mrg, .int mct, .int mvl, .int mpl, .int mcl, .int mrw, .int mqt, .int mlv, .int mtl, .int mbe, .int mch, .ref hpb, .ref hwa, .ref hmn, .ref hcf, .ref hsa, .ref hro])), (hby, .inl (cI, 600, .inl u.2.2.2))]) (va_A [(hm, .inr (8, [.int mrf, .ref hby, .int msz, .int mbg, .long mbt, .int mrg, .int mct, .int mvl, .int mpl, .int mcl, .int mrw, .int mqt, .int mlv, .int mtl, .int mbe, .int mch, .ref hpb, .ref hwa, .ref hmn, .ref hcf, .ref hsa, .ref hro])), (hby, .inl (cI, 600, .inl mby))] hpz)) 0 0 (va_A [(hm, .inr (8, [.int mrf, .ref hby, .int msz, .int mbg, .long mbt, .int mrg, .int mct, .int mvl, .int mpl, .int mcl, .int mrw, .int mqt, .int mlv, .int mtl, .int mbe, .int mch, .ref hpb, .ref hwa, .ref hmn, .ref hcf, .ref hsa, .ref hro])), (hby, .inl (cI, 600, .inl mby))] hpz) := by
  refine Met.ofW (cc := cX8_end) (maxL := 4) (ret := (some .int)) (by decide) rfl ?_
  intro p e s m args below meth c s₁ B hml hv
  obtain ⟨rfl, hsz, hP, hK, hD0⟩ := hv
  have hx := B.exec
  have hb := B.bytes
  have hr := B.returns
  have hts := fun (w : Cond) (h : w ∈ kW) => atoms_spec (ws := kw_X8_end) B.pre w (List.mem_cons_of_mem _ h)
  have hown : s.vm.findClass RX8 = some m.cls := findClass_of_methodNamed B.named
  have hlocks := B.notSynchronized
  subst hsz
  have hD := hD0.self (sz := s.heap.size)
  generalize hAe : va_A [(hm, .inr (8, [.int mrf, .ref hby, .int msz, .int mbg, .long mbt, .int mrg, .int mct, .int mvl, .int mpl, .int mcl, .int mrw, .int mqt, .int mlv, .int mtl, .int mbe, .int mch, .ref hpb, .ref hwa, .ref hmn, .ref hcf, .ref hsa, .ref hro])), (hby, .inl (cI, 600, .inl mby))] s.heap.size = A at hD ⊢
  have hA : ∀ q : Nat, s.heap.size ≤ q → A q := fun q h => by rw [← hAe]; exact Or.inr h
  have hS : va_S A s.heap s.heap [] := va_S.rf
  have hP : va_P D vwCl [(hm, .inr (8, [.int mrf, .ref hby, .int msz, .int mbg, .long mbt, .int mrg, .int mct, .int mvl, .int mpl, .int mcl, .int mrw, .int mqt, .int mlv, .int mtl, .int mbe, .int mch, .ref hpb, .ref hwa, .ref hmn, .ref hcf, .ref hsa, .ref hro])), (hby, .inl (cI, 600, .inl mby))] s.heap := hP
  have hl := lv_entry ([.ref hm]) (n := 4) (Nat.le_of_ble_eq_true rfl)
  rw [lg_entry_eq]
  generalize (lg_sl ([.ref hm]) ++ List.replicate (4 - (lg_sl ([.ref hm])).length) Slot.unset).toArray = ls at hl ⊢
  have hl : lv_has ls 4 [(0, .ref hm)] := hl
  refine lv_aload_n hx hb dX8_end_0 rfl (lv_at hl 0 rfl) ?_
  refine lv_aload_n hx hb dX8_end_1 rfl (lv_at hl 0 rfl) ?_
  refine va_get (D := D) (ci := 8) (v := .int mbg) (C := RX8) (T := TX8) (N := 22) hx hb hts in_X8 hown hK.1 hP 0 rfl rfl 3 (by decide) (hts _ mk_195) (fun _ h9 => h9) rfl dX8_end_2 ?_
  refine lv_iconst (v := 1) hx hb dX8_end_5 (by decide) ?_
  refine lv_icmp_eq (tgt := 13) hx hb dX8_end_6 (by decide) (fun c6 => ?_) (fun c6 => ?_)
  · have c6x : kB mbg 1 1 := kB_eq c6 kc_1
    refine lv_iconst (v := 0) hx hb dX8_end_13 (by decide) ?_
    have hPc := hP.sub (ws' := [(hm, .inr (8, [.int mrf, .ref hby, .int msz, .int mbg, .long mbt, .int mrg, .int mct, .int mvl, .int mpl, .int mcl, .int mrw, .int mqt, .int mlv, .int mtl, .int mbe, .int mch, .ref hpb, .ref hwa, .ref hmn, .ref hcf, .ref hsa, .ref hro]))]) [0] rfl
    have hDc := hD.sub (ws' := [(hm, .inr (8, [.int mrf, .ref hby, .int msz, .int mbg, .long mbt, .int mrg, .int mct, .int mvl, .int mpl, .int mcl, .int mrw, .int mqt, .int mlv, .int mtl, .int mbe, .int mch, .ref hpb, .ref hwa, .ref hmn, .ref hcf, .ref hsa, .ref hro]))]) [0] (by decide) rfl
    have hFc := va_free (wc := [(hm, .inr (8, [.int mrf, .ref hby, .int msz, .int mbg, .long mbt, .int mrg, .int mct, .int mvl, .int mpl, .int mcl, .int mrw, .int mqt, .int mlv, .int mtl, .int mbe, .int mch, .ref hpb, .ref hwa, .ref hmn, .ref hcf, .ref hsa, .ref hro]))]) hD hS hA [0] rfl
    refine va_calli (va_runV (As := [.int 0]) (rest := []) ⟨hx, hb, hml, hown, hts⟩ (c_X8_refused l D cI cJ cZ hm hby hpb hwa hmn hcf hsa hro mrf msz mbg mrg mct mvl mpl mcl mrw mqt mlv mtl mbe mch mbt 0 (s.heap).size) (cwV 1 hts (kg_V mk_372 mk_373 mk_374 mk_189 mk_375) rfl rfl rfl (by decide +kernel) ⟨Nat.le_of_ble_eq_true rfl, Nat.le_of_ble_eq_true rfl⟩) ⟨fun a U g mk q => by obtain ⟨q0, q1, qP, qK, qD⟩ := q; exact ⟨q0, q1, qP, kK.call qK, qD⟩, va_recv hK.1 hPc (ci := 8) (q0 := 0) rfl rfl, fun U hU hW => ⟨rfl, by rw [hU], by rw [hU]; exact hPc, kK.warm hW hK, hDc.weaken (fun _ _ _ _ => trivial)⟩⟩ rfl rfl hl.1 rfl (lv_room (Nat.le_of_ble_eq_true rfl)) dX8_end_14 ⟨Nat.zero_le _, Nat.zero_le _⟩) hS (fun q _ h => hFc q h) hFc (fun r14 u t9 H1 locs ht9 hvm9 hw9 hB9 hz9 hk9 hS => ?_)
    obtain ⟨hP1, hD1⟩ := hB9
    rw [ht9] at hP1
    have hP1 : va_P D vwCl [(hm, .inr (8, [.int 0, .ref hby, .int msz, .int mbg, .long mbt, .int mrg, .int mct, .int mvl, .int mpl, .int mcl, .int mrw, .int mqt, .int mlv, .int mtl, .int mbe, .int mch, .ref hpb, .ref hwa, .ref hmn, .ref hcf, .ref hsa, .ref hro]))] H1 := hP1
    obtain ⟨hP, hD⟩ := va_join (wr := [(hby, .inl (cI, 600, .inl mby))]) (w1 := [(hm, .inr (8, [.int 0, .ref hby, .int msz, .int mbg, .long mbt, .int mrg, .int mct, .int mvl, .int mpl, .int mcl, .int mrw, .int mqt, .int mlv, .int mtl, .int mbe, .int mch, .ref hpb, .ref hwa, .ref hmn, .ref hcf, .ref hsa, .ref hro]))]) hP hD [0] [1] rfl rfl (by decide) (by decide) hk9 hFc hP1 hD1
    have hP := hP.sub (ws' := [(hm, .inr (8, [.int 0, .ref hby, .int msz, .int mbg, .long mbt, .int mrg, .int mct, .int mvl, .int mpl, .int mcl, .int mrw, .int mqt, .int mlv, .int mtl, .int mbe, .int mch, .ref hpb, .ref hwa, .ref hmn, .ref hcf, .ref hsa, .ref hro])), (hby, .inl (cI, 600, .inl mby))]) [1, 0] rfl
    have hD := hD.sub (ws' := [(hm, .inr (8, [.int 0, .ref hby, .int msz, .int mbg, .long mbt, .int mrg, .int mct, .int mvl, .int mpl, .int mcl, .int mrw, .int mqt, .int mlv, .int mtl, .int mbe, .int mch, .ref hpb, .ref hwa, .ref hmn, .ref hcf, .ref hsa, .ref hro])), (hby, .inl (cI, 600, .inl mby))]) [1, 0] (by decide) rfl
    generalize H1 = H at hP hS ⊢
    obtain ⟨q14_0, q14_1⟩ := hw9
    have q14_0 : kB r14 0 1 := q14_0
    have q14_1 : r14 = if 0 < (0 : Int32).toInt then 1 else 0 := q14_1
    have RB14 : kB r14 0 0 := by rw [q14_1]; decide
    refine lv_if_eq (tgt := 22) hx hb dX8_end_17 (by decide) (fun c17 => ?_) (fun c17 => ?_)
    · have bct0 := (hwr c6).1
      have bsz0 : kB msz 0 596 := (hwr c6).2
      refine lv_aload_n hx hb dX8_end_22 rfl (lv_at hl 0 rfl) ?_
      refine lv_iconst (v := 0) hx hb dX8_end_23 (by decide) ?_
      refine va_put (D := D) (ci := 8) (v := .int 0) (ty := .int) (C := RX8) (T := TX8) (N := 22) hx hb hts in_X8 tyX8 tyX8_ok nmX8 hown hK.1 hP hD hS 0 rfl rfl 3 (by decide) (hts _ mk_195) (fun _ h9 => h9) rfl (by decide +kernel) rfl rfl (Nat.le_of_ble_eq_true rfl) dX8_end_24 (fun H locs hP hD hS => ?_)
      have hP : va_P D vwCl [(hm, .inr (8, [.int 0, .ref hby, .int msz, .int 0, .long mbt, .int mrg, .int mct, .int mvl, .int mpl, .int mcl, .int mrw, .int mqt, .int mlv, .int mtl, .int mbe, .int mch, .ref hpb, .ref hwa, .ref hmn, .ref hcf, .ref hsa, .ref hro])), (hby, .inl (cI, 600, .inl mby))] H := hP
      have hD : va_D A [(hm, .inr (8, [.int 0, .ref hby, .int msz, .int 0, .long mbt, .int mrg, .int mct, .int mvl, .int mpl, .int mcl, .int mrw, .int mqt, .int mlv, .int mtl, .int mbe, .int mch, .ref hpb, .ref hwa, .ref hmn, .ref hcf, .ref hsa, .ref hro])), (hby, .inl (cI, 600, .inl mby))] := hD
      refine lv_aload_n hx hb dX8_end_27 rfl (lv_at hl 0 rfl) ?_
      refine va_get (D := D) (ci := 8) (v := .long mbt) (C := RX8) (T := TX8) (N := 22) hx hb hts in_X8 hown hK.1 hP 0 rfl rfl 4 (by decide) (hts _ mk_356) (fun _ h9 => h9) rfl dX8_end_28 ?_
      refine lv_bipush (v := 32) hx hb dX8_end_31 (by decide) ?_
      refine lv_aload_n hx hb dX8_end_33 rfl (lv_at hl 0 rfl) ?_
      refine va_get (D := D) (ci := 8) (v := .int mct) (C := RX8) (T := TX8) (N := 22) hx hb hts in_X8 hown hK.1 hP 0 rfl rfl 6 (by decide) (hts _ mk_194) (fun _ h9 => h9) rfl dX8_end_34 ?_
      refine lv_isub hx hb dX8_end_37 ?_
      refine lv_topi (fun v37 e37 => ?_)
      refine lv_lshr hx hb dX8_end_38 rfl ?_
      refine lv_topl (fun v38 e38 => ?_)
      refine lv_lconst (v := 1) hx hb dX8_end_39 (by decide) ?_
      refine lv_land hx hb dX8_end_40 ?_
      refine lv_topl (fun v40 e40 => ?_)
      refine lv_lconst (v := 1) hx hb dX8_end_41 (by decide) ?_
      refine W.lcmp hx hb dX8_end_42 ?_
      refine lv_topi (fun v42 e42 => ?_)
      have V40 : v40 = lN (Bz / 2 ^ (32 - mct.toInt).toNat % 2) := by rw [e40, e38, (hB c6).1, lM_shr (hB c6).2 bct0 e37]; exact lM_and (k := 1) (p := 2) (by decide) (by decide) (by decide) (by have := wDv (c := mct.toInt) (hB c6).2; omega)
      refine lv_if_ne (tgt := 50) hx hb dX8_end_43 (by decide) (fun c43 => ?_) (fun c43 => ?_)
      · have CF : mby = (wEf mct.toInt msz.toInt.toNat Bz mby) := wEf_n (fun h9 => c43 (by rw [e42, V40]; exact (lM_eq (a := Bz / 2 ^ (32 - mct.toInt).toNat % 2) (b := 1) (Nat.lt_of_lt_of_le (Nat.mod_lt _ (by decide)) (by decide)) (by decide)).mpr h9))
        refine lv_aload_n hx hb dX8_end_50 rfl (lv_at hl 0 rfl) ?_
        refine va_get (D := D) (ci := 8) (v := .long mbt) (C := RX8) (T := TX8) (N := 22) hx hb hts in_X8 hown hK.1 hP 0 rfl rfl 4 (by decide) (hts _ mk_356) (fun _ h9 => h9) rfl dX8_end_51 ?_
        refine lv_aload_n hx hb dX8_end_54 rfl (lv_at hl 0 rfl) ?_
        refine va_get (D := D) (ci := 8) (v := .int mct) (C := RX8) (T := TX8) (N := 22) hx hb hts in_X8 hown hK.1 hP 0 rfl rfl 6 (by decide) (hts _ mk_194) (fun _ h9 => h9) rfl dX8_end_55 ?_
        refine lv_bipush (v := 8) hx hb dX8_end_58 (by decide) ?_
        have bctx : kB mct 1 24 := bct0
        refine lv_irem hx hb dX8_end_60 (kB_ne0 kc_8 (Or.inl (by decide))) ?_
        refine lv_topi (fun v60 e60 => ?_)
        have b60 : kB v60 0 7 := kB_eq e60 (kB_rem bctx kc_8 (by decide))
        refine lv_lshl hx hb dX8_end_61 rfl ?_
        refine lv_topl (fun v61 e61 => ?_)
        refine lv_ldc2 (v := 4294967295) hx hb hown (hts _ mk_357) dX8_end_62 ?_
        refine lv_land hx hb dX8_end_65 ?_
        refine lv_topl (fun v65 e65 => ?_)
        have V65 : v65 = lN (Bz * 2 ^ (mct.toInt % 8).toNat % 4294967296) := by rw [e65, e61, (hB c6).1, e60]; exact lM_shl (hB c6).2 (k8r bct0).1 (k8r bct0).2
        refine lv_lstore_n (lv' := [(1, .long v65), (0, .ref hm)]) hx hb dX8_end_66 rfl hl (by decide) rfl (fun ls hl => ?_)
        refine lv_iconst (v := 0) hx hb dX8_end_67 (by decide) ?_
        refine lv_istore_n (lv' := [(3, .int 0), (1, .long v65), (0, .ref hm)]) hx hb dX8_end_68 rfl hl (by decide) rfl (fun ls hl => ?_)
        exact lp_X8_end_69 D cI cJ cZ hm hby hpb hwa hmn hcf hsa hro mrf msz mbg mrg mct mvl mpl mcl mrw mqt mlv mtl mbe mch mbt mby Bz bsz hwr hB hx hb hr hml hown hts hlocks hK hA ((3 - (0 : Int32).toInt).toNat + 1) v65 0 mby (Bz * 2 ^ (mct.toInt % 8).toNat % 4294967296) (Nat.lt_succ_self _) (by first | assumption | omega) bctx bsz0 (kB_w kc_0 (by decide) (by decide)) CF V65 (Nat.mod_lt _ (by decide)) (by rw [show (0 : Int32).toInt = 0 from by decide]; exact wEs_0 bct0.1 bct0.2) _ _ ls hP hD hS (lv_sub hl [2, 1, 0] rfl)
      · have c43x : kB v42 0 0 := kB_eq c43 kc_0
        refine lv_aload_n hx hb dX8_end_46 rfl (lv_at hl 0 rfl) ?_
        have hPc := hP.sub (ws' := [(hm, .inr (8, [.int 0, .ref hby, .int msz, .int 0, .long mbt, .int mrg, .int mct, .int mvl, .int mpl, .int mcl, .int mrw, .int mqt, .int mlv, .int mtl, .int mbe, .int mch, .ref hpb, .ref hwa, .ref hmn, .ref hcf, .ref hsa, .ref hro])), (hby, .inl (cI, 600, .inl mby))]) [0, 1] rfl
        have hDc := hD.sub (ws' := [(hm, .inr (8, [.int 0, .ref hby, .int msz, .int 0, .long mbt, .int mrg, .int mct, .int mvl, .int mpl, .int mcl, .int mrw, .int mqt, .int mlv, .int mtl, .int mbe, .int mch, .ref hpb, .ref hwa, .ref hmn, .ref hcf, .ref hsa, .ref hro])), (hby, .inl (cI, 600, .inl mby))]) [0, 1] (by decide) rfl
        have hFc := va_free (wc := [(hm, .inr (8, [.int 0, .ref hby, .int msz, .int 0, .long mbt, .int mrg, .int mct, .int mvl, .int mpl, .int mcl, .int mrw, .int mqt, .int mlv, .int mtl, .int mbe, .int mch, .ref hpb, .ref hwa, .ref hmn, .ref hcf, .ref hsa, .ref hro])), (hby, .inl (cI, 600, .inl mby))]) hD hS hA [0, 1] rfl
        refine va_callv (va_runV (As := []) (rest := []) ⟨hx, hb, hml, hown, hts⟩ (c_X8_carry l D cI cJ cZ hm hby hpb hwa hmn hcf hsa hro 0 msz 0 mrg mct mvl mpl mcl mrw mqt mlv mtl mbe mch mbt mby (kB_w bsz0 (by decide) (by decide)) (H).size) (cwV 0 hts (kg_V mk_365 mk_366 mk_367 mk_189 mk_368) rfl rfl rfl (by decide +kernel) ⟨Nat.le_of_ble_eq_true rfl, Nat.le_of_ble_eq_true rfl⟩) ⟨fun a U g mk q => by obtain ⟨q0, q1, qP, qK, qD⟩ := q; exact ⟨q0, q1, qP, kK.call qK, qD⟩, va_recv hK.1 hPc (ci := 8) (q0 := 0) rfl rfl, fun U hU hW => ⟨rfl, by rw [hU], by rw [hU]; exact hPc, kK.warm hW hK, hDc.weaken (fun _ _ _ _ => trivial)⟩⟩ rfl rfl hl.1 rfl (lv_room (Nat.le_of_ble_eq_true rfl)) dX8_end_47 ⟨Nat.zero_le _, Nat.zero_le _⟩) hS (fun q _ h => hFc q h) hFc (fun u t9 H1 locs ht9 hvm9 hw9 hB9 hz9 hk9 hS => ?_)
        obtain ⟨mby2_47, rfl⟩ : ∃ z, z = u := ⟨_, rfl⟩
        obtain ⟨hP1, hD1⟩ := hB9
        rw [ht9] at hP1
        have hP1 : va_P D vwCl [(hm, .inr (8, [.int 0, .ref hby, .int msz, .int 0, .long mbt, .int mrg, .int mct, .int mvl, .int mpl, .int mcl, .int mrw, .int mqt, .int mlv, .int mtl, .int mbe, .int mch, .ref hpb, .ref hwa, .ref hmn, .ref hcf, .ref hsa, .ref hro])), (hby, .inl (cI, 600, .inl mby2_47))] H1 := hP1
        obtain ⟨hP, hD⟩ := va_join (wr := []) (w1 := [(hm, .inr (8, [.int 0, .ref hby, .int msz, .int 0, .long mbt, .int mrg, .int mct, .int mvl, .int mpl, .int mcl, .int mrw, .int mqt, .int mlv, .int mtl, .int mbe, .int mch, .ref hpb, .ref hwa, .ref hmn, .ref hcf, .ref hsa, .ref hro])), (hby, .inl (cI, 600, .inl mby2_47))]) hP hD [0, 1] [] rfl rfl (by decide) (by decide) hk9 hFc hP1 hD1
        have hP := hP.sub (ws' := [(hm, .inr (8, [.int 0, .ref hby, .int msz, .int 0, .long mbt, .int mrg, .int mct, .int mvl, .int mpl, .int mcl, .int mrw, .int mqt, .int mlv, .int mtl, .int mbe, .int mch, .ref hpb, .ref hwa, .ref hmn, .ref hcf, .ref hsa, .ref hro])), (hby, .inl (cI, 600, .inl mby2_47))]) [0, 1] rfl
        have hD := hD.sub (ws' := [(hm, .inr (8, [.int 0, .ref hby, .int msz, .int 0, .long mbt, .int mrg, .int mct, .int mvl, .int mpl, .int mcl, .int mrw, .int mqt, .int mlv, .int mtl, .int mbe, .int mch, .ref hpb, .ref hwa, .ref hmn, .ref hcf, .ref hsa, .ref hro])), (hby, .inl (cI, 600, .inl mby2_47))]) [0, 1] (by decide) rfl
        generalize H1 = H at hP hS ⊢
        have q47_0 : mby2_47 = wCar msz.toInt.toNat mby := hw9
        have CF : mby2_47 = (wEf mct.toInt msz.toInt.toNat Bz mby) := by rw [q47_0]; exact wEf_y ((lM_eq (a := Bz / 2 ^ (32 - mct.toInt).toNat % 2) (b := 1) (Nat.lt_of_lt_of_le (Nat.mod_lt _ (by decide)) (by decide)) (by decide)).mp (by rw [← V40]; rw [e42] at c43; exact c43))
        refine lv_aload_n hx hb dX8_end_50 rfl (lv_at hl 0 rfl) ?_
        refine va_get (D := D) (ci := 8) (v := .long mbt) (C := RX8) (T := TX8) (N := 22) hx hb hts in_X8 hown hK.1 hP 0 rfl rfl 4 (by decide) (hts _ mk_356) (fun _ h9 => h9) rfl dX8_end_51 ?_
        refine lv_aload_n hx hb dX8_end_54 rfl (lv_at hl 0 rfl) ?_
        refine va_get (D := D) (ci := 8) (v := .int mct) (C := RX8) (T := TX8) (N := 22) hx hb hts in_X8 hown hK.1 hP 0 rfl rfl 6 (by decide) (hts _ mk_194) (fun _ h9 => h9) rfl dX8_end_55 ?_
        refine lv_bipush (v := 8) hx hb dX8_end_58 (by decide) ?_
        have bctx : kB mct 1 24 := bct0
        refine lv_irem hx hb dX8_end_60 (kB_ne0 kc_8 (Or.inl (by decide))) ?_
        refine lv_topi (fun v60 e60 => ?_)
        have b60 : kB v60 0 7 := kB_eq e60 (kB_rem bctx kc_8 (by decide))
        refine lv_lshl hx hb dX8_end_61 rfl ?_
        refine lv_topl (fun v61 e61 => ?_)
        refine lv_ldc2 (v := 4294967295) hx hb hown (hts _ mk_357) dX8_end_62 ?_
        refine lv_land hx hb dX8_end_65 ?_
        refine lv_topl (fun v65 e65 => ?_)
        have V65 : v65 = lN (Bz * 2 ^ (mct.toInt % 8).toNat % 4294967296) := by rw [e65, e61, (hB c6).1, e60]; exact lM_shl (hB c6).2 (k8r bct0).1 (k8r bct0).2
        refine lv_lstore_n (lv' := [(1, .long v65), (0, .ref hm)]) hx hb dX8_end_66 rfl hl (by decide) rfl (fun ls hl => ?_)
        refine lv_iconst (v := 0) hx hb dX8_end_67 (by decide) ?_
        refine lv_istore_n (lv' := [(3, .int 0), (1, .long v65), (0, .ref hm)]) hx hb dX8_end_68 rfl hl (by decide) rfl (fun ls hl => ?_)
        exact lp_X8_end_69 D cI cJ cZ hm hby hpb hwa hmn hcf hsa hro mrf msz mbg mrg mct mvl mpl mcl mrw mqt mlv mtl mbe mch mbt mby Bz bsz hwr hB hx hb hr hml hown hts hlocks hK hA ((3 - (0 : Int32).toInt).toNat + 1) v65 0 mby2_47 (Bz * 2 ^ (mct.toInt % 8).toNat % 4294967296) (Nat.lt_succ_self _) (by first | assumption | omega) bctx bsz0 (kB_w kc_0 (by decide) (by decide)) CF V65 (Nat.mod_lt _ (by decide)) (by rw [show (0 : Int32).toInt = 0 from by decide]; exact wEs_0 bct0.1 bct0.2) _ _ ls hP hD hS (lv_sub hl [2, 1, 0] rfl)
    · have c17x : kB r14 1 0 := kB_nlo RB14 c17 kc_0 (by decide)
      exact absurd (Int.le_trans c17x.1 c17x.2) (by decide)
  · refine lv_iconst (v := 1) hx hb dX8_end_9 (by decide) ?_
    refine lv_goto (tgt := 14) hx hb dX8_end_10 (by decide) ?_
    have hPc := hP.sub (ws' := [(hm, .inr (8, [.int mrf, .ref hby, .int msz, .int mbg, .long mbt, .int mrg, .int mct, .int mvl, .int mpl, .int mcl, .int mrw, .int mqt, .int mlv, .int mtl, .int mbe, .int mch, .ref hpb, .ref hwa, .ref hmn, .ref hcf, .ref hsa, .ref hro]))]) [0] rfl
    have hDc := hD.sub (ws' := [(hm, .inr (8, [.int mrf, .ref hby, .int msz, .int mbg, .long mbt, .int mrg, .int mct, .int mvl, .int mpl, .int mcl, .int mrw, .int mqt, .int mlv, .int mtl, .int mbe, .int mch, .ref hpb, .ref hwa, .ref hmn, .ref hcf, .ref hsa, .ref hro]))]) [0] (by decide) rfl
    have hFc := va_free (wc := [(hm, .inr (8, [.int mrf, .ref hby, .int msz, .int mbg, .long mbt, .int mrg, .int mct, .int mvl, .int mpl, .int mcl, .int mrw, .int mqt, .int mlv, .int mtl, .int mbe, .int mch, .ref hpb, .ref hwa, .ref hmn, .ref hcf, .ref hsa, .ref hro]))]) hD hS hA [0] rfl
    refine va_calli (va_runV (As := [.int 1]) (rest := []) ⟨hx, hb, hml, hown, hts⟩ (c_X8_refused l D cI cJ cZ hm hby hpb hwa hmn hcf hsa hro mrf msz mbg mrg mct mvl mpl mcl mrw mqt mlv mtl mbe mch mbt 1 (s.heap).size) (cwV 1 hts (kg_V mk_372 mk_373 mk_374 mk_189 mk_375) rfl rfl rfl (by decide +kernel) ⟨Nat.le_of_ble_eq_true rfl, Nat.le_of_ble_eq_true rfl⟩) ⟨fun a U g mk q => by obtain ⟨q0, q1, qP, qK, qD⟩ := q; exact ⟨q0, q1, qP, kK.call qK, qD⟩, va_recv hK.1 hPc (ci := 8) (q0 := 0) rfl rfl, fun U hU hW => ⟨rfl, by rw [hU], by rw [hU]; exact hPc, kK.warm hW hK, hDc.weaken (fun _ _ _ _ => trivial)⟩⟩ rfl rfl hl.1 rfl (lv_room (Nat.le_of_ble_eq_true rfl)) dX8_end_14 ⟨Nat.zero_le _, Nat.zero_le _⟩) hS (fun q _ h => hFc q h) hFc (fun r14 u t9 H1 locs ht9 hvm9 hw9 hB9 hz9 hk9 hS => ?_)
    obtain ⟨hP1, hD1⟩ := hB9
    rw [ht9] at hP1
    have hP1 : va_P D vwCl [(hm, .inr (8, [.int 1, .ref hby, .int msz, .int mbg, .long mbt, .int mrg, .int mct, .int mvl, .int mpl, .int mcl, .int mrw, .int mqt, .int mlv, .int mtl, .int mbe, .int mch, .ref hpb, .ref hwa, .ref hmn, .ref hcf, .ref hsa, .ref hro]))] H1 := hP1
    obtain ⟨hP, hD⟩ := va_join (wr := [(hby, .inl (cI, 600, .inl mby))]) (w1 := [(hm, .inr (8, [.int 1, .ref hby, .int msz, .int mbg, .long mbt, .int mrg, .int mct, .int mvl, .int mpl, .int mcl, .int mrw, .int mqt, .int mlv, .int mtl, .int mbe, .int mch, .ref hpb, .ref hwa, .ref hmn, .ref hcf, .ref hsa, .ref hro]))]) hP hD [0] [1] rfl rfl (by decide) (by decide) hk9 hFc hP1 hD1
    have hP := hP.sub (ws' := [(hm, .inr (8, [.int 1, .ref hby, .int msz, .int mbg, .long mbt, .int mrg, .int mct, .int mvl, .int mpl, .int mcl, .int mrw, .int mqt, .int mlv, .int mtl, .int mbe, .int mch, .ref hpb, .ref hwa, .ref hmn, .ref hcf, .ref hsa, .ref hro])), (hby, .inl (cI, 600, .inl mby))]) [1, 0] rfl
    have hD := hD.sub (ws' := [(hm, .inr (8, [.int 1, .ref hby, .int msz, .int mbg, .long mbt, .int mrg, .int mct, .int mvl, .int mpl, .int mcl, .int mrw, .int mqt, .int mlv, .int mtl, .int mbe, .int mch, .ref hpb, .ref hwa, .ref hmn, .ref hcf, .ref hsa, .ref hro])), (hby, .inl (cI, 600, .inl mby))]) [1, 0] (by decide) rfl
    generalize H1 = H at hP hS ⊢
    obtain ⟨q14_0, q14_1⟩ := hw9
    have q14_0 : kB r14 0 1 := q14_0
    have q14_1 : r14 = if 0 < (1 : Int32).toInt then 1 else 0 := q14_1
    have RB14 : kB r14 1 1 := by rw [q14_1]; decide
    refine lv_if_eq (tgt := 22) hx hb dX8_end_17 (by decide) (fun c17 => ?_) (fun c17 => ?_)
    · have c17x : kB r14 0 0 := kB_eq c17 kc_0
      exact absurd (Int.le_trans RB14.1 c17x.2) (by decide)
    · refine lv_iconst (v := 0) hx hb dX8_end_20 (by decide) ?_
      have pf_x : (¬ mbg = 1 ∧ (1 : Int32) = 1 ∧ (0 : Int32) = 0 ∧ msz = msz ∧ mbg = mbg ∧ mby = mby) ∨ (mbg = 1 ∧ (1 : Int32) = 0 ∧ (0 : Int32) = msz ∧ msz.toInt = msz.toInt + 4 ∧ mbg = 0) := (Or.inl ⟨c6, rfl, rfl, rfl, rfl, rfl⟩)
      have pf_w : ((1 : Int32) = 0 → mby = (wAp 4 (msz.toInt, wEb mct.toInt Bz, (wEf mct.toInt msz.toInt.toNat Bz mby))).2.2) ∧ (¬ (1 : Int32) = 0 → mby = mby) := ⟨fun h => absurd h (by decide), fun _ => rfl⟩
      exact W.iret (v := 0) hx hb hr (fun t9 ht9 hW9 => ⟨⟨0, (1, msz, mbg, mby), rfl, ⟨bsz, pf_x, pf_w⟩, by rw [ht9]; exact hP, hD⟩, hS.F ht9⟩) hS.2.2 dX8_end_21
