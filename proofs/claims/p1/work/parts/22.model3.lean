abbrev kw_X8_readCoefficients : List Cond := Cond.code yX8_readCoefficients cX8_readCoefficients 8 none :: kW
set_option maxHeartbeats 4000000 in
set_option maxRecDepth 100000 in
theorem lp_X8_readCoefficients_82 {p : Program} {l : Launch} {e : Env} {s : State} {m : MethodId} {args : Array Value} {below : List Frame} {meth : Method} {c : Code} {A : Nat → Prop} (D : va_G) (cI cJ cZ : ClassId) (hm hby hpb hwa hmn hcf hsa hro : Nat) (mrf : Int32) (msz : Int32) (mbg : Int32) (mrg : Int32) (mct : Int32) (mvl : Int32) (mpl : Int32) (mcl : Int32) (mrw : Int32) (mqt : Int32) (mlv : Int32) (mtl : Int32) (mbe : Int32) (mch : Int32) (mbt : Int64) (mby : Nat → Int32) (mpb : Nat → Int32) (mcf : Nat → Int32) (mmn : Nat → Int32) (k : Int32) (brg : kB mrg 128 255) (bct : kB mct 0 7) (bsz : kB msz 0 600) (apb : kA mpb 0 255) (bk : kB k 0 15) (bcl : kB mcl 1 4) (hpl : 0 ≤ mpl.toInt ∧ mpl.toInt ≤ 999000000) (hx : p.tables.exec = Jvm.exec) (hb : c.code = cX8_readCoefficients) (hr : meth.sig.returnType = none) (hml : c.maxLocals = 8) (hown : s.vm.findClass RX8 = some m.cls) (hts : ∀ w ∈ kW, w.before args s = true) (hlocks : meth.locks = false) (hK : kK D cI cJ cZ s) (hA : ∀ q : Nat, s.heap.size ≤ q → A q) : ∀ n : Nat, ∀ (x2 : Int32) (x3 : Int32) (x4 : Int32) (x5 : Int32) (mrg2 : Int32) (mct2 : Int32) (mvl2 : Int32) (mpl2 : Int32) (mcf2 : Nat → Int32), (2 * (16 - x3.toInt) + x4.toInt).toNat < n → (kB x2 0 2) → (kB x3 0 16) → (kB x4 0 1) → (kB mrg2 128 255) → (kB mct2 0 7) → (0 ≤ mpl2.toInt ∧ mpl2.toInt ≤ mpl.toInt + 900 * x3.toInt + 100 * (1 - x4.toInt)) → ∀ (H : Heap) (locs : List Loc) (ls : Array Slot), va_P D vwCl [(hm, .inr (8, [.int mrf, .ref hby, .int msz, .int mbg, .long mbt, .int mrg2, .int mct2, .int mvl2, .int mpl2, .int mcl, .int mrw, .int mqt, .int mlv, .int mtl, .int mbe, .int mch, .ref hpb, .ref hwa, .ref hmn, .ref hcf, .ref hsa, .ref hro])), (hby, .inl (cI, 600, .inl mby)), (hpb, .inl (cI, 264, .inl mpb)), (hcf, .inl (cI, 256, .inl mcf2)), (hmn, .inl (cI, 16, .inl mmn))] H → va_D A [(hm, .inr (8, [.int mrf, .ref hby, .int msz, .int mbg, .long mbt, .int mrg2, .int mct2, .int mvl2, .int mpl2, .int mcl, .int mrw, .int mqt, .int mlv, .int mtl, .int mbe, .int mch, .ref hpb, .ref hwa, .ref hmn, .ref hcf, .ref hsa, .ref hro])), (hby, .inl (cI, 600, .inl mby)), (hpb, .inl (cI, 264, .inl mpb)), (hcf, .inl (cI, 256, .inl mcf2)), (hmn, .inl (cI, 16, .inl mmn))] → va_S A s.heap H locs → lv_has ls 8 [(0, .ref hm), (1, .int k), (2, .int x2), (3, .int x3), (4, .int x4), (5, .int x5)] → W p l e (headSpec kw_X8_readCoefficients ({ frames := 5, cells := 0, slots := 0, locals := 114 })).room s m args below meth c H locs 0 0 (MQ below (va_Qv (fun (u : Int32 × Int32 × Int32 × Int32 × (Nat → Int32) × (Nat → Int32)) => (kB u.1 128 255) ∧ (kB u.2.1 0 7) ∧ (0 ≤ u.2.2.2.1.toInt ∧ u.2.2.2.1.toInt ≤ mpl.toInt + 16000)) (fun (u : Int32 × Int32 × Int32 × Int32 × (Nat → Int32) × (Nat → Int32)) (t : State) => va_P D vwCl [(hm, .inr (8, [.int mrf, .ref hby, .int msz, .int mbg, .long mbt, .int u.1, .int u.2.1, .int u.2.2.1, .int u.2.2.2.1, .int mcl, .int mrw, .int mqt, .int mlv, .int mtl, .int mbe, .int mch, .ref hpb, .ref hwa, .ref hmn, .ref hcf, .ref hsa, .ref hro])), (hby, .inl (cI, 600, .inl mby)), (hpb, .inl (cI, 264, .inl mpb)), (hcf, .inl (cI, 256, .inl u.2.2.2.2.1)), (hmn, .inl (cI, 16, .inl u.2.2.2.2.2))] t.heap ∧ va_D A [(hm, .inr (8, [.int mrf, .ref hby, .int msz, .int mbg, .long mbt, .int u.1, .int u.2.1, .int u.2.2.1, .int u.2.2.2.1, .int mcl, .int mrw, .int mqt, .int mlv, .int mtl, .int mbe, .int mch, .ref hpb, .ref hwa, .ref hmn, .ref hcf, .ref hsa, .ref hro])), (hby, .inl (cI, 600, .inl mby)), (hpb, .inl (cI, 264, .inl mpb)), (hcf, .inl (cI, 256, .inl u.2.2.2.2.1)), (hmn, .inl (cI, 16, .inl u.2.2.2.2.2))]) A) args s 0 0 A) (F0 m 82 ls []) := by
  intro n
  induction n with
  | zero => intro x2 x3 x4 x5 mrg2 mct2 mvl2 mpl2 mcf2 hmeas; exact absurd hmeas (Nat.not_lt_zero _)
  | succ n ih =>
    intro x2 x3 x4 x5 mrg2 mct2 mvl2 mpl2 mcf2 hmeas b2 b3 b4 brg2 bct2 hq H locs ls hP hD hS hl
    refine lv_iload hx hb dX8_readCoefficients_82 (lv_at hl 4 rfl) ?_
    refine lv_if_eq (tgt := 221) hx hb dX8_readCoefficients_84 (by decide) (fun c84 => ?_) (fun c84 => ?_)
    · have c84x : kB x4 0 0 := kB_eq c84 kc_0
      refine lv_aload_n hx hb dX8_readCoefficients_221 rfl (lv_at hl 0 rfl) ?_
      refine va_get (D := D) (ci := 8) (v := .ref hmn) (C := RX8) (T := TX8) (N := 22) hx hb hts in_X8 hown hK.1 hP 0 rfl rfl 18 (by decide) (hts _ mk_232) (fun _ h9 => h9) rfl dX8_readCoefficients_222 ?_
      refine lv_iload_n hx hb dX8_readCoefficients_225 rfl (lv_at hl 1 rfl) ?_
      refine lv_iload_n hx hb dX8_readCoefficients_226 rfl (lv_at hl 3 rfl) ?_
      refine va_iast hx hb hK.1 hP hD hS 4 0 rfl rfl (kB_in bk (by decide)) dX8_readCoefficients_227 (fun H locs hP hD hS => ?_)
      have hP : va_P D vwCl [(hm, .inr (8, [.int mrf, .ref hby, .int msz, .int mbg, .long mbt, .int mrg2, .int mct2, .int mvl2, .int mpl2, .int mcl, .int mrw, .int mqt, .int mlv, .int mtl, .int mbe, .int mch, .ref hpb, .ref hwa, .ref hmn, .ref hcf, .ref hsa, .ref hro])), (hby, .inl (cI, 600, .inl mby)), (hpb, .inl (cI, 264, .inl mpb)), (hcf, .inl (cI, 256, .inl mcf2)), (hmn, .inl (cI, 16, .inl (upd mmn k.toNatClampNeg x3)))] H := hP
      have hD : va_D A [(hm, .inr (8, [.int mrf, .ref hby, .int msz, .int mbg, .long mbt, .int mrg2, .int mct2, .int mvl2, .int mpl2, .int mcl, .int mrw, .int mqt, .int mlv, .int mtl, .int mbe, .int mch, .ref hpb, .ref hwa, .ref hmn, .ref hcf, .ref hsa, .ref hro])), (hby, .inl (cI, 600, .inl mby)), (hpb, .inl (cI, 264, .inl mpb)), (hcf, .inl (cI, 256, .inl mcf2)), (hmn, .inl (cI, 16, .inl (upd mmn k.toNatClampNeg x3)))] := hD
      generalize hf227 : upd mmn k.toNatClampNeg x3 = f227 at hP hD
      have pf_pl : 0 ≤ mpl2.toInt ∧ mpl2.toInt ≤ mpl.toInt + 16000 := ⟨hq.1, by have := hq.2; have := b3.2; omega⟩
      exact W.vret hx hb hr (fun t9 ht9 hW9 => ⟨⟨(mrg2, mct2, mvl2, mpl2, mcf2, f227), rfl, ⟨brg2, bct2, pf_pl⟩, by rw [ht9]; exact hP, hD⟩, hS.F ht9⟩) hS.2.2 dX8_readCoefficients_228
    · have c84x : kB x4 1 1 := kB_nlo b4 c84 kc_0 (by decide)
      refine lv_iload_n hx hb dX8_readCoefficients_87 rfl (lv_at hl 3 rfl) ?_
      refine lv_bipush (v := 16) hx hb dX8_readCoefficients_88 (by decide) ?_
      refine lv_icmp_ge (tgt := 221) hx hb dX8_readCoefficients_90 (by decide) (fun c90 => ?_) (fun c90 => ?_)
      · have c90y : kB x3 16 16 := kB_le_r kc_16 b3 c90 (by decide)
        refine lv_aload_n hx hb dX8_readCoefficients_221 rfl (lv_at hl 0 rfl) ?_
        refine va_get (D := D) (ci := 8) (v := .ref hmn) (C := RX8) (T := TX8) (N := 22) hx hb hts in_X8 hown hK.1 hP 0 rfl rfl 18 (by decide) (hts _ mk_232) (fun _ h9 => h9) rfl dX8_readCoefficients_222 ?_
        refine lv_iload_n hx hb dX8_readCoefficients_225 rfl (lv_at hl 1 rfl) ?_
        refine lv_iload_n hx hb dX8_readCoefficients_226 rfl (lv_at hl 3 rfl) ?_
        refine va_iast hx hb hK.1 hP hD hS 4 0 rfl rfl (kB_in bk (by decide)) dX8_readCoefficients_227 (fun H locs hP hD hS => ?_)
        have hP : va_P D vwCl [(hm, .inr (8, [.int mrf, .ref hby, .int msz, .int mbg, .long mbt, .int mrg2, .int mct2, .int mvl2, .int mpl2, .int mcl, .int mrw, .int mqt, .int mlv, .int mtl, .int mbe, .int mch, .ref hpb, .ref hwa, .ref hmn, .ref hcf, .ref hsa, .ref hro])), (hby, .inl (cI, 600, .inl mby)), (hpb, .inl (cI, 264, .inl mpb)), (hcf, .inl (cI, 256, .inl mcf2)), (hmn, .inl (cI, 16, .inl (upd mmn k.toNatClampNeg x3)))] H := hP
        have hD : va_D A [(hm, .inr (8, [.int mrf, .ref hby, .int msz, .int mbg, .long mbt, .int mrg2, .int mct2, .int mvl2, .int mpl2, .int mcl, .int mrw, .int mqt, .int mlv, .int mtl, .int mbe, .int mch, .ref hpb, .ref hwa, .ref hmn, .ref hcf, .ref hsa, .ref hro])), (hby, .inl (cI, 600, .inl mby)), (hpb, .inl (cI, 264, .inl mpb)), (hcf, .inl (cI, 256, .inl mcf2)), (hmn, .inl (cI, 16, .inl (upd mmn k.toNatClampNeg x3)))] := hD
        generalize hf227 : upd mmn k.toNatClampNeg x3 = f227 at hP hD
        have pf_pl : 0 ≤ mpl2.toInt ∧ mpl2.toInt ≤ mpl.toInt + 16000 := ⟨hq.1, by have := hq.2; have := b3.2; omega⟩
        exact W.vret hx hb hr (fun t9 ht9 hW9 => ⟨⟨(mrg2, mct2, mvl2, mpl2, mcf2, f227), rfl, ⟨brg2, bct2, pf_pl⟩, by rw [ht9]; exact hP, hD⟩, hS.F ht9⟩) hS.2.2 dX8_readCoefficients_228
      · have c90n : x3 < 16 := kN_le c90
        have c90nx : kB x3 0 15 := kB_lt_l b3 kc_16 c90n (by decide)
        refine lv_bipush (v := 11) hx hb dX8_readCoefficients_93 (by decide) ?_
        refine lv_iconst (v := 3) hx hb dX8_readCoefficients_95 (by decide) ?_
        refine lv_iload_n hx hb dX8_readCoefficients_96 rfl (lv_at hl 3 rfl) ?_
        have hPc := hP.sub (ws' := []) [] rfl
        have hDc := hD.sub (ws' := []) [] (by decide) rfl
        have hFc := va_free (wc := []) hD hS hA [] rfl
        refine va_calli (va_runS (As := [.int x3]) (rest := [.int 3, .int 11]) ⟨hx, hb, hml, hown, hts⟩ (c_X8_band l D cI cJ cZ x3 c90nx (H).size) (cwS 1 hts (kg_S mk_233 mk_234 mk_189 mk_235) rfl rfl rfl (by decide +kernel) ⟨Nat.le_of_ble_eq_true rfl, Nat.le_of_ble_eq_true rfl⟩) ⟨fun a U g mk q => by obtain ⟨q0, q1, qP, qK, qD⟩ := q; exact ⟨q0, q1, qP, kK.call qK, qD⟩, fun U hU hW => ⟨rfl, by rw [hU], by rw [hU]; exact hPc, kK.warm hW hK, hDc.weaken (fun _ _ _ _ => trivial)⟩⟩ rfl rfl hl.1 rfl (lv_room (Nat.le_of_ble_eq_true rfl)) dX8_readCoefficients_97 ⟨Nat.zero_le _, Nat.zero_le _⟩) hS (fun q _ h => hFc q h) hFc (fun r97 u t9 H1 locs ht9 hvm9 hw9 hB9 hz9 hk9 hS => ?_)
        obtain ⟨hP1, hD1⟩ := hB9
        rw [ht9] at hP1
        have hP1 : va_P D vwCl [] H1 := hP1
        obtain ⟨hP, hD⟩ := va_join (wr := [(hm, .inr (8, [.int mrf, .ref hby, .int msz, .int mbg, .long mbt, .int mrg2, .int mct2, .int mvl2, .int mpl2, .int mcl, .int mrw, .int mqt, .int mlv, .int mtl, .int mbe, .int mch, .ref hpb, .ref hwa, .ref hmn, .ref hcf, .ref hsa, .ref hro])), (hby, .inl (cI, 600, .inl mby)), (hpb, .inl (cI, 264, .inl mpb)), (hcf, .inl (cI, 256, .inl mcf2)), (hmn, .inl (cI, 16, .inl mmn))]) (w1 := []) hP hD [] [0, 1, 2, 3, 4] rfl rfl (by decide) (by decide) hk9 hFc hP1 hD1
        have hP := hP.sub (ws' := [(hm, .inr (8, [.int mrf, .ref hby, .int msz, .int mbg, .long mbt, .int mrg2, .int mct2, .int mvl2, .int mpl2, .int mcl, .int mrw, .int mqt, .int mlv, .int mtl, .int mbe, .int mch, .ref hpb, .ref hwa, .ref hmn, .ref hcf, .ref hsa, .ref hro])), (hby, .inl (cI, 600, .inl mby)), (hpb, .inl (cI, 264, .inl mpb)), (hcf, .inl (cI, 256, .inl mcf2)), (hmn, .inl (cI, 16, .inl mmn))]) [0, 1, 2, 3, 4] rfl
        have hD := hD.sub (ws' := [(hm, .inr (8, [.int mrf, .ref hby, .int msz, .int mbg, .long mbt, .int mrg2, .int mct2, .int mvl2, .int mpl2, .int mcl, .int mrw, .int mqt, .int mlv, .int mtl, .int mbe, .int mch, .ref hpb, .ref hwa, .ref hmn, .ref hcf, .ref hsa, .ref hro])), (hby, .inl (cI, 600, .inl mby)), (hpb, .inl (cI, 264, .inl mpb)), (hcf, .inl (cI, 256, .inl mcf2)), (hmn, .inl (cI, 16, .inl mmn))]) [0, 1, 2, 3, 4] (by decide) rfl
        generalize H1 = H at hP hS ⊢
        have q97_0 : kB r97 0 7 := hw9
        refine lv_imul hx hb dX8_readCoefficients_100 ?_
        refine lv_topi (fun v100 e100 => ?_)
        have b100 : kB v100 0 21 := kB_eq e100 (kB_cmul kc_3 q97_0 (by decide))
        refine lv_iload_n hx hb dX8_readCoefficients_101 rfl (lv_at hl 2 rfl) ?_
        refine lv_iadd hx hb dX8_readCoefficients_102 ?_
        refine lv_topi (fun v102 e102 => ?_)
        have b102 : kB v102 0 23 := kB_eq e102 (kB_add b100 b2 (by decide))
        refine lv_imul hx hb dX8_readCoefficients_103 ?_
        refine lv_topi (fun v103 e103 => ?_)
        have b103 : kB v103 0 253 := kB_eq e103 (kB_cmul kc_11 b102 (by decide))
        refine lv_istore (lv' := [(6, .int v103), (0, .ref hm), (1, .int k), (2, .int x2), (3, .int x3), (4, .int x4), (5, .int x5)]) hx hb dX8_readCoefficients_104 hl (by decide) rfl (fun ls hl => ?_)
        refine lv_iload hx hb dX8_readCoefficients_106 (lv_at hl 6 rfl) ?_
        refine lv_if_ne (tgt := 122) hx hb dX8_readCoefficients_108 (by decide) (fun c108 => ?_) (fun c108 => ?_)
        · refine lv_iconst (v := 1) hx hb dX8_readCoefficients_122 (by decide) ?_
          refine lv_goto (tgt := 127) hx hb dX8_readCoefficients_123 (by decide) ?_
          refine lv_istore (lv' := [(4, .int 1), (6, .int v103), (0, .ref hm), (1, .int k), (2, .int x2), (3, .int x3), (5, .int x5)]) hx hb dX8_readCoefficients_127 hl (by decide) rfl (fun ls hl => ?_)
          refine lv_iload hx hb dX8_readCoefficients_129 (lv_at hl 0 rfl) ?_
          refine lv_if_eq (tgt := 218) hx hb dX8_readCoefficients_131 (by decide) (fun c131 => ?_) (fun c131 => ?_)
          · exact absurd c131 (by decide)
          · refine lv_aload_n hx hb dX8_readCoefficients_134 rfl (lv_at hl 2 rfl) ?_
            refine lv_iload hx hb dX8_readCoefficients_135 (lv_at hl 1 rfl) ?_
            refine lv_iconst (v := 1) hx hb dX8_readCoefficients_137 (by decide) ?_
            have hPc := hP.sub (ws' := [(hm, .inr (8, [.int mrf, .ref hby, .int msz, .int mbg, .long mbt, .int mrg2, .int mct2, .int mvl2, .int mpl2, .int mcl, .int mrw, .int mqt, .int mlv, .int mtl, .int mbe, .int mch, .ref hpb, .ref hwa, .ref hmn, .ref hcf, .ref hsa, .ref hro])), (hby, .inl (cI, 600, .inl mby)), (hpb, .inl (cI, 264, .inl mpb))]) [0, 1, 2] rfl
            have hDc := hD.sub (ws' := [(hm, .inr (8, [.int mrf, .ref hby, .int msz, .int mbg, .long mbt, .int mrg2, .int mct2, .int mvl2, .int mpl2, .int mcl, .int mrw, .int mqt, .int mlv, .int mtl, .int mbe, .int mch, .ref hpb, .ref hwa, .ref hmn, .ref hcf, .ref hsa, .ref hro])), (hby, .inl (cI, 600, .inl mby)), (hpb, .inl (cI, 264, .inl mpb))]) [0, 1, 2] (by decide) rfl
            have hFc := va_free (wc := [(hm, .inr (8, [.int mrf, .ref hby, .int msz, .int mbg, .long mbt, .int mrg2, .int mct2, .int mvl2, .int mpl2, .int mcl, .int mrw, .int mqt, .int mlv, .int mtl, .int mbe, .int mch, .ref hpb, .ref hwa, .ref hmn, .ref hcf, .ref hsa, .ref hro])), (hby, .inl (cI, 600, .inl mby)), (hpb, .inl (cI, 264, .inl mpb))]) hD hS hA [0, 1, 2] rfl
            refine va_calli (va_runV (As := [.int v103, .int 1]) (rest := []) ⟨hx, hb, hml, hown, hts⟩ (c_X8_tell l D cI cJ cZ hm hby hpb hwa hmn hcf hsa hro mrf msz mbg mrg2 mct2 mvl2 mpl2 mcl mrw mqt mlv mtl mbe mch mbt mby mpb v103 1 brg2 bct2 bsz apb b103 (kB_w kc_1 (by decide) (by decide)) (by have := hq.1; have := hq.2; have := b3.2; have := hpl.2; omega) (H).size) (cwV 2 hts (kg_V mk_206 mk_207 mk_208 mk_189 mk_209) rfl rfl rfl (by decide +kernel) ⟨Nat.le_of_ble_eq_true rfl, Nat.le_of_ble_eq_true rfl⟩) ⟨fun a U g mk q => by obtain ⟨q0, q1, qP, qK, qD⟩ := q; exact ⟨q0, q1, qP, kK.call qK, qD⟩, va_recv hK.1 hPc (ci := 8) (q0 := 0) rfl rfl, fun U hU hW => ⟨rfl, by rw [hU], by rw [hU]; exact hPc, kK.warm hW hK, hDc.weaken (fun _ _ _ _ => trivial)⟩⟩ rfl rfl hl.1 rfl (lv_room (Nat.le_of_ble_eq_true rfl)) dX8_readCoefficients_138 ⟨Nat.zero_le _, Nat.zero_le _⟩) hS (fun q _ h => hFc q h) hFc (fun r138 u t9 H1 locs ht9 hvm9 hw9 hB9 hz9 hk9 hS => ?_)
            obtain ⟨mrg2_138, mct2_138, mvl2_138, mpl2_138⟩ := u
            obtain ⟨hP1, hD1⟩ := hB9
            rw [ht9] at hP1
            have hP1 : va_P D vwCl [(hm, .inr (8, [.int mrf, .ref hby, .int msz, .int mbg, .long mbt, .int mrg2_138, .int mct2_138, .int mvl2_138, .int mpl2_138, .int mcl, .int mrw, .int mqt, .int mlv, .int mtl, .int mbe, .int mch, .ref hpb, .ref hwa, .ref hmn, .ref hcf, .ref hsa, .ref hro])), (hby, .inl (cI, 600, .inl mby)), (hpb, .inl (cI, 264, .inl mpb))] H1 := hP1
            obtain ⟨hP, hD⟩ := va_join (wr := [(hcf, .inl (cI, 256, .inl mcf2)), (hmn, .inl (cI, 16, .inl mmn))]) (w1 := [(hm, .inr (8, [.int mrf, .ref hby, .int msz, .int mbg, .long mbt, .int mrg2_138, .int mct2_138, .int mvl2_138, .int mpl2_138, .int mcl, .int mrw, .int mqt, .int mlv, .int mtl, .int mbe, .int mch, .ref hpb, .ref hwa, .ref hmn, .ref hcf, .ref hsa, .ref hro])), (hby, .inl (cI, 600, .inl mby)), (hpb, .inl (cI, 264, .inl mpb))]) hP hD [0, 1, 2] [3, 4] rfl rfl (by decide) (by decide) hk9 hFc hP1 hD1
            have hP := hP.sub (ws' := [(hm, .inr (8, [.int mrf, .ref hby, .int msz, .int mbg, .long mbt, .int mrg2_138, .int mct2_138, .int mvl2_138, .int mpl2_138, .int mcl, .int mrw, .int mqt, .int mlv, .int mtl, .int mbe, .int mch, .ref hpb, .ref hwa, .ref hmn, .ref hcf, .ref hsa, .ref hro])), (hby, .inl (cI, 600, .inl mby)), (hpb, .inl (cI, 264, .inl mpb)), (hcf, .inl (cI, 256, .inl mcf2)), (hmn, .inl (cI, 16, .inl mmn))]) [2, 3, 4, 0, 1] rfl
            have hD := hD.sub (ws' := [(hm, .inr (8, [.int mrf, .ref hby, .int msz, .int mbg, .long mbt, .int mrg2_138, .int mct2_138, .int mvl2_138, .int mpl2_138, .int mcl, .int mrw, .int mqt, .int mlv, .int mtl, .int mbe, .int mch, .ref hpb, .ref hwa, .ref hmn, .ref hcf, .ref hsa, .ref hro])), (hby, .inl (cI, 600, .inl mby)), (hpb, .inl (cI, 264, .inl mpb)), (hcf, .inl (cI, 256, .inl mcf2)), (hmn, .inl (cI, 16, .inl mmn))]) [2, 3, 4, 0, 1] (by decide) rfl
            generalize H1 = H at hP hS ⊢
            obtain ⟨q138_0, q138_1, q138_2, q138_3⟩ := hw9
            have q138_0 : kB r138 0 1 := q138_0
            have q138_1 : kB mrg2_138 128 255 := q138_1
            have q138_2 : kB mct2_138 0 7 := q138_2
            have q138_3 : 0 ≤ mpl2_138.toInt ∧ mpl2_138.toInt ≤ mpl2.toInt + 7 := q138_3
            refine lv_if_ne (tgt := 148) hx hb dX8_readCoefficients_141 (by decide) (fun c141 => ?_) (fun c141 => ?_)
            · have c141x : kB r138 1 1 := kB_nlo q138_0 c141 kc_0 (by decide)
              refine lv_aload_n hx hb dX8_readCoefficients_148 rfl (lv_at hl 2 rfl) ?_
              refine lv_iload hx hb dX8_readCoefficients_149 (lv_at hl 1 rfl) ?_
              have hPc := hP.sub (ws' := [(hm, .inr (8, [.int mrf, .ref hby, .int msz, .int mbg, .long mbt, .int mrg2_138, .int mct2_138, .int mvl2_138, .int mpl2_138, .int mcl, .int mrw, .int mqt, .int mlv, .int mtl, .int mbe, .int mch, .ref hpb, .ref hwa, .ref hmn, .ref hcf, .ref hsa, .ref hro])), (hby, .inl (cI, 600, .inl mby)), (hpb, .inl (cI, 264, .inl mpb))]) [0, 1, 2] rfl
              have hDc := hD.sub (ws' := [(hm, .inr (8, [.int mrf, .ref hby, .int msz, .int mbg, .long mbt, .int mrg2_138, .int mct2_138, .int mvl2_138, .int mpl2_138, .int mcl, .int mrw, .int mqt, .int mlv, .int mtl, .int mbe, .int mch, .ref hpb, .ref hwa, .ref hmn, .ref hcf, .ref hsa, .ref hro])), (hby, .inl (cI, 600, .inl mby)), (hpb, .inl (cI, 264, .inl mpb))]) [0, 1, 2] (by decide) rfl
              have hFc := va_free (wc := [(hm, .inr (8, [.int mrf, .ref hby, .int msz, .int mbg, .long mbt, .int mrg2_138, .int mct2_138, .int mvl2_138, .int mpl2_138, .int mcl, .int mrw, .int mqt, .int mlv, .int mtl, .int mbe, .int mch, .ref hpb, .ref hwa, .ref hmn, .ref hcf, .ref hsa, .ref hro])), (hby, .inl (cI, 600, .inl mby)), (hpb, .inl (cI, 264, .inl mpb))]) hD hS hA [0, 1, 2] rfl
              refine va_calli (va_runV (As := [.int v103]) (rest := []) ⟨hx, hb, hml, hown, hts⟩ (c_X8_sizeOf l D cI cJ cZ hm hby hpb hwa hmn hcf hsa hro mrf msz mbg mrg2_138 mct2_138 mvl2_138 mpl2_138 mcl mrw mqt mlv mtl mbe mch mbt mby mpb v103 q138_1 q138_2 bsz apb b103 (by have := hq.1; have := hq.2; have := b3.2; have := hpl.2; omega) (H).size) (cwV 1 hts (kg_V mk_236 mk_237 mk_238 mk_189 mk_239) rfl rfl rfl (by decide +kernel) ⟨Nat.le_of_ble_eq_true rfl, Nat.le_of_ble_eq_true rfl⟩) ⟨fun a U g mk q => by obtain ⟨q0, q1, qP, qK, qD⟩ := q; exact ⟨q0, q1, qP, kK.call qK, qD⟩, va_recv hK.1 hPc (ci := 8) (q0 := 0) rfl rfl, fun U hU hW => ⟨rfl, by rw [hU], by rw [hU]; exact hPc, kK.warm hW hK, hDc.weaken (fun _ _ _ _ => trivial)⟩⟩ rfl rfl hl.1 rfl (lv_room (Nat.le_of_ble_eq_true rfl)) dX8_readCoefficients_151 ⟨Nat.zero_le _, Nat.zero_le _⟩) hS (fun q _ h => hFc q h) hFc (fun r151 u t9 H1 locs ht9 hvm9 hw9 hB9 hz9 hk9 hS => ?_)
              obtain ⟨mrg2_151, mct2_151, mvl2_151, mpl2_151⟩ := u
              obtain ⟨hP1, hD1⟩ := hB9
              rw [ht9] at hP1
              have hP1 : va_P D vwCl [(hm, .inr (8, [.int mrf, .ref hby, .int msz, .int mbg, .long mbt, .int mrg2_151, .int mct2_151, .int mvl2_151, .int mpl2_151, .int mcl, .int mrw, .int mqt, .int mlv, .int mtl, .int mbe, .int mch, .ref hpb, .ref hwa, .ref hmn, .ref hcf, .ref hsa, .ref hro])), (hby, .inl (cI, 600, .inl mby)), (hpb, .inl (cI, 264, .inl mpb))] H1 := hP1
              obtain ⟨hP, hD⟩ := va_join (wr := [(hcf, .inl (cI, 256, .inl mcf2)), (hmn, .inl (cI, 16, .inl mmn))]) (w1 := [(hm, .inr (8, [.int mrf, .ref hby, .int msz, .int mbg, .long mbt, .int mrg2_151, .int mct2_151, .int mvl2_151, .int mpl2_151, .int mcl, .int mrw, .int mqt, .int mlv, .int mtl, .int mbe, .int mch, .ref hpb, .ref hwa, .ref hmn, .ref hcf, .ref hsa, .ref hro])), (hby, .inl (cI, 600, .inl mby)), (hpb, .inl (cI, 264, .inl mpb))]) hP hD [0, 1, 2] [3, 4] rfl rfl (by decide) (by decide) hk9 hFc hP1 hD1
              have hP := hP.sub (ws' := [(hm, .inr (8, [.int mrf, .ref hby, .int msz, .int mbg, .long mbt, .int mrg2_151, .int mct2_151, .int mvl2_151, .int mpl2_151, .int mcl, .int mrw, .int mqt, .int mlv, .int mtl, .int mbe, .int mch, .ref hpb, .ref hwa, .ref hmn, .ref hcf, .ref hsa, .ref hro])), (hby, .inl (cI, 600, .inl mby)), (hpb, .inl (cI, 264, .inl mpb)), (hcf, .inl (cI, 256, .inl mcf2)), (hmn, .inl (cI, 16, .inl mmn))]) [2, 3, 4, 0, 1] rfl
              have hD := hD.sub (ws' := [(hm, .inr (8, [.int mrf, .ref hby, .int msz, .int mbg, .long mbt, .int mrg2_151, .int mct2_151, .int mvl2_151, .int mpl2_151, .int mcl, .int mrw, .int mqt, .int mlv, .int mtl, .int mbe, .int mch, .ref hpb, .ref hwa, .ref hmn, .ref hcf, .ref hsa, .ref hro])), (hby, .inl (cI, 600, .inl mby)), (hpb, .inl (cI, 264, .inl mpb)), (hcf, .inl (cI, 256, .inl mcf2)), (hmn, .inl (cI, 16, .inl mmn))]) [2, 3, 4, 0, 1] (by decide) rfl
              generalize H1 = H at hP hS ⊢
              obtain ⟨q151_0, q151_1, q151_2, q151_3⟩ := hw9
              have q151_0 : kB r151 0 70000000 := q151_0
              have q151_1 : kB mrg2_151 128 255 := q151_1
              have q151_2 : kB mct2_151 0 7 := q151_2
              have q151_3 : 0 ≤ mpl2_151.toInt ∧ mpl2_151.toInt ≤ mpl2_138.toInt + 300 := q151_3
              refine lv_istore (lv' := [(7, .int r151), (4, .int 1), (6, .int v103), (0, .ref hm), (1, .int k), (2, .int x2), (3, .int x3), (5, .int x5)]) hx hb dX8_readCoefficients_154 hl (by decide) rfl (fun ls hl => ?_)
              refine lv_iload hx hb dX8_readCoefficients_156 (lv_at hl 0 rfl) ?_
              refine lv_iconst (v := 1) hx hb dX8_readCoefficients_158 (by decide) ?_
              refine lv_icmp_le (tgt := 166) hx hb dX8_readCoefficients_159 (by decide) (fun c159 => ?_) (fun c159 => ?_)
              · have c159x : kB r151 0 1 := kB_le_l q151_0 kc_1 c159 (by decide)
                refine lv_iload hx hb dX8_readCoefficients_166 (lv_at hl 0 rfl) ?_
                refine lv_istore_n (lv' := [(2, .int r151), (7, .int r151), (4, .int 1), (6, .int v103), (0, .ref hm), (1, .int k), (3, .int x3), (5, .int x5)]) hx hb dX8_readCoefficients_168 rfl hl (by decide) rfl (fun ls hl => ?_)
                refine lv_iload hx hb dX8_readCoefficients_169 (lv_at hl 1 rfl) ?_
                refine lv_if_ne (tgt := 178) hx hb dX8_readCoefficients_171 (by decide) (fun c171 => ?_) (fun c171 => ?_)
                · have c171x : kB r151 1 1 := kB_nlo c159x c171 kc_0 (by decide)
                  refine lv_iconst (v := 0) hx hb dX8_readCoefficients_178 (by decide) ?_
                  refine lv_istore (lv' := [(5, .int 0), (2, .int r151), (7, .int r151), (4, .int 1), (6, .int v103), (0, .ref hm), (1, .int k), (3, .int x3)]) hx hb dX8_readCoefficients_179 hl (by decide) rfl (fun ls hl => ?_)
                  refine lv_iload hx hb dX8_readCoefficients_181 (lv_at hl 2 rfl) ?_
                  refine lv_if_le (tgt := 202) hx hb dX8_readCoefficients_183 (by decide) (fun c183 => ?_) (fun c183 => ?_)
                  · have c183x : kB r151 1 0 := kB_le_l c171x kc_0 c183 (by decide)
                    exact absurd (Int.le_trans c183x.1 c183x.2) (by decide)
                  · have c183n : 0 < r151 := kN_le c183
                    refine lv_aload_n hx hb dX8_readCoefficients_186 rfl (lv_at hl 5 rfl) ?_
                    refine lv_sipush (v := 128) hx hb dX8_readCoefficients_187 (by decide) ?_
                    have hPc := hP.sub (ws' := [(hm, .inr (8, [.int mrf, .ref hby, .int msz, .int mbg, .long mbt, .int mrg2_151, .int mct2_151, .int mvl2_151, .int mpl2_151, .int mcl, .int mrw, .int mqt, .int mlv, .int mtl, .int mbe, .int mch, .ref hpb, .ref hwa, .ref hmn, .ref hcf, .ref hsa, .ref hro])), (hby, .inl (cI, 600, .inl mby))]) [0, 1] rfl
                    have hDc := hD.sub (ws' := [(hm, .inr (8, [.int mrf, .ref hby, .int msz, .int mbg, .long mbt, .int mrg2_151, .int mct2_151, .int mvl2_151, .int mpl2_151, .int mcl, .int mrw, .int mqt, .int mlv, .int mtl, .int mbe, .int mch, .ref hpb, .ref hwa, .ref hmn, .ref hcf, .ref hsa, .ref hro])), (hby, .inl (cI, 600, .inl mby))]) [0, 1] (by decide) rfl
                    have hFc := va_free (wc := [(hm, .inr (8, [.int mrf, .ref hby, .int msz, .int mbg, .long mbt, .int mrg2_151, .int mct2_151, .int mvl2_151, .int mpl2_151, .int mcl, .int mrw, .int mqt, .int mlv, .int mtl, .int mbe, .int mch, .ref hpb, .ref hwa, .ref hmn, .ref hcf, .ref hsa, .ref hro])), (hby, .inl (cI, 600, .inl mby))]) hD hS hA [0, 1] rfl
                    refine va_calli (va_runV (As := [.int 128]) (rest := []) ⟨hx, hb, hml, hown, hts⟩ (c_X8_readBit l D cI cJ cZ hm hby hpb hwa hmn hcf hsa hro mrf msz mbg mrg2_151 mct2_151 mvl2_151 mpl2_151 mcl mrw mqt mlv mtl mbe mch mbt mby 128 q151_1 q151_2 bsz (kB_w kc_128 (by decide) (by decide)) (by have := hq.1; have := hq.2; have := b3.2; have := hpl.2; omega) (H).size) (cwV 1 hts (kg_V mk_200 mk_201 mk_202 mk_189 mk_203) rfl rfl rfl (by decide +kernel) ⟨Nat.le_of_ble_eq_true rfl, Nat.le_of_ble_eq_true rfl⟩) ⟨fun a U g mk q => by obtain ⟨q0, q1, qP, qK, qD⟩ := q; exact ⟨q0, q1, qP, kK.call qK, qD⟩, va_recv hK.1 hPc (ci := 8) (q0 := 0) rfl rfl, fun U hU hW => ⟨rfl, by rw [hU], by rw [hU]; exact hPc, kK.warm hW hK, hDc.weaken (fun _ _ _ _ => trivial)⟩⟩ rfl rfl hl.1 rfl (lv_room (Nat.le_of_ble_eq_true rfl)) dX8_readCoefficients_190 ⟨Nat.zero_le _, Nat.zero_le _⟩) hS (fun q _ h => hFc q h) hFc (fun r190 u t9 H1 locs ht9 hvm9 hw9 hB9 hz9 hk9 hS => ?_)
                    obtain ⟨mrg2_190, mct2_190, mvl2_190, mpl2_190⟩ := u
                    obtain ⟨hP1, hD1⟩ := hB9
                    rw [ht9] at hP1
                    have hP1 : va_P D vwCl [(hm, .inr (8, [.int mrf, .ref hby, .int msz, .int mbg, .long mbt, .int mrg2_190, .int mct2_190, .int mvl2_190, .int mpl2_190, .int mcl, .int mrw, .int mqt, .int mlv, .int mtl, .int mbe, .int mch, .ref hpb, .ref hwa, .ref hmn, .ref hcf, .ref hsa, .ref hro])), (hby, .inl (cI, 600, .inl mby))] H1 := hP1
                    obtain ⟨hP, hD⟩ := va_join (wr := [(hpb, .inl (cI, 264, .inl mpb)), (hcf, .inl (cI, 256, .inl mcf2)), (hmn, .inl (cI, 16, .inl mmn))]) (w1 := [(hm, .inr (8, [.int mrf, .ref hby, .int msz, .int mbg, .long mbt, .int mrg2_190, .int mct2_190, .int mvl2_190, .int mpl2_190, .int mcl, .int mrw, .int mqt, .int mlv, .int mtl, .int mbe, .int mch, .ref hpb, .ref hwa, .ref hmn, .ref hcf, .ref hsa, .ref hro])), (hby, .inl (cI, 600, .inl mby))]) hP hD [0, 1] [2, 3, 4] rfl rfl (by decide) (by decide) hk9 hFc hP1 hD1
                    have hP := hP.sub (ws' := [(hm, .inr (8, [.int mrf, .ref hby, .int msz, .int mbg, .long mbt, .int mrg2_190, .int mct2_190, .int mvl2_190, .int mpl2_190, .int mcl, .int mrw, .int mqt, .int mlv, .int mtl, .int mbe, .int mch, .ref hpb, .ref hwa, .ref hmn, .ref hcf, .ref hsa, .ref hro])), (hby, .inl (cI, 600, .inl mby)), (hpb, .inl (cI, 264, .inl mpb)), (hcf, .inl (cI, 256, .inl mcf2)), (hmn, .inl (cI, 16, .inl mmn))]) [3, 4, 0, 1, 2] rfl
                    have hD := hD.sub (ws' := [(hm, .inr (8, [.int mrf, .ref hby, .int msz, .int mbg, .long mbt, .int mrg2_190, .int mct2_190, .int mvl2_190, .int mpl2_190, .int mcl, .int mrw, .int mqt, .int mlv, .int mtl, .int mbe, .int mch, .ref hpb, .ref hwa, .ref hmn, .ref hcf, .ref hsa, .ref hro])), (hby, .inl (cI, 600, .inl mby)), (hpb, .inl (cI, 264, .inl mpb)), (hcf, .inl (cI, 256, .inl mcf2)), (hmn, .inl (cI, 16, .inl mmn))]) [3, 4, 0, 1, 2] (by decide) rfl
                    generalize H1 = H at hP hS ⊢
                    obtain ⟨q190_0, q190_1, q190_2, q190_3, q190_4⟩ := hw9
                    have q190_0 : kB r190 0 1 := q190_0
                    have q190_1 : kB mrg2_190 128 255 := q190_1
                    have q190_2 : kB mct2_190 0 7 := q190_2
                    have q190_3 : 0 ≤ mpl2_190.toInt ∧ mpl2_190.toInt ≤ mpl2_151.toInt + 7 := q190_3
                    have q190_4 : kIf ((128 : Int32).toInt = 128 ∧ 0 ≤ mvl2_151.toInt ∧ mvl2_151.toInt ≤ 2000000 ∧ mct2_151.toInt ≤ 6) (r190.toInt = rBt mvl2_151.toInt mrg2_151.toInt ∧ (mvl2_190.toInt, mrg2_190.toInt, mct2_190.toInt) = rNx mvl2_151.toInt mrg2_151.toInt mct2_151.toInt) := q190_4
                    refine lv_iconst (v := 1) hx hb dX8_readCoefficients_193 (by decide) ?_
                    refine lv_icmp_ne (tgt := 202) hx hb dX8_readCoefficients_194 (by decide) (fun c194 => ?_) (fun c194 => ?_)
                    · have c194x : kB r190 0 0 := kB_nhi q190_0 c194 kc_1 (by decide)
                      refine lv_aload_n hx hb dX8_readCoefficients_202 rfl (lv_at hl 5 rfl) ?_
                      refine va_get (D := D) (ci := 8) (v := .ref hcf) (C := RX8) (T := TX8) (N := 22) hx hb hts in_X8 hown hK.1 hP 0 rfl rfl 19 (by decide) (hts _ mk_226) (fun _ h9 => h9) rfl dX8_readCoefficients_203 ?_
                      refine lv_bipush (v := 16) hx hb dX8_readCoefficients_206 (by decide) ?_
                      refine lv_iload_n hx hb dX8_readCoefficients_208 rfl (lv_at hl 6 rfl) ?_
                      refine lv_imul hx hb dX8_readCoefficients_209 ?_
                      refine lv_topi (fun v209 e209 => ?_)
                      have b209 : kB v209 0 240 := kB_eq e209 (kB_cmul kc_16 bk (by decide))
                      refine lv_iload_n hx hb dX8_readCoefficients_210 rfl (lv_at hl 7 rfl) ?_
                      refine lv_iadd hx hb dX8_readCoefficients_211 ?_
                      refine lv_topi (fun v211 e211 => ?_)
                      have b211 : kB v211 0 255 := kB_eq e211 (kB_add b209 c90nx (by decide))
                      refine lv_iload hx hb dX8_readCoefficients_212 (lv_at hl 2 rfl) ?_
                      refine va_iast hx hb hK.1 hP hD hS 3 0 rfl rfl (kB_in b211 (by decide)) dX8_readCoefficients_214 (fun H locs hP hD hS => ?_)
                      have hP : va_P D vwCl [(hm, .inr (8, [.int mrf, .ref hby, .int msz, .int mbg, .long mbt, .int mrg2_190, .int mct2_190, .int mvl2_190, .int mpl2_190, .int mcl, .int mrw, .int mqt, .int mlv, .int mtl, .int mbe, .int mch, .ref hpb, .ref hwa, .ref hmn, .ref hcf, .ref hsa, .ref hro])), (hby, .inl (cI, 600, .inl mby)), (hpb, .inl (cI, 264, .inl mpb)), (hcf, .inl (cI, 256, .inl (upd mcf2 v211.toNatClampNeg r151))), (hmn, .inl (cI, 16, .inl mmn))] H := hP
                      have hD : va_D A [(hm, .inr (8, [.int mrf, .ref hby, .int msz, .int mbg, .long mbt, .int mrg2_190, .int mct2_190, .int mvl2_190, .int mpl2_190, .int mcl, .int mrw, .int mqt, .int mlv, .int mtl, .int mbe, .int mch, .ref hpb, .ref hwa, .ref hmn, .ref hcf, .ref hsa, .ref hro])), (hby, .inl (cI, 600, .inl mby)), (hpb, .inl (cI, 264, .inl mpb)), (hcf, .inl (cI, 256, .inl (upd mcf2 v211.toNatClampNeg r151))), (hmn, .inl (cI, 16, .inl mmn))] := hD
                      generalize hf214 : upd mcf2 v211.toNatClampNeg r151 = f214 at hP hD
                      obtain ⟨v215, e215⟩ : ∃ y : Int32, y = x3 + 1 := ⟨_, rfl⟩
                      refine lv_iinc (v := v215) (lv' := [(3, .int v215), (5, .int 0), (2, .int r151), (7, .int r151), (4, .int 1), (6, .int v103), (0, .ref hm), (1, .int k)]) hx hb dX8_readCoefficients_215 hl (k := 7) rfl (by rw [e215]; rfl) (by decide) rfl (fun ls hl => ?_)
                      have b215 : kB v215 1 16 := kB_eq e215 (kB_add c90nx kc_1 (by decide))
                      have t215 : v215.toInt = x3.toInt + 1 := by rw [e215]; exact kinc (kB_w c90nx (by decide) (by decide))
                      refine lv_goto (tgt := 82) hx hb dX8_readCoefficients_218 (by decide) ?_
                      exact ih r151 v215 1 0 mrg2_190 mct2_190 mvl2_190 mpl2_190 f214 (by (try rw [show (0 : Int32).toInt = 0 from by decide]); (try rw [show (1 : Int32).toInt = 1 from by decide]); have := b3.1; have := b3.2; have := b4.1; omega) (kB_w c171x (by decide) (by decide)) (kB_w b215 (by decide) (by decide)) (kB_w kc_1 (by decide) (by decide)) q190_1 q190_2 (by have := hq.1; have := hq.2; have := b4.1; have := b4.2; (try rw [show (0 : Int32).toInt = 0 from by decide]); (try rw [show (1 : Int32).toInt = 1 from by decide]); omega) _ _ ls hP hD hS (lv_sub hl [6, 7, 2, 0, 4, 1] rfl)
                    · have c194x : kB r190 1 1 := kB_eq c194 kc_1
                      refine lv_iload hx hb dX8_readCoefficients_197 (lv_at hl 2 rfl) ?_
                      refine lv_ineg hx hb dX8_readCoefficients_199 ?_
                      refine lv_topi (fun v199 e199 => ?_)
                      have b199 : kB v199 (-1) (-1) := kB_eq e199 (kB_neg c171x (by decide))
                      refine lv_istore (lv' := [(7, .int v199), (5, .int 0), (2, .int r151), (4, .int 1), (6, .int v103), (0, .ref hm), (1, .int k), (3, .int x3)]) hx hb dX8_readCoefficients_200 hl (by decide) rfl (fun ls hl => ?_)
                      refine lv_aload_n hx hb dX8_readCoefficients_202 rfl (lv_at hl 5 rfl) ?_
                      refine va_get (D := D) (ci := 8) (v := .ref hcf) (C := RX8) (T := TX8) (N := 22) hx hb hts in_X8 hown hK.1 hP 0 rfl rfl 19 (by decide) (hts _ mk_226) (fun _ h9 => h9) rfl dX8_readCoefficients_203 ?_
                      refine lv_bipush (v := 16) hx hb dX8_readCoefficients_206 (by decide) ?_
                      refine lv_iload_n hx hb dX8_readCoefficients_208 rfl (lv_at hl 6 rfl) ?_
                      refine lv_imul hx hb dX8_readCoefficients_209 ?_
                      refine lv_topi (fun v209 e209 => ?_)
                      have b209 : kB v209 0 240 := kB_eq e209 (kB_cmul kc_16 bk (by decide))
                      refine lv_iload_n hx hb dX8_readCoefficients_210 rfl (lv_at hl 7 rfl) ?_
                      refine lv_iadd hx hb dX8_readCoefficients_211 ?_
                      refine lv_topi (fun v211 e211 => ?_)
                      have b211 : kB v211 0 255 := kB_eq e211 (kB_add b209 c90nx (by decide))
                      refine lv_iload hx hb dX8_readCoefficients_212 (lv_at hl 0 rfl) ?_
                      refine va_iast hx hb hK.1 hP hD hS 3 0 rfl rfl (kB_in b211 (by decide)) dX8_readCoefficients_214 (fun H locs hP hD hS => ?_)
                      have hP : va_P D vwCl [(hm, .inr (8, [.int mrf, .ref hby, .int msz, .int mbg, .long mbt, .int mrg2_190, .int mct2_190, .int mvl2_190, .int mpl2_190, .int mcl, .int mrw, .int mqt, .int mlv, .int mtl, .int mbe, .int mch, .ref hpb, .ref hwa, .ref hmn, .ref hcf, .ref hsa, .ref hro])), (hby, .inl (cI, 600, .inl mby)), (hpb, .inl (cI, 264, .inl mpb)), (hcf, .inl (cI, 256, .inl (upd mcf2 v211.toNatClampNeg v199))), (hmn, .inl (cI, 16, .inl mmn))] H := hP
                      have hD : va_D A [(hm, .inr (8, [.int mrf, .ref hby, .int msz, .int mbg, .long mbt, .int mrg2_190, .int mct2_190, .int mvl2_190, .int mpl2_190, .int mcl, .int mrw, .int mqt, .int mlv, .int mtl, .int mbe, .int mch, .ref hpb, .ref hwa, .ref hmn, .ref hcf, .ref hsa, .ref hro])), (hby, .inl (cI, 600, .inl mby)), (hpb, .inl (cI, 264, .inl mpb)), (hcf, .inl (cI, 256, .inl (upd mcf2 v211.toNatClampNeg v199))), (hmn, .inl (cI, 16, .inl mmn))] := hD
                      generalize hf214 : upd mcf2 v211.toNatClampNeg v199 = f214 at hP hD
                      obtain ⟨v215, e215⟩ : ∃ y : Int32, y = x3 + 1 := ⟨_, rfl⟩
                      refine lv_iinc (v := v215) (lv' := [(3, .int v215), (7, .int v199), (5, .int 0), (2, .int r151), (4, .int 1), (6, .int v103), (0, .ref hm), (1, .int k)]) hx hb dX8_readCoefficients_215 hl (k := 7) rfl (by rw [e215]; rfl) (by decide) rfl (fun ls hl => ?_)
                      have b215 : kB v215 1 16 := kB_eq e215 (kB_add c90nx kc_1 (by decide))
                      have t215 : v215.toInt = x3.toInt + 1 := by rw [e215]; exact kinc (kB_w c90nx (by decide) (by decide))
                      refine lv_goto (tgt := 82) hx hb dX8_readCoefficients_218 (by decide) ?_
                      exact ih r151 v215 1 0 mrg2_190 mct2_190 mvl2_190 mpl2_190 f214 (by (try rw [show (0 : Int32).toInt = 0 from by decide]); (try rw [show (1 : Int32).toInt = 1 from by decide]); have := b3.1; have := b3.2; have := b4.1; omega) (kB_w c171x (by decide) (by decide)) (kB_w b215 (by decide) (by decide)) (kB_w kc_1 (by decide) (by decide)) q190_1 q190_2 (by have := hq.1; have := hq.2; have := b4.1; have := b4.2; (try rw [show (0 : Int32).toInt = 0 from by decide]); (try rw [show (1 : Int32).toInt = 1 from by decide]); omega) _ _ ls hP hD hS (lv_sub hl [6, 7, 3, 0, 4, 2] rfl)
                · have c171x : kB r151 0 0 := kB_eq c171 kc_0
                  refine lv_iconst (v := 1) hx hb dX8_readCoefficients_174 (by decide) ?_
                  refine lv_goto (tgt := 179) hx hb dX8_readCoefficients_175 (by decide) ?_
                  refine lv_istore (lv' := [(5, .int 1), (2, .int r151), (7, .int r151), (4, .int 1), (6, .int v103), (0, .ref hm), (1, .int k), (3, .int x3)]) hx hb dX8_readCoefficients_179 hl (by decide) rfl (fun ls hl => ?_)
                  refine lv_iload hx hb dX8_readCoefficients_181 (lv_at hl 2 rfl) ?_
                  refine lv_if_le (tgt := 202) hx hb dX8_readCoefficients_183 (by decide) (fun c183 => ?_) (fun c183 => ?_)
                  · refine lv_aload_n hx hb dX8_readCoefficients_202 rfl (lv_at hl 5 rfl) ?_
                    refine va_get (D := D) (ci := 8) (v := .ref hcf) (C := RX8) (T := TX8) (N := 22) hx hb hts in_X8 hown hK.1 hP 0 rfl rfl 19 (by decide) (hts _ mk_226) (fun _ h9 => h9) rfl dX8_readCoefficients_203 ?_
                    refine lv_bipush (v := 16) hx hb dX8_readCoefficients_206 (by decide) ?_
                    refine lv_iload_n hx hb dX8_readCoefficients_208 rfl (lv_at hl 6 rfl) ?_
                    refine lv_imul hx hb dX8_readCoefficients_209 ?_
                    refine lv_topi (fun v209 e209 => ?_)
                    have b209 : kB v209 0 240 := kB_eq e209 (kB_cmul kc_16 bk (by decide))
                    refine lv_iload_n hx hb dX8_readCoefficients_210 rfl (lv_at hl 7 rfl) ?_
                    refine lv_iadd hx hb dX8_readCoefficients_211 ?_
                    refine lv_topi (fun v211 e211 => ?_)
                    have b211 : kB v211 0 255 := kB_eq e211 (kB_add b209 c90nx (by decide))
                    refine lv_iload hx hb dX8_readCoefficients_212 (lv_at hl 2 rfl) ?_
                    refine va_iast hx hb hK.1 hP hD hS 3 0 rfl rfl (kB_in b211 (by decide)) dX8_readCoefficients_214 (fun H locs hP hD hS => ?_)
                    have hP : va_P D vwCl [(hm, .inr (8, [.int mrf, .ref hby, .int msz, .int mbg, .long mbt, .int mrg2_151, .int mct2_151, .int mvl2_151, .int mpl2_151, .int mcl, .int mrw, .int mqt, .int mlv, .int mtl, .int mbe, .int mch, .ref hpb, .ref hwa, .ref hmn, .ref hcf, .ref hsa, .ref hro])), (hby, .inl (cI, 600, .inl mby)), (hpb, .inl (cI, 264, .inl mpb)), (hcf, .inl (cI, 256, .inl (upd mcf2 v211.toNatClampNeg r151))), (hmn, .inl (cI, 16, .inl mmn))] H := hP
                    have hD : va_D A [(hm, .inr (8, [.int mrf, .ref hby, .int msz, .int mbg, .long mbt, .int mrg2_151, .int mct2_151, .int mvl2_151, .int mpl2_151, .int mcl, .int mrw, .int mqt, .int mlv, .int mtl, .int mbe, .int mch, .ref hpb, .ref hwa, .ref hmn, .ref hcf, .ref hsa, .ref hro])), (hby, .inl (cI, 600, .inl mby)), (hpb, .inl (cI, 264, .inl mpb)), (hcf, .inl (cI, 256, .inl (upd mcf2 v211.toNatClampNeg r151))), (hmn, .inl (cI, 16, .inl mmn))] := hD
                    generalize hf214 : upd mcf2 v211.toNatClampNeg r151 = f214 at hP hD
                    obtain ⟨v215, e215⟩ : ∃ y : Int32, y = x3 + 1 := ⟨_, rfl⟩
                    refine lv_iinc (v := v215) (lv' := [(3, .int v215), (5, .int 1), (2, .int r151), (7, .int r151), (4, .int 1), (6, .int v103), (0, .ref hm), (1, .int k)]) hx hb dX8_readCoefficients_215 hl (k := 7) rfl (by rw [e215]; rfl) (by decide) rfl (fun ls hl => ?_)
                    have b215 : kB v215 1 16 := kB_eq e215 (kB_add c90nx kc_1 (by decide))
                    have t215 : v215.toInt = x3.toInt + 1 := by rw [e215]; exact kinc (kB_w c90nx (by decide) (by decide))
                    refine lv_goto (tgt := 82) hx hb dX8_readCoefficients_218 (by decide) ?_
                    exact ih r151 v215 1 1 mrg2_151 mct2_151 mvl2_151 mpl2_151 f214 (by (try rw [show (0 : Int32).toInt = 0 from by decide]); (try rw [show (1 : Int32).toInt = 1 from by decide]); have := b3.1; have := b3.2; have := b4.1; omega) (kB_w c171x (by decide) (by decide)) (kB_w b215 (by decide) (by decide)) (kB_w kc_1 (by decide) (by decide)) q151_1 q151_2 (by have := hq.1; have := hq.2; have := b4.1; have := b4.2; (try rw [show (0 : Int32).toInt = 0 from by decide]); (try rw [show (1 : Int32).toInt = 1 from by decide]); omega) _ _ ls hP hD hS (lv_sub hl [6, 7, 2, 0, 4, 1] rfl)
                  · have c183n : 0 < r151 := kN_le c183
                    have c183ny : kB r151 1 0 := kB_lt_r kc_0 c171x c183n (by decide)
                    exact absurd (Int.le_trans c183ny.1 c183ny.2) (by decide)
              · have c159n : 1 < r151 := kN_le c159
                have c159ny : kB r151 2 70000000 := kB_lt_r kc_1 q151_0 c159n (by decide)
                refine lv_iconst (v := 2) hx hb dX8_readCoefficients_162 (by decide) ?_
                refine lv_goto (tgt := 168) hx hb dX8_readCoefficients_163 (by decide) ?_
                refine lv_istore_n (lv' := [(2, .int 2), (7, .int r151), (4, .int 1), (6, .int v103), (0, .ref hm), (1, .int k), (3, .int x3), (5, .int x5)]) hx hb dX8_readCoefficients_168 rfl hl (by decide) rfl (fun ls hl => ?_)
                refine lv_iload hx hb dX8_readCoefficients_169 (lv_at hl 1 rfl) ?_
                refine lv_if_ne (tgt := 178) hx hb dX8_readCoefficients_171 (by decide) (fun c171 => ?_) (fun c171 => ?_)
                · refine lv_iconst (v := 0) hx hb dX8_readCoefficients_178 (by decide) ?_
                  refine lv_istore (lv' := [(5, .int 0), (2, .int 2), (7, .int r151), (4, .int 1), (6, .int v103), (0, .ref hm), (1, .int k), (3, .int x3)]) hx hb dX8_readCoefficients_179 hl (by decide) rfl (fun ls hl => ?_)
                  refine lv_iload hx hb dX8_readCoefficients_181 (lv_at hl 2 rfl) ?_
                  refine lv_if_le (tgt := 202) hx hb dX8_readCoefficients_183 (by decide) (fun c183 => ?_) (fun c183 => ?_)
                  · have c183x : kB r151 2 0 := kB_le_l c159ny kc_0 c183 (by decide)
                    exact absurd (Int.le_trans c183x.1 c183x.2) (by decide)
                  · have c183n : 0 < r151 := kN_le c183
                    refine lv_aload_n hx hb dX8_readCoefficients_186 rfl (lv_at hl 5 rfl) ?_
                    refine lv_sipush (v := 128) hx hb dX8_readCoefficients_187 (by decide) ?_
                    have hPc := hP.sub (ws' := [(hm, .inr (8, [.int mrf, .ref hby, .int msz, .int mbg, .long mbt, .int mrg2_151, .int mct2_151, .int mvl2_151, .int mpl2_151, .int mcl, .int mrw, .int mqt, .int mlv, .int mtl, .int mbe, .int mch, .ref hpb, .ref hwa, .ref hmn, .ref hcf, .ref hsa, .ref hro])), (hby, .inl (cI, 600, .inl mby))]) [0, 1] rfl
                    have hDc := hD.sub (ws' := [(hm, .inr (8, [.int mrf, .ref hby, .int msz, .int mbg, .long mbt, .int mrg2_151, .int mct2_151, .int mvl2_151, .int mpl2_151, .int mcl, .int mrw, .int mqt, .int mlv, .int mtl, .int mbe, .int mch, .ref hpb, .ref hwa, .ref hmn, .ref hcf, .ref hsa, .ref hro])), (hby, .inl (cI, 600, .inl mby))]) [0, 1] (by decide) rfl
                    have hFc := va_free (wc := [(hm, .inr (8, [.int mrf, .ref hby, .int msz, .int mbg, .long mbt, .int mrg2_151, .int mct2_151, .int mvl2_151, .int mpl2_151, .int mcl, .int mrw, .int mqt, .int mlv, .int mtl, .int mbe, .int mch, .ref hpb, .ref hwa, .ref hmn, .ref hcf, .ref hsa, .ref hro])), (hby, .inl (cI, 600, .inl mby))]) hD hS hA [0, 1] rfl
                    refine va_calli (va_runV (As := [.int 128]) (rest := []) ⟨hx, hb, hml, hown, hts⟩ (c_X8_readBit l D cI cJ cZ hm hby hpb hwa hmn hcf hsa hro mrf msz mbg mrg2_151 mct2_151 mvl2_151 mpl2_151 mcl mrw mqt mlv mtl mbe mch mbt mby 128 q151_1 q151_2 bsz (kB_w kc_128 (by decide) (by decide)) (by have := hq.1; have := hq.2; have := b3.2; have := hpl.2; omega) (H).size) (cwV 1 hts (kg_V mk_200 mk_201 mk_202 mk_189 mk_203) rfl rfl rfl (by decide +kernel) ⟨Nat.le_of_ble_eq_true rfl, Nat.le_of_ble_eq_true rfl⟩) ⟨fun a U g mk q => by obtain ⟨q0, q1, qP, qK, qD⟩ := q; exact ⟨q0, q1, qP, kK.call qK, qD⟩, va_recv hK.1 hPc (ci := 8) (q0 := 0) rfl rfl, fun U hU hW => ⟨rfl, by rw [hU], by rw [hU]; exact hPc, kK.warm hW hK, hDc.weaken (fun _ _ _ _ => trivial)⟩⟩ rfl rfl hl.1 rfl (lv_room (Nat.le_of_ble_eq_true rfl)) dX8_readCoefficients_190 ⟨Nat.zero_le _, Nat.zero_le _⟩) hS (fun q _ h => hFc q h) hFc (fun r190 u t9 H1 locs ht9 hvm9 hw9 hB9 hz9 hk9 hS => ?_)
                    obtain ⟨mrg2_190, mct2_190, mvl2_190, mpl2_190⟩ := u
                    obtain ⟨hP1, hD1⟩ := hB9
                    rw [ht9] at hP1
                    have hP1 : va_P D vwCl [(hm, .inr (8, [.int mrf, .ref hby, .int msz, .int mbg, .long mbt, .int mrg2_190, .int mct2_190, .int mvl2_190, .int mpl2_190, .int mcl, .int mrw, .int mqt, .int mlv, .int mtl, .int mbe, .int mch, .ref hpb, .ref hwa, .ref hmn, .ref hcf, .ref hsa, .ref hro])), (hby, .inl (cI, 600, .inl mby))] H1 := hP1
                    obtain ⟨hP, hD⟩ := va_join (wr := [(hpb, .inl (cI, 264, .inl mpb)), (hcf, .inl (cI, 256, .inl mcf2)), (hmn, .inl (cI, 16, .inl mmn))]) (w1 := [(hm, .inr (8, [.int mrf, .ref hby, .int msz, .int mbg, .long mbt, .int mrg2_190, .int mct2_190, .int mvl2_190, .int mpl2_190, .int mcl, .int mrw, .int mqt, .int mlv, .int mtl, .int mbe, .int mch, .ref hpb, .ref hwa, .ref hmn, .ref hcf, .ref hsa, .ref hro])), (hby, .inl (cI, 600, .inl mby))]) hP hD [0, 1] [2, 3, 4] rfl rfl (by decide) (by decide) hk9 hFc hP1 hD1
                    have hP := hP.sub (ws' := [(hm, .inr (8, [.int mrf, .ref hby, .int msz, .int mbg, .long mbt, .int mrg2_190, .int mct2_190, .int mvl2_190, .int mpl2_190, .int mcl, .int mrw, .int mqt, .int mlv, .int mtl, .int mbe, .int mch, .ref hpb, .ref hwa, .ref hmn, .ref hcf, .ref hsa, .ref hro])), (hby, .inl (cI, 600, .inl mby)), (hpb, .inl (cI, 264, .inl mpb)), (hcf, .inl (cI, 256, .inl mcf2)), (hmn, .inl (cI, 16, .inl mmn))]) [3, 4, 0, 1, 2] rfl
                    have hD := hD.sub (ws' := [(hm, .inr (8, [.int mrf, .ref hby, .int msz, .int mbg, .long mbt, .int mrg2_190, .int mct2_190, .int mvl2_190, .int mpl2_190, .int mcl, .int mrw, .int mqt, .int mlv, .int mtl, .int mbe, .int mch, .ref hpb, .ref hwa, .ref hmn, .ref hcf, .ref hsa, .ref hro])), (hby, .inl (cI, 600, .inl mby)), (hpb, .inl (cI, 264, .inl mpb)), (hcf, .inl (cI, 256, .inl mcf2)), (hmn, .inl (cI, 16, .inl mmn))]) [3, 4, 0, 1, 2] (by decide) rfl
                    generalize H1 = H at hP hS ⊢
                    obtain ⟨q190_0, q190_1, q190_2, q190_3, q190_4⟩ := hw9
                    have q190_0 : kB r190 0 1 := q190_0
                    have q190_1 : kB mrg2_190 128 255 := q190_1
                    have q190_2 : kB mct2_190 0 7 := q190_2
                    have q190_3 : 0 ≤ mpl2_190.toInt ∧ mpl2_190.toInt ≤ mpl2_151.toInt + 7 := q190_3
                    have q190_4 : kIf ((128 : Int32).toInt = 128 ∧ 0 ≤ mvl2_151.toInt ∧ mvl2_151.toInt ≤ 2000000 ∧ mct2_151.toInt ≤ 6) (r190.toInt = rBt mvl2_151.toInt mrg2_151.toInt ∧ (mvl2_190.toInt, mrg2_190.toInt, mct2_190.toInt) = rNx mvl2_151.toInt mrg2_151.toInt mct2_151.toInt) := q190_4
                    refine lv_iconst (v := 1) hx hb dX8_readCoefficients_193 (by decide) ?_
                    refine lv_icmp_ne (tgt := 202) hx hb dX8_readCoefficients_194 (by decide) (fun c194 => ?_) (fun c194 => ?_)
                    · have c194x : kB r190 0 0 := kB_nhi q190_0 c194 kc_1 (by decide)
                      refine lv_aload_n hx hb dX8_readCoefficients_202 rfl (lv_at hl 5 rfl) ?_
                      refine va_get (D := D) (ci := 8) (v := .ref hcf) (C := RX8) (T := TX8) (N := 22) hx hb hts in_X8 hown hK.1 hP 0 rfl rfl 19 (by decide) (hts _ mk_226) (fun _ h9 => h9) rfl dX8_readCoefficients_203 ?_
                      refine lv_bipush (v := 16) hx hb dX8_readCoefficients_206 (by decide) ?_
                      refine lv_iload_n hx hb dX8_readCoefficients_208 rfl (lv_at hl 6 rfl) ?_
                      refine lv_imul hx hb dX8_readCoefficients_209 ?_
                      refine lv_topi (fun v209 e209 => ?_)
                      have b209 : kB v209 0 240 := kB_eq e209 (kB_cmul kc_16 bk (by decide))
                      refine lv_iload_n hx hb dX8_readCoefficients_210 rfl (lv_at hl 7 rfl) ?_
                      refine lv_iadd hx hb dX8_readCoefficients_211 ?_
                      refine lv_topi (fun v211 e211 => ?_)
                      have b211 : kB v211 0 255 := kB_eq e211 (kB_add b209 c90nx (by decide))
                      refine lv_iload hx hb dX8_readCoefficients_212 (lv_at hl 2 rfl) ?_
                      refine va_iast hx hb hK.1 hP hD hS 3 0 rfl rfl (kB_in b211 (by decide)) dX8_readCoefficients_214 (fun H locs hP hD hS => ?_)
                      have hP : va_P D vwCl [(hm, .inr (8, [.int mrf, .ref hby, .int msz, .int mbg, .long mbt, .int mrg2_190, .int mct2_190, .int mvl2_190, .int mpl2_190, .int mcl, .int mrw, .int mqt, .int mlv, .int mtl, .int mbe, .int mch, .ref hpb, .ref hwa, .ref hmn, .ref hcf, .ref hsa, .ref hro])), (hby, .inl (cI, 600, .inl mby)), (hpb, .inl (cI, 264, .inl mpb)), (hcf, .inl (cI, 256, .inl (upd mcf2 v211.toNatClampNeg r151))), (hmn, .inl (cI, 16, .inl mmn))] H := hP
                      have hD : va_D A [(hm, .inr (8, [.int mrf, .ref hby, .int msz, .int mbg, .long mbt, .int mrg2_190, .int mct2_190, .int mvl2_190, .int mpl2_190, .int mcl, .int mrw, .int mqt, .int mlv, .int mtl, .int mbe, .int mch, .ref hpb, .ref hwa, .ref hmn, .ref hcf, .ref hsa, .ref hro])), (hby, .inl (cI, 600, .inl mby)), (hpb, .inl (cI, 264, .inl mpb)), (hcf, .inl (cI, 256, .inl (upd mcf2 v211.toNatClampNeg r151))), (hmn, .inl (cI, 16, .inl mmn))] := hD
                      generalize hf214 : upd mcf2 v211.toNatClampNeg r151 = f214 at hP hD
                      obtain ⟨v215, e215⟩ : ∃ y : Int32, y = x3 + 1 := ⟨_, rfl⟩
                      refine lv_iinc (v := v215) (lv' := [(3, .int v215), (5, .int 0), (2, .int 2), (7, .int r151), (4, .int 1), (6, .int v103), (0, .ref hm), (1, .int k)]) hx hb dX8_readCoefficients_215 hl (k := 7) rfl (by rw [e215]; rfl) (by decide) rfl (fun ls hl => ?_)
                      have b215 : kB v215 1 16 := kB_eq e215 (kB_add c90nx kc_1 (by decide))
                      have t215 : v215.toInt = x3.toInt + 1 := by rw [e215]; exact kinc (kB_w c90nx (by decide) (by decide))
                      refine lv_goto (tgt := 82) hx hb dX8_readCoefficients_218 (by decide) ?_
                      exact ih 2 v215 1 0 mrg2_190 mct2_190 mvl2_190 mpl2_190 f214 (by (try rw [show (0 : Int32).toInt = 0 from by decide]); (try rw [show (1 : Int32).toInt = 1 from by decide]); have := b3.1; have := b3.2; have := b4.1; omega) (kB_w kc_2 (by decide) (by decide)) (kB_w b215 (by decide) (by decide)) (kB_w kc_1 (by decide) (by decide)) q190_1 q190_2 (by have := hq.1; have := hq.2; have := b4.1; have := b4.2; (try rw [show (0 : Int32).toInt = 0 from by decide]); (try rw [show (1 : Int32).toInt = 1 from by decide]); omega) _ _ ls hP hD hS (lv_sub hl [6, 7, 2, 0, 4, 1] rfl)
                    · have c194x : kB r190 1 1 := kB_eq c194 kc_1
                      refine lv_iload hx hb dX8_readCoefficients_197 (lv_at hl 2 rfl) ?_
                      refine lv_ineg hx hb dX8_readCoefficients_199 ?_
                      refine lv_topi (fun v199 e199 => ?_)
                      have b199 : kB v199 (-70000000) (-2) := kB_eq e199 (kB_neg c159ny (by decide))
                      refine lv_istore (lv' := [(7, .int v199), (5, .int 0), (2, .int 2), (4, .int 1), (6, .int v103), (0, .ref hm), (1, .int k), (3, .int x3)]) hx hb dX8_readCoefficients_200 hl (by decide) rfl (fun ls hl => ?_)
                      refine lv_aload_n hx hb dX8_readCoefficients_202 rfl (lv_at hl 5 rfl) ?_
                      refine va_get (D := D) (ci := 8) (v := .ref hcf) (C := RX8) (T := TX8) (N := 22) hx hb hts in_X8 hown hK.1 hP 0 rfl rfl 19 (by decide) (hts _ mk_226) (fun _ h9 => h9) rfl dX8_readCoefficients_203 ?_
                      refine lv_bipush (v := 16) hx hb dX8_readCoefficients_206 (by decide) ?_
                      refine lv_iload_n hx hb dX8_readCoefficients_208 rfl (lv_at hl 6 rfl) ?_
                      refine lv_imul hx hb dX8_readCoefficients_209 ?_
                      refine lv_topi (fun v209 e209 => ?_)
                      have b209 : kB v209 0 240 := kB_eq e209 (kB_cmul kc_16 bk (by decide))
                      refine lv_iload_n hx hb dX8_readCoefficients_210 rfl (lv_at hl 7 rfl) ?_
                      refine lv_iadd hx hb dX8_readCoefficients_211 ?_
                      refine lv_topi (fun v211 e211 => ?_)
                      have b211 : kB v211 0 255 := kB_eq e211 (kB_add b209 c90nx (by decide))
                      refine lv_iload hx hb dX8_readCoefficients_212 (lv_at hl 0 rfl) ?_
                      refine va_iast hx hb hK.1 hP hD hS 3 0 rfl rfl (kB_in b211 (by decide)) dX8_readCoefficients_214 (fun H locs hP hD hS => ?_)
                      have hP : va_P D vwCl [(hm, .inr (8, [.int mrf, .ref hby, .int msz, .int mbg, .long mbt, .int mrg2_190, .int mct2_190, .int mvl2_190, .int mpl2_190, .int mcl, .int mrw, .int mqt, .int mlv, .int mtl, .int mbe, .int mch, .ref hpb, .ref hwa, .ref hmn, .ref hcf, .ref hsa, .ref hro])), (hby, .inl (cI, 600, .inl mby)), (hpb, .inl (cI, 264, .inl mpb)), (hcf, .inl (cI, 256, .inl (upd mcf2 v211.toNatClampNeg v199))), (hmn, .inl (cI, 16, .inl mmn))] H := hP
                      have hD : va_D A [(hm, .inr (8, [.int mrf, .ref hby, .int msz, .int mbg, .long mbt, .int mrg2_190, .int mct2_190, .int mvl2_190, .int mpl2_190, .int mcl, .int mrw, .int mqt, .int mlv, .int mtl, .int mbe, .int mch, .ref hpb, .ref hwa, .ref hmn, .ref hcf, .ref hsa, .ref hro])), (hby, .inl (cI, 600, .inl mby)), (hpb, .inl (cI, 264, .inl mpb)), (hcf, .inl (cI, 256, .inl (upd mcf2 v211.toNatClampNeg v199))), (hmn, .inl (cI, 16, .inl mmn))] := hD
                      generalize hf214 : upd mcf2 v211.toNatClampNeg v199 = f214 at hP hD
                      obtain ⟨v215, e215⟩ : ∃ y : Int32, y = x3 + 1 := ⟨_, rfl⟩
                      refine lv_iinc (v := v215) (lv' := [(3, .int v215), (7, .int v199), (5, .int 0), (2, .int 2), (4, .int 1), (6, .int v103), (0, .ref hm), (1, .int k)]) hx hb dX8_readCoefficients_215 hl (k := 7) rfl (by rw [e215]; rfl) (by decide) rfl (fun ls hl => ?_)
                      have b215 : kB v215 1 16 := kB_eq e215 (kB_add c90nx kc_1 (by decide))
                      have t215 : v215.toInt = x3.toInt + 1 := by rw [e215]; exact kinc (kB_w c90nx (by decide) (by decide))
                      refine lv_goto (tgt := 82) hx hb dX8_readCoefficients_218 (by decide) ?_
                      exact ih 2 v215 1 0 mrg2_190 mct2_190 mvl2_190 mpl2_190 f214 (by (try rw [show (0 : Int32).toInt = 0 from by decide]); (try rw [show (1 : Int32).toInt = 1 from by decide]); have := b3.1; have := b3.2; have := b4.1; omega) (kB_w kc_2 (by decide) (by decide)) (kB_w b215 (by decide) (by decide)) (kB_w kc_1 (by decide) (by decide)) q190_1 q190_2 (by have := hq.1; have := hq.2; have := b4.1; have := b4.2; (try rw [show (0 : Int32).toInt = 0 from by decide]); (try rw [show (1 : Int32).toInt = 1 from by decide]); omega) _ _ ls hP hD hS (lv_sub hl [6, 7, 3, 0, 4, 2] rfl)
                · have c171x : kB r151 0 0 := kB_eq c171 kc_0
                  exact absurd (Int.le_trans c159ny.1 c171x.2) (by decide)
            · have c141x : kB r138 0 0 := kB_eq c141 kc_0
              refine lv_iconst (v := 0) hx hb dX8_readCoefficients_144 (by decide) ?_
              refine lv_goto (tgt := 154) hx hb dX8_readCoefficients_145 (by decide) ?_
              refine lv_istore (lv' := [(7, .int 0), (4, .int 1), (6, .int v103), (0, .ref hm), (1, .int k), (2, .int x2), (3, .int x3), (5, .int x5)]) hx hb dX8_readCoefficients_154 hl (by decide) rfl (fun ls hl => ?_)
              refine lv_iload hx hb dX8_readCoefficients_156 (lv_at hl 0 rfl) ?_
              refine lv_iconst (v := 1) hx hb dX8_readCoefficients_158 (by decide) ?_
              refine lv_icmp_le (tgt := 166) hx hb dX8_readCoefficients_159 (by decide) (fun c159 => ?_) (fun c159 => ?_)
              · refine lv_iload hx hb dX8_readCoefficients_166 (lv_at hl 0 rfl) ?_
                refine lv_istore_n (lv' := [(2, .int 0), (7, .int 0), (4, .int 1), (6, .int v103), (0, .ref hm), (1, .int k), (3, .int x3), (5, .int x5)]) hx hb dX8_readCoefficients_168 rfl hl (by decide) rfl (fun ls hl => ?_)
                refine lv_iload hx hb dX8_readCoefficients_169 (lv_at hl 1 rfl) ?_
                refine lv_if_ne (tgt := 178) hx hb dX8_readCoefficients_171 (by decide) (fun c171 => ?_) (fun c171 => ?_)
                · exact absurd rfl c171
                · refine lv_iconst (v := 1) hx hb dX8_readCoefficients_174 (by decide) ?_
                  refine lv_goto (tgt := 179) hx hb dX8_readCoefficients_175 (by decide) ?_
                  refine lv_istore (lv' := [(5, .int 1), (2, .int 0), (7, .int 0), (4, .int 1), (6, .int v103), (0, .ref hm), (1, .int k), (3, .int x3)]) hx hb dX8_readCoefficients_179 hl (by decide) rfl (fun ls hl => ?_)
                  refine lv_iload hx hb dX8_readCoefficients_181 (lv_at hl 2 rfl) ?_
                  refine lv_if_le (tgt := 202) hx hb dX8_readCoefficients_183 (by decide) (fun c183 => ?_) (fun c183 => ?_)
                  · refine lv_aload_n hx hb dX8_readCoefficients_202 rfl (lv_at hl 5 rfl) ?_
                    refine va_get (D := D) (ci := 8) (v := .ref hcf) (C := RX8) (T := TX8) (N := 22) hx hb hts in_X8 hown hK.1 hP 0 rfl rfl 19 (by decide) (hts _ mk_226) (fun _ h9 => h9) rfl dX8_readCoefficients_203 ?_
                    refine lv_bipush (v := 16) hx hb dX8_readCoefficients_206 (by decide) ?_
                    refine lv_iload_n hx hb dX8_readCoefficients_208 rfl (lv_at hl 6 rfl) ?_
                    refine lv_imul hx hb dX8_readCoefficients_209 ?_
                    refine lv_topi (fun v209 e209 => ?_)
                    have b209 : kB v209 0 240 := kB_eq e209 (kB_cmul kc_16 bk (by decide))
                    refine lv_iload_n hx hb dX8_readCoefficients_210 rfl (lv_at hl 7 rfl) ?_
                    refine lv_iadd hx hb dX8_readCoefficients_211 ?_
                    refine lv_topi (fun v211 e211 => ?_)
                    have b211 : kB v211 0 255 := kB_eq e211 (kB_add b209 c90nx (by decide))
                    refine lv_iload hx hb dX8_readCoefficients_212 (lv_at hl 2 rfl) ?_
                    refine va_iast hx hb hK.1 hP hD hS 3 0 rfl rfl (kB_in b211 (by decide)) dX8_readCoefficients_214 (fun H locs hP hD hS => ?_)
                    have hP : va_P D vwCl [(hm, .inr (8, [.int mrf, .ref hby, .int msz, .int mbg, .long mbt, .int mrg2_138, .int mct2_138, .int mvl2_138, .int mpl2_138, .int mcl, .int mrw, .int mqt, .int mlv, .int mtl, .int mbe, .int mch, .ref hpb, .ref hwa, .ref hmn, .ref hcf, .ref hsa, .ref hro])), (hby, .inl (cI, 600, .inl mby)), (hpb, .inl (cI, 264, .inl mpb)), (hcf, .inl (cI, 256, .inl (upd mcf2 v211.toNatClampNeg 0))), (hmn, .inl (cI, 16, .inl mmn))] H := hP
                    have hD : va_D A [(hm, .inr (8, [.int mrf, .ref hby, .int msz, .int mbg, .long mbt, .int mrg2_138, .int mct2_138, .int mvl2_138, .int mpl2_138, .int mcl, .int mrw, .int mqt, .int mlv, .int mtl, .int mbe, .int mch, .ref hpb, .ref hwa, .ref hmn, .ref hcf, .ref hsa, .ref hro])), (hby, .inl (cI, 600, .inl mby)), (hpb, .inl (cI, 264, .inl mpb)), (hcf, .inl (cI, 256, .inl (upd mcf2 v211.toNatClampNeg 0))), (hmn, .inl (cI, 16, .inl mmn))] := hD
                    generalize hf214 : upd mcf2 v211.toNatClampNeg 0 = f214 at hP hD
                    obtain ⟨v215, e215⟩ : ∃ y : Int32, y = x3 + 1 := ⟨_, rfl⟩
                    refine lv_iinc (v := v215) (lv' := [(3, .int v215), (5, .int 1), (2, .int 0), (7, .int 0), (4, .int 1), (6, .int v103), (0, .ref hm), (1, .int k)]) hx hb dX8_readCoefficients_215 hl (k := 7) rfl (by rw [e215]; rfl) (by decide) rfl (fun ls hl => ?_)
                    have b215 : kB v215 1 16 := kB_eq e215 (kB_add c90nx kc_1 (by decide))
                    have t215 : v215.toInt = x3.toInt + 1 := by rw [e215]; exact kinc (kB_w c90nx (by decide) (by decide))
                    refine lv_goto (tgt := 82) hx hb dX8_readCoefficients_218 (by decide) ?_
                    exact ih 0 v215 1 1 mrg2_138 mct2_138 mvl2_138 mpl2_138 f214 (by (try rw [show (0 : Int32).toInt = 0 from by decide]); (try rw [show (1 : Int32).toInt = 1 from by decide]); have := b3.1; have := b3.2; have := b4.1; omega) (kB_w kc_0 (by decide) (by decide)) (kB_w b215 (by decide) (by decide)) (kB_w kc_1 (by decide) (by decide)) q138_1 q138_2 (by have := hq.1; have := hq.2; have := b4.1; have := b4.2; (try rw [show (0 : Int32).toInt = 0 from by decide]); (try rw [show (1 : Int32).toInt = 1 from by decide]); omega) _ _ ls hP hD hS (lv_sub hl [6, 7, 2, 0, 4, 1] rfl)
                  · exact absurd (by decide) c183
              · exact absurd (by decide) c159
        · have c108x : kB x5 0 0 := kB_eq c108 kc_0
          refine lv_aload_n hx hb dX8_readCoefficients_111 rfl (lv_at hl 1 rfl) ?_
          refine lv_iload hx hb dX8_readCoefficients_112 (lv_at hl 0 rfl) ?_
          refine lv_iconst (v := 0) hx hb dX8_readCoefficients_114 (by decide) ?_
          have hPc := hP.sub (ws' := [(hm, .inr (8, [.int mrf, .ref hby, .int msz, .int mbg, .long mbt, .int mrg2, .int mct2, .int mvl2, .int mpl2, .int mcl, .int mrw, .int mqt, .int mlv, .int mtl, .int mbe, .int mch, .ref hpb, .ref hwa, .ref hmn, .ref hcf, .ref hsa, .ref hro])), (hby, .inl (cI, 600, .inl mby)), (hpb, .inl (cI, 264, .inl mpb))]) [0, 1, 2] rfl
          have hDc := hD.sub (ws' := [(hm, .inr (8, [.int mrf, .ref hby, .int msz, .int mbg, .long mbt, .int mrg2, .int mct2, .int mvl2, .int mpl2, .int mcl, .int mrw, .int mqt, .int mlv, .int mtl, .int mbe, .int mch, .ref hpb, .ref hwa, .ref hmn, .ref hcf, .ref hsa, .ref hro])), (hby, .inl (cI, 600, .inl mby)), (hpb, .inl (cI, 264, .inl mpb))]) [0, 1, 2] (by decide) rfl
          have hFc := va_free (wc := [(hm, .inr (8, [.int mrf, .ref hby, .int msz, .int mbg, .long mbt, .int mrg2, .int mct2, .int mvl2, .int mpl2, .int mcl, .int mrw, .int mqt, .int mlv, .int mtl, .int mbe, .int mch, .ref hpb, .ref hwa, .ref hmn, .ref hcf, .ref hsa, .ref hro])), (hby, .inl (cI, 600, .inl mby)), (hpb, .inl (cI, 264, .inl mpb))]) hD hS hA [0, 1, 2] rfl
          refine va_calli (va_runV (As := [.int v103, .int 0]) (rest := []) ⟨hx, hb, hml, hown, hts⟩ (c_X8_tell l D cI cJ cZ hm hby hpb hwa hmn hcf hsa hro mrf msz mbg mrg2 mct2 mvl2 mpl2 mcl mrw mqt mlv mtl mbe mch mbt mby mpb v103 0 brg2 bct2 bsz apb b103 (kB_w kc_0 (by decide) (by decide)) ⟨hq.1, by have := hq.2; have := b3.2; have := hpl.2; omega⟩ (H).size) (cwV 2 hts (kg_V mk_206 mk_207 mk_208 mk_189 mk_209) rfl rfl rfl (by decide +kernel) ⟨Nat.le_of_ble_eq_true rfl, Nat.le_of_ble_eq_true rfl⟩) ⟨fun a U g mk q => by obtain ⟨q0, q1, qP, qK, qD⟩ := q; exact ⟨q0, q1, qP, kK.call qK, qD⟩, va_recv hK.1 hPc (ci := 8) (q0 := 0) rfl rfl, fun U hU hW => ⟨rfl, by rw [hU], by rw [hU]; exact hPc, kK.warm hW hK, hDc.weaken (fun _ _ _ _ => trivial)⟩⟩ rfl rfl hl.1 rfl (lv_room (Nat.le_of_ble_eq_true rfl)) dX8_readCoefficients_115 ⟨Nat.zero_le _, Nat.zero_le _⟩) hS (fun q _ h => hFc q h) hFc (fun r115 u t9 H1 locs ht9 hvm9 hw9 hB9 hz9 hk9 hS => ?_)
          obtain ⟨mrg2_115, mct2_115, mvl2_115, mpl2_115⟩ := u
          obtain ⟨hP1, hD1⟩ := hB9
          rw [ht9] at hP1
          have hP1 : va_P D vwCl [(hm, .inr (8, [.int mrf, .ref hby, .int msz, .int mbg, .long mbt, .int mrg2_115, .int mct2_115, .int mvl2_115, .int mpl2_115, .int mcl, .int mrw, .int mqt, .int mlv, .int mtl, .int mbe, .int mch, .ref hpb, .ref hwa, .ref hmn, .ref hcf, .ref hsa, .ref hro])), (hby, .inl (cI, 600, .inl mby)), (hpb, .inl (cI, 264, .inl mpb))] H1 := hP1
          obtain ⟨hP, hD⟩ := va_join (wr := [(hcf, .inl (cI, 256, .inl mcf2)), (hmn, .inl (cI, 16, .inl mmn))]) (w1 := [(hm, .inr (8, [.int mrf, .ref hby, .int msz, .int mbg, .long mbt, .int mrg2_115, .int mct2_115, .int mvl2_115, .int mpl2_115, .int mcl, .int mrw, .int mqt, .int mlv, .int mtl, .int mbe, .int mch, .ref hpb, .ref hwa, .ref hmn, .ref hcf, .ref hsa, .ref hro])), (hby, .inl (cI, 600, .inl mby)), (hpb, .inl (cI, 264, .inl mpb))]) hP hD [0, 1, 2] [3, 4] rfl rfl (by decide) (by decide) hk9 hFc hP1 hD1
          have hP := hP.sub (ws' := [(hm, .inr (8, [.int mrf, .ref hby, .int msz, .int mbg, .long mbt, .int mrg2_115, .int mct2_115, .int mvl2_115, .int mpl2_115, .int mcl, .int mrw, .int mqt, .int mlv, .int mtl, .int mbe, .int mch, .ref hpb, .ref hwa, .ref hmn, .ref hcf, .ref hsa, .ref hro])), (hby, .inl (cI, 600, .inl mby)), (hpb, .inl (cI, 264, .inl mpb)), (hcf, .inl (cI, 256, .inl mcf2)), (hmn, .inl (cI, 16, .inl mmn))]) [2, 3, 4, 0, 1] rfl
          have hD := hD.sub (ws' := [(hm, .inr (8, [.int mrf, .ref hby, .int msz, .int mbg, .long mbt, .int mrg2_115, .int mct2_115, .int mvl2_115, .int mpl2_115, .int mcl, .int mrw, .int mqt, .int mlv, .int mtl, .int mbe, .int mch, .ref hpb, .ref hwa, .ref hmn, .ref hcf, .ref hsa, .ref hro])), (hby, .inl (cI, 600, .inl mby)), (hpb, .inl (cI, 264, .inl mpb)), (hcf, .inl (cI, 256, .inl mcf2)), (hmn, .inl (cI, 16, .inl mmn))]) [2, 3, 4, 0, 1] (by decide) rfl
          generalize H1 = H at hP hS ⊢
          obtain ⟨q115_0, q115_1, q115_2, q115_3⟩ := hw9
          have q115_0 : kB r115 0 1 := q115_0
          have q115_1 : kB mrg2_115 128 255 := q115_1
          have q115_2 : kB mct2_115 0 7 := q115_2
          have q115_3 : 0 ≤ mpl2_115.toInt ∧ mpl2_115.toInt ≤ mpl2.toInt + 7 := q115_3
          refine lv_iconst (v := 1) hx hb dX8_readCoefficients_118 (by decide) ?_
          refine lv_icmp_ne (tgt := 126) hx hb dX8_readCoefficients_119 (by decide) (fun c119 => ?_) (fun c119 => ?_)
          · have c119x : kB r115 0 0 := kB_nhi q115_0 c119 kc_1 (by decide)
            refine lv_iconst (v := 0) hx hb dX8_readCoefficients_126 (by decide) ?_
            refine lv_istore (lv' := [(4, .int 0), (6, .int v103), (0, .ref hm), (1, .int k), (2, .int x2), (3, .int x3), (5, .int x5)]) hx hb dX8_readCoefficients_127 hl (by decide) rfl (fun ls hl => ?_)
            refine lv_iload hx hb dX8_readCoefficients_129 (lv_at hl 0 rfl) ?_
            refine lv_if_eq (tgt := 218) hx hb dX8_readCoefficients_131 (by decide) (fun c131 => ?_) (fun c131 => ?_)
            · refine lv_goto (tgt := 82) hx hb dX8_readCoefficients_218 (by decide) ?_
              exact ih x2 x3 0 x5 mrg2_115 mct2_115 mvl2_115 mpl2_115 mcf2 (by (try rw [show (0 : Int32).toInt = 0 from by decide]); (try rw [show (1 : Int32).toInt = 1 from by decide]); have := b3.1; have := b3.2; have := b4.1; omega) b2 (kB_w c90nx (by decide) (by decide)) (kB_w kc_0 (by decide) (by decide)) q115_1 q115_2 (by have := hq.1; have := hq.2; have := b4.1; have := b4.2; (try rw [show (0 : Int32).toInt = 0 from by decide]); (try rw [show (1 : Int32).toInt = 1 from by decide]); omega) _ _ ls hP hD hS (lv_sub hl [2, 3, 4, 5, 0, 6] rfl)
            · exact absurd (by decide) c131
          · have c119x : kB r115 1 1 := kB_eq c119 kc_1
            refine lv_iconst (v := 1) hx hb dX8_readCoefficients_122 (by decide) ?_
            refine lv_goto (tgt := 127) hx hb dX8_readCoefficients_123 (by decide) ?_
            refine lv_istore (lv' := [(4, .int 1), (6, .int v103), (0, .ref hm), (1, .int k), (2, .int x2), (3, .int x3), (5, .int x5)]) hx hb dX8_readCoefficients_127 hl (by decide) rfl (fun ls hl => ?_)
            refine lv_iload hx hb dX8_readCoefficients_129 (lv_at hl 0 rfl) ?_
            refine lv_if_eq (tgt := 218) hx hb dX8_readCoefficients_131 (by decide) (fun c131 => ?_) (fun c131 => ?_)
            · exact absurd c131 (by decide)
            · refine lv_aload_n hx hb dX8_readCoefficients_134 rfl (lv_at hl 2 rfl) ?_
              refine lv_iload hx hb dX8_readCoefficients_135 (lv_at hl 1 rfl) ?_
              refine lv_iconst (v := 1) hx hb dX8_readCoefficients_137 (by decide) ?_
              have hPc := hP.sub (ws' := [(hm, .inr (8, [.int mrf, .ref hby, .int msz, .int mbg, .long mbt, .int mrg2_115, .int mct2_115, .int mvl2_115, .int mpl2_115, .int mcl, .int mrw, .int mqt, .int mlv, .int mtl, .int mbe, .int mch, .ref hpb, .ref hwa, .ref hmn, .ref hcf, .ref hsa, .ref hro])), (hby, .inl (cI, 600, .inl mby)), (hpb, .inl (cI, 264, .inl mpb))]) [0, 1, 2] rfl
              have hDc := hD.sub (ws' := [(hm, .inr (8, [.int mrf, .ref hby, .int msz, .int mbg, .long mbt, .int mrg2_115, .int mct2_115, .int mvl2_115, .int mpl2_115, .int mcl, .int mrw, .int mqt, .int mlv, .int mtl, .int mbe, .int mch, .ref hpb, .ref hwa, .ref hmn, .ref hcf, .ref hsa, .ref hro])), (hby, .inl (cI, 600, .inl mby)), (hpb, .inl (cI, 264, .inl mpb))]) [0, 1, 2] (by decide) rfl
              have hFc := va_free (wc := [(hm, .inr (8, [.int mrf, .ref hby, .int msz, .int mbg, .long mbt, .int mrg2_115, .int mct2_115, .int mvl2_115, .int mpl2_115, .int mcl, .int mrw, .int mqt, .int mlv, .int mtl, .int mbe, .int mch, .ref hpb, .ref hwa, .ref hmn, .ref hcf, .ref hsa, .ref hro])), (hby, .inl (cI, 600, .inl mby)), (hpb, .inl (cI, 264, .inl mpb))]) hD hS hA [0, 1, 2] rfl
              refine va_calli (va_runV (As := [.int v103, .int 1]) (rest := []) ⟨hx, hb, hml, hown, hts⟩ (c_X8_tell l D cI cJ cZ hm hby hpb hwa hmn hcf hsa hro mrf msz mbg mrg2_115 mct2_115 mvl2_115 mpl2_115 mcl mrw mqt mlv mtl mbe mch mbt mby mpb v103 1 q115_1 q115_2 bsz apb b103 (kB_w kc_1 (by decide) (by decide)) (by have := hq.1; have := hq.2; have := b3.2; have := hpl.2; omega) (H).size) (cwV 2 hts (kg_V mk_206 mk_207 mk_208 mk_189 mk_209) rfl rfl rfl (by decide +kernel) ⟨Nat.le_of_ble_eq_true rfl, Nat.le_of_ble_eq_true rfl⟩) ⟨fun a U g mk q => by obtain ⟨q0, q1, qP, qK, qD⟩ := q; exact ⟨q0, q1, qP, kK.call qK, qD⟩, va_recv hK.1 hPc (ci := 8) (q0 := 0) rfl rfl, fun U hU hW => ⟨rfl, by rw [hU], by rw [hU]; exact hPc, kK.warm hW hK, hDc.weaken (fun _ _ _ _ => trivial)⟩⟩ rfl rfl hl.1 rfl (lv_room (Nat.le_of_ble_eq_true rfl)) dX8_readCoefficients_138 ⟨Nat.zero_le _, Nat.zero_le _⟩) hS (fun q _ h => hFc q h) hFc (fun r138 u t9 H1 locs ht9 hvm9 hw9 hB9 hz9 hk9 hS => ?_)
              obtain ⟨mrg2_138, mct2_138, mvl2_138, mpl2_138⟩ := u
              obtain ⟨hP1, hD1⟩ := hB9
              rw [ht9] at hP1
              have hP1 : va_P D vwCl [(hm, .inr (8, [.int mrf, .ref hby, .int msz, .int mbg, .long mbt, .int mrg2_138, .int mct2_138, .int mvl2_138, .int mpl2_138, .int mcl, .int mrw, .int mqt, .int mlv, .int mtl, .int mbe, .int mch, .ref hpb, .ref hwa, .ref hmn, .ref hcf, .ref hsa, .ref hro])), (hby, .inl (cI, 600, .inl mby)), (hpb, .inl (cI, 264, .inl mpb))] H1 := hP1
              obtain ⟨hP, hD⟩ := va_join (wr := [(hcf, .inl (cI, 256, .inl mcf2)), (hmn, .inl (cI, 16, .inl mmn))]) (w1 := [(hm, .inr (8, [.int mrf, .ref hby, .int msz, .int mbg, .long mbt, .int mrg2_138, .int mct2_138, .int mvl2_138, .int mpl2_138, .int mcl, .int mrw, .int mqt, .int mlv, .int mtl, .int mbe, .int mch, .ref hpb, .ref hwa, .ref hmn, .ref hcf, .ref hsa, .ref hro])), (hby, .inl (cI, 600, .inl mby)), (hpb, .inl (cI, 264, .inl mpb))]) hP hD [0, 1, 2] [3, 4] rfl rfl (by decide) (by decide) hk9 hFc hP1 hD1
              have hP := hP.sub (ws' := [(hm, .inr (8, [.int mrf, .ref hby, .int msz, .int mbg, .long mbt, .int mrg2_138, .int mct2_138, .int mvl2_138, .int mpl2_138, .int mcl, .int mrw, .int mqt, .int mlv, .int mtl, .int mbe, .int mch, .ref hpb, .ref hwa, .ref hmn, .ref hcf, .ref hsa, .ref hro])), (hby, .inl (cI, 600, .inl mby)), (hpb, .inl (cI, 264, .inl mpb)), (hcf, .inl (cI, 256, .inl mcf2)), (hmn, .inl (cI, 16, .inl mmn))]) [2, 3, 4, 0, 1] rfl
              have hD := hD.sub (ws' := [(hm, .inr (8, [.int mrf, .ref hby, .int msz, .int mbg, .long mbt, .int mrg2_138, .int mct2_138, .int mvl2_138, .int mpl2_138, .int mcl, .int mrw, .int mqt, .int mlv, .int mtl, .int mbe, .int mch, .ref hpb, .ref hwa, .ref hmn, .ref hcf, .ref hsa, .ref hro])), (hby, .inl (cI, 600, .inl mby)), (hpb, .inl (cI, 264, .inl mpb)), (hcf, .inl (cI, 256, .inl mcf2)), (hmn, .inl (cI, 16, .inl mmn))]) [2, 3, 4, 0, 1] (by decide) rfl
              generalize H1 = H at hP hS ⊢
              obtain ⟨q138_0, q138_1, q138_2, q138_3⟩ := hw9
              have q138_0 : kB r138 0 1 := q138_0
              have q138_1 : kB mrg2_138 128 255 := q138_1
              have q138_2 : kB mct2_138 0 7 := q138_2
              have q138_3 : 0 ≤ mpl2_138.toInt ∧ mpl2_138.toInt ≤ mpl2_115.toInt + 7 := q138_3
              refine lv_if_ne (tgt := 148) hx hb dX8_readCoefficients_141 (by decide) (fun c141 => ?_) (fun c141 => ?_)
              · have c141x : kB r138 1 1 := kB_nlo q138_0 c141 kc_0 (by decide)
                refine lv_aload_n hx hb dX8_readCoefficients_148 rfl (lv_at hl 2 rfl) ?_
                refine lv_iload hx hb dX8_readCoefficients_149 (lv_at hl 1 rfl) ?_
                have hPc := hP.sub (ws' := [(hm, .inr (8, [.int mrf, .ref hby, .int msz, .int mbg, .long mbt, .int mrg2_138, .int mct2_138, .int mvl2_138, .int mpl2_138, .int mcl, .int mrw, .int mqt, .int mlv, .int mtl, .int mbe, .int mch, .ref hpb, .ref hwa, .ref hmn, .ref hcf, .ref hsa, .ref hro])), (hby, .inl (cI, 600, .inl mby)), (hpb, .inl (cI, 264, .inl mpb))]) [0, 1, 2] rfl
                have hDc := hD.sub (ws' := [(hm, .inr (8, [.int mrf, .ref hby, .int msz, .int mbg, .long mbt, .int mrg2_138, .int mct2_138, .int mvl2_138, .int mpl2_138, .int mcl, .int mrw, .int mqt, .int mlv, .int mtl, .int mbe, .int mch, .ref hpb, .ref hwa, .ref hmn, .ref hcf, .ref hsa, .ref hro])), (hby, .inl (cI, 600, .inl mby)), (hpb, .inl (cI, 264, .inl mpb))]) [0, 1, 2] (by decide) rfl
                have hFc := va_free (wc := [(hm, .inr (8, [.int mrf, .ref hby, .int msz, .int mbg, .long mbt, .int mrg2_138, .int mct2_138, .int mvl2_138, .int mpl2_138, .int mcl, .int mrw, .int mqt, .int mlv, .int mtl, .int mbe, .int mch, .ref hpb, .ref hwa, .ref hmn, .ref hcf, .ref hsa, .ref hro])), (hby, .inl (cI, 600, .inl mby)), (hpb, .inl (cI, 264, .inl mpb))]) hD hS hA [0, 1, 2] rfl
                refine va_calli (va_runV (As := [.int v103]) (rest := []) ⟨hx, hb, hml, hown, hts⟩ (c_X8_sizeOf l D cI cJ cZ hm hby hpb hwa hmn hcf hsa hro mrf msz mbg mrg2_138 mct2_138 mvl2_138 mpl2_138 mcl mrw mqt mlv mtl mbe mch mbt mby mpb v103 q138_1 q138_2 bsz apb b103 (by have := hq.1; have := hq.2; have := b3.2; have := hpl.2; omega) (H).size) (cwV 1 hts (kg_V mk_236 mk_237 mk_238 mk_189 mk_239) rfl rfl rfl (by decide +kernel) ⟨Nat.le_of_ble_eq_true rfl, Nat.le_of_ble_eq_true rfl⟩) ⟨fun a U g mk q => by obtain ⟨q0, q1, qP, qK, qD⟩ := q; exact ⟨q0, q1, qP, kK.call qK, qD⟩, va_recv hK.1 hPc (ci := 8) (q0 := 0) rfl rfl, fun U hU hW => ⟨rfl, by rw [hU], by rw [hU]; exact hPc, kK.warm hW hK, hDc.weaken (fun _ _ _ _ => trivial)⟩⟩ rfl rfl hl.1 rfl (lv_room (Nat.le_of_ble_eq_true rfl)) dX8_readCoefficients_151 ⟨Nat.zero_le _, Nat.zero_le _⟩) hS (fun q _ h => hFc q h) hFc (fun r151 u t9 H1 locs ht9 hvm9 hw9 hB9 hz9 hk9 hS => ?_)
                obtain ⟨mrg2_151, mct2_151, mvl2_151, mpl2_151⟩ := u
                obtain ⟨hP1, hD1⟩ := hB9
                rw [ht9] at hP1
                have hP1 : va_P D vwCl [(hm, .inr (8, [.int mrf, .ref hby, .int msz, .int mbg, .long mbt, .int mrg2_151, .int mct2_151, .int mvl2_151, .int mpl2_151, .int mcl, .int mrw, .int mqt, .int mlv, .int mtl, .int mbe, .int mch, .ref hpb, .ref hwa, .ref hmn, .ref hcf, .ref hsa, .ref hro])), (hby, .inl (cI, 600, .inl mby)), (hpb, .inl (cI, 264, .inl mpb))] H1 := hP1
                obtain ⟨hP, hD⟩ := va_join (wr := [(hcf, .inl (cI, 256, .inl mcf2)), (hmn, .inl (cI, 16, .inl mmn))]) (w1 := [(hm, .inr (8, [.int mrf, .ref hby, .int msz, .int mbg, .long mbt, .int mrg2_151, .int mct2_151, .int mvl2_151, .int mpl2_151, .int mcl, .int mrw, .int mqt, .int mlv, .int mtl, .int mbe, .int mch, .ref hpb, .ref hwa, .ref hmn, .ref hcf, .ref hsa, .ref hro])), (hby, .inl (cI, 600, .inl mby)), (hpb, .inl (cI, 264, .inl mpb))]) hP hD [0, 1, 2] [3, 4] rfl rfl (by decide) (by decide) hk9 hFc hP1 hD1
                have hP := hP.sub (ws' := [(hm, .inr (8, [.int mrf, .ref hby, .int msz, .int mbg, .long mbt, .int mrg2_151, .int mct2_151, .int mvl2_151, .int mpl2_151, .int mcl, .int mrw, .int mqt, .int mlv, .int mtl, .int mbe, .int mch, .ref hpb, .ref hwa, .ref hmn, .ref hcf, .ref hsa, .ref hro])), (hby, .inl (cI, 600, .inl mby)), (hpb, .inl (cI, 264, .inl mpb)), (hcf, .inl (cI, 256, .inl mcf2)), (hmn, .inl (cI, 16, .inl mmn))]) [2, 3, 4, 0, 1] rfl
                have hD := hD.sub (ws' := [(hm, .inr (8, [.int mrf, .ref hby, .int msz, .int mbg, .long mbt, .int mrg2_151, .int mct2_151, .int mvl2_151, .int mpl2_151, .int mcl, .int mrw, .int mqt, .int mlv, .int mtl, .int mbe, .int mch, .ref hpb, .ref hwa, .ref hmn, .ref hcf, .ref hsa, .ref hro])), (hby, .inl (cI, 600, .inl mby)), (hpb, .inl (cI, 264, .inl mpb)), (hcf, .inl (cI, 256, .inl mcf2)), (hmn, .inl (cI, 16, .inl mmn))]) [2, 3, 4, 0, 1] (by decide) rfl
                generalize H1 = H at hP hS ⊢
                obtain ⟨q151_0, q151_1, q151_2, q151_3⟩ := hw9
                have q151_0 : kB r151 0 70000000 := q151_0
                have q151_1 : kB mrg2_151 128 255 := q151_1
                have q151_2 : kB mct2_151 0 7 := q151_2
                have q151_3 : 0 ≤ mpl2_151.toInt ∧ mpl2_151.toInt ≤ mpl2_138.toInt + 300 := q151_3
                refine lv_istore (lv' := [(7, .int r151), (4, .int 1), (6, .int v103), (0, .ref hm), (1, .int k), (2, .int x2), (3, .int x3), (5, .int x5)]) hx hb dX8_readCoefficients_154 hl (by decide) rfl (fun ls hl => ?_)
                refine lv_iload hx hb dX8_readCoefficients_156 (lv_at hl 0 rfl) ?_
                refine lv_iconst (v := 1) hx hb dX8_readCoefficients_158 (by decide) ?_
                refine lv_icmp_le (tgt := 166) hx hb dX8_readCoefficients_159 (by decide) (fun c159 => ?_) (fun c159 => ?_)
                · have c159x : kB r151 0 1 := kB_le_l q151_0 kc_1 c159 (by decide)
                  refine lv_iload hx hb dX8_readCoefficients_166 (lv_at hl 0 rfl) ?_
                  refine lv_istore_n (lv' := [(2, .int r151), (7, .int r151), (4, .int 1), (6, .int v103), (0, .ref hm), (1, .int k), (3, .int x3), (5, .int x5)]) hx hb dX8_readCoefficients_168 rfl hl (by decide) rfl (fun ls hl => ?_)
                  refine lv_iload hx hb dX8_readCoefficients_169 (lv_at hl 1 rfl) ?_
                  refine lv_if_ne (tgt := 178) hx hb dX8_readCoefficients_171 (by decide) (fun c171 => ?_) (fun c171 => ?_)
                  · have c171x : kB r151 1 1 := kB_nlo c159x c171 kc_0 (by decide)
                    refine lv_iconst (v := 0) hx hb dX8_readCoefficients_178 (by decide) ?_
                    refine lv_istore (lv' := [(5, .int 0), (2, .int r151), (7, .int r151), (4, .int 1), (6, .int v103), (0, .ref hm), (1, .int k), (3, .int x3)]) hx hb dX8_readCoefficients_179 hl (by decide) rfl (fun ls hl => ?_)
                    refine lv_iload hx hb dX8_readCoefficients_181 (lv_at hl 2 rfl) ?_
                    refine lv_if_le (tgt := 202) hx hb dX8_readCoefficients_183 (by decide) (fun c183 => ?_) (fun c183 => ?_)
                    · have c183x : kB r151 1 0 := kB_le_l c171x kc_0 c183 (by decide)
                      exact absurd (Int.le_trans c183x.1 c183x.2) (by decide)
                    · have c183n : 0 < r151 := kN_le c183
                      refine lv_aload_n hx hb dX8_readCoefficients_186 rfl (lv_at hl 5 rfl) ?_
                      refine lv_sipush (v := 128) hx hb dX8_readCoefficients_187 (by decide) ?_
                      have hPc := hP.sub (ws' := [(hm, .inr (8, [.int mrf, .ref hby, .int msz, .int mbg, .long mbt, .int mrg2_151, .int mct2_151, .int mvl2_151, .int mpl2_151, .int mcl, .int mrw, .int mqt, .int mlv, .int mtl, .int mbe, .int mch, .ref hpb, .ref hwa, .ref hmn, .ref hcf, .ref hsa, .ref hro])), (hby, .inl (cI, 600, .inl mby))]) [0, 1] rfl
                      have hDc := hD.sub (ws' := [(hm, .inr (8, [.int mrf, .ref hby, .int msz, .int mbg, .long mbt, .int mrg2_151, .int mct2_151, .int mvl2_151, .int mpl2_151, .int mcl, .int mrw, .int mqt, .int mlv, .int mtl, .int mbe, .int mch, .ref hpb, .ref hwa, .ref hmn, .ref hcf, .ref hsa, .ref hro])), (hby, .inl (cI, 600, .inl mby))]) [0, 1] (by decide) rfl
                      have hFc := va_free (wc := [(hm, .inr (8, [.int mrf, .ref hby, .int msz, .int mbg, .long mbt, .int mrg2_151, .int mct2_151, .int mvl2_151, .int mpl2_151, .int mcl, .int mrw, .int mqt, .int mlv, .int mtl, .int mbe, .int mch, .ref hpb, .ref hwa, .ref hmn, .ref hcf, .ref hsa, .ref hro])), (hby, .inl (cI, 600, .inl mby))]) hD hS hA [0, 1] rfl
                      refine va_calli (va_runV (As := [.int 128]) (rest := []) ⟨hx, hb, hml, hown, hts⟩ (c_X8_readBit l D cI cJ cZ hm hby hpb hwa hmn hcf hsa hro mrf msz mbg mrg2_151 mct2_151 mvl2_151 mpl2_151 mcl mrw mqt mlv mtl mbe mch mbt mby 128 q151_1 q151_2 bsz (kB_w kc_128 (by decide) (by decide)) (by have := hq.1; have := hq.2; have := b3.2; have := hpl.2; omega) (H).size) (cwV 1 hts (kg_V mk_200 mk_201 mk_202 mk_189 mk_203) rfl rfl rfl (by decide +kernel) ⟨Nat.le_of_ble_eq_true rfl, Nat.le_of_ble_eq_true rfl⟩) ⟨fun a U g mk q => by obtain ⟨q0, q1, qP, qK, qD⟩ := q; exact ⟨q0, q1, qP, kK.call qK, qD⟩, va_recv hK.1 hPc (ci := 8) (q0 := 0) rfl rfl, fun U hU hW => ⟨rfl, by rw [hU], by rw [hU]; exact hPc, kK.warm hW hK, hDc.weaken (fun _ _ _ _ => trivial)⟩⟩ rfl rfl hl.1 rfl (lv_room (Nat.le_of_ble_eq_true rfl)) dX8_readCoefficients_190 ⟨Nat.zero_le _, Nat.zero_le _⟩) hS (fun q _ h => hFc q h) hFc (fun r190 u t9 H1 locs ht9 hvm9 hw9 hB9 hz9 hk9 hS => ?_)
                      obtain ⟨mrg2_190, mct2_190, mvl2_190, mpl2_190⟩ := u
                      obtain ⟨hP1, hD1⟩ := hB9
                      rw [ht9] at hP1
                      have hP1 : va_P D vwCl [(hm, .inr (8, [.int mrf, .ref hby, .int msz, .int mbg, .long mbt, .int mrg2_190, .int mct2_190, .int mvl2_190, .int mpl2_190, .int mcl, .int mrw, .int mqt, .int mlv, .int mtl, .int mbe, .int mch, .ref hpb, .ref hwa, .ref hmn, .ref hcf, .ref hsa, .ref hro])), (hby, .inl (cI, 600, .inl mby))] H1 := hP1
                      obtain ⟨hP, hD⟩ := va_join (wr := [(hpb, .inl (cI, 264, .inl mpb)), (hcf, .inl (cI, 256, .inl mcf2)), (hmn, .inl (cI, 16, .inl mmn))]) (w1 := [(hm, .inr (8, [.int mrf, .ref hby, .int msz, .int mbg, .long mbt, .int mrg2_190, .int mct2_190, .int mvl2_190, .int mpl2_190, .int mcl, .int mrw, .int mqt, .int mlv, .int mtl, .int mbe, .int mch, .ref hpb, .ref hwa, .ref hmn, .ref hcf, .ref hsa, .ref hro])), (hby, .inl (cI, 600, .inl mby))]) hP hD [0, 1] [2, 3, 4] rfl rfl (by decide) (by decide) hk9 hFc hP1 hD1
                      have hP := hP.sub (ws' := [(hm, .inr (8, [.int mrf, .ref hby, .int msz, .int mbg, .long mbt, .int mrg2_190, .int mct2_190, .int mvl2_190, .int mpl2_190, .int mcl, .int mrw, .int mqt, .int mlv, .int mtl, .int mbe, .int mch, .ref hpb, .ref hwa, .ref hmn, .ref hcf, .ref hsa, .ref hro])), (hby, .inl (cI, 600, .inl mby)), (hpb, .inl (cI, 264, .inl mpb)), (hcf, .inl (cI, 256, .inl mcf2)), (hmn, .inl (cI, 16, .inl mmn))]) [3, 4, 0, 1, 2] rfl
                      have hD := hD.sub (ws' := [(hm, .inr (8, [.int mrf, .ref hby, .int msz, .int mbg, .long mbt, .int mrg2_190, .int mct2_190, .int mvl2_190, .int mpl2_190, .int mcl, .int mrw, .int mqt, .int mlv, .int mtl, .int mbe, .int mch, .ref hpb, .ref hwa, .ref hmn, .ref hcf, .ref hsa, .ref hro])), (hby, .inl (cI, 600, .inl mby)), (hpb, .inl (cI, 264, .inl mpb)), (hcf, .inl (cI, 256, .inl mcf2)), (hmn, .inl (cI, 16, .inl mmn))]) [3, 4, 0, 1, 2] (by decide) rfl
                      generalize H1 = H at hP hS ⊢
                      obtain ⟨q190_0, q190_1, q190_2, q190_3, q190_4⟩ := hw9
                      have q190_0 : kB r190 0 1 := q190_0
                      have q190_1 : kB mrg2_190 128 255 := q190_1
                      have q190_2 : kB mct2_190 0 7 := q190_2
                      have q190_3 : 0 ≤ mpl2_190.toInt ∧ mpl2_190.toInt ≤ mpl2_151.toInt + 7 := q190_3
                      have q190_4 : kIf ((128 : Int32).toInt = 128 ∧ 0 ≤ mvl2_151.toInt ∧ mvl2_151.toInt ≤ 2000000 ∧ mct2_151.toInt ≤ 6) (r190.toInt = rBt mvl2_151.toInt mrg2_151.toInt ∧ (mvl2_190.toInt, mrg2_190.toInt, mct2_190.toInt) = rNx mvl2_151.toInt mrg2_151.toInt mct2_151.toInt) := q190_4
                      refine lv_iconst (v := 1) hx hb dX8_readCoefficients_193 (by decide) ?_
                      refine lv_icmp_ne (tgt := 202) hx hb dX8_readCoefficients_194 (by decide) (fun c194 => ?_) (fun c194 => ?_)
                      · have c194x : kB r190 0 0 := kB_nhi q190_0 c194 kc_1 (by decide)
                        refine lv_aload_n hx hb dX8_readCoefficients_202 rfl (lv_at hl 5 rfl) ?_
                        refine va_get (D := D) (ci := 8) (v := .ref hcf) (C := RX8) (T := TX8) (N := 22) hx hb hts in_X8 hown hK.1 hP 0 rfl rfl 19 (by decide) (hts _ mk_226) (fun _ h9 => h9) rfl dX8_readCoefficients_203 ?_
                        refine lv_bipush (v := 16) hx hb dX8_readCoefficients_206 (by decide) ?_
                        refine lv_iload_n hx hb dX8_readCoefficients_208 rfl (lv_at hl 6 rfl) ?_
                        refine lv_imul hx hb dX8_readCoefficients_209 ?_
                        refine lv_topi (fun v209 e209 => ?_)
                        have b209 : kB v209 0 240 := kB_eq e209 (kB_cmul kc_16 bk (by decide))
                        refine lv_iload_n hx hb dX8_readCoefficients_210 rfl (lv_at hl 7 rfl) ?_
                        refine lv_iadd hx hb dX8_readCoefficients_211 ?_
                        refine lv_topi (fun v211 e211 => ?_)
                        have b211 : kB v211 0 255 := kB_eq e211 (kB_add b209 c90nx (by decide))
                        refine lv_iload hx hb dX8_readCoefficients_212 (lv_at hl 2 rfl) ?_
                        refine va_iast hx hb hK.1 hP hD hS 3 0 rfl rfl (kB_in b211 (by decide)) dX8_readCoefficients_214 (fun H locs hP hD hS => ?_)
                        have hP : va_P D vwCl [(hm, .inr (8, [.int mrf, .ref hby, .int msz, .int mbg, .long mbt, .int mrg2_190, .int mct2_190, .int mvl2_190, .int mpl2_190, .int mcl, .int mrw, .int mqt, .int mlv, .int mtl, .int mbe, .int mch, .ref hpb, .ref hwa, .ref hmn, .ref hcf, .ref hsa, .ref hro])), (hby, .inl (cI, 600, .inl mby)), (hpb, .inl (cI, 264, .inl mpb)), (hcf, .inl (cI, 256, .inl (upd mcf2 v211.toNatClampNeg r151))), (hmn, .inl (cI, 16, .inl mmn))] H := hP
                        have hD : va_D A [(hm, .inr (8, [.int mrf, .ref hby, .int msz, .int mbg, .long mbt, .int mrg2_190, .int mct2_190, .int mvl2_190, .int mpl2_190, .int mcl, .int mrw, .int mqt, .int mlv, .int mtl, .int mbe, .int mch, .ref hpb, .ref hwa, .ref hmn, .ref hcf, .ref hsa, .ref hro])), (hby, .inl (cI, 600, .inl mby)), (hpb, .inl (cI, 264, .inl mpb)), (hcf, .inl (cI, 256, .inl (upd mcf2 v211.toNatClampNeg r151))), (hmn, .inl (cI, 16, .inl mmn))] := hD
                        generalize hf214 : upd mcf2 v211.toNatClampNeg r151 = f214 at hP hD
                        obtain ⟨v215, e215⟩ : ∃ y : Int32, y = x3 + 1 := ⟨_, rfl⟩
                        refine lv_iinc (v := v215) (lv' := [(3, .int v215), (5, .int 0), (2, .int r151), (7, .int r151), (4, .int 1), (6, .int v103), (0, .ref hm), (1, .int k)]) hx hb dX8_readCoefficients_215 hl (k := 7) rfl (by rw [e215]; rfl) (by decide) rfl (fun ls hl => ?_)
                        have b215 : kB v215 1 16 := kB_eq e215 (kB_add c90nx kc_1 (by decide))
                        have t215 : v215.toInt = x3.toInt + 1 := by rw [e215]; exact kinc (kB_w c90nx (by decide) (by decide))
                        refine lv_goto (tgt := 82) hx hb dX8_readCoefficients_218 (by decide) ?_
                        exact ih r151 v215 1 0 mrg2_190 mct2_190 mvl2_190 mpl2_190 f214 (by (try rw [show (0 : Int32).toInt = 0 from by decide]); (try rw [show (1 : Int32).toInt = 1 from by decide]); have := b3.1; have := b3.2; have := b4.1; omega) (kB_w c171x (by decide) (by decide)) (kB_w b215 (by decide) (by decide)) (kB_w kc_1 (by decide) (by decide)) q190_1 q190_2 (by have := hq.1; have := hq.2; have := b4.1; have := b4.2; (try rw [show (0 : Int32).toInt = 0 from by decide]); (try rw [show (1 : Int32).toInt = 1 from by decide]); omega) _ _ ls hP hD hS (lv_sub hl [6, 7, 2, 0, 4, 1] rfl)
                      · have c194x : kB r190 1 1 := kB_eq c194 kc_1
                        refine lv_iload hx hb dX8_readCoefficients_197 (lv_at hl 2 rfl) ?_
                        refine lv_ineg hx hb dX8_readCoefficients_199 ?_
                        refine lv_topi (fun v199 e199 => ?_)
                        have b199 : kB v199 (-1) (-1) := kB_eq e199 (kB_neg c171x (by decide))
                        refine lv_istore (lv' := [(7, .int v199), (5, .int 0), (2, .int r151), (4, .int 1), (6, .int v103), (0, .ref hm), (1, .int k), (3, .int x3)]) hx hb dX8_readCoefficients_200 hl (by decide) rfl (fun ls hl => ?_)
                        refine lv_aload_n hx hb dX8_readCoefficients_202 rfl (lv_at hl 5 rfl) ?_
                        refine va_get (D := D) (ci := 8) (v := .ref hcf) (C := RX8) (T := TX8) (N := 22) hx hb hts in_X8 hown hK.1 hP 0 rfl rfl 19 (by decide) (hts _ mk_226) (fun _ h9 => h9) rfl dX8_readCoefficients_203 ?_
                        refine lv_bipush (v := 16) hx hb dX8_readCoefficients_206 (by decide) ?_
                        refine lv_iload_n hx hb dX8_readCoefficients_208 rfl (lv_at hl 6 rfl) ?_
                        refine lv_imul hx hb dX8_readCoefficients_209 ?_
                        refine lv_topi (fun v209 e209 => ?_)
                        have b209 : kB v209 0 240 := kB_eq e209 (kB_cmul kc_16 bk (by decide))
                        refine lv_iload_n hx hb dX8_readCoefficients_210 rfl (lv_at hl 7 rfl) ?_
                        refine lv_iadd hx hb dX8_readCoefficients_211 ?_
                        refine lv_topi (fun v211 e211 => ?_)
                        have b211 : kB v211 0 255 := kB_eq e211 (kB_add b209 c90nx (by decide))
                        refine lv_iload hx hb dX8_readCoefficients_212 (lv_at hl 0 rfl) ?_
                        refine va_iast hx hb hK.1 hP hD hS 3 0 rfl rfl (kB_in b211 (by decide)) dX8_readCoefficients_214 (fun H locs hP hD hS => ?_)
                        have hP : va_P D vwCl [(hm, .inr (8, [.int mrf, .ref hby, .int msz, .int mbg, .long mbt, .int mrg2_190, .int mct2_190, .int mvl2_190, .int mpl2_190, .int mcl, .int mrw, .int mqt, .int mlv, .int mtl, .int mbe, .int mch, .ref hpb, .ref hwa, .ref hmn, .ref hcf, .ref hsa, .ref hro])), (hby, .inl (cI, 600, .inl mby)), (hpb, .inl (cI, 264, .inl mpb)), (hcf, .inl (cI, 256, .inl (upd mcf2 v211.toNatClampNeg v199))), (hmn, .inl (cI, 16, .inl mmn))] H := hP
                        have hD : va_D A [(hm, .inr (8, [.int mrf, .ref hby, .int msz, .int mbg, .long mbt, .int mrg2_190, .int mct2_190, .int mvl2_190, .int mpl2_190, .int mcl, .int mrw, .int mqt, .int mlv, .int mtl, .int mbe, .int mch, .ref hpb, .ref hwa, .ref hmn, .ref hcf, .ref hsa, .ref hro])), (hby, .inl (cI, 600, .inl mby)), (hpb, .inl (cI, 264, .inl mpb)), (hcf, .inl (cI, 256, .inl (upd mcf2 v211.toNatClampNeg v199))), (hmn, .inl (cI, 16, .inl mmn))] := hD
                        generalize hf214 : upd mcf2 v211.toNatClampNeg v199 = f214 at hP hD
                        obtain ⟨v215, e215⟩ : ∃ y : Int32, y = x3 + 1 := ⟨_, rfl⟩
                        refine lv_iinc (v := v215) (lv' := [(3, .int v215), (7, .int v199), (5, .int 0), (2, .int r151), (4, .int 1), (6, .int v103), (0, .ref hm), (1, .int k)]) hx hb dX8_readCoefficients_215 hl (k := 7) rfl (by rw [e215]; rfl) (by decide) rfl (fun ls hl => ?_)
                        have b215 : kB v215 1 16 := kB_eq e215 (kB_add c90nx kc_1 (by decide))
                        have t215 : v215.toInt = x3.toInt + 1 := by rw [e215]; exact kinc (kB_w c90nx (by decide) (by decide))
                        refine lv_goto (tgt := 82) hx hb dX8_readCoefficients_218 (by decide) ?_
                        exact ih r151 v215 1 0 mrg2_190 mct2_190 mvl2_190 mpl2_190 f214 (by (try rw [show (0 : Int32).toInt = 0 from by decide]); (try rw [show (1 : Int32).toInt = 1 from by decide]); have := b3.1; have := b3.2; have := b4.1; omega) (kB_w c171x (by decide) (by decide)) (kB_w b215 (by decide) (by decide)) (kB_w kc_1 (by decide) (by decide)) q190_1 q190_2 (by have := hq.1; have := hq.2; have := b4.1; have := b4.2; (try rw [show (0 : Int32).toInt = 0 from by decide]); (try rw [show (1 : Int32).toInt = 1 from by decide]); omega) _ _ ls hP hD hS (lv_sub hl [6, 7, 3, 0, 4, 2] rfl)
                  · have c171x : kB r151 0 0 := kB_eq c171 kc_0
                    refine lv_iconst (v := 1) hx hb dX8_readCoefficients_174 (by decide) ?_
                    refine lv_goto (tgt := 179) hx hb dX8_readCoefficients_175 (by decide) ?_
                    refine lv_istore (lv' := [(5, .int 1), (2, .int r151), (7, .int r151), (4, .int 1), (6, .int v103), (0, .ref hm), (1, .int k), (3, .int x3)]) hx hb dX8_readCoefficients_179 hl (by decide) rfl (fun ls hl => ?_)
                    refine lv_iload hx hb dX8_readCoefficients_181 (lv_at hl 2 rfl) ?_
                    refine lv_if_le (tgt := 202) hx hb dX8_readCoefficients_183 (by decide) (fun c183 => ?_) (fun c183 => ?_)
                    · refine lv_aload_n hx hb dX8_readCoefficients_202 rfl (lv_at hl 5 rfl) ?_
                      refine va_get (D := D) (ci := 8) (v := .ref hcf) (C := RX8) (T := TX8) (N := 22) hx hb hts in_X8 hown hK.1 hP 0 rfl rfl 19 (by decide) (hts _ mk_226) (fun _ h9 => h9) rfl dX8_readCoefficients_203 ?_
                      refine lv_bipush (v := 16) hx hb dX8_readCoefficients_206 (by decide) ?_
                      refine lv_iload_n hx hb dX8_readCoefficients_208 rfl (lv_at hl 6 rfl) ?_
                      refine lv_imul hx hb dX8_readCoefficients_209 ?_
                      refine lv_topi (fun v209 e209 => ?_)
                      have b209 : kB v209 0 240 := kB_eq e209 (kB_cmul kc_16 bk (by decide))
                      refine lv_iload_n hx hb dX8_readCoefficients_210 rfl (lv_at hl 7 rfl) ?_
                      refine lv_iadd hx hb dX8_readCoefficients_211 ?_
                      refine lv_topi (fun v211 e211 => ?_)
                      have b211 : kB v211 0 255 := kB_eq e211 (kB_add b209 c90nx (by decide))
                      refine lv_iload hx hb dX8_readCoefficients_212 (lv_at hl 2 rfl) ?_
                      refine va_iast hx hb hK.1 hP hD hS 3 0 rfl rfl (kB_in b211 (by decide)) dX8_readCoefficients_214 (fun H locs hP hD hS => ?_)
                      have hP : va_P D vwCl [(hm, .inr (8, [.int mrf, .ref hby, .int msz, .int mbg, .long mbt, .int mrg2_151, .int mct2_151, .int mvl2_151, .int mpl2_151, .int mcl, .int mrw, .int mqt, .int mlv, .int mtl, .int mbe, .int mch, .ref hpb, .ref hwa, .ref hmn, .ref hcf, .ref hsa, .ref hro])), (hby, .inl (cI, 600, .inl mby)), (hpb, .inl (cI, 264, .inl mpb)), (hcf, .inl (cI, 256, .inl (upd mcf2 v211.toNatClampNeg r151))), (hmn, .inl (cI, 16, .inl mmn))] H := hP
                      have hD : va_D A [(hm, .inr (8, [.int mrf, .ref hby, .int msz, .int mbg, .long mbt, .int mrg2_151, .int mct2_151, .int mvl2_151, .int mpl2_151, .int mcl, .int mrw, .int mqt, .int mlv, .int mtl, .int mbe, .int mch, .ref hpb, .ref hwa, .ref hmn, .ref hcf, .ref hsa, .ref hro])), (hby, .inl (cI, 600, .inl mby)), (hpb, .inl (cI, 264, .inl mpb)), (hcf, .inl (cI, 256, .inl (upd mcf2 v211.toNatClampNeg r151))), (hmn, .inl (cI, 16, .inl mmn))] := hD
                      generalize hf214 : upd mcf2 v211.toNatClampNeg r151 = f214 at hP hD
                      obtain ⟨v215, e215⟩ : ∃ y : Int32, y = x3 + 1 := ⟨_, rfl⟩
                      refine lv_iinc (v := v215) (lv' := [(3, .int v215), (5, .int 1), (2, .int r151), (7, .int r151), (4, .int 1), (6, .int v103), (0, .ref hm), (1, .int k)]) hx hb dX8_readCoefficients_215 hl (k := 7) rfl (by rw [e215]; rfl) (by decide) rfl (fun ls hl => ?_)
                      have b215 : kB v215 1 16 := kB_eq e215 (kB_add c90nx kc_1 (by decide))
                      have t215 : v215.toInt = x3.toInt + 1 := by rw [e215]; exact kinc (kB_w c90nx (by decide) (by decide))
                      refine lv_goto (tgt := 82) hx hb dX8_readCoefficients_218 (by decide) ?_
                      exact ih r151 v215 1 1 mrg2_151 mct2_151 mvl2_151 mpl2_151 f214 (by (try rw [show (0 : Int32).toInt = 0 from by decide]); (try rw [show (1 : Int32).toInt = 1 from by decide]); have := b3.1; have := b3.2; have := b4.1; omega) (kB_w c171x (by decide) (by decide)) (kB_w b215 (by decide) (by decide)) (kB_w kc_1 (by decide) (by decide)) q151_1 q151_2 (by have := hq.1; have := hq.2; have := b4.1; have := b4.2; (try rw [show (0 : Int32).toInt = 0 from by decide]); (try rw [show (1 : Int32).toInt = 1 from by decide]); omega) _ _ ls hP hD hS (lv_sub hl [6, 7, 2, 0, 4, 1] rfl)
                    · have c183n : 0 < r151 := kN_le c183
                      have c183ny : kB r151 1 0 := kB_lt_r kc_0 c171x c183n (by decide)
                      exact absurd (Int.le_trans c183ny.1 c183ny.2) (by decide)
                · have c159n : 1 < r151 := kN_le c159
                  have c159ny : kB r151 2 70000000 := kB_lt_r kc_1 q151_0 c159n (by decide)
                  refine lv_iconst (v := 2) hx hb dX8_readCoefficients_162 (by decide) ?_
                  refine lv_goto (tgt := 168) hx hb dX8_readCoefficients_163 (by decide) ?_
                  refine lv_istore_n (lv' := [(2, .int 2), (7, .int r151), (4, .int 1), (6, .int v103), (0, .ref hm), (1, .int k), (3, .int x3), (5, .int x5)]) hx hb dX8_readCoefficients_168 rfl hl (by decide) rfl (fun ls hl => ?_)
                  refine lv_iload hx hb dX8_readCoefficients_169 (lv_at hl 1 rfl) ?_
                  refine lv_if_ne (tgt := 178) hx hb dX8_readCoefficients_171 (by decide) (fun c171 => ?_) (fun c171 => ?_)
                  · refine lv_iconst (v := 0) hx hb dX8_readCoefficients_178 (by decide) ?_
                    refine lv_istore (lv' := [(5, .int 0), (2, .int 2), (7, .int r151), (4, .int 1), (6, .int v103), (0, .ref hm), (1, .int k), (3, .int x3)]) hx hb dX8_readCoefficients_179 hl (by decide) rfl (fun ls hl => ?_)
                    refine lv_iload hx hb dX8_readCoefficients_181 (lv_at hl 2 rfl) ?_
                    refine lv_if_le (tgt := 202) hx hb dX8_readCoefficients_183 (by decide) (fun c183 => ?_) (fun c183 => ?_)
                    · have c183x : kB r151 2 0 := kB_le_l c159ny kc_0 c183 (by decide)
                      exact absurd (Int.le_trans c183x.1 c183x.2) (by decide)
                    · have c183n : 0 < r151 := kN_le c183
                      refine lv_aload_n hx hb dX8_readCoefficients_186 rfl (lv_at hl 5 rfl) ?_
                      refine lv_sipush (v := 128) hx hb dX8_readCoefficients_187 (by decide) ?_
                      have hPc := hP.sub (ws' := [(hm, .inr (8, [.int mrf, .ref hby, .int msz, .int mbg, .long mbt, .int mrg2_151, .int mct2_151, .int mvl2_151, .int mpl2_151, .int mcl, .int mrw, .int mqt, .int mlv, .int mtl, .int mbe, .int mch, .ref hpb, .ref hwa, .ref hmn, .ref hcf, .ref hsa, .ref hro])), (hby, .inl (cI, 600, .inl mby))]) [0, 1] rfl
                      have hDc := hD.sub (ws' := [(hm, .inr (8, [.int mrf, .ref hby, .int msz, .int mbg, .long mbt, .int mrg2_151, .int mct2_151, .int mvl2_151, .int mpl2_151, .int mcl, .int mrw, .int mqt, .int mlv, .int mtl, .int mbe, .int mch, .ref hpb, .ref hwa, .ref hmn, .ref hcf, .ref hsa, .ref hro])), (hby, .inl (cI, 600, .inl mby))]) [0, 1] (by decide) rfl
                      have hFc := va_free (wc := [(hm, .inr (8, [.int mrf, .ref hby, .int msz, .int mbg, .long mbt, .int mrg2_151, .int mct2_151, .int mvl2_151, .int mpl2_151, .int mcl, .int mrw, .int mqt, .int mlv, .int mtl, .int mbe, .int mch, .ref hpb, .ref hwa, .ref hmn, .ref hcf, .ref hsa, .ref hro])), (hby, .inl (cI, 600, .inl mby))]) hD hS hA [0, 1] rfl
                      refine va_calli (va_runV (As := [.int 128]) (rest := []) ⟨hx, hb, hml, hown, hts⟩ (c_X8_readBit l D cI cJ cZ hm hby hpb hwa hmn hcf hsa hro mrf msz mbg mrg2_151 mct2_151 mvl2_151 mpl2_151 mcl mrw mqt mlv mtl mbe mch mbt mby 128 q151_1 q151_2 bsz (kB_w kc_128 (by decide) (by decide)) (by have := hq.1; have := hq.2; have := b3.2; have := hpl.2; omega) (H).size) (cwV 1 hts (kg_V mk_200 mk_201 mk_202 mk_189 mk_203) rfl rfl rfl (by decide +kernel) ⟨Nat.le_of_ble_eq_true rfl, Nat.le_of_ble_eq_true rfl⟩) ⟨fun a U g mk q => by obtain ⟨q0, q1, qP, qK, qD⟩ := q; exact ⟨q0, q1, qP, kK.call qK, qD⟩, va_recv hK.1 hPc (ci := 8) (q0 := 0) rfl rfl, fun U hU hW => ⟨rfl, by rw [hU], by rw [hU]; exact hPc, kK.warm hW hK, hDc.weaken (fun _ _ _ _ => trivial)⟩⟩ rfl rfl hl.1 rfl (lv_room (Nat.le_of_ble_eq_true rfl)) dX8_readCoefficients_190 ⟨Nat.zero_le _, Nat.zero_le _⟩) hS (fun q _ h => hFc q h) hFc (fun r190 u t9 H1 locs ht9 hvm9 hw9 hB9 hz9 hk9 hS => ?_)
                      obtain ⟨mrg2_190, mct2_190, mvl2_190, mpl2_190⟩ := u
                      obtain ⟨hP1, hD1⟩ := hB9
                      rw [ht9] at hP1
                      have hP1 : va_P D vwCl [(hm, .inr (8, [.int mrf, .ref hby, .int msz, .int mbg, .long mbt, .int mrg2_190, .int mct2_190, .int mvl2_190, .int mpl2_190, .int mcl, .int mrw, .int mqt, .int mlv, .int mtl, .int mbe, .int mch, .ref hpb, .ref hwa, .ref hmn, .ref hcf, .ref hsa, .ref hro])), (hby, .inl (cI, 600, .inl mby))] H1 := hP1
                      obtain ⟨hP, hD⟩ := va_join (wr := [(hpb, .inl (cI, 264, .inl mpb)), (hcf, .inl (cI, 256, .inl mcf2)), (hmn, .inl (cI, 16, .inl mmn))]) (w1 := [(hm, .inr (8, [.int mrf, .ref hby, .int msz, .int mbg, .long mbt, .int mrg2_190, .int mct2_190, .int mvl2_190, .int mpl2_190, .int mcl, .int mrw, .int mqt, .int mlv, .int mtl, .int mbe, .int mch, .ref hpb, .ref hwa, .ref hmn, .ref hcf, .ref hsa, .ref hro])), (hby, .inl (cI, 600, .inl mby))]) hP hD [0, 1] [2, 3, 4] rfl rfl (by decide) (by decide) hk9 hFc hP1 hD1
                      have hP := hP.sub (ws' := [(hm, .inr (8, [.int mrf, .ref hby, .int msz, .int mbg, .long mbt, .int mrg2_190, .int mct2_190, .int mvl2_190, .int mpl2_190, .int mcl, .int mrw, .int mqt, .int mlv, .int mtl, .int mbe, .int mch, .ref hpb, .ref hwa, .ref hmn, .ref hcf, .ref hsa, .ref hro])), (hby, .inl (cI, 600, .inl mby)), (hpb, .inl (cI, 264, .inl mpb)), (hcf, .inl (cI, 256, .inl mcf2)), (hmn, .inl (cI, 16, .inl mmn))]) [3, 4, 0, 1, 2] rfl
                      have hD := hD.sub (ws' := [(hm, .inr (8, [.int mrf, .ref hby, .int msz, .int mbg, .long mbt, .int mrg2_190, .int mct2_190, .int mvl2_190, .int mpl2_190, .int mcl, .int mrw, .int mqt, .int mlv, .int mtl, .int mbe, .int mch, .ref hpb, .ref hwa, .ref hmn, .ref hcf, .ref hsa, .ref hro])), (hby, .inl (cI, 600, .inl mby)), (hpb, .inl (cI, 264, .inl mpb)), (hcf, .inl (cI, 256, .inl mcf2)), (hmn, .inl (cI, 16, .inl mmn))]) [3, 4, 0, 1, 2] (by decide) rfl
                      generalize H1 = H at hP hS ⊢
                      obtain ⟨q190_0, q190_1, q190_2, q190_3, q190_4⟩ := hw9
                      have q190_0 : kB r190 0 1 := q190_0
                      have q190_1 : kB mrg2_190 128 255 := q190_1
                      have q190_2 : kB mct2_190 0 7 := q190_2
                      have q190_3 : 0 ≤ mpl2_190.toInt ∧ mpl2_190.toInt ≤ mpl2_151.toInt + 7 := q190_3
                      have q190_4 : kIf ((128 : Int32).toInt = 128 ∧ 0 ≤ mvl2_151.toInt ∧ mvl2_151.toInt ≤ 2000000 ∧ mct2_151.toInt ≤ 6) (r190.toInt = rBt mvl2_151.toInt mrg2_151.toInt ∧ (mvl2_190.toInt, mrg2_190.toInt, mct2_190.toInt) = rNx mvl2_151.toInt mrg2_151.toInt mct2_151.toInt) := q190_4
                      refine lv_iconst (v := 1) hx hb dX8_readCoefficients_193 (by decide) ?_
                      refine lv_icmp_ne (tgt := 202) hx hb dX8_readCoefficients_194 (by decide) (fun c194 => ?_) (fun c194 => ?_)
                      · have c194x : kB r190 0 0 := kB_nhi q190_0 c194 kc_1 (by decide)
                        refine lv_aload_n hx hb dX8_readCoefficients_202 rfl (lv_at hl 5 rfl) ?_
                        refine va_get (D := D) (ci := 8) (v := .ref hcf) (C := RX8) (T := TX8) (N := 22) hx hb hts in_X8 hown hK.1 hP 0 rfl rfl 19 (by decide) (hts _ mk_226) (fun _ h9 => h9) rfl dX8_readCoefficients_203 ?_
                        refine lv_bipush (v := 16) hx hb dX8_readCoefficients_206 (by decide) ?_
                        refine lv_iload_n hx hb dX8_readCoefficients_208 rfl (lv_at hl 6 rfl) ?_
                        refine lv_imul hx hb dX8_readCoefficients_209 ?_
                        refine lv_topi (fun v209 e209 => ?_)
                        have b209 : kB v209 0 240 := kB_eq e209 (kB_cmul kc_16 bk (by decide))
                        refine lv_iload_n hx hb dX8_readCoefficients_210 rfl (lv_at hl 7 rfl) ?_
                        refine lv_iadd hx hb dX8_readCoefficients_211 ?_
                        refine lv_topi (fun v211 e211 => ?_)
                        have b211 : kB v211 0 255 := kB_eq e211 (kB_add b209 c90nx (by decide))
                        refine lv_iload hx hb dX8_readCoefficients_212 (lv_at hl 2 rfl) ?_
                        refine va_iast hx hb hK.1 hP hD hS 3 0 rfl rfl (kB_in b211 (by decide)) dX8_readCoefficients_214 (fun H locs hP hD hS => ?_)
                        have hP : va_P D vwCl [(hm, .inr (8, [.int mrf, .ref hby, .int msz, .int mbg, .long mbt, .int mrg2_190, .int mct2_190, .int mvl2_190, .int mpl2_190, .int mcl, .int mrw, .int mqt, .int mlv, .int mtl, .int mbe, .int mch, .ref hpb, .ref hwa, .ref hmn, .ref hcf, .ref hsa, .ref hro])), (hby, .inl (cI, 600, .inl mby)), (hpb, .inl (cI, 264, .inl mpb)), (hcf, .inl (cI, 256, .inl (upd mcf2 v211.toNatClampNeg r151))), (hmn, .inl (cI, 16, .inl mmn))] H := hP
                        have hD : va_D A [(hm, .inr (8, [.int mrf, .ref hby, .int msz, .int mbg, .long mbt, .int mrg2_190, .int mct2_190, .int mvl2_190, .int mpl2_190, .int mcl, .int mrw, .int mqt, .int mlv, .int mtl, .int mbe, .int mch, .ref hpb, .ref hwa, .ref hmn, .ref hcf, .ref hsa, .ref hro])), (hby, .inl (cI, 600, .inl mby)), (hpb, .inl (cI, 264, .inl mpb)), (hcf, .inl (cI, 256, .inl (upd mcf2 v211.toNatClampNeg r151))), (hmn, .inl (cI, 16, .inl mmn))] := hD
                        generalize hf214 : upd mcf2 v211.toNatClampNeg r151 = f214 at hP hD
                        obtain ⟨v215, e215⟩ : ∃ y : Int32, y = x3 + 1 := ⟨_, rfl⟩
                        refine lv_iinc (v := v215) (lv' := [(3, .int v215), (5, .int 0), (2, .int 2), (7, .int r151), (4, .int 1), (6, .int v103), (0, .ref hm), (1, .int k)]) hx hb dX8_readCoefficients_215 hl (k := 7) rfl (by rw [e215]; rfl) (by decide) rfl (fun ls hl => ?_)
                        have b215 : kB v215 1 16 := kB_eq e215 (kB_add c90nx kc_1 (by decide))
                        have t215 : v215.toInt = x3.toInt + 1 := by rw [e215]; exact kinc (kB_w c90nx (by decide) (by decide))
                        refine lv_goto (tgt := 82) hx hb dX8_readCoefficients_218 (by decide) ?_
                        exact ih 2 v215 1 0 mrg2_190 mct2_190 mvl2_190 mpl2_190 f214 (by (try rw [show (0 : Int32).toInt = 0 from by decide]); (try rw [show (1 : Int32).toInt = 1 from by decide]); have := b3.1; have := b3.2; have := b4.1; omega) (kB_w kc_2 (by decide) (by decide)) (kB_w b215 (by decide) (by decide)) (kB_w kc_1 (by decide) (by decide)) q190_1 q190_2 (by have := hq.1; have := hq.2; have := b4.1; have := b4.2; (try rw [show (0 : Int32).toInt = 0 from by decide]); (try rw [show (1 : Int32).toInt = 1 from by decide]); omega) _ _ ls hP hD hS (lv_sub hl [6, 7, 2, 0, 4, 1] rfl)
                      · have c194x : kB r190 1 1 := kB_eq c194 kc_1
                        refine lv_iload hx hb dX8_readCoefficients_197 (lv_at hl 2 rfl) ?_
                        refine lv_ineg hx hb dX8_readCoefficients_199 ?_
                        refine lv_topi (fun v199 e199 => ?_)
                        have b199 : kB v199 (-70000000) (-2) := kB_eq e199 (kB_neg c159ny (by decide))
                        refine lv_istore (lv' := [(7, .int v199), (5, .int 0), (2, .int 2), (4, .int 1), (6, .int v103), (0, .ref hm), (1, .int k), (3, .int x3)]) hx hb dX8_readCoefficients_200 hl (by decide) rfl (fun ls hl => ?_)
                        refine lv_aload_n hx hb dX8_readCoefficients_202 rfl (lv_at hl 5 rfl) ?_
                        refine va_get (D := D) (ci := 8) (v := .ref hcf) (C := RX8) (T := TX8) (N := 22) hx hb hts in_X8 hown hK.1 hP 0 rfl rfl 19 (by decide) (hts _ mk_226) (fun _ h9 => h9) rfl dX8_readCoefficients_203 ?_
                        refine lv_bipush (v := 16) hx hb dX8_readCoefficients_206 (by decide) ?_
                        refine lv_iload_n hx hb dX8_readCoefficients_208 rfl (lv_at hl 6 rfl) ?_
                        refine lv_imul hx hb dX8_readCoefficients_209 ?_
                        refine lv_topi (fun v209 e209 => ?_)
                        have b209 : kB v209 0 240 := kB_eq e209 (kB_cmul kc_16 bk (by decide))
                        refine lv_iload_n hx hb dX8_readCoefficients_210 rfl (lv_at hl 7 rfl) ?_
                        refine lv_iadd hx hb dX8_readCoefficients_211 ?_
                        refine lv_topi (fun v211 e211 => ?_)
                        have b211 : kB v211 0 255 := kB_eq e211 (kB_add b209 c90nx (by decide))
                        refine lv_iload hx hb dX8_readCoefficients_212 (lv_at hl 0 rfl) ?_
                        refine va_iast hx hb hK.1 hP hD hS 3 0 rfl rfl (kB_in b211 (by decide)) dX8_readCoefficients_214 (fun H locs hP hD hS => ?_)
                        have hP : va_P D vwCl [(hm, .inr (8, [.int mrf, .ref hby, .int msz, .int mbg, .long mbt, .int mrg2_190, .int mct2_190, .int mvl2_190, .int mpl2_190, .int mcl, .int mrw, .int mqt, .int mlv, .int mtl, .int mbe, .int mch, .ref hpb, .ref hwa, .ref hmn, .ref hcf, .ref hsa, .ref hro])), (hby, .inl (cI, 600, .inl mby)), (hpb, .inl (cI, 264, .inl mpb)), (hcf, .inl (cI, 256, .inl (upd mcf2 v211.toNatClampNeg v199))), (hmn, .inl (cI, 16, .inl mmn))] H := hP
                        have hD : va_D A [(hm, .inr (8, [.int mrf, .ref hby, .int msz, .int mbg, .long mbt, .int mrg2_190, .int mct2_190, .int mvl2_190, .int mpl2_190, .int mcl, .int mrw, .int mqt, .int mlv, .int mtl, .int mbe, .int mch, .ref hpb, .ref hwa, .ref hmn, .ref hcf, .ref hsa, .ref hro])), (hby, .inl (cI, 600, .inl mby)), (hpb, .inl (cI, 264, .inl mpb)), (hcf, .inl (cI, 256, .inl (upd mcf2 v211.toNatClampNeg v199))), (hmn, .inl (cI, 16, .inl mmn))] := hD
                        generalize hf214 : upd mcf2 v211.toNatClampNeg v199 = f214 at hP hD
                        obtain ⟨v215, e215⟩ : ∃ y : Int32, y = x3 + 1 := ⟨_, rfl⟩
                        refine lv_iinc (v := v215) (lv' := [(3, .int v215), (7, .int v199), (5, .int 0), (2, .int 2), (4, .int 1), (6, .int v103), (0, .ref hm), (1, .int k)]) hx hb dX8_readCoefficients_215 hl (k := 7) rfl (by rw [e215]; rfl) (by decide) rfl (fun ls hl => ?_)
                        have b215 : kB v215 1 16 := kB_eq e215 (kB_add c90nx kc_1 (by decide))
                        have t215 : v215.toInt = x3.toInt + 1 := by rw [e215]; exact kinc (kB_w c90nx (by decide) (by decide))
                        refine lv_goto (tgt := 82) hx hb dX8_readCoefficients_218 (by decide) ?_
                        exact ih 2 v215 1 0 mrg2_190 mct2_190 mvl2_190 mpl2_190 f214 (by (try rw [show (0 : Int32).toInt = 0 from by decide]); (try rw [show (1 : Int32).toInt = 1 from by decide]); have := b3.1; have := b3.2; have := b4.1; omega) (kB_w kc_2 (by decide) (by decide)) (kB_w b215 (by decide) (by decide)) (kB_w kc_1 (by decide) (by decide)) q190_1 q190_2 (by have := hq.1; have := hq.2; have := b4.1; have := b4.2; (try rw [show (0 : Int32).toInt = 0 from by decide]); (try rw [show (1 : Int32).toInt = 1 from by decide]); omega) _ _ ls hP hD hS (lv_sub hl [6, 7, 3, 0, 4, 2] rfl)
                  · have c171x : kB r151 0 0 := kB_eq c171 kc_0
                    exact absurd (Int.le_trans c159ny.1 c171x.2) (by decide)
              · have c141x : kB r138 0 0 := kB_eq c141 kc_0
                refine lv_iconst (v := 0) hx hb dX8_readCoefficients_144 (by decide) ?_
                refine lv_goto (tgt := 154) hx hb dX8_readCoefficients_145 (by decide) ?_
                refine lv_istore (lv' := [(7, .int 0), (4, .int 1), (6, .int v103), (0, .ref hm), (1, .int k), (2, .int x2), (3, .int x3), (5, .int x5)]) hx hb dX8_readCoefficients_154 hl (by decide) rfl (fun ls hl => ?_)
                refine lv_iload hx hb dX8_readCoefficients_156 (lv_at hl 0 rfl) ?_
                refine lv_iconst (v := 1) hx hb dX8_readCoefficients_158 (by decide) ?_
                refine lv_icmp_le (tgt := 166) hx hb dX8_readCoefficients_159 (by decide) (fun c159 => ?_) (fun c159 => ?_)
                · refine lv_iload hx hb dX8_readCoefficients_166 (lv_at hl 0 rfl) ?_
                  refine lv_istore_n (lv' := [(2, .int 0), (7, .int 0), (4, .int 1), (6, .int v103), (0, .ref hm), (1, .int k), (3, .int x3), (5, .int x5)]) hx hb dX8_readCoefficients_168 rfl hl (by decide) rfl (fun ls hl => ?_)
                  refine lv_iload hx hb dX8_readCoefficients_169 (lv_at hl 1 rfl) ?_
                  refine lv_if_ne (tgt := 178) hx hb dX8_readCoefficients_171 (by decide) (fun c171 => ?_) (fun c171 => ?_)
                  · exact absurd rfl c171
                  · refine lv_iconst (v := 1) hx hb dX8_readCoefficients_174 (by decide) ?_
                    refine lv_goto (tgt := 179) hx hb dX8_readCoefficients_175 (by decide) ?_
                    refine lv_istore (lv' := [(5, .int 1), (2, .int 0), (7, .int 0), (4, .int 1), (6, .int v103), (0, .ref hm), (1, .int k), (3, .int x3)]) hx hb dX8_readCoefficients_179 hl (by decide) rfl (fun ls hl => ?_)
                    refine lv_iload hx hb dX8_readCoefficients_181 (lv_at hl 2 rfl) ?_
                    refine lv_if_le (tgt := 202) hx hb dX8_readCoefficients_183 (by decide) (fun c183 => ?_) (fun c183 => ?_)
                    · refine lv_aload_n hx hb dX8_readCoefficients_202 rfl (lv_at hl 5 rfl) ?_
                      refine va_get (D := D) (ci := 8) (v := .ref hcf) (C := RX8) (T := TX8) (N := 22) hx hb hts in_X8 hown hK.1 hP 0 rfl rfl 19 (by decide) (hts _ mk_226) (fun _ h9 => h9) rfl dX8_readCoefficients_203 ?_
                      refine lv_bipush (v := 16) hx hb dX8_readCoefficients_206 (by decide) ?_
                      refine lv_iload_n hx hb dX8_readCoefficients_208 rfl (lv_at hl 6 rfl) ?_
                      refine lv_imul hx hb dX8_readCoefficients_209 ?_
                      refine lv_topi (fun v209 e209 => ?_)
                      have b209 : kB v209 0 240 := kB_eq e209 (kB_cmul kc_16 bk (by decide))
                      refine lv_iload_n hx hb dX8_readCoefficients_210 rfl (lv_at hl 7 rfl) ?_
                      refine lv_iadd hx hb dX8_readCoefficients_211 ?_
                      refine lv_topi (fun v211 e211 => ?_)
                      have b211 : kB v211 0 255 := kB_eq e211 (kB_add b209 c90nx (by decide))
                      refine lv_iload hx hb dX8_readCoefficients_212 (lv_at hl 2 rfl) ?_
                      refine va_iast hx hb hK.1 hP hD hS 3 0 rfl rfl (kB_in b211 (by decide)) dX8_readCoefficients_214 (fun H locs hP hD hS => ?_)
                      have hP : va_P D vwCl [(hm, .inr (8, [.int mrf, .ref hby, .int msz, .int mbg, .long mbt, .int mrg2_138, .int mct2_138, .int mvl2_138, .int mpl2_138, .int mcl, .int mrw, .int mqt, .int mlv, .int mtl, .int mbe, .int mch, .ref hpb, .ref hwa, .ref hmn, .ref hcf, .ref hsa, .ref hro])), (hby, .inl (cI, 600, .inl mby)), (hpb, .inl (cI, 264, .inl mpb)), (hcf, .inl (cI, 256, .inl (upd mcf2 v211.toNatClampNeg 0))), (hmn, .inl (cI, 16, .inl mmn))] H := hP
                      have hD : va_D A [(hm, .inr (8, [.int mrf, .ref hby, .int msz, .int mbg, .long mbt, .int mrg2_138, .int mct2_138, .int mvl2_138, .int mpl2_138, .int mcl, .int mrw, .int mqt, .int mlv, .int mtl, .int mbe, .int mch, .ref hpb, .ref hwa, .ref hmn, .ref hcf, .ref hsa, .ref hro])), (hby, .inl (cI, 600, .inl mby)), (hpb, .inl (cI, 264, .inl mpb)), (hcf, .inl (cI, 256, .inl (upd mcf2 v211.toNatClampNeg 0))), (hmn, .inl (cI, 16, .inl mmn))] := hD
                      generalize hf214 : upd mcf2 v211.toNatClampNeg 0 = f214 at hP hD
                      obtain ⟨v215, e215⟩ : ∃ y : Int32, y = x3 + 1 := ⟨_, rfl⟩
                      refine lv_iinc (v := v215) (lv' := [(3, .int v215), (5, .int 1), (2, .int 0), (7, .int 0), (4, .int 1), (6, .int v103), (0, .ref hm), (1, .int k)]) hx hb dX8_readCoefficients_215 hl (k := 7) rfl (by rw [e215]; rfl) (by decide) rfl (fun ls hl => ?_)
                      have b215 : kB v215 1 16 := kB_eq e215 (kB_add c90nx kc_1 (by decide))
                      have t215 : v215.toInt = x3.toInt + 1 := by rw [e215]; exact kinc (kB_w c90nx (by decide) (by decide))
                      refine lv_goto (tgt := 82) hx hb dX8_readCoefficients_218 (by decide) ?_
                      exact ih 0 v215 1 1 mrg2_138 mct2_138 mvl2_138 mpl2_138 f214 (by (try rw [show (0 : Int32).toInt = 0 from by decide]); (try rw [show (1 : Int32).toInt = 1 from by decide]); have := b3.1; have := b3.2; have := b4.1; omega) (kB_w kc_0 (by decide) (by decide)) (kB_w b215 (by decide) (by decide)) (kB_w kc_1 (by decide) (by decide)) q138_1 q138_2 (by have := hq.1; have := hq.2; have := b4.1; have := b4.2; (try rw [show (0 : Int32).toInt = 0 from by decide]); (try rw [show (1 : Int32).toInt = 1 from by decide]); omega) _ _ ls hP hD hS (lv_sub hl [6, 7, 2, 0, 4, 1] rfl)
                    · exact absurd (by decide) c183
                · exact absurd (by decide) c159
set_option maxHeartbeats 4000000 in
set_option maxRecDepth 100000 in
theorem lp_X8_readCoefficients_50 {p : Program} {l : Launch} {e : Env} {s : State} {m : MethodId} {args : Array Value} {below : List Frame} {meth : Method} {c : Code} {A : Nat → Prop} (D : va_G) (cI cJ cZ : ClassId) (hm hby hpb hwa hmn hcf hsa hro : Nat) (mrf : Int32) (msz : Int32) (mbg : Int32) (mrg : Int32) (mct : Int32) (mvl : Int32) (mpl : Int32) (mcl : Int32) (mrw : Int32) (mqt : Int32) (mlv : Int32) (mtl : Int32) (mbe : Int32) (mch : Int32) (mbt : Int64) (mby : Nat → Int32) (mpb : Nat → Int32) (mcf : Nat → Int32) (mmn : Nat → Int32) (k : Int32) (brg : kB mrg 128 255) (bct : kB mct 0 7) (bsz : kB msz 0 600) (apb : kA mpb 0 255) (bk : kB k 0 15) (bcl : kB mcl 1 4) (hpl : 0 ≤ mpl.toInt ∧ mpl.toInt ≤ 999000000) (hx : p.tables.exec = Jvm.exec) (hb : c.code = cX8_readCoefficients) (hr : meth.sig.returnType = none) (hml : c.maxLocals = 8) (hown : s.vm.findClass RX8 = some m.cls) (hts : ∀ w ∈ kW, w.before args s = true) (hlocks : meth.locks = false) (hK : kK D cI cJ cZ s) (hA : ∀ q : Nat, s.heap.size ≤ q → A q) : ∀ n : Nat, ∀ (x2 : Int32) (x3 : Int32) (mcf2 : Nat → Int32), (16 - x3.toInt).toNat < n → (kB x2 0 2) → (kB x3 0 16) → ∀ (H : Heap) (locs : List Loc) (ls : Array Slot), va_P D vwCl [(hm, .inr (8, [.int mrf, .ref hby, .int msz, .int mbg, .long mbt, .int mrg, .int mct, .int mvl, .int mpl, .int mcl, .int mrw, .int mqt, .int mlv, .int mtl, .int mbe, .int mch, .ref hpb, .ref hwa, .ref hmn, .ref hcf, .ref hsa, .ref hro])), (hby, .inl (cI, 600, .inl mby)), (hpb, .inl (cI, 264, .inl mpb)), (hcf, .inl (cI, 256, .inl mcf2)), (hmn, .inl (cI, 16, .inl mmn))] H → va_D A [(hm, .inr (8, [.int mrf, .ref hby, .int msz, .int mbg, .long mbt, .int mrg, .int mct, .int mvl, .int mpl, .int mcl, .int mrw, .int mqt, .int mlv, .int mtl, .int mbe, .int mch, .ref hpb, .ref hwa, .ref hmn, .ref hcf, .ref hsa, .ref hro])), (hby, .inl (cI, 600, .inl mby)), (hpb, .inl (cI, 264, .inl mpb)), (hcf, .inl (cI, 256, .inl mcf2)), (hmn, .inl (cI, 16, .inl mmn))] → va_S A s.heap H locs → lv_has ls 8 [(0, .ref hm), (1, .int k), (2, .int x2), (3, .int x3)] → W p l e (headSpec kw_X8_readCoefficients ({ frames := 5, cells := 0, slots := 0, locals := 114 })).room s m args below meth c H locs 0 0 (MQ below (va_Qv (fun (u : Int32 × Int32 × Int32 × Int32 × (Nat → Int32) × (Nat → Int32)) => (kB u.1 128 255) ∧ (kB u.2.1 0 7) ∧ (0 ≤ u.2.2.2.1.toInt ∧ u.2.2.2.1.toInt ≤ mpl.toInt + 16000)) (fun (u : Int32 × Int32 × Int32 × Int32 × (Nat → Int32) × (Nat → Int32)) (t : State) => va_P D vwCl [(hm, .inr (8, [.int mrf, .ref hby, .int msz, .int mbg, .long mbt, .int u.1, .int u.2.1, .int u.2.2.1, .int u.2.2.2.1, .int mcl, .int mrw, .int mqt, .int mlv, .int mtl, .int mbe, .int mch, .ref hpb, .ref hwa, .ref hmn, .ref hcf, .ref hsa, .ref hro])), (hby, .inl (cI, 600, .inl mby)), (hpb, .inl (cI, 264, .inl mpb)), (hcf, .inl (cI, 256, .inl u.2.2.2.2.1)), (hmn, .inl (cI, 16, .inl u.2.2.2.2.2))] t.heap ∧ va_D A [(hm, .inr (8, [.int mrf, .ref hby, .int msz, .int mbg, .long mbt, .int u.1, .int u.2.1, .int u.2.2.1, .int u.2.2.2.1, .int mcl, .int mrw, .int mqt, .int mlv, .int mtl, .int mbe, .int mch, .ref hpb, .ref hwa, .ref hmn, .ref hcf, .ref hsa, .ref hro])), (hby, .inl (cI, 600, .inl mby)), (hpb, .inl (cI, 264, .inl mpb)), (hcf, .inl (cI, 256, .inl u.2.2.2.2.1)), (hmn, .inl (cI, 16, .inl u.2.2.2.2.2))]) A) args s 0 0 A) (F0 m 50 ls []) := by
  intro n
  induction n with
  | zero => intro x2 x3 mcf2 hmeas; exact absurd hmeas (Nat.not_lt_zero _)
  | succ n ih =>
    intro x2 x3 mcf2 hmeas b2 b3 H locs ls hP hD hS hl
    refine lv_iload_n hx hb dX8_readCoefficients_50 rfl (lv_at hl 3 rfl) ?_
    refine lv_bipush (v := 16) hx hb dX8_readCoefficients_51 (by decide) ?_
    refine lv_icmp_ge (tgt := 74) hx hb dX8_readCoefficients_53 (by decide) (fun c53 => ?_) (fun c53 => ?_)
    · have c53y : kB x3 16 16 := kB_le_r kc_16 b3 c53 (by decide)
      refine lv_iconst (v := 0) hx hb dX8_readCoefficients_74 (by decide) ?_
      refine lv_istore_n (lv' := [(3, .int 0), (0, .ref hm), (1, .int k), (2, .int x2)]) hx hb dX8_readCoefficients_75 rfl hl (by decide) rfl (fun ls hl => ?_)
      refine lv_iconst (v := 1) hx hb dX8_readCoefficients_76 (by decide) ?_
      refine lv_istore (lv' := [(4, .int 1), (3, .int 0), (0, .ref hm), (1, .int k), (2, .int x2)]) hx hb dX8_readCoefficients_77 hl (by decide) rfl (fun ls hl => ?_)
      refine lv_iconst (v := 0) hx hb dX8_readCoefficients_79 (by decide) ?_
      refine lv_istore (lv' := [(5, .int 0), (4, .int 1), (3, .int 0), (0, .ref hm), (1, .int k), (2, .int x2)]) hx hb dX8_readCoefficients_80 hl (by decide) rfl (fun ls hl => ?_)
      exact lp_X8_readCoefficients_82 D cI cJ cZ hm hby hpb hwa hmn hcf hsa hro mrf msz mbg mrg mct mvl mpl mcl mrw mqt mlv mtl mbe mch mbt mby mpb mcf mmn k brg bct bsz apb bk bcl hpl hx hb hr hml hown hts hlocks hK hA ((2 * (16 - (0 : Int32).toInt) + (1 : Int32).toInt).toNat + 1) x2 0 1 0 mrg mct mvl mpl mcf2 (Nat.lt_succ_self _) b2 (kB_w kc_0 (by decide) (by decide)) (kB_w kc_1 (by decide) (by decide)) brg bct ⟨hpl.1, by rw [show (0 : Int32).toInt = 0 from by decide, show (1 : Int32).toInt = 1 from by decide]; omega⟩ _ _ ls hP hD hS (lv_sub hl [3, 4, 5, 2, 1, 0] rfl)
    · have c53n : x3 < 16 := kN_le c53
      have c53nx : kB x3 0 15 := kB_lt_l b3 kc_16 c53n (by decide)
      refine lv_aload_n hx hb dX8_readCoefficients_56 rfl (lv_at hl 0 rfl) ?_
      refine va_get (D := D) (ci := 8) (v := .ref hcf) (C := RX8) (T := TX8) (N := 22) hx hb hts in_X8 hown hK.1 hP 0 rfl rfl 19 (by decide) (hts _ mk_226) (fun _ h9 => h9) rfl dX8_readCoefficients_57 ?_
      refine lv_bipush (v := 16) hx hb dX8_readCoefficients_60 (by decide) ?_
      refine lv_iload_n hx hb dX8_readCoefficients_62 rfl (lv_at hl 1 rfl) ?_
      refine lv_imul hx hb dX8_readCoefficients_63 ?_
      refine lv_topi (fun v63 e63 => ?_)
      have b63 : kB v63 0 240 := kB_eq e63 (kB_cmul kc_16 bk (by decide))
      refine lv_iload_n hx hb dX8_readCoefficients_64 rfl (lv_at hl 3 rfl) ?_
      refine lv_iadd hx hb dX8_readCoefficients_65 ?_
      refine lv_topi (fun v65 e65 => ?_)
      have b65 : kB v65 0 255 := kB_eq e65 (kB_add b63 c53nx (by decide))
      refine lv_iconst (v := 0) hx hb dX8_readCoefficients_66 (by decide) ?_
      refine va_iast hx hb hK.1 hP hD hS 3 0 rfl rfl (kB_in b65 (by decide)) dX8_readCoefficients_67 (fun H locs hP hD hS => ?_)
      have hP : va_P D vwCl [(hm, .inr (8, [.int mrf, .ref hby, .int msz, .int mbg, .long mbt, .int mrg, .int mct, .int mvl, .int mpl, .int mcl, .int mrw, .int mqt, .int mlv, .int mtl, .int mbe, .int mch, .ref hpb, .ref hwa, .ref hmn, .ref hcf, .ref hsa, .ref hro])), (hby, .inl (cI, 600, .inl mby)), (hpb, .inl (cI, 264, .inl mpb)), (hcf, .inl (cI, 256, .inl (upd mcf2 v65.toNatClampNeg 0))), (hmn, .inl (cI, 16, .inl mmn))] H := hP
      have hD : va_D A [(hm, .inr (8, [.int mrf, .ref hby, .int msz, .int mbg, .long mbt, .int mrg, .int mct, .int mvl, .int mpl, .int mcl, .int mrw, .int mqt, .int mlv, .int mtl, .int mbe, .int mch, .ref hpb, .ref hwa, .ref hmn, .ref hcf, .ref hsa, .ref hro])), (hby, .inl (cI, 600, .inl mby)), (hpb, .inl (cI, 264, .inl mpb)), (hcf, .inl (cI, 256, .inl (upd mcf2 v65.toNatClampNeg 0))), (hmn, .inl (cI, 16, .inl mmn))] := hD
      generalize hf67 : upd mcf2 v65.toNatClampNeg 0 = f67 at hP hD
      obtain ⟨v68, e68⟩ : ∃ y : Int32, y = x3 + 1 := ⟨_, rfl⟩
      refine lv_iinc (v := v68) (lv' := [(3, .int v68), (0, .ref hm), (1, .int k), (2, .int x2)]) hx hb dX8_readCoefficients_68 hl (k := 3) rfl (by rw [e68]; rfl) (by decide) rfl (fun ls hl => ?_)
      have b68 : kB v68 1 16 := kB_eq e68 (kB_add c53nx kc_1 (by decide))
      have t68 : v68.toInt = x3.toInt + 1 := by rw [e68]; exact kinc (kB_w c53nx (by decide) (by decide))
      refine lv_goto (tgt := 50) hx hb dX8_readCoefficients_71 (by decide) ?_
      exact ih x2 v68 f67 (by have := b2.1; have := b2.2; have := b68.1; have := b68.2; have := c53nx.1; have := c53nx.2; omega) b2 (kB_w b68 (by decide) (by decide)) _ _ ls hP hD hS (lv_sub hl [1, 2, 3, 0] rfl)
set_option maxHeartbeats 4000000 in
set_option maxRecDepth 100000 in
theorem c_X8_readCoefficients (l : Launch) (D : va_G) (cI cJ cZ : ClassId) (hm hby hpb hwa hmn hcf hsa hro : Nat) (mrf : Int32) (msz : Int32) (mbg : Int32) (mrg : Int32) (mct : Int32) (mvl : Int32) (mpl : Int32) (mcl : Int32) (mrw : Int32) (mqt : Int32) (mlv : Int32) (mtl : Int32) (mbe : Int32) (mch : Int32) (mbt : Int64) (mby : Nat → Int32) (mpb : Nat → Int32) (mcf : Nat → Int32) (mmn : Nat → Int32) (k : Int32) (brg : kB mrg 128 255) (bct : kB mct 0 7) (bsz : kB msz 0 600) (apb : kA mpb 0 255) (bk : kB k 0 15) (bcl : kB mcl 1 4) (hpl : 0 ≤ mpl.toInt ∧ mpl.toInt ≤ 999000000) (hpz : Nat) : Met l yX8_readCoefficients kw_X8_readCoefficients ({ frames := 5, cells := 0, slots := 0, locals := 114 }) (va_Pc [.ref hm, .int k] (fun U => U.heap.size = hpz ∧ va_P D vwCl [(hm, .inr (8, [.int mrf, .ref hby, .int msz, .int mbg, .long mbt, .int mrg, .int mct, .int mvl, .int mpl, .int mcl, .int mrw, .int mqt, .int mlv, .int mtl, .int mbe, .int mch, .ref hpb, .ref hwa, .ref hmn, .ref hcf, .ref hsa, .ref hro])), (hby, .inl (cI, 600, .inl mby)), (hpb, .inl (cI, 264, .inl mpb)), (hcf, .inl (cI, 256, .inl mcf)), (hmn, .inl (cI, 16, .inl mmn))] U.heap ∧ kK D cI cJ cZ U ∧ va_D (fun _ => True) [(hm, .inr (8, [.int mrf, .ref hby, .int msz, .int mbg, .long mbt, .int mrg, .int mct, .int mvl, .int mpl, .int mcl, .int mrw, .int mqt, .int mlv, .int mtl, .int mbe, .int mch, .ref hpb, .ref hwa, .ref hmn, .ref hcf, .ref hsa, .ref hro])), (hby, .inl (cI, 600, .inl mby)), (hpb, .inl (cI, 264, .inl mpb)), (hcf, .inl (cI, 256, .inl mcf)), (hmn, .inl (cI, 16, .inl mmn))])) (va_Qv (fun (u : Int32 × Int32 × Int32 × Int32 × (Nat → Int32) × (Nat → Int32)) => (kB u.1 128 255) ∧ (kB u.2.1 0 7) ∧ (0 ≤ u.2.2.2.1.toInt ∧ u.2.2.2.1.toInt ≤ mpl.toInt + 16000)) (fun (u : Int32 × Int32 × Int32 × Int32 × (Nat → Int32) × (Nat → Int32)) (t : State) => va_P D vwCl [(hm, .inr (8, [.int mrf, .ref hby, .int msz, .int mbg, .long mbt, .int u.1, .int u.2.1, .int u.2.2.1, .int u.2.2.2.1, .int mcl, .int mrw, .int mqt, .int mlv, .int mtl, .int mbe, .int mch, .ref hpb, .ref hwa, .ref hmn, .ref hcf, .ref hsa, .ref hro])), (hby, .inl (cI, 600, .inl mby)), (hpb, .inl (cI, 264, .inl mpb)), (hcf, .inl (cI, 256, .inl u.2.2.2.2.1)), (hmn, .inl (cI, 16, .inl u.2.2.2.2.2))] t.heap ∧ va_D (va_A [(hm, .inr (8, [.int mrf, .ref hby, .int msz, .int mbg, .long mbt, .int mrg, .int mct, .int mvl, .int mpl, .int mcl, .int mrw, .int mqt, .int mlv, .int mtl, .int mbe, .int mch, .ref hpb, .ref hwa, .ref hmn, .ref hcf, .ref hsa, .ref hro])), (hby, .inl (cI, 600, .inl mby)), (hpb, .inl (cI, 264, .inl mpb)), (hcf, .inl (cI, 256, .inl mcf)), (hmn, .inl (cI, 16, .inl mmn))] hpz) [(hm, .inr (8, [.int mrf, .ref hby, .int msz, .int mbg, .long mbt, .int u.1, .int u.2.1, .int u.2.2.1, .int u.2.2.2.1, .int mcl, .int mrw, .int mqt, .int mlv, .int mtl, .int mbe, .int mch, .ref hpb, .ref hwa, .ref hmn, .ref hcf, .ref hsa, .ref hro])), (hby, .inl (cI, 600, .inl mby)), (hpb, .inl (cI, 264, .inl mpb)), (hcf, .inl (cI, 256, .inl u.2.2.2.2.1)), (hmn, .inl (cI, 16, .inl u.2.2.2.2.2))]) (va_A [(hm, .inr (8, [.int mrf, .ref hby, .int msz, .int mbg, .long mbt, .int mrg, .int mct, .int mvl, .int mpl, .int mcl, .int mrw, .int mqt, .int mlv, .int mtl, .int mbe, .int mch, .ref hpb, .ref hwa, .ref hmn, .ref hcf, .ref hsa, .ref hro])), (hby, .inl (cI, 600, .inl mby)), (hpb, .inl (cI, 264, .inl mpb)), (hcf, .inl (cI, 256, .inl mcf)), (hmn, .inl (cI, 16, .inl mmn))] hpz)) 0 0 (va_A [(hm, .inr (8, [.int mrf, .ref hby, .int msz, .int mbg, .long mbt, .int mrg, .int mct, .int mvl, .int mpl, .int mcl, .int mrw, .int mqt, .int mlv, .int mtl, .int mbe, .int mch, .ref hpb, .ref hwa, .ref hmn, .ref hcf, .ref hsa, .ref hro])), (hby, .inl (cI, 600, .inl mby)), (hpb, .inl (cI, 264, .inl mpb)), (hcf, .inl (cI, 256, .inl mcf)), (hmn, .inl (cI, 16, .inl mmn))] hpz) := by
  refine Met.ofW (cc := cX8_readCoefficients) (maxL := 8) (ret := none) (by decide) rfl ?_
  intro p e s m args below meth c s₁ B hml hv
  obtain ⟨rfl, hsz, hP, hK, hD0⟩ := hv
  have hx := B.exec
  have hb := B.bytes
  have hr := B.returns
  have hts := fun (w : Cond) (h : w ∈ kW) => atoms_spec (ws := kw_X8_readCoefficients) B.pre w (List.mem_cons_of_mem _ h)
  have hown : s.vm.findClass RX8 = some m.cls := findClass_of_methodNamed B.named
  have hlocks := B.notSynchronized
  subst hsz
  have hD := hD0.self (sz := s.heap.size)
  generalize hAe : va_A [(hm, .inr (8, [.int mrf, .ref hby, .int msz, .int mbg, .long mbt, .int mrg, .int mct, .int mvl, .int mpl, .int mcl, .int mrw, .int mqt, .int mlv, .int mtl, .int mbe, .int mch, .ref hpb, .ref hwa, .ref hmn, .ref hcf, .ref hsa, .ref hro])), (hby, .inl (cI, 600, .inl mby)), (hpb, .inl (cI, 264, .inl mpb)), (hcf, .inl (cI, 256, .inl mcf)), (hmn, .inl (cI, 16, .inl mmn))] s.heap.size = A at hD ⊢
  have hA : ∀ q : Nat, s.heap.size ≤ q → A q := fun q h => by rw [← hAe]; exact Or.inr h
  have hS : va_S A s.heap s.heap [] := va_S.rf
  have hP : va_P D vwCl [(hm, .inr (8, [.int mrf, .ref hby, .int msz, .int mbg, .long mbt, .int mrg, .int mct, .int mvl, .int mpl, .int mcl, .int mrw, .int mqt, .int mlv, .int mtl, .int mbe, .int mch, .ref hpb, .ref hwa, .ref hmn, .ref hcf, .ref hsa, .ref hro])), (hby, .inl (cI, 600, .inl mby)), (hpb, .inl (cI, 264, .inl mpb)), (hcf, .inl (cI, 256, .inl mcf)), (hmn, .inl (cI, 16, .inl mmn))] s.heap := hP
  have hl := lv_entry ([.ref hm, .int k]) (n := 8) (Nat.le_of_ble_eq_true rfl)
  rw [lg_entry_eq]
  generalize (lg_sl ([.ref hm, .int k]) ++ List.replicate (8 - (lg_sl ([.ref hm, .int k])).length) Slot.unset).toArray = ls at hl ⊢
  have hl : lv_has ls 8 [(0, .ref hm), (1, .int k)] := hl
  refine lv_iconst (v := 0) hx hb dX8_readCoefficients_0 (by decide) ?_
  refine lv_istore_n (lv' := [(2, .int 0), (0, .ref hm), (1, .int k)]) hx hb dX8_readCoefficients_1 rfl hl (by decide) rfl (fun ls hl => ?_)
  refine lv_iload_n hx hb dX8_readCoefficients_2 rfl (lv_at hl 2 rfl) ?_
  refine lv_aload_n hx hb dX8_readCoefficients_3 rfl (lv_at hl 1 rfl) ?_
  refine va_get (D := D) (ci := 8) (v := .int mcl) (C := RX8) (T := TX8) (N := 22) hx hb hts in_X8 hown hK.1 hP 0 rfl rfl 9 (by decide) (hts _ mk_227) (fun _ h9 => h9) rfl dX8_readCoefficients_4 ?_
  refine lv_irem hx hb dX8_readCoefficients_7 (kB_ne0 bcl (Or.inl (by decide))) ?_
  refine lv_topi (fun v7 e7 => ?_)
  have b7 : kB v7 0 3 := kB_eq e7 (kB_rem bk bcl (by decide))
  refine lv_if_le (tgt := 24) hx hb dX8_readCoefficients_8 (by decide) (fun c8 => ?_) (fun c8 => ?_)
  · have c8x : kB v7 0 0 := kB_le_l b7 kc_0 c8 (by decide)
    refine lv_iload_n hx hb dX8_readCoefficients_24 rfl (lv_at hl 2 rfl) ?_
    refine lv_aload_n hx hb dX8_readCoefficients_25 rfl (lv_at hl 1 rfl) ?_
    refine va_get (D := D) (ci := 8) (v := .int mcl) (C := RX8) (T := TX8) (N := 22) hx hb hts in_X8 hown hK.1 hP 0 rfl rfl 9 (by decide) (hts _ mk_227) (fun _ h9 => h9) rfl dX8_readCoefficients_26 ?_
    refine lv_icmp_lt (tgt := 48) hx hb dX8_readCoefficients_29 (by decide) (fun c29 => ?_) (fun c29 => ?_)
    · have c29x : kB k 0 3 := kB_lt_l bk bcl c29 (by decide)
      refine lv_iconst (v := 0) hx hb dX8_readCoefficients_48 (by decide) ?_
      refine lv_istore_n (lv' := [(3, .int 0), (2, .int 0), (0, .ref hm), (1, .int k)]) hx hb dX8_readCoefficients_49 rfl hl (by decide) rfl (fun ls hl => ?_)
      exact lp_X8_readCoefficients_50 D cI cJ cZ hm hby hpb hwa hmn hcf hsa hro mrf msz mbg mrg mct mvl mpl mcl mrw mqt mlv mtl mbe mch mbt mby mpb mcf mmn k brg bct bsz apb bk bcl hpl hx hb hr hml hown hts hlocks hK hA ((16 - (0 : Int32).toInt).toNat + 1) 0 0 mcf (Nat.lt_succ_self _) (kB_w kc_0 (by decide) (by decide)) (kB_w kc_0 (by decide) (by decide)) _ _ ls hP hD hS (lv_sub hl [2, 3, 1, 0] rfl)
    · have c29n : mcl ≤ k := kN_lt c29
      have c29ny : kB k 1 15 := kB_le_r bcl bk c29n (by decide)
      refine lv_aload_n hx hb dX8_readCoefficients_32 rfl (lv_at hl 1 rfl) ?_
      refine lv_iload_n hx hb dX8_readCoefficients_33 rfl (lv_at hl 2 rfl) ?_
      refine lv_aload_n hx hb dX8_readCoefficients_34 rfl (lv_at hl 1 rfl) ?_
      refine va_get (D := D) (ci := 8) (v := .int mcl) (C := RX8) (T := TX8) (N := 22) hx hb hts in_X8 hown hK.1 hP 0 rfl rfl 9 (by decide) (hts _ mk_227) (fun _ h9 => h9) rfl dX8_readCoefficients_35 ?_
      refine lv_isub hx hb dX8_readCoefficients_38 ?_
      refine lv_topi (fun v38 e38 => ?_)
      have b38 : kB v38 0 14 := kB_eq e38 (kB_sub0 c29ny bcl (by assumption) (by decide))
      have hPc := hP.sub (ws' := [(hm, .inr (8, [.int mrf, .ref hby, .int msz, .int mbg, .long mbt, .int mrg, .int mct, .int mvl, .int mpl, .int mcl, .int mrw, .int mqt, .int mlv, .int mtl, .int mbe, .int mch, .ref hpb, .ref hwa, .ref hmn, .ref hcf, .ref hsa, .ref hro])), (hcf, .inl (cI, 256, .inl mcf))]) [0, 3] rfl
      have hDc := hD.sub (ws' := [(hm, .inr (8, [.int mrf, .ref hby, .int msz, .int mbg, .long mbt, .int mrg, .int mct, .int mvl, .int mpl, .int mcl, .int mrw, .int mqt, .int mlv, .int mtl, .int mbe, .int mch, .ref hpb, .ref hwa, .ref hmn, .ref hcf, .ref hsa, .ref hro])), (hcf, .inl (cI, 256, .inl mcf))]) [0, 3] (by decide) rfl
      have hFc := va_free (wc := [(hm, .inr (8, [.int mrf, .ref hby, .int msz, .int mbg, .long mbt, .int mrg, .int mct, .int mvl, .int mpl, .int mcl, .int mrw, .int mqt, .int mlv, .int mtl, .int mbe, .int mch, .ref hpb, .ref hwa, .ref hmn, .ref hcf, .ref hsa, .ref hro])), (hcf, .inl (cI, 256, .inl mcf))]) hD hS hA [0, 3] rfl
      refine va_calli (va_runV (As := [.int v38]) (rest := []) ⟨hx, hb, hml, hown, hts⟩ (c_X8_hasSome l D cI cJ cZ hm hby hpb hwa hmn hcf hsa hro mrf msz mbg mrg mct mvl mpl mcl mrw mqt mlv mtl mbe mch mbt mcf v38 (kB_w b38 (by decide) (by decide)) (s.heap).size) (cwV 1 hts (kg_V mk_228 mk_229 mk_230 mk_189 mk_231) rfl rfl rfl (by decide +kernel) ⟨Nat.le_of_ble_eq_true rfl, Nat.le_of_ble_eq_true rfl⟩) ⟨fun a U g mk q => by obtain ⟨q0, q1, qP, qK, qD⟩ := q; exact ⟨q0, q1, qP, kK.call qK, qD⟩, va_recv hK.1 hPc (ci := 8) (q0 := 0) rfl rfl, fun U hU hW => ⟨rfl, by rw [hU], by rw [hU]; exact hPc, kK.warm hW hK, hDc.weaken (fun _ _ _ _ => trivial)⟩⟩ rfl rfl hl.1 rfl (lv_room (Nat.le_of_ble_eq_true rfl)) dX8_readCoefficients_39 ⟨Nat.zero_le _, Nat.zero_le _⟩) hS (fun q _ h => hFc q h) hFc (fun r39 u t9 H1 locs ht9 hvm9 hw9 hB9 hz9 hk9 hS => ?_)
      obtain ⟨hP1, hD1⟩ := hB9
      rw [ht9] at hP1
      have hP1 : va_P D vwCl [(hm, .inr (8, [.int mrf, .ref hby, .int msz, .int mbg, .long mbt, .int mrg, .int mct, .int mvl, .int mpl, .int mcl, .int mrw, .int mqt, .int mlv, .int mtl, .int mbe, .int mch, .ref hpb, .ref hwa, .ref hmn, .ref hcf, .ref hsa, .ref hro])), (hcf, .inl (cI, 256, .inl mcf))] H1 := hP1
      obtain ⟨hP, hD⟩ := va_join (wr := [(hby, .inl (cI, 600, .inl mby)), (hpb, .inl (cI, 264, .inl mpb)), (hmn, .inl (cI, 16, .inl mmn))]) (w1 := [(hm, .inr (8, [.int mrf, .ref hby, .int msz, .int mbg, .long mbt, .int mrg, .int mct, .int mvl, .int mpl, .int mcl, .int mrw, .int mqt, .int mlv, .int mtl, .int mbe, .int mch, .ref hpb, .ref hwa, .ref hmn, .ref hcf, .ref hsa, .ref hro])), (hcf, .inl (cI, 256, .inl mcf))]) hP hD [0, 3] [1, 2, 4] rfl rfl (by decide) (by decide) hk9 hFc hP1 hD1
      have hP := hP.sub (ws' := [(hm, .inr (8, [.int mrf, .ref hby, .int msz, .int mbg, .long mbt, .int mrg, .int mct, .int mvl, .int mpl, .int mcl, .int mrw, .int mqt, .int mlv, .int mtl, .int mbe, .int mch, .ref hpb, .ref hwa, .ref hmn, .ref hcf, .ref hsa, .ref hro])), (hby, .inl (cI, 600, .inl mby)), (hpb, .inl (cI, 264, .inl mpb)), (hcf, .inl (cI, 256, .inl mcf)), (hmn, .inl (cI, 16, .inl mmn))]) [3, 0, 1, 4, 2] rfl
      have hD := hD.sub (ws' := [(hm, .inr (8, [.int mrf, .ref hby, .int msz, .int mbg, .long mbt, .int mrg, .int mct, .int mvl, .int mpl, .int mcl, .int mrw, .int mqt, .int mlv, .int mtl, .int mbe, .int mch, .ref hpb, .ref hwa, .ref hmn, .ref hcf, .ref hsa, .ref hro])), (hby, .inl (cI, 600, .inl mby)), (hpb, .inl (cI, 264, .inl mpb)), (hcf, .inl (cI, 256, .inl mcf)), (hmn, .inl (cI, 16, .inl mmn))]) [3, 0, 1, 4, 2] (by decide) rfl
      generalize H1 = H at hP hS ⊢
      have q39_0 : kB r39 0 1 := hw9
      refine lv_if_eq (tgt := 48) hx hb dX8_readCoefficients_42 (by decide) (fun c42 => ?_) (fun c42 => ?_)
      · have c42x : kB r39 0 0 := kB_eq c42 kc_0
        refine lv_iconst (v := 0) hx hb dX8_readCoefficients_48 (by decide) ?_
        refine lv_istore_n (lv' := [(3, .int 0), (2, .int 0), (0, .ref hm), (1, .int k)]) hx hb dX8_readCoefficients_49 rfl hl (by decide) rfl (fun ls hl => ?_)
        exact lp_X8_readCoefficients_50 D cI cJ cZ hm hby hpb hwa hmn hcf hsa hro mrf msz mbg mrg mct mvl mpl mcl mrw mqt mlv mtl mbe mch mbt mby mpb mcf mmn k brg bct bsz apb bk bcl hpl hx hb hr hml hown hts hlocks hK hA ((16 - (0 : Int32).toInt).toNat + 1) 0 0 mcf (Nat.lt_succ_self _) (kB_w kc_0 (by decide) (by decide)) (kB_w kc_0 (by decide) (by decide)) _ _ ls hP hD hS (lv_sub hl [2, 3, 1, 0] rfl)
      · have c42x : kB r39 1 1 := kB_nlo q39_0 c42 kc_0 (by decide)
        obtain ⟨v45, e45⟩ : ∃ y : Int32, y = 0 + 1 := ⟨_, rfl⟩
        refine lv_iinc (v := v45) (lv' := [(2, .int v45), (0, .ref hm), (1, .int k)]) hx hb dX8_readCoefficients_45 hl (k := 0) rfl (by rw [e45]; rfl) (by decide) rfl (fun ls hl => ?_)
        have b45 : kB v45 1 1 := kB_eq e45 (kB_add kc_0 kc_1 (by decide))
        have t45 : v45.toInt = (0 : Int32).toInt + 1 := by rw [e45]; exact kinc (kB_w kc_0 (by decide) (by decide))
        refine lv_iconst (v := 0) hx hb dX8_readCoefficients_48 (by decide) ?_
        refine lv_istore_n (lv' := [(3, .int 0), (2, .int v45), (0, .ref hm), (1, .int k)]) hx hb dX8_readCoefficients_49 rfl hl (by decide) rfl (fun ls hl => ?_)
        exact lp_X8_readCoefficients_50 D cI cJ cZ hm hby hpb hwa hmn hcf hsa hro mrf msz mbg mrg mct mvl mpl mcl mrw mqt mlv mtl mbe mch mbt mby mpb mcf mmn k brg bct bsz apb bk bcl hpl hx hb hr hml hown hts hlocks hK hA ((16 - (0 : Int32).toInt).toNat + 1) v45 0 mcf (Nat.lt_succ_self _) (kB_w b45 (by decide) (by decide)) (kB_w kc_0 (by decide) (by decide)) _ _ ls hP hD hS (lv_sub hl [2, 3, 1, 0] rfl)
  · have c8n : 0 < v7 := kN_le c8
    have c8ny : kB v7 1 3 := kB_lt_r kc_0 b7 c8n (by decide)
    have B8 : kB k 1 15 := kremp bk bcl e7 c8n
    refine lv_aload_n hx hb dX8_readCoefficients_11 rfl (lv_at hl 1 rfl) ?_
    refine lv_iload_n hx hb dX8_readCoefficients_12 rfl (lv_at hl 2 rfl) ?_
    refine lv_iconst (v := 1) hx hb dX8_readCoefficients_13 (by decide) ?_
    refine lv_isub hx hb dX8_readCoefficients_14 ?_
    refine lv_topi (fun v14 e14 => ?_)
    have b14 : kB v14 0 14 := kB_eq e14 (kB_sub B8 kc_1 (by decide))
    have hPc := hP.sub (ws' := [(hm, .inr (8, [.int mrf, .ref hby, .int msz, .int mbg, .long mbt, .int mrg, .int mct, .int mvl, .int mpl, .int mcl, .int mrw, .int mqt, .int mlv, .int mtl, .int mbe, .int mch, .ref hpb, .ref hwa, .ref hmn, .ref hcf, .ref hsa, .ref hro])), (hcf, .inl (cI, 256, .inl mcf))]) [0, 3] rfl
    have hDc := hD.sub (ws' := [(hm, .inr (8, [.int mrf, .ref hby, .int msz, .int mbg, .long mbt, .int mrg, .int mct, .int mvl, .int mpl, .int mcl, .int mrw, .int mqt, .int mlv, .int mtl, .int mbe, .int mch, .ref hpb, .ref hwa, .ref hmn, .ref hcf, .ref hsa, .ref hro])), (hcf, .inl (cI, 256, .inl mcf))]) [0, 3] (by decide) rfl
    have hFc := va_free (wc := [(hm, .inr (8, [.int mrf, .ref hby, .int msz, .int mbg, .long mbt, .int mrg, .int mct, .int mvl, .int mpl, .int mcl, .int mrw, .int mqt, .int mlv, .int mtl, .int mbe, .int mch, .ref hpb, .ref hwa, .ref hmn, .ref hcf, .ref hsa, .ref hro])), (hcf, .inl (cI, 256, .inl mcf))]) hD hS hA [0, 3] rfl
    refine va_calli (va_runV (As := [.int v14]) (rest := []) ⟨hx, hb, hml, hown, hts⟩ (c_X8_hasSome l D cI cJ cZ hm hby hpb hwa hmn hcf hsa hro mrf msz mbg mrg mct mvl mpl mcl mrw mqt mlv mtl mbe mch mbt mcf v14 (kB_w b14 (by decide) (by decide)) (s.heap).size) (cwV 1 hts (kg_V mk_228 mk_229 mk_230 mk_189 mk_231) rfl rfl rfl (by decide +kernel) ⟨Nat.le_of_ble_eq_true rfl, Nat.le_of_ble_eq_true rfl⟩) ⟨fun a U g mk q => by obtain ⟨q0, q1, qP, qK, qD⟩ := q; exact ⟨q0, q1, qP, kK.call qK, qD⟩, va_recv hK.1 hPc (ci := 8) (q0 := 0) rfl rfl, fun U hU hW => ⟨rfl, by rw [hU], by rw [hU]; exact hPc, kK.warm hW hK, hDc.weaken (fun _ _ _ _ => trivial)⟩⟩ rfl rfl hl.1 rfl (lv_room (Nat.le_of_ble_eq_true rfl)) dX8_readCoefficients_15 ⟨Nat.zero_le _, Nat.zero_le _⟩) hS (fun q _ h => hFc q h) hFc (fun r15 u t9 H1 locs ht9 hvm9 hw9 hB9 hz9 hk9 hS => ?_)
    obtain ⟨hP1, hD1⟩ := hB9
    rw [ht9] at hP1
    have hP1 : va_P D vwCl [(hm, .inr (8, [.int mrf, .ref hby, .int msz, .int mbg, .long mbt, .int mrg, .int mct, .int mvl, .int mpl, .int mcl, .int mrw, .int mqt, .int mlv, .int mtl, .int mbe, .int mch, .ref hpb, .ref hwa, .ref hmn, .ref hcf, .ref hsa, .ref hro])), (hcf, .inl (cI, 256, .inl mcf))] H1 := hP1
    obtain ⟨hP, hD⟩ := va_join (wr := [(hby, .inl (cI, 600, .inl mby)), (hpb, .inl (cI, 264, .inl mpb)), (hmn, .inl (cI, 16, .inl mmn))]) (w1 := [(hm, .inr (8, [.int mrf, .ref hby, .int msz, .int mbg, .long mbt, .int mrg, .int mct, .int mvl, .int mpl, .int mcl, .int mrw, .int mqt, .int mlv, .int mtl, .int mbe, .int mch, .ref hpb, .ref hwa, .ref hmn, .ref hcf, .ref hsa, .ref hro])), (hcf, .inl (cI, 256, .inl mcf))]) hP hD [0, 3] [1, 2, 4] rfl rfl (by decide) (by decide) hk9 hFc hP1 hD1
    have hP := hP.sub (ws' := [(hm, .inr (8, [.int mrf, .ref hby, .int msz, .int mbg, .long mbt, .int mrg, .int mct, .int mvl, .int mpl, .int mcl, .int mrw, .int mqt, .int mlv, .int mtl, .int mbe, .int mch, .ref hpb, .ref hwa, .ref hmn, .ref hcf, .ref hsa, .ref hro])), (hby, .inl (cI, 600, .inl mby)), (hpb, .inl (cI, 264, .inl mpb)), (hcf, .inl (cI, 256, .inl mcf)), (hmn, .inl (cI, 16, .inl mmn))]) [3, 0, 1, 4, 2] rfl
    have hD := hD.sub (ws' := [(hm, .inr (8, [.int mrf, .ref hby, .int msz, .int mbg, .long mbt, .int mrg, .int mct, .int mvl, .int mpl, .int mcl, .int mrw, .int mqt, .int mlv, .int mtl, .int mbe, .int mch, .ref hpb, .ref hwa, .ref hmn, .ref hcf, .ref hsa, .ref hro])), (hby, .inl (cI, 600, .inl mby)), (hpb, .inl (cI, 264, .inl mpb)), (hcf, .inl (cI, 256, .inl mcf)), (hmn, .inl (cI, 16, .inl mmn))]) [3, 0, 1, 4, 2] (by decide) rfl
    generalize H1 = H at hP hS ⊢
    have q15_0 : kB r15 0 1 := hw9
    refine lv_if_eq (tgt := 24) hx hb dX8_readCoefficients_18 (by decide) (fun c18 => ?_) (fun c18 => ?_)
    · have c18x : kB r15 0 0 := kB_eq c18 kc_0
      refine lv_iload_n hx hb dX8_readCoefficients_24 rfl (lv_at hl 2 rfl) ?_
      refine lv_aload_n hx hb dX8_readCoefficients_25 rfl (lv_at hl 1 rfl) ?_
      refine va_get (D := D) (ci := 8) (v := .int mcl) (C := RX8) (T := TX8) (N := 22) hx hb hts in_X8 hown hK.1 hP 0 rfl rfl 9 (by decide) (hts _ mk_227) (fun _ h9 => h9) rfl dX8_readCoefficients_26 ?_
      refine lv_icmp_lt (tgt := 48) hx hb dX8_readCoefficients_29 (by decide) (fun c29 => ?_) (fun c29 => ?_)
      · have c29x : kB k 1 3 := kB_lt_l B8 bcl c29 (by decide)
        have c29y : kB mcl 2 4 := kB_lt_r B8 bcl c29 (by decide)
        refine lv_iconst (v := 0) hx hb dX8_readCoefficients_48 (by decide) ?_
        refine lv_istore_n (lv' := [(3, .int 0), (2, .int 0), (0, .ref hm), (1, .int k)]) hx hb dX8_readCoefficients_49 rfl hl (by decide) rfl (fun ls hl => ?_)
        exact lp_X8_readCoefficients_50 D cI cJ cZ hm hby hpb hwa hmn hcf hsa hro mrf msz mbg mrg mct mvl mpl mcl mrw mqt mlv mtl mbe mch mbt mby mpb mcf mmn k brg bct bsz apb bk bcl hpl hx hb hr hml hown hts hlocks hK hA ((16 - (0 : Int32).toInt).toNat + 1) 0 0 mcf (Nat.lt_succ_self _) (kB_w kc_0 (by decide) (by decide)) (kB_w kc_0 (by decide) (by decide)) _ _ ls hP hD hS (lv_sub hl [2, 3, 1, 0] rfl)
      · have c29n : mcl ≤ k := kN_lt c29
        refine lv_aload_n hx hb dX8_readCoefficients_32 rfl (lv_at hl 1 rfl) ?_
        refine lv_iload_n hx hb dX8_readCoefficients_33 rfl (lv_at hl 2 rfl) ?_
        refine lv_aload_n hx hb dX8_readCoefficients_34 rfl (lv_at hl 1 rfl) ?_
        refine va_get (D := D) (ci := 8) (v := .int mcl) (C := RX8) (T := TX8) (N := 22) hx hb hts in_X8 hown hK.1 hP 0 rfl rfl 9 (by decide) (hts _ mk_227) (fun _ h9 => h9) rfl dX8_readCoefficients_35 ?_
        refine lv_isub hx hb dX8_readCoefficients_38 ?_
        refine lv_topi (fun v38 e38 => ?_)
        have b38 : kB v38 0 14 := kB_eq e38 (kB_sub0 B8 bcl (by assumption) (by decide))
        have hPc := hP.sub (ws' := [(hm, .inr (8, [.int mrf, .ref hby, .int msz, .int mbg, .long mbt, .int mrg, .int mct, .int mvl, .int mpl, .int mcl, .int mrw, .int mqt, .int mlv, .int mtl, .int mbe, .int mch, .ref hpb, .ref hwa, .ref hmn, .ref hcf, .ref hsa, .ref hro])), (hcf, .inl (cI, 256, .inl mcf))]) [0, 3] rfl
        have hDc := hD.sub (ws' := [(hm, .inr (8, [.int mrf, .ref hby, .int msz, .int mbg, .long mbt, .int mrg, .int mct, .int mvl, .int mpl, .int mcl, .int mrw, .int mqt, .int mlv, .int mtl, .int mbe, .int mch, .ref hpb, .ref hwa, .ref hmn, .ref hcf, .ref hsa, .ref hro])), (hcf, .inl (cI, 256, .inl mcf))]) [0, 3] (by decide) rfl
        have hFc := va_free (wc := [(hm, .inr (8, [.int mrf, .ref hby, .int msz, .int mbg, .long mbt, .int mrg, .int mct, .int mvl, .int mpl, .int mcl, .int mrw, .int mqt, .int mlv, .int mtl, .int mbe, .int mch, .ref hpb, .ref hwa, .ref hmn, .ref hcf, .ref hsa, .ref hro])), (hcf, .inl (cI, 256, .inl mcf))]) hD hS hA [0, 3] rfl
        refine va_calli (va_runV (As := [.int v38]) (rest := []) ⟨hx, hb, hml, hown, hts⟩ (c_X8_hasSome l D cI cJ cZ hm hby hpb hwa hmn hcf hsa hro mrf msz mbg mrg mct mvl mpl mcl mrw mqt mlv mtl mbe mch mbt mcf v38 (kB_w b38 (by decide) (by decide)) (H).size) (cwV 1 hts (kg_V mk_228 mk_229 mk_230 mk_189 mk_231) rfl rfl rfl (by decide +kernel) ⟨Nat.le_of_ble_eq_true rfl, Nat.le_of_ble_eq_true rfl⟩) ⟨fun a U g mk q => by obtain ⟨q0, q1, qP, qK, qD⟩ := q; exact ⟨q0, q1, qP, kK.call qK, qD⟩, va_recv hK.1 hPc (ci := 8) (q0 := 0) rfl rfl, fun U hU hW => ⟨rfl, by rw [hU], by rw [hU]; exact hPc, kK.warm hW hK, hDc.weaken (fun _ _ _ _ => trivial)⟩⟩ rfl rfl hl.1 rfl (lv_room (Nat.le_of_ble_eq_true rfl)) dX8_readCoefficients_39 ⟨Nat.zero_le _, Nat.zero_le _⟩) hS (fun q _ h => hFc q h) hFc (fun r39 u t9 H1 locs ht9 hvm9 hw9 hB9 hz9 hk9 hS => ?_)
        obtain ⟨hP1, hD1⟩ := hB9
        rw [ht9] at hP1
        have hP1 : va_P D vwCl [(hm, .inr (8, [.int mrf, .ref hby, .int msz, .int mbg, .long mbt, .int mrg, .int mct, .int mvl, .int mpl, .int mcl, .int mrw, .int mqt, .int mlv, .int mtl, .int mbe, .int mch, .ref hpb, .ref hwa, .ref hmn, .ref hcf, .ref hsa, .ref hro])), (hcf, .inl (cI, 256, .inl mcf))] H1 := hP1
        obtain ⟨hP, hD⟩ := va_join (wr := [(hby, .inl (cI, 600, .inl mby)), (hpb, .inl (cI, 264, .inl mpb)), (hmn, .inl (cI, 16, .inl mmn))]) (w1 := [(hm, .inr (8, [.int mrf, .ref hby, .int msz, .int mbg, .long mbt, .int mrg, .int mct, .int mvl, .int mpl, .int mcl, .int mrw, .int mqt, .int mlv, .int mtl, .int mbe, .int mch, .ref hpb, .ref hwa, .ref hmn, .ref hcf, .ref hsa, .ref hro])), (hcf, .inl (cI, 256, .inl mcf))]) hP hD [0, 3] [1, 2, 4] rfl rfl (by decide) (by decide) hk9 hFc hP1 hD1
        have hP := hP.sub (ws' := [(hm, .inr (8, [.int mrf, .ref hby, .int msz, .int mbg, .long mbt, .int mrg, .int mct, .int mvl, .int mpl, .int mcl, .int mrw, .int mqt, .int mlv, .int mtl, .int mbe, .int mch, .ref hpb, .ref hwa, .ref hmn, .ref hcf, .ref hsa, .ref hro])), (hby, .inl (cI, 600, .inl mby)), (hpb, .inl (cI, 264, .inl mpb)), (hcf, .inl (cI, 256, .inl mcf)), (hmn, .inl (cI, 16, .inl mmn))]) [3, 0, 1, 4, 2] rfl
        have hD := hD.sub (ws' := [(hm, .inr (8, [.int mrf, .ref hby, .int msz, .int mbg, .long mbt, .int mrg, .int mct, .int mvl, .int mpl, .int mcl, .int mrw, .int mqt, .int mlv, .int mtl, .int mbe, .int mch, .ref hpb, .ref hwa, .ref hmn, .ref hcf, .ref hsa, .ref hro])), (hby, .inl (cI, 600, .inl mby)), (hpb, .inl (cI, 264, .inl mpb)), (hcf, .inl (cI, 256, .inl mcf)), (hmn, .inl (cI, 16, .inl mmn))]) [3, 0, 1, 4, 2] (by decide) rfl
        generalize H1 = H at hP hS ⊢
        have q39_0 : kB r39 0 1 := hw9
        refine lv_if_eq (tgt := 48) hx hb dX8_readCoefficients_42 (by decide) (fun c42 => ?_) (fun c42 => ?_)
        · have c42x : kB r39 0 0 := kB_eq c42 kc_0
          refine lv_iconst (v := 0) hx hb dX8_readCoefficients_48 (by decide) ?_
          refine lv_istore_n (lv' := [(3, .int 0), (2, .int 0), (0, .ref hm), (1, .int k)]) hx hb dX8_readCoefficients_49 rfl hl (by decide) rfl (fun ls hl => ?_)
          exact lp_X8_readCoefficients_50 D cI cJ cZ hm hby hpb hwa hmn hcf hsa hro mrf msz mbg mrg mct mvl mpl mcl mrw mqt mlv mtl mbe mch mbt mby mpb mcf mmn k brg bct bsz apb bk bcl hpl hx hb hr hml hown hts hlocks hK hA ((16 - (0 : Int32).toInt).toNat + 1) 0 0 mcf (Nat.lt_succ_self _) (kB_w kc_0 (by decide) (by decide)) (kB_w kc_0 (by decide) (by decide)) _ _ ls hP hD hS (lv_sub hl [2, 3, 1, 0] rfl)
        · have c42x : kB r39 1 1 := kB_nlo q39_0 c42 kc_0 (by decide)
          obtain ⟨v45, e45⟩ : ∃ y : Int32, y = 0 + 1 := ⟨_, rfl⟩
          refine lv_iinc (v := v45) (lv' := [(2, .int v45), (0, .ref hm), (1, .int k)]) hx hb dX8_readCoefficients_45 hl (k := 0) rfl (by rw [e45]; rfl) (by decide) rfl (fun ls hl => ?_)
          have b45 : kB v45 1 1 := kB_eq e45 (kB_add kc_0 kc_1 (by decide))
          have t45 : v45.toInt = (0 : Int32).toInt + 1 := by rw [e45]; exact kinc (kB_w kc_0 (by decide) (by decide))
          refine lv_iconst (v := 0) hx hb dX8_readCoefficients_48 (by decide) ?_
          refine lv_istore_n (lv' := [(3, .int 0), (2, .int v45), (0, .ref hm), (1, .int k)]) hx hb dX8_readCoefficients_49 rfl hl (by decide) rfl (fun ls hl => ?_)
          exact lp_X8_readCoefficients_50 D cI cJ cZ hm hby hpb hwa hmn hcf hsa hro mrf msz mbg mrg mct mvl mpl mcl mrw mqt mlv mtl mbe mch mbt mby mpb mcf mmn k brg bct bsz apb bk bcl hpl hx hb hr hml hown hts hlocks hK hA ((16 - (0 : Int32).toInt).toNat + 1) v45 0 mcf (Nat.lt_succ_self _) (kB_w b45 (by decide) (by decide)) (kB_w kc_0 (by decide) (by decide)) _ _ ls hP hD hS (lv_sub hl [2, 3, 1, 0] rfl)
    · have c18x : kB r15 1 1 := kB_nlo q15_0 c18 kc_0 (by decide)
      obtain ⟨v21, e21⟩ : ∃ y : Int32, y = 0 + 1 := ⟨_, rfl⟩
      refine lv_iinc (v := v21) (lv' := [(2, .int v21), (0, .ref hm), (1, .int k)]) hx hb dX8_readCoefficients_21 hl (k := 0) rfl (by rw [e21]; rfl) (by decide) rfl (fun ls hl => ?_)
      have b21 : kB v21 1 1 := kB_eq e21 (kB_add kc_0 kc_1 (by decide))
      have t21 : v21.toInt = (0 : Int32).toInt + 1 := by rw [e21]; exact kinc (kB_w kc_0 (by decide) (by decide))
      refine lv_iload_n hx hb dX8_readCoefficients_24 rfl (lv_at hl 2 rfl) ?_
      refine lv_aload_n hx hb dX8_readCoefficients_25 rfl (lv_at hl 1 rfl) ?_
      refine va_get (D := D) (ci := 8) (v := .int mcl) (C := RX8) (T := TX8) (N := 22) hx hb hts in_X8 hown hK.1 hP 0 rfl rfl 9 (by decide) (hts _ mk_227) (fun _ h9 => h9) rfl dX8_readCoefficients_26 ?_
      refine lv_icmp_lt (tgt := 48) hx hb dX8_readCoefficients_29 (by decide) (fun c29 => ?_) (fun c29 => ?_)
      · have c29x : kB k 1 3 := kB_lt_l B8 bcl c29 (by decide)
        have c29y : kB mcl 2 4 := kB_lt_r B8 bcl c29 (by decide)
        refine lv_iconst (v := 0) hx hb dX8_readCoefficients_48 (by decide) ?_
        refine lv_istore_n (lv' := [(3, .int 0), (2, .int v21), (0, .ref hm), (1, .int k)]) hx hb dX8_readCoefficients_49 rfl hl (by decide) rfl (fun ls hl => ?_)
        exact lp_X8_readCoefficients_50 D cI cJ cZ hm hby hpb hwa hmn hcf hsa hro mrf msz mbg mrg mct mvl mpl mcl mrw mqt mlv mtl mbe mch mbt mby mpb mcf mmn k brg bct bsz apb bk bcl hpl hx hb hr hml hown hts hlocks hK hA ((16 - (0 : Int32).toInt).toNat + 1) v21 0 mcf (Nat.lt_succ_self _) (kB_w b21 (by decide) (by decide)) (kB_w kc_0 (by decide) (by decide)) _ _ ls hP hD hS (lv_sub hl [2, 3, 1, 0] rfl)
      · have c29n : mcl ≤ k := kN_lt c29
        refine lv_aload_n hx hb dX8_readCoefficients_32 rfl (lv_at hl 1 rfl) ?_
        refine lv_iload_n hx hb dX8_readCoefficients_33 rfl (lv_at hl 2 rfl) ?_
        refine lv_aload_n hx hb dX8_readCoefficients_34 rfl (lv_at hl 1 rfl) ?_
        refine va_get (D := D) (ci := 8) (v := .int mcl) (C := RX8) (T := TX8) (N := 22) hx hb hts in_X8 hown hK.1 hP 0 rfl rfl 9 (by decide) (hts _ mk_227) (fun _ h9 => h9) rfl dX8_readCoefficients_35 ?_
        refine lv_isub hx hb dX8_readCoefficients_38 ?_
        refine lv_topi (fun v38 e38 => ?_)
        have b38 : kB v38 0 14 := kB_eq e38 (kB_sub0 B8 bcl (by assumption) (by decide))
        have hPc := hP.sub (ws' := [(hm, .inr (8, [.int mrf, .ref hby, .int msz, .int mbg, .long mbt, .int mrg, .int mct, .int mvl, .int mpl, .int mcl, .int mrw, .int mqt, .int mlv, .int mtl, .int mbe, .int mch, .ref hpb, .ref hwa, .ref hmn, .ref hcf, .ref hsa, .ref hro])), (hcf, .inl (cI, 256, .inl mcf))]) [0, 3] rfl
        have hDc := hD.sub (ws' := [(hm, .inr (8, [.int mrf, .ref hby, .int msz, .int mbg, .long mbt, .int mrg, .int mct, .int mvl, .int mpl, .int mcl, .int mrw, .int mqt, .int mlv, .int mtl, .int mbe, .int mch, .ref hpb, .ref hwa, .ref hmn, .ref hcf, .ref hsa, .ref hro])), (hcf, .inl (cI, 256, .inl mcf))]) [0, 3] (by decide) rfl
        have hFc := va_free (wc := [(hm, .inr (8, [.int mrf, .ref hby, .int msz, .int mbg, .long mbt, .int mrg, .int mct, .int mvl, .int mpl, .int mcl, .int mrw, .int mqt, .int mlv, .int mtl, .int mbe, .int mch, .ref hpb, .ref hwa, .ref hmn, .ref hcf, .ref hsa, .ref hro])), (hcf, .inl (cI, 256, .inl mcf))]) hD hS hA [0, 3] rfl
        refine va_calli (va_runV (As := [.int v38]) (rest := []) ⟨hx, hb, hml, hown, hts⟩ (c_X8_hasSome l D cI cJ cZ hm hby hpb hwa hmn hcf hsa hro mrf msz mbg mrg mct mvl mpl mcl mrw mqt mlv mtl mbe mch mbt mcf v38 (kB_w b38 (by decide) (by decide)) (H).size) (cwV 1 hts (kg_V mk_228 mk_229 mk_230 mk_189 mk_231) rfl rfl rfl (by decide +kernel) ⟨Nat.le_of_ble_eq_true rfl, Nat.le_of_ble_eq_true rfl⟩) ⟨fun a U g mk q => by obtain ⟨q0, q1, qP, qK, qD⟩ := q; exact ⟨q0, q1, qP, kK.call qK, qD⟩, va_recv hK.1 hPc (ci := 8) (q0 := 0) rfl rfl, fun U hU hW => ⟨rfl, by rw [hU], by rw [hU]; exact hPc, kK.warm hW hK, hDc.weaken (fun _ _ _ _ => trivial)⟩⟩ rfl rfl hl.1 rfl (lv_room (Nat.le_of_ble_eq_true rfl)) dX8_readCoefficients_39 ⟨Nat.zero_le _, Nat.zero_le _⟩) hS (fun q _ h => hFc q h) hFc (fun r39 u t9 H1 locs ht9 hvm9 hw9 hB9 hz9 hk9 hS => ?_)
        obtain ⟨hP1, hD1⟩ := hB9
        rw [ht9] at hP1
        have hP1 : va_P D vwCl [(hm, .inr (8, [.int mrf, .ref hby, .int msz, .int mbg, .long mbt, .int mrg, .int mct, .int mvl, .int mpl, .int mcl, .int mrw, .int mqt, .int mlv, .int mtl, .int mbe, .int mch, .ref hpb, .ref hwa, .ref hmn, .ref hcf, .ref hsa, .ref hro])), (hcf, .inl (cI, 256, .inl mcf))] H1 := hP1
        obtain ⟨hP, hD⟩ := va_join (wr := [(hby, .inl (cI, 600, .inl mby)), (hpb, .inl (cI, 264, .inl mpb)), (hmn, .inl (cI, 16, .inl mmn))]) (w1 := [(hm, .inr (8, [.int mrf, .ref hby, .int msz, .int mbg, .long mbt, .int mrg, .int mct, .int mvl, .int mpl, .int mcl, .int mrw, .int mqt, .int mlv, .int mtl, .int mbe, .int mch, .ref hpb, .ref hwa, .ref hmn, .ref hcf, .ref hsa, .ref hro])), (hcf, .inl (cI, 256, .inl mcf))]) hP hD [0, 3] [1, 2, 4] rfl rfl (by decide) (by decide) hk9 hFc hP1 hD1
        have hP := hP.sub (ws' := [(hm, .inr (8, [.int mrf, .ref hby, .int msz, .int mbg, .long mbt, .int mrg, .int mct, .int mvl, .int mpl, .int mcl, .int mrw, .int mqt, .int mlv, .int mtl, .int mbe, .int mch, .ref hpb, .ref hwa, .ref hmn, .ref hcf, .ref hsa, .ref hro])), (hby, .inl (cI, 600, .inl mby)), (hpb, .inl (cI, 264, .inl mpb)), (hcf, .inl (cI, 256, .inl mcf)), (hmn, .inl (cI, 16, .inl mmn))]) [3, 0, 1, 4, 2] rfl
        have hD := hD.sub (ws' := [(hm, .inr (8, [.int mrf, .ref hby, .int msz, .int mbg, .long mbt, .int mrg, .int mct, .int mvl, .int mpl, .int mcl, .int mrw, .int mqt, .int mlv, .int mtl, .int mbe, .int mch, .ref hpb, .ref hwa, .ref hmn, .ref hcf, .ref hsa, .ref hro])), (hby, .inl (cI, 600, .inl mby)), (hpb, .inl (cI, 264, .inl mpb)), (hcf, .inl (cI, 256, .inl mcf)), (hmn, .inl (cI, 16, .inl mmn))]) [3, 0, 1, 4, 2] (by decide) rfl
        generalize H1 = H at hP hS ⊢
        have q39_0 : kB r39 0 1 := hw9
        refine lv_if_eq (tgt := 48) hx hb dX8_readCoefficients_42 (by decide) (fun c42 => ?_) (fun c42 => ?_)
        · have c42x : kB r39 0 0 := kB_eq c42 kc_0
          refine lv_iconst (v := 0) hx hb dX8_readCoefficients_48 (by decide) ?_
          refine lv_istore_n (lv' := [(3, .int 0), (2, .int v21), (0, .ref hm), (1, .int k)]) hx hb dX8_readCoefficients_49 rfl hl (by decide) rfl (fun ls hl => ?_)
          exact lp_X8_readCoefficients_50 D cI cJ cZ hm hby hpb hwa hmn hcf hsa hro mrf msz mbg mrg mct mvl mpl mcl mrw mqt mlv mtl mbe mch mbt mby mpb mcf mmn k brg bct bsz apb bk bcl hpl hx hb hr hml hown hts hlocks hK hA ((16 - (0 : Int32).toInt).toNat + 1) v21 0 mcf (Nat.lt_succ_self _) (kB_w b21 (by decide) (by decide)) (kB_w kc_0 (by decide) (by decide)) _ _ ls hP hD hS (lv_sub hl [2, 3, 1, 0] rfl)
        · have c42x : kB r39 1 1 := kB_nlo q39_0 c42 kc_0 (by decide)
          obtain ⟨v45, e45⟩ : ∃ y : Int32, y = v21 + 1 := ⟨_, rfl⟩
          refine lv_iinc (v := v45) (lv' := [(2, .int v45), (0, .ref hm), (1, .int k)]) hx hb dX8_readCoefficients_45 hl (k := 0) rfl (by rw [e45]; rfl) (by decide) rfl (fun ls hl => ?_)
          have b45 : kB v45 2 2 := kB_eq e45 (kB_add b21 kc_1 (by decide))
          have t45 : v45.toInt = v21.toInt + 1 := by rw [e45]; exact kinc (kB_w b21 (by decide) (by decide))
          refine lv_iconst (v := 0) hx hb dX8_readCoefficients_48 (by decide) ?_
          refine lv_istore_n (lv' := [(3, .int 0), (2, .int v45), (0, .ref hm), (1, .int k)]) hx hb dX8_readCoefficients_49 rfl hl (by decide) rfl (fun ls hl => ?_)
          exact lp_X8_readCoefficients_50 D cI cJ cZ hm hby hpb hwa hmn hcf hsa hro mrf msz mbg mrg mct mvl mpl mcl mrw mqt mlv mtl mbe mch mbt mby mpb mcf mmn k brg bct bsz apb bk bcl hpl hx hb hr hml hown hts hlocks hK hA ((16 - (0 : Int32).toInt).toNat + 1) v45 0 mcf (Nat.lt_succ_self _) (kB_w b45 (by decide) (by decide)) (kB_w kc_0 (by decide) (by decide)) _ _ ls hP hD hS (lv_sub hl [2, 3, 1, 0] rfl)
abbrev kw_X8_whole : List Cond := Cond.code yX8_whole cX8_whole 2 (some .long) :: kW
set_option maxHeartbeats 4000000 in
set_option maxRecDepth 100000 in
theorem c_X8_whole (l : Launch) (D : va_G) (cI cJ cZ : ClassId) (n : Int64) (hpz : Nat) : Met l yX8_whole kw_X8_whole ({ frames := 0, cells := 0, slots := 0, locals := 0 }) (va_Pc [.long n] (fun U => U.heap.size = hpz ∧ va_P D vwCl [] U.heap ∧ kK D cI cJ cZ U ∧ va_D (fun _ => True) [])) (va_Ql (fun (r : Int64) (u : Unit) => True) (fun (u : Unit) (t : State) => va_P D vwCl [] t.heap ∧ va_D (va_A [] hpz) []) (va_A [] hpz)) 0 0 (va_A [] hpz) := by
  refine Met.ofW (cc := cX8_whole) (maxL := 2) (ret := (some .long)) (by decide) rfl ?_
  intro p e s m args below meth c s₁ B hml hv
  obtain ⟨rfl, hsz, hP, hK, hD0⟩ := hv
  have hx := B.exec
  have hb := B.bytes
  have hr := B.returns
  have hts := fun (w : Cond) (h : w ∈ kW) => atoms_spec (ws := kw_X8_whole) B.pre w (List.mem_cons_of_mem _ h)
  have hown : s.vm.findClass RX8 = some m.cls := findClass_of_methodNamed B.named
  have hlocks := B.notSynchronized
  subst hsz
  have hD := hD0.self (sz := s.heap.size)
  generalize hAe : va_A [] s.heap.size = A at hD ⊢
  have hA : ∀ q : Nat, s.heap.size ≤ q → A q := fun q h => by rw [← hAe]; exact Or.inr h
  have hS : va_S A s.heap s.heap [] := va_S.rf
  have hP : va_P D vwCl [] s.heap := hP
  have hl := lv_entry ([.long n]) (n := 2) (Nat.le_of_ble_eq_true rfl)
  rw [lg_entry_eq]
  generalize (lg_sl ([.long n]) ++ List.replicate (2 - (lg_sl ([.long n])).length) Slot.unset).toArray = ls at hl ⊢
  have hl : lv_has ls 2 [(0, .long n)] := hl
  refine lv_lload_n hx hb dX8_whole_0 rfl (lv_at hl 0 rfl) ?_
  refine lv_lload_n hx hb dX8_whole_1 rfl (lv_at hl 0 rfl) ?_
  refine lv_ldc2 (v := 20091) hx hb hown (hts _ mk_240) dX8_whole_2 ?_
  refine lv_lmul hx hb dX8_whole_5 ?_
  refine lv_topl (fun v5 e5 => ?_)
  refine lv_bipush (v := 16) hx hb dX8_whole_6 (by decide) ?_
  refine lv_lshr hx hb dX8_whole_8 rfl ?_
  refine lv_topl (fun v8 e8 => ?_)
  refine lv_ladd hx hb dX8_whole_9 ?_
  refine lv_topl (fun v9 e9 => ?_)
  exact W.lret (v := v9) hx hb hr (fun t9 ht9 hW9 => ⟨⟨v9, (), rfl, trivial, by rw [ht9]; exact hP, hD⟩, hS.F ht9⟩) hS.2.2 dX8_whole_10
abbrev kw_X8_half : List Cond := Cond.code yX8_half cX8_half 2 (some .long) :: kW
set_option maxHeartbeats 4000000 in
set_option maxRecDepth 100000 in
theorem c_X8_half (l : Launch) (D : va_G) (cI cJ cZ : ClassId) (n : Int64) (hpz : Nat) : Met l yX8_half kw_X8_half ({ frames := 0, cells := 0, slots := 0, locals := 0 }) (va_Pc [.long n] (fun U => U.heap.size = hpz ∧ va_P D vwCl [] U.heap ∧ kK D cI cJ cZ U ∧ va_D (fun _ => True) [])) (va_Ql (fun (r : Int64) (u : Unit) => True) (fun (u : Unit) (t : State) => va_P D vwCl [] t.heap ∧ va_D (va_A [] hpz) []) (va_A [] hpz)) 0 0 (va_A [] hpz) := by
  refine Met.ofW (cc := cX8_half) (maxL := 2) (ret := (some .long)) (by decide) rfl ?_
  intro p e s m args below meth c s₁ B hml hv
  obtain ⟨rfl, hsz, hP, hK, hD0⟩ := hv
  have hx := B.exec
  have hb := B.bytes
  have hr := B.returns
  have hts := fun (w : Cond) (h : w ∈ kW) => atoms_spec (ws := kw_X8_half) B.pre w (List.mem_cons_of_mem _ h)
  have hown : s.vm.findClass RX8 = some m.cls := findClass_of_methodNamed B.named
  have hlocks := B.notSynchronized
  subst hsz
  have hD := hD0.self (sz := s.heap.size)
  generalize hAe : va_A [] s.heap.size = A at hD ⊢
  have hA : ∀ q : Nat, s.heap.size ≤ q → A q := fun q h => by rw [← hAe]; exact Or.inr h
  have hS : va_S A s.heap s.heap [] := va_S.rf
  have hP : va_P D vwCl [] s.heap := hP
  have hl := lv_entry ([.long n]) (n := 2) (Nat.le_of_ble_eq_true rfl)
  rw [lg_entry_eq]
  generalize (lg_sl ([.long n]) ++ List.replicate (2 - (lg_sl ([.long n])).length) Slot.unset).toArray = ls at hl ⊢
  have hl : lv_has ls 2 [(0, .long n)] := hl
  refine lv_lload_n hx hb dX8_half_0 rfl (lv_at hl 0 rfl) ?_
  refine lv_ldc2 (v := 35468) hx hb hown (hts _ mk_241) dX8_half_1 ?_
  refine lv_lmul hx hb dX8_half_4 ?_
  refine lv_topl (fun v4 e4 => ?_)
  refine lv_bipush (v := 16) hx hb dX8_half_5 (by decide) ?_
  refine lv_lshr hx hb dX8_half_7 rfl ?_
  refine lv_topl (fun v7 e7 => ?_)
  exact W.lret (v := v7) hx hb hr (fun t9 ht9 hW9 => ⟨⟨v7, (), rfl, trivial, by rw [ht9]; exact hP, hD⟩, hS.F ht9⟩) hS.2.2 dX8_half_8
abbrev kw_X8_turn : List Cond := Cond.code yX8_turn cX8_turn 19 none :: kW
set_option maxHeartbeats 4000000 in
set_option maxRecDepth 100000 in
theorem c_X8_turn_a (l : Launch) (D : va_G) (cI cJ cZ : ClassId) (hm hby hpb hwa hmn hcf hsa hro : Nat) (mrf : Int32) (msz : Int32) (mbg : Int32) (mrg : Int32) (mct : Int32) (mvl : Int32) (mpl : Int32) (mcl : Int32) (mrw : Int32) (mqt : Int32) (mlv : Int32) (mtl : Int32) (mbe : Int32) (mch : Int32) (mbt : Int64) (mro : Nat → Int64) (fi : Int32) (bfi : kB fi 0 3) (hpz : Nat) : Met l yX8_turn kw_X8_turn ({ frames := 1, cells := 0, slots := 0, locals := 21 }) (va_Pc [.ref hm, .int fi, .int 4] (fun U => U.heap.size = hpz ∧ va_P D vwCl [(hm, .inr (8, [.int mrf, .ref hby, .int msz, .int mbg, .long mbt, .int mrg, .int mct, .int mvl, .int mpl, .int mcl, .int mrw, .int mqt, .int mlv, .int mtl, .int mbe, .int mch, .ref hpb, .ref hwa, .ref hmn, .ref hcf, .ref hsa, .ref hro])), (hro, .inl (cJ, 16, .inr (.inl mro)))] U.heap ∧ kK D cI cJ cZ U ∧ va_D (fun _ => True) [(hm, .inr (8, [.int mrf, .ref hby, .int msz, .int mbg, .long mbt, .int mrg, .int mct, .int mvl, .int mpl, .int mcl, .int mrw, .int mqt, .int mlv, .int mtl, .int mbe, .int mch, .ref hpb, .ref hwa, .ref hmn, .ref hcf, .ref hsa, .ref hro])), (hro, .inl (cJ, 16, .inr (.inl mro)))])) (va_Qv (fun (u : (Nat → Int64)) => True) (fun (u : (Nat → Int64)) (t : State) => va_P D vwCl [(hm, .inr (8, [.int mrf, .ref hby, .int msz, .int mbg, .long mbt, .int mrg, .int mct, .int mvl, .int mpl, .int mcl, .int mrw, .int mqt, .int mlv, .int mtl, .int mbe, .int mch, .ref hpb, .ref hwa, .ref hmn, .ref hcf, .ref hsa, .ref hro])), (hro, .inl (cJ, 16, .inr (.inl u)))] t.heap ∧ va_D (va_A [(hm, .inr (8, [.int mrf, .ref hby, .int msz, .int mbg, .long mbt, .int mrg, .int mct, .int mvl, .int mpl, .int mcl, .int mrw, .int mqt, .int mlv, .int mtl, .int mbe, .int mch, .ref hpb, .ref hwa, .ref hmn, .ref hcf, .ref hsa, .ref hro])), (hro, .inl (cJ, 16, .inr (.inl mro)))] hpz) [(hm, .inr (8, [.int mrf, .ref hby, .int msz, .int mbg, .long mbt, .int mrg, .int mct, .int mvl, .int mpl, .int mcl, .int mrw, .int mqt, .int mlv, .int mtl, .int mbe, .int mch, .ref hpb, .ref hwa, .ref hmn, .ref hcf, .ref hsa, .ref hro])), (hro, .inl (cJ, 16, .inr (.inl u)))]) (va_A [(hm, .inr (8, [.int mrf, .ref hby, .int msz, .int mbg, .long mbt, .int mrg, .int mct, .int mvl, .int mpl, .int mcl, .int mrw, .int mqt, .int mlv, .int mtl, .int mbe, .int mch, .ref hpb, .ref hwa, .ref hmn, .ref hcf, .ref hsa, .ref hro])), (hro, .inl (cJ, 16, .inr (.inl mro)))] hpz)) 0 0 (va_A [(hm, .inr (8, [.int mrf, .ref hby, .int msz, .int mbg, .long mbt, .int mrg, .int mct, .int mvl, .int mpl, .int mcl, .int mrw, .int mqt, .int mlv, .int mtl, .int mbe, .int mch, .ref hpb, .ref hwa, .ref hmn, .ref hcf, .ref hsa, .ref hro])), (hro, .inl (cJ, 16, .inr (.inl mro)))] hpz) := by
  refine Met.ofW (cc := cX8_turn) (maxL := 19) (ret := none) (by decide) rfl ?_
  intro p e s m args below meth c s₁ B hml hv
  obtain ⟨rfl, hsz, hP, hK, hD0⟩ := hv
  have hx := B.exec
  have hb := B.bytes
  have hr := B.returns
  have hts := fun (w : Cond) (h : w ∈ kW) => atoms_spec (ws := kw_X8_turn) B.pre w (List.mem_cons_of_mem _ h)
  have hown : s.vm.findClass RX8 = some m.cls := findClass_of_methodNamed B.named
  have hlocks := B.notSynchronized
  subst hsz
  have hD := hD0.self (sz := s.heap.size)
  generalize hAe : va_A [(hm, .inr (8, [.int mrf, .ref hby, .int msz, .int mbg, .long mbt, .int mrg, .int mct, .int mvl, .int mpl, .int mcl, .int mrw, .int mqt, .int mlv, .int mtl, .int mbe, .int mch, .ref hpb, .ref hwa, .ref hmn, .ref hcf, .ref hsa, .ref hro])), (hro, .inl (cJ, 16, .inr (.inl mro)))] s.heap.size = A at hD ⊢
  have hA : ∀ q : Nat, s.heap.size ≤ q → A q := fun q h => by rw [← hAe]; exact Or.inr h
  have hS : va_S A s.heap s.heap [] := va_S.rf
  have hP : va_P D vwCl [(hm, .inr (8, [.int mrf, .ref hby, .int msz, .int mbg, .long mbt, .int mrg, .int mct, .int mvl, .int mpl, .int mcl, .int mrw, .int mqt, .int mlv, .int mtl, .int mbe, .int mch, .ref hpb, .ref hwa, .ref hmn, .ref hcf, .ref hsa, .ref hro])), (hro, .inl (cJ, 16, .inr (.inl mro)))] s.heap := hP
  have hl := lv_entry ([.ref hm, .int fi, .int 4]) (n := 19) (Nat.le_of_ble_eq_true rfl)
  rw [lg_entry_eq]
  generalize (lg_sl ([.ref hm, .int fi, .int 4]) ++ List.replicate (19 - (lg_sl ([.ref hm, .int fi, .int 4])).length) Slot.unset).toArray = ls at hl ⊢
  have hl : lv_has ls 19 [(0, .ref hm), (1, .int fi), (2, .int 4)] := hl
  refine lv_aload_n hx hb dX8_turn_0 rfl (lv_at hl 0 rfl) ?_
  refine va_get (D := D) (ci := 8) (v := .ref hro) (C := RX8) (T := TX8) (N := 22) hx hb hts in_X8 hown hK.1 hP 0 rfl rfl 21 (by decide) (hts _ mk_242) (fun _ h9 => h9) rfl dX8_turn_1 ?_
  refine lv_iload_n hx hb dX8_turn_4 rfl (lv_at hl 1 rfl) ?_
  refine va_lald hx hb hK.1 hP 1 1 rfl rfl (kB_in bfi (by decide)) dX8_turn_5 ?_
  refine lv_topl (fun v5 e5 => ?_)
  refine lv_lstore_n (lv' := [(3, .long v5), (0, .ref hm), (1, .int fi), (2, .int 4)]) hx hb dX8_turn_6 rfl hl (by decide) rfl (fun ls hl => ?_)
  refine lv_aload_n hx hb dX8_turn_7 rfl (lv_at hl 1 rfl) ?_
  refine va_get (D := D) (ci := 8) (v := .ref hro) (C := RX8) (T := TX8) (N := 22) hx hb hts in_X8 hown hK.1 hP 0 rfl rfl 21 (by decide) (hts _ mk_242) (fun _ h9 => h9) rfl dX8_turn_8 ?_
  refine lv_iload_n hx hb dX8_turn_11 rfl (lv_at hl 2 rfl) ?_
  refine lv_iload_n hx hb dX8_turn_12 rfl (lv_at hl 3 rfl) ?_
  refine lv_iadd hx hb dX8_turn_13 ?_
  refine lv_topi (fun v13 e13 => ?_)
  have b13 : kB v13 4 7 := kB_eq e13 (kB_add bfi kc_4 (by decide))
  refine va_lald hx hb hK.1 hP 1 1 rfl rfl (kB_in b13 (by decide)) dX8_turn_14 ?_
  refine lv_topl (fun v14 e14 => ?_)
  refine lv_lstore (lv' := [(5, .long v14), (3, .long v5), (0, .ref hm), (1, .int fi), (2, .int 4)]) hx hb dX8_turn_15 hl (by decide) rfl (fun ls hl => ?_)
  refine lv_aload_n hx hb dX8_turn_17 rfl (lv_at hl 2 rfl) ?_
  refine va_get (D := D) (ci := 8) (v := .ref hro) (C := RX8) (T := TX8) (N := 22) hx hb hts in_X8 hown hK.1 hP 0 rfl rfl 21 (by decide) (hts _ mk_242) (fun _ h9 => h9) rfl dX8_turn_18 ?_
  refine lv_iload_n hx hb dX8_turn_21 rfl (lv_at hl 3 rfl) ?_
  refine lv_iconst (v := 2) hx hb dX8_turn_22 (by decide) ?_
  refine lv_iload_n hx hb dX8_turn_23 rfl (lv_at hl 4 rfl) ?_
  refine lv_imul hx hb dX8_turn_24 ?_
  refine lv_topi (fun v24 e24 => ?_)
  have b24 : kB v24 8 8 := kB_eq e24 (kB_mulc kc_2 kc_4 (by decide))
  refine lv_iadd hx hb dX8_turn_25 ?_
  refine lv_topi (fun v25 e25 => ?_)
  have b25 : kB v25 8 11 := kB_eq e25 (kB_add bfi b24 (by decide))
  refine va_lald hx hb hK.1 hP 1 1 rfl rfl (kB_in b25 (by decide)) dX8_turn_26 ?_
  refine lv_topl (fun v26 e26 => ?_)
  refine lv_lstore (lv' := [(7, .long v26), (5, .long v14), (3, .long v5), (0, .ref hm), (1, .int fi), (2, .int 4)]) hx hb dX8_turn_27 hl (by decide) rfl (fun ls hl => ?_)
  refine lv_aload_n hx hb dX8_turn_29 rfl (lv_at hl 3 rfl) ?_
  refine va_get (D := D) (ci := 8) (v := .ref hro) (C := RX8) (T := TX8) (N := 22) hx hb hts in_X8 hown hK.1 hP 0 rfl rfl 21 (by decide) (hts _ mk_242) (fun _ h9 => h9) rfl dX8_turn_30 ?_
  refine lv_iload_n hx hb dX8_turn_33 rfl (lv_at hl 4 rfl) ?_
  refine lv_iconst (v := 3) hx hb dX8_turn_34 (by decide) ?_
  refine lv_iload_n hx hb dX8_turn_35 rfl (lv_at hl 5 rfl) ?_
  refine lv_imul hx hb dX8_turn_36 ?_
  refine lv_topi (fun v36 e36 => ?_)
  have b36 : kB v36 12 12 := kB_eq e36 (kB_mulc kc_3 kc_4 (by decide))
  refine lv_iadd hx hb dX8_turn_37 ?_
  refine lv_topi (fun v37 e37 => ?_)
  have b37 : kB v37 12 15 := kB_eq e37 (kB_add bfi b36 (by decide))
  refine va_lald hx hb hK.1 hP 1 1 rfl rfl (kB_in b37 (by decide)) dX8_turn_38 ?_
  refine lv_topl (fun v38 e38 => ?_)
  refine lv_lstore (lv' := [(9, .long v38), (7, .long v26), (5, .long v14), (3, .long v5), (0, .ref hm), (1, .int fi), (2, .int 4)]) hx hb dX8_turn_39 hl (by decide) rfl (fun ls hl => ?_)
  refine lv_lload_n hx hb dX8_turn_41 rfl (lv_at hl 3 rfl) ?_
  refine lv_lload hx hb dX8_turn_42 (lv_at hl 1 rfl) ?_
  refine lv_ladd hx hb dX8_turn_44 ?_
  refine lv_topl (fun v44 e44 => ?_)
  refine lv_lstore (lv' := [(11, .long v44), (9, .long v38), (7, .long v26), (5, .long v14), (3, .long v5), (0, .ref hm), (1, .int fi), (2, .int 4)]) hx hb dX8_turn_45 hl (by decide) rfl (fun ls hl => ?_)
  refine lv_lload_n hx hb dX8_turn_47 rfl (lv_at hl 4 rfl) ?_
  refine lv_lload hx hb dX8_turn_48 (lv_at hl 2 rfl) ?_
  refine lv_lsub hx hb dX8_turn_50 ?_
  refine lv_topl (fun v50 e50 => ?_)
  refine lv_lstore (lv' := [(13, .long v50), (11, .long v44), (9, .long v38), (7, .long v26), (5, .long v14), (3, .long v5), (0, .ref hm), (1, .int fi), (2, .int 4)]) hx hb dX8_turn_51 hl (by decide) rfl (fun ls hl => ?_)
  refine lv_lload hx hb dX8_turn_53 (lv_at hl 4 rfl) ?_
  have hPc := hP.sub (ws' := []) [] rfl
  have hDc := hD.sub (ws' := []) [] (by decide) rfl
  have hFc := va_free (wc := []) hD hS hA [] rfl
  refine va_calll (va_runS (As := [.long v14]) (rest := []) ⟨hx, hb, hml, hown, hts⟩ (c_X8_half l D cI cJ cZ v14 (s.heap).size) (cwS 1 hts (kg_S mk_243 mk_244 mk_189 mk_245) rfl rfl rfl (by decide +kernel) ⟨Nat.le_of_ble_eq_true rfl, Nat.le_of_ble_eq_true rfl⟩) ⟨fun a U g mk q => by obtain ⟨q0, q1, qP, qK, qD⟩ := q; exact ⟨q0, q1, qP, kK.call qK, qD⟩, fun U hU hW => ⟨rfl, by rw [hU], by rw [hU]; exact hPc, kK.warm hW hK, hDc.weaken (fun _ _ _ _ => trivial)⟩⟩ rfl rfl hl.1 rfl (lv_room (Nat.le_of_ble_eq_true rfl)) dX8_turn_55 ⟨Nat.zero_le _, Nat.zero_le _⟩) hS (fun q _ h => hFc q h) hFc (fun r55 u t9 H1 locs ht9 hvm9 hw9 hB9 hz9 hk9 hS => ?_)
  obtain ⟨hP1, hD1⟩ := hB9
  rw [ht9] at hP1
  have hP1 : va_P D vwCl [] H1 := hP1
  obtain ⟨hP, hD⟩ := va_join (wr := [(hm, .inr (8, [.int mrf, .ref hby, .int msz, .int mbg, .long mbt, .int mrg, .int mct, .int mvl, .int mpl, .int mcl, .int mrw, .int mqt, .int mlv, .int mtl, .int mbe, .int mch, .ref hpb, .ref hwa, .ref hmn, .ref hcf, .ref hsa, .ref hro])), (hro, .inl (cJ, 16, .inr (.inl mro)))]) (w1 := []) hP hD [] [0, 1] rfl rfl (by decide) (by decide) hk9 hFc hP1 hD1
  have hP := hP.sub (ws' := [(hm, .inr (8, [.int mrf, .ref hby, .int msz, .int mbg, .long mbt, .int mrg, .int mct, .int mvl, .int mpl, .int mcl, .int mrw, .int mqt, .int mlv, .int mtl, .int mbe, .int mch, .ref hpb, .ref hwa, .ref hmn, .ref hcf, .ref hsa, .ref hro])), (hro, .inl (cJ, 16, .inr (.inl mro)))]) [0, 1] rfl
  have hD := hD.sub (ws' := [(hm, .inr (8, [.int mrf, .ref hby, .int msz, .int mbg, .long mbt, .int mrg, .int mct, .int mvl, .int mpl, .int mcl, .int mrw, .int mqt, .int mlv, .int mtl, .int mbe, .int mch, .ref hpb, .ref hwa, .ref hmn, .ref hcf, .ref hsa, .ref hro])), (hro, .inl (cJ, 16, .inr (.inl mro)))]) [0, 1] (by decide) rfl
  generalize H1 = H at hP hS ⊢
  refine lv_lload hx hb dX8_turn_58 (lv_at hl 2 rfl) ?_
  have hPc := hP.sub (ws' := []) [] rfl
  have hDc := hD.sub (ws' := []) [] (by decide) rfl
  have hFc := va_free (wc := []) hD hS hA [] rfl
  refine va_calll (va_runS (As := [.long v38]) (rest := [.long r55]) ⟨hx, hb, hml, hown, hts⟩ (c_X8_whole l D cI cJ cZ v38 (H).size) (cwS 1 hts (kg_S mk_246 mk_247 mk_189 mk_248) rfl rfl rfl (by decide +kernel) ⟨Nat.le_of_ble_eq_true rfl, Nat.le_of_ble_eq_true rfl⟩) ⟨fun a U g mk q => by obtain ⟨q0, q1, qP, qK, qD⟩ := q; exact ⟨q0, q1, qP, kK.call qK, qD⟩, fun U hU hW => ⟨rfl, by rw [hU], by rw [hU]; exact hPc, kK.warm hW hK, hDc.weaken (fun _ _ _ _ => trivial)⟩⟩ rfl rfl hl.1 rfl (lv_room (Nat.le_of_ble_eq_true rfl)) dX8_turn_60 ⟨Nat.zero_le _, Nat.zero_le _⟩) hS (fun q _ h => hFc q h) hFc (fun r60 u t9 H1 locs ht9 hvm9 hw9 hB9 hz9 hk9 hS => ?_)
  obtain ⟨hP1, hD1⟩ := hB9
  rw [ht9] at hP1
  have hP1 : va_P D vwCl [] H1 := hP1
  obtain ⟨hP, hD⟩ := va_join (wr := [(hm, .inr (8, [.int mrf, .ref hby, .int msz, .int mbg, .long mbt, .int mrg, .int mct, .int mvl, .int mpl, .int mcl, .int mrw, .int mqt, .int mlv, .int mtl, .int mbe, .int mch, .ref hpb, .ref hwa, .ref hmn, .ref hcf, .ref hsa, .ref hro])), (hro, .inl (cJ, 16, .inr (.inl mro)))]) (w1 := []) hP hD [] [0, 1] rfl rfl (by decide) (by decide) hk9 hFc hP1 hD1
  have hP := hP.sub (ws' := [(hm, .inr (8, [.int mrf, .ref hby, .int msz, .int mbg, .long mbt, .int mrg, .int mct, .int mvl, .int mpl, .int mcl, .int mrw, .int mqt, .int mlv, .int mtl, .int mbe, .int mch, .ref hpb, .ref hwa, .ref hmn, .ref hcf, .ref hsa, .ref hro])), (hro, .inl (cJ, 16, .inr (.inl mro)))]) [0, 1] rfl
  have hD := hD.sub (ws' := [(hm, .inr (8, [.int mrf, .ref hby, .int msz, .int mbg, .long mbt, .int mrg, .int mct, .int mvl, .int mpl, .int mcl, .int mrw, .int mqt, .int mlv, .int mtl, .int mbe, .int mch, .ref hpb, .ref hwa, .ref hmn, .ref hcf, .ref hsa, .ref hro])), (hro, .inl (cJ, 16, .inr (.inl mro)))]) [0, 1] (by decide) rfl
  generalize H1 = H at hP hS ⊢
  refine lv_lsub hx hb dX8_turn_63 ?_
  refine lv_topl (fun v63 e63 => ?_)
  refine lv_lstore (lv' := [(15, .long v63), (13, .long v50), (11, .long v44), (9, .long v38), (7, .long v26), (5, .long v14), (3, .long v5), (0, .ref hm), (1, .int fi), (2, .int 4)]) hx hb dX8_turn_64 hl (by decide) rfl (fun ls hl => ?_)
  refine lv_lload hx hb dX8_turn_66 (lv_at hl 5 rfl) ?_
  have hPc := hP.sub (ws' := []) [] rfl
  have hDc := hD.sub (ws' := []) [] (by decide) rfl
  have hFc := va_free (wc := []) hD hS hA [] rfl
  refine va_calll (va_runS (As := [.long v14]) (rest := []) ⟨hx, hb, hml, hown, hts⟩ (c_X8_whole l D cI cJ cZ v14 (H).size) (cwS 1 hts (kg_S mk_246 mk_247 mk_189 mk_248) rfl rfl rfl (by decide +kernel) ⟨Nat.le_of_ble_eq_true rfl, Nat.le_of_ble_eq_true rfl⟩) ⟨fun a U g mk q => by obtain ⟨q0, q1, qP, qK, qD⟩ := q; exact ⟨q0, q1, qP, kK.call qK, qD⟩, fun U hU hW => ⟨rfl, by rw [hU], by rw [hU]; exact hPc, kK.warm hW hK, hDc.weaken (fun _ _ _ _ => trivial)⟩⟩ rfl rfl hl.1 rfl (lv_room (Nat.le_of_ble_eq_true rfl)) dX8_turn_68 ⟨Nat.zero_le _, Nat.zero_le _⟩) hS (fun q _ h => hFc q h) hFc (fun r68 u t9 H1 locs ht9 hvm9 hw9 hB9 hz9 hk9 hS => ?_)
  obtain ⟨hP1, hD1⟩ := hB9
  rw [ht9] at hP1
  have hP1 : va_P D vwCl [] H1 := hP1
  obtain ⟨hP, hD⟩ := va_join (wr := [(hm, .inr (8, [.int mrf, .ref hby, .int msz, .int mbg, .long mbt, .int mrg, .int mct, .int mvl, .int mpl, .int mcl, .int mrw, .int mqt, .int mlv, .int mtl, .int mbe, .int mch, .ref hpb, .ref hwa, .ref hmn, .ref hcf, .ref hsa, .ref hro])), (hro, .inl (cJ, 16, .inr (.inl mro)))]) (w1 := []) hP hD [] [0, 1] rfl rfl (by decide) (by decide) hk9 hFc hP1 hD1
  have hP := hP.sub (ws' := [(hm, .inr (8, [.int mrf, .ref hby, .int msz, .int mbg, .long mbt, .int mrg, .int mct, .int mvl, .int mpl, .int mcl, .int mrw, .int mqt, .int mlv, .int mtl, .int mbe, .int mch, .ref hpb, .ref hwa, .ref hmn, .ref hcf, .ref hsa, .ref hro])), (hro, .inl (cJ, 16, .inr (.inl mro)))]) [0, 1] rfl
  have hD := hD.sub (ws' := [(hm, .inr (8, [.int mrf, .ref hby, .int msz, .int mbg, .long mbt, .int mrg, .int mct, .int mvl, .int mpl, .int mcl, .int mrw, .int mqt, .int mlv, .int mtl, .int mbe, .int mch, .ref hpb, .ref hwa, .ref hmn, .ref hcf, .ref hsa, .ref hro])), (hro, .inl (cJ, 16, .inr (.inl mro)))]) [0, 1] (by decide) rfl
  generalize H1 = H at hP hS ⊢
  refine lv_lload hx hb dX8_turn_71 (lv_at hl 3 rfl) ?_
  have hPc := hP.sub (ws' := []) [] rfl
  have hDc := hD.sub (ws' := []) [] (by decide) rfl
  have hFc := va_free (wc := []) hD hS hA [] rfl
  refine va_calll (va_runS (As := [.long v38]) (rest := [.long r68]) ⟨hx, hb, hml, hown, hts⟩ (c_X8_half l D cI cJ cZ v38 (H).size) (cwS 1 hts (kg_S mk_243 mk_244 mk_189 mk_245) rfl rfl rfl (by decide +kernel) ⟨Nat.le_of_ble_eq_true rfl, Nat.le_of_ble_eq_true rfl⟩) ⟨fun a U g mk q => by obtain ⟨q0, q1, qP, qK, qD⟩ := q; exact ⟨q0, q1, qP, kK.call qK, qD⟩, fun U hU hW => ⟨rfl, by rw [hU], by rw [hU]; exact hPc, kK.warm hW hK, hDc.weaken (fun _ _ _ _ => trivial)⟩⟩ rfl rfl hl.1 rfl (lv_room (Nat.le_of_ble_eq_true rfl)) dX8_turn_73 ⟨Nat.zero_le _, Nat.zero_le _⟩) hS (fun q _ h => hFc q h) hFc (fun r73 u t9 H1 locs ht9 hvm9 hw9 hB9 hz9 hk9 hS => ?_)
  obtain ⟨hP1, hD1⟩ := hB9
  rw [ht9] at hP1
  have hP1 : va_P D vwCl [] H1 := hP1
  obtain ⟨hP, hD⟩ := va_join (wr := [(hm, .inr (8, [.int mrf, .ref hby, .int msz, .int mbg, .long mbt, .int mrg, .int mct, .int mvl, .int mpl, .int mcl, .int mrw, .int mqt, .int mlv, .int mtl, .int mbe, .int mch, .ref hpb, .ref hwa, .ref hmn, .ref hcf, .ref hsa, .ref hro])), (hro, .inl (cJ, 16, .inr (.inl mro)))]) (w1 := []) hP hD [] [0, 1] rfl rfl (by decide) (by decide) hk9 hFc hP1 hD1
  have hP := hP.sub (ws' := [(hm, .inr (8, [.int mrf, .ref hby, .int msz, .int mbg, .long mbt, .int mrg, .int mct, .int mvl, .int mpl, .int mcl, .int mrw, .int mqt, .int mlv, .int mtl, .int mbe, .int mch, .ref hpb, .ref hwa, .ref hmn, .ref hcf, .ref hsa, .ref hro])), (hro, .inl (cJ, 16, .inr (.inl mro)))]) [0, 1] rfl
  have hD := hD.sub (ws' := [(hm, .inr (8, [.int mrf, .ref hby, .int msz, .int mbg, .long mbt, .int mrg, .int mct, .int mvl, .int mpl, .int mcl, .int mrw, .int mqt, .int mlv, .int mtl, .int mbe, .int mch, .ref hpb, .ref hwa, .ref hmn, .ref hcf, .ref hsa, .ref hro])), (hro, .inl (cJ, 16, .inr (.inl mro)))]) [0, 1] (by decide) rfl
  generalize H1 = H at hP hS ⊢
  refine lv_ladd hx hb dX8_turn_76 ?_
  refine lv_topl (fun v76 e76 => ?_)
  refine lv_lstore (lv' := [(17, .long v76), (15, .long v63), (13, .long v50), (11, .long v44), (9, .long v38), (7, .long v26), (5, .long v14), (3, .long v5), (0, .ref hm), (1, .int fi), (2, .int 4)]) hx hb dX8_turn_77 hl (by decide) rfl (fun ls hl => ?_)
  refine lv_aload_n hx hb dX8_turn_79 rfl (lv_at hl 8 rfl) ?_
  refine va_get (D := D) (ci := 8) (v := .ref hro) (C := RX8) (T := TX8) (N := 22) hx hb hts in_X8 hown hK.1 hP 0 rfl rfl 21 (by decide) (hts _ mk_242) (fun _ h9 => h9) rfl dX8_turn_80 ?_
  refine lv_iload_n hx hb dX8_turn_83 rfl (lv_at hl 9 rfl) ?_
  refine lv_lload hx hb dX8_turn_84 (lv_at hl 3 rfl) ?_
  refine lv_lload hx hb dX8_turn_86 (lv_at hl 0 rfl) ?_
  refine lv_ladd hx hb dX8_turn_88 ?_
  refine lv_topl (fun v88 e88 => ?_)
  refine va_last hx hb hK.1 hP hD hS 1 1 rfl rfl (kB_in bfi (by decide)) dX8_turn_89 (fun H locs hP hD hS => ?_)
  have hP : va_P D vwCl [(hm, .inr (8, [.int mrf, .ref hby, .int msz, .int mbg, .long mbt, .int mrg, .int mct, .int mvl, .int mpl, .int mcl, .int mrw, .int mqt, .int mlv, .int mtl, .int mbe, .int mch, .ref hpb, .ref hwa, .ref hmn, .ref hcf, .ref hsa, .ref hro])), (hro, .inl (cJ, 16, .inr (.inl (vp_updL mro fi.toNatClampNeg v88))))] H := hP
  have hD : va_D A [(hm, .inr (8, [.int mrf, .ref hby, .int msz, .int mbg, .long mbt, .int mrg, .int mct, .int mvl, .int mpl, .int mcl, .int mrw, .int mqt, .int mlv, .int mtl, .int mbe, .int mch, .ref hpb, .ref hwa, .ref hmn, .ref hcf, .ref hsa, .ref hro])), (hro, .inl (cJ, 16, .inr (.inl (vp_updL mro fi.toNatClampNeg v88))))] := hD
  generalize hf89 : vp_updL mro fi.toNatClampNeg v88 = f89 at hP hD
  refine lv_aload_n hx hb dX8_turn_90 rfl (lv_at hl 8 rfl) ?_
  refine va_get (D := D) (ci := 8) (v := .ref hro) (C := RX8) (T := TX8) (N := 22) hx hb hts in_X8 hown hK.1 hP 0 rfl rfl 21 (by decide) (hts _ mk_242) (fun _ h9 => h9) rfl dX8_turn_91 ?_
  refine lv_iload_n hx hb dX8_turn_94 rfl (lv_at hl 9 rfl) ?_
  refine lv_iload_n hx hb dX8_turn_95 rfl (lv_at hl 10 rfl) ?_
  refine lv_iadd hx hb dX8_turn_96 ?_
  refine lv_topi (fun v96 e96 => ?_)
  have b96 : kB v96 4 7 := kB_eq e96 (kB_add bfi kc_4 (by decide))
  refine lv_lload hx hb dX8_turn_97 (lv_at hl 2 rfl) ?_
  refine lv_lload hx hb dX8_turn_99 (lv_at hl 1 rfl) ?_
  refine lv_ladd hx hb dX8_turn_101 ?_
  refine lv_topl (fun v101 e101 => ?_)
  refine va_last hx hb hK.1 hP hD hS 1 1 rfl rfl (kB_in b96 (by decide)) dX8_turn_102 (fun H locs hP hD hS => ?_)
  have hP : va_P D vwCl [(hm, .inr (8, [.int mrf, .ref hby, .int msz, .int mbg, .long mbt, .int mrg, .int mct, .int mvl, .int mpl, .int mcl, .int mrw, .int mqt, .int mlv, .int mtl, .int mbe, .int mch, .ref hpb, .ref hwa, .ref hmn, .ref hcf, .ref hsa, .ref hro])), (hro, .inl (cJ, 16, .inr (.inl (vp_updL f89 v96.toNatClampNeg v101))))] H := hP
  have hD : va_D A [(hm, .inr (8, [.int mrf, .ref hby, .int msz, .int mbg, .long mbt, .int mrg, .int mct, .int mvl, .int mpl, .int mcl, .int mrw, .int mqt, .int mlv, .int mtl, .int mbe, .int mch, .ref hpb, .ref hwa, .ref hmn, .ref hcf, .ref hsa, .ref hro])), (hro, .inl (cJ, 16, .inr (.inl (vp_updL f89 v96.toNatClampNeg v101))))] := hD
  generalize hf102 : vp_updL f89 v96.toNatClampNeg v101 = f102 at hP hD
  refine lv_aload_n hx hb dX8_turn_103 rfl (lv_at hl 8 rfl) ?_
  refine va_get (D := D) (ci := 8) (v := .ref hro) (C := RX8) (T := TX8) (N := 22) hx hb hts in_X8 hown hK.1 hP 0 rfl rfl 21 (by decide) (hts _ mk_242) (fun _ h9 => h9) rfl dX8_turn_104 ?_
  refine lv_iload_n hx hb dX8_turn_107 rfl (lv_at hl 9 rfl) ?_
  refine lv_iconst (v := 2) hx hb dX8_turn_108 (by decide) ?_
  refine lv_iload_n hx hb dX8_turn_109 rfl (lv_at hl 10 rfl) ?_
  refine lv_imul hx hb dX8_turn_110 ?_
  refine lv_topi (fun v110 e110 => ?_)
  have b110 : kB v110 8 8 := kB_eq e110 (kB_mulc kc_2 kc_4 (by decide))
  refine lv_iadd hx hb dX8_turn_111 ?_
  refine lv_topi (fun v111 e111 => ?_)
  have b111 : kB v111 8 11 := kB_eq e111 (kB_add bfi b110 (by decide))
  refine lv_lload hx hb dX8_turn_112 (lv_at hl 2 rfl) ?_
  refine lv_lload hx hb dX8_turn_114 (lv_at hl 1 rfl) ?_
  refine lv_lsub hx hb dX8_turn_116 ?_
  refine lv_topl (fun v116 e116 => ?_)
  refine va_last hx hb hK.1 hP hD hS 1 1 rfl rfl (kB_in b111 (by decide)) dX8_turn_117 (fun H locs hP hD hS => ?_)
  have hP : va_P D vwCl [(hm, .inr (8, [.int mrf, .ref hby, .int msz, .int mbg, .long mbt, .int mrg, .int mct, .int mvl, .int mpl, .int mcl, .int mrw, .int mqt, .int mlv, .int mtl, .int mbe, .int mch, .ref hpb, .ref hwa, .ref hmn, .ref hcf, .ref hsa, .ref hro])), (hro, .inl (cJ, 16, .inr (.inl (vp_updL f102 v111.toNatClampNeg v116))))] H := hP
  have hD : va_D A [(hm, .inr (8, [.int mrf, .ref hby, .int msz, .int mbg, .long mbt, .int mrg, .int mct, .int mvl, .int mpl, .int mcl, .int mrw, .int mqt, .int mlv, .int mtl, .int mbe, .int mch, .ref hpb, .ref hwa, .ref hmn, .ref hcf, .ref hsa, .ref hro])), (hro, .inl (cJ, 16, .inr (.inl (vp_updL f102 v111.toNatClampNeg v116))))] := hD
  generalize hf117 : vp_updL f102 v111.toNatClampNeg v116 = f117 at hP hD
  refine lv_aload_n hx hb dX8_turn_118 rfl (lv_at hl 8 rfl) ?_
  refine va_get (D := D) (ci := 8) (v := .ref hro) (C := RX8) (T := TX8) (N := 22) hx hb hts in_X8 hown hK.1 hP 0 rfl rfl 21 (by decide) (hts _ mk_242) (fun _ h9 => h9) rfl dX8_turn_119 ?_
  refine lv_iload_n hx hb dX8_turn_122 rfl (lv_at hl 9 rfl) ?_
  refine lv_iconst (v := 3) hx hb dX8_turn_123 (by decide) ?_
  refine lv_iload_n hx hb dX8_turn_124 rfl (lv_at hl 10 rfl) ?_
  refine lv_imul hx hb dX8_turn_125 ?_
  refine lv_topi (fun v125 e125 => ?_)
  have b125 : kB v125 12 12 := kB_eq e125 (kB_mulc kc_3 kc_4 (by decide))
  refine lv_iadd hx hb dX8_turn_126 ?_
  refine lv_topi (fun v126 e126 => ?_)
  have b126 : kB v126 12 15 := kB_eq e126 (kB_add bfi b125 (by decide))
  refine lv_lload hx hb dX8_turn_127 (lv_at hl 3 rfl) ?_
  refine lv_lload hx hb dX8_turn_129 (lv_at hl 0 rfl) ?_
  refine lv_lsub hx hb dX8_turn_131 ?_
  refine lv_topl (fun v131 e131 => ?_)
  refine va_last hx hb hK.1 hP hD hS 1 1 rfl rfl (kB_in b126 (by decide)) dX8_turn_132 (fun H locs hP hD hS => ?_)
  have hP : va_P D vwCl [(hm, .inr (8, [.int mrf, .ref hby, .int msz, .int mbg, .long mbt, .int mrg, .int mct, .int mvl, .int mpl, .int mcl, .int mrw, .int mqt, .int mlv, .int mtl, .int mbe, .int mch, .ref hpb, .ref hwa, .ref hmn, .ref hcf, .ref hsa, .ref hro])), (hro, .inl (cJ, 16, .inr (.inl (vp_updL f117 v126.toNatClampNeg v131))))] H := hP
  have hD : va_D A [(hm, .inr (8, [.int mrf, .ref hby, .int msz, .int mbg, .long mbt, .int mrg, .int mct, .int mvl, .int mpl, .int mcl, .int mrw, .int mqt, .int mlv, .int mtl, .int mbe, .int mch, .ref hpb, .ref hwa, .ref hmn, .ref hcf, .ref hsa, .ref hro])), (hro, .inl (cJ, 16, .inr (.inl (vp_updL f117 v126.toNatClampNeg v131))))] := hD
  generalize hf132 : vp_updL f117 v126.toNatClampNeg v131 = f132 at hP hD
  exact W.vret hx hb hr (fun t9 ht9 hW9 => ⟨⟨f132, rfl, trivial, by rw [ht9]; exact hP, hD⟩, hS.F ht9⟩) hS.2.2 dX8_turn_133
set_option maxHeartbeats 4000000 in
set_option maxRecDepth 100000 in
theorem c_X8_turn_b (l : Launch) (D : va_G) (cI cJ cZ : ClassId) (hm hby hpb hwa hmn hcf hsa hro : Nat) (mrf : Int32) (msz : Int32) (mbg : Int32) (mrg : Int32) (mct : Int32) (mvl : Int32) (mpl : Int32) (mcl : Int32) (mrw : Int32) (mqt : Int32) (mlv : Int32) (mtl : Int32) (mbe : Int32) (mch : Int32) (mbt : Int64) (mro : Nat → Int64) (fi : Int32) (bfi : kB fi 0 12) (hpz : Nat) : Met l yX8_turn kw_X8_turn ({ frames := 1, cells := 0, slots := 0, locals := 21 }) (va_Pc [.ref hm, .int fi, .int 1] (fun U => U.heap.size = hpz ∧ va_P D vwCl [(hm, .inr (8, [.int mrf, .ref hby, .int msz, .int mbg, .long mbt, .int mrg, .int mct, .int mvl, .int mpl, .int mcl, .int mrw, .int mqt, .int mlv, .int mtl, .int mbe, .int mch, .ref hpb, .ref hwa, .ref hmn, .ref hcf, .ref hsa, .ref hro])), (hro, .inl (cJ, 16, .inr (.inl mro)))] U.heap ∧ kK D cI cJ cZ U ∧ va_D (fun _ => True) [(hm, .inr (8, [.int mrf, .ref hby, .int msz, .int mbg, .long mbt, .int mrg, .int mct, .int mvl, .int mpl, .int mcl, .int mrw, .int mqt, .int mlv, .int mtl, .int mbe, .int mch, .ref hpb, .ref hwa, .ref hmn, .ref hcf, .ref hsa, .ref hro])), (hro, .inl (cJ, 16, .inr (.inl mro)))])) (va_Qv (fun (u : (Nat → Int64)) => True) (fun (u : (Nat → Int64)) (t : State) => va_P D vwCl [(hm, .inr (8, [.int mrf, .ref hby, .int msz, .int mbg, .long mbt, .int mrg, .int mct, .int mvl, .int mpl, .int mcl, .int mrw, .int mqt, .int mlv, .int mtl, .int mbe, .int mch, .ref hpb, .ref hwa, .ref hmn, .ref hcf, .ref hsa, .ref hro])), (hro, .inl (cJ, 16, .inr (.inl u)))] t.heap ∧ va_D (va_A [(hm, .inr (8, [.int mrf, .ref hby, .int msz, .int mbg, .long mbt, .int mrg, .int mct, .int mvl, .int mpl, .int mcl, .int mrw, .int mqt, .int mlv, .int mtl, .int mbe, .int mch, .ref hpb, .ref hwa, .ref hmn, .ref hcf, .ref hsa, .ref hro])), (hro, .inl (cJ, 16, .inr (.inl mro)))] hpz) [(hm, .inr (8, [.int mrf, .ref hby, .int msz, .int mbg, .long mbt, .int mrg, .int mct, .int mvl, .int mpl, .int mcl, .int mrw, .int mqt, .int mlv, .int mtl, .int mbe, .int mch, .ref hpb, .ref hwa, .ref hmn, .ref hcf, .ref hsa, .ref hro])), (hro, .inl (cJ, 16, .inr (.inl u)))]) (va_A [(hm, .inr (8, [.int mrf, .ref hby, .int msz, .int mbg, .long mbt, .int mrg, .int mct, .int mvl, .int mpl, .int mcl, .int mrw, .int mqt, .int mlv, .int mtl, .int mbe, .int mch, .ref hpb, .ref hwa, .ref hmn, .ref hcf, .ref hsa, .ref hro])), (hro, .inl (cJ, 16, .inr (.inl mro)))] hpz)) 0 0 (va_A [(hm, .inr (8, [.int mrf, .ref hby, .int msz, .int mbg, .long mbt, .int mrg, .int mct, .int mvl, .int mpl, .int mcl, .int mrw, .int mqt, .int mlv, .int mtl, .int mbe, .int mch, .ref hpb, .ref hwa, .ref hmn, .ref hcf, .ref hsa, .ref hro])), (hro, .inl (cJ, 16, .inr (.inl mro)))] hpz) := by
  refine Met.ofW (cc := cX8_turn) (maxL := 19) (ret := none) (by decide) rfl ?_
  intro p e s m args below meth c s₁ B hml hv
  obtain ⟨rfl, hsz, hP, hK, hD0⟩ := hv
  have hx := B.exec
  have hb := B.bytes
  have hr := B.returns
  have hts := fun (w : Cond) (h : w ∈ kW) => atoms_spec (ws := kw_X8_turn) B.pre w (List.mem_cons_of_mem _ h)
  have hown : s.vm.findClass RX8 = some m.cls := findClass_of_methodNamed B.named
  have hlocks := B.notSynchronized
  subst hsz
  have hD := hD0.self (sz := s.heap.size)
  generalize hAe : va_A [(hm, .inr (8, [.int mrf, .ref hby, .int msz, .int mbg, .long mbt, .int mrg, .int mct, .int mvl, .int mpl, .int mcl, .int mrw, .int mqt, .int mlv, .int mtl, .int mbe, .int mch, .ref hpb, .ref hwa, .ref hmn, .ref hcf, .ref hsa, .ref hro])), (hro, .inl (cJ, 16, .inr (.inl mro)))] s.heap.size = A at hD ⊢
  have hA : ∀ q : Nat, s.heap.size ≤ q → A q := fun q h => by rw [← hAe]; exact Or.inr h
  have hS : va_S A s.heap s.heap [] := va_S.rf
  have hP : va_P D vwCl [(hm, .inr (8, [.int mrf, .ref hby, .int msz, .int mbg, .long mbt, .int mrg, .int mct, .int mvl, .int mpl, .int mcl, .int mrw, .int mqt, .int mlv, .int mtl, .int mbe, .int mch, .ref hpb, .ref hwa, .ref hmn, .ref hcf, .ref hsa, .ref hro])), (hro, .inl (cJ, 16, .inr (.inl mro)))] s.heap := hP
  have hl := lv_entry ([.ref hm, .int fi, .int 1]) (n := 19) (Nat.le_of_ble_eq_true rfl)
  rw [lg_entry_eq]
  generalize (lg_sl ([.ref hm, .int fi, .int 1]) ++ List.replicate (19 - (lg_sl ([.ref hm, .int fi, .int 1])).length) Slot.unset).toArray = ls at hl ⊢
  have hl : lv_has ls 19 [(0, .ref hm), (1, .int fi), (2, .int 1)] := hl
  refine lv_aload_n hx hb dX8_turn_0 rfl (lv_at hl 0 rfl) ?_
  refine va_get (D := D) (ci := 8) (v := .ref hro) (C := RX8) (T := TX8) (N := 22) hx hb hts in_X8 hown hK.1 hP 0 rfl rfl 21 (by decide) (hts _ mk_242) (fun _ h9 => h9) rfl dX8_turn_1 ?_
  refine lv_iload_n hx hb dX8_turn_4 rfl (lv_at hl 1 rfl) ?_
  refine va_lald hx hb hK.1 hP 1 1 rfl rfl (kB_in bfi (by decide)) dX8_turn_5 ?_
  refine lv_topl (fun v5 e5 => ?_)
  refine lv_lstore_n (lv' := [(3, .long v5), (0, .ref hm), (1, .int fi), (2, .int 1)]) hx hb dX8_turn_6 rfl hl (by decide) rfl (fun ls hl => ?_)
  refine lv_aload_n hx hb dX8_turn_7 rfl (lv_at hl 1 rfl) ?_
  refine va_get (D := D) (ci := 8) (v := .ref hro) (C := RX8) (T := TX8) (N := 22) hx hb hts in_X8 hown hK.1 hP 0 rfl rfl 21 (by decide) (hts _ mk_242) (fun _ h9 => h9) rfl dX8_turn_8 ?_
  refine lv_iload_n hx hb dX8_turn_11 rfl (lv_at hl 2 rfl) ?_
  refine lv_iload_n hx hb dX8_turn_12 rfl (lv_at hl 3 rfl) ?_
  refine lv_iadd hx hb dX8_turn_13 ?_
  refine lv_topi (fun v13 e13 => ?_)
  have b13 : kB v13 1 13 := kB_eq e13 (kB_add bfi kc_1 (by decide))
  refine va_lald hx hb hK.1 hP 1 1 rfl rfl (kB_in b13 (by decide)) dX8_turn_14 ?_
  refine lv_topl (fun v14 e14 => ?_)
  refine lv_lstore (lv' := [(5, .long v14), (3, .long v5), (0, .ref hm), (1, .int fi), (2, .int 1)]) hx hb dX8_turn_15 hl (by decide) rfl (fun ls hl => ?_)
  refine lv_aload_n hx hb dX8_turn_17 rfl (lv_at hl 2 rfl) ?_
  refine va_get (D := D) (ci := 8) (v := .ref hro) (C := RX8) (T := TX8) (N := 22) hx hb hts in_X8 hown hK.1 hP 0 rfl rfl 21 (by decide) (hts _ mk_242) (fun _ h9 => h9) rfl dX8_turn_18 ?_
  refine lv_iload_n hx hb dX8_turn_21 rfl (lv_at hl 3 rfl) ?_
  refine lv_iconst (v := 2) hx hb dX8_turn_22 (by decide) ?_
  refine lv_iload_n hx hb dX8_turn_23 rfl (lv_at hl 4 rfl) ?_
  refine lv_imul hx hb dX8_turn_24 ?_
  refine lv_topi (fun v24 e24 => ?_)
  have b24 : kB v24 2 2 := kB_eq e24 (kB_mulc kc_2 kc_1 (by decide))
  refine lv_iadd hx hb dX8_turn_25 ?_
  refine lv_topi (fun v25 e25 => ?_)
  have b25 : kB v25 2 14 := kB_eq e25 (kB_add bfi b24 (by decide))
  refine va_lald hx hb hK.1 hP 1 1 rfl rfl (kB_in b25 (by decide)) dX8_turn_26 ?_
  refine lv_topl (fun v26 e26 => ?_)
  refine lv_lstore (lv' := [(7, .long v26), (5, .long v14), (3, .long v5), (0, .ref hm), (1, .int fi), (2, .int 1)]) hx hb dX8_turn_27 hl (by decide) rfl (fun ls hl => ?_)
  refine lv_aload_n hx hb dX8_turn_29 rfl (lv_at hl 3 rfl) ?_
  refine va_get (D := D) (ci := 8) (v := .ref hro) (C := RX8) (T := TX8) (N := 22) hx hb hts in_X8 hown hK.1 hP 0 rfl rfl 21 (by decide) (hts _ mk_242) (fun _ h9 => h9) rfl dX8_turn_30 ?_
  refine lv_iload_n hx hb dX8_turn_33 rfl (lv_at hl 4 rfl) ?_
  refine lv_iconst (v := 3) hx hb dX8_turn_34 (by decide) ?_
  refine lv_iload_n hx hb dX8_turn_35 rfl (lv_at hl 5 rfl) ?_
  refine lv_imul hx hb dX8_turn_36 ?_
  refine lv_topi (fun v36 e36 => ?_)
  have b36 : kB v36 3 3 := kB_eq e36 (kB_mulc kc_3 kc_1 (by decide))
  refine lv_iadd hx hb dX8_turn_37 ?_
  refine lv_topi (fun v37 e37 => ?_)
  have b37 : kB v37 3 15 := kB_eq e37 (kB_add bfi b36 (by decide))
  refine va_lald hx hb hK.1 hP 1 1 rfl rfl (kB_in b37 (by decide)) dX8_turn_38 ?_
  refine lv_topl (fun v38 e38 => ?_)
  refine lv_lstore (lv' := [(9, .long v38), (7, .long v26), (5, .long v14), (3, .long v5), (0, .ref hm), (1, .int fi), (2, .int 1)]) hx hb dX8_turn_39 hl (by decide) rfl (fun ls hl => ?_)
  refine lv_lload_n hx hb dX8_turn_41 rfl (lv_at hl 3 rfl) ?_
  refine lv_lload hx hb dX8_turn_42 (lv_at hl 1 rfl) ?_
  refine lv_ladd hx hb dX8_turn_44 ?_
  refine lv_topl (fun v44 e44 => ?_)
  refine lv_lstore (lv' := [(11, .long v44), (9, .long v38), (7, .long v26), (5, .long v14), (3, .long v5), (0, .ref hm), (1, .int fi), (2, .int 1)]) hx hb dX8_turn_45 hl (by decide) rfl (fun ls hl => ?_)
  refine lv_lload_n hx hb dX8_turn_47 rfl (lv_at hl 4 rfl) ?_
  refine lv_lload hx hb dX8_turn_48 (lv_at hl 2 rfl) ?_
  refine lv_lsub hx hb dX8_turn_50 ?_
  refine lv_topl (fun v50 e50 => ?_)
  refine lv_lstore (lv' := [(13, .long v50), (11, .long v44), (9, .long v38), (7, .long v26), (5, .long v14), (3, .long v5), (0, .ref hm), (1, .int fi), (2, .int 1)]) hx hb dX8_turn_51 hl (by decide) rfl (fun ls hl => ?_)
  refine lv_lload hx hb dX8_turn_53 (lv_at hl 4 rfl) ?_
  have hPc := hP.sub (ws' := []) [] rfl
  have hDc := hD.sub (ws' := []) [] (by decide) rfl
  have hFc := va_free (wc := []) hD hS hA [] rfl
  refine va_calll (va_runS (As := [.long v14]) (rest := []) ⟨hx, hb, hml, hown, hts⟩ (c_X8_half l D cI cJ cZ v14 (s.heap).size) (cwS 1 hts (kg_S mk_243 mk_244 mk_189 mk_245) rfl rfl rfl (by decide +kernel) ⟨Nat.le_of_ble_eq_true rfl, Nat.le_of_ble_eq_true rfl⟩) ⟨fun a U g mk q => by obtain ⟨q0, q1, qP, qK, qD⟩ := q; exact ⟨q0, q1, qP, kK.call qK, qD⟩, fun U hU hW => ⟨rfl, by rw [hU], by rw [hU]; exact hPc, kK.warm hW hK, hDc.weaken (fun _ _ _ _ => trivial)⟩⟩ rfl rfl hl.1 rfl (lv_room (Nat.le_of_ble_eq_true rfl)) dX8_turn_55 ⟨Nat.zero_le _, Nat.zero_le _⟩) hS (fun q _ h => hFc q h) hFc (fun r55 u t9 H1 locs ht9 hvm9 hw9 hB9 hz9 hk9 hS => ?_)
  obtain ⟨hP1, hD1⟩ := hB9
  rw [ht9] at hP1
  have hP1 : va_P D vwCl [] H1 := hP1
  obtain ⟨hP, hD⟩ := va_join (wr := [(hm, .inr (8, [.int mrf, .ref hby, .int msz, .int mbg, .long mbt, .int mrg, .int mct, .int mvl, .int mpl, .int mcl, .int mrw, .int mqt, .int mlv, .int mtl, .int mbe, .int mch, .ref hpb, .ref hwa, .ref hmn, .ref hcf, .ref hsa, .ref hro])), (hro, .inl (cJ, 16, .inr (.inl mro)))]) (w1 := []) hP hD [] [0, 1] rfl rfl (by decide) (by decide) hk9 hFc hP1 hD1
  have hP := hP.sub (ws' := [(hm, .inr (8, [.int mrf, .ref hby, .int msz, .int mbg, .long mbt, .int mrg, .int mct, .int mvl, .int mpl, .int mcl, .int mrw, .int mqt, .int mlv, .int mtl, .int mbe, .int mch, .ref hpb, .ref hwa, .ref hmn, .ref hcf, .ref hsa, .ref hro])), (hro, .inl (cJ, 16, .inr (.inl mro)))]) [0, 1] rfl
  have hD := hD.sub (ws' := [(hm, .inr (8, [.int mrf, .ref hby, .int msz, .int mbg, .long mbt, .int mrg, .int mct, .int mvl, .int mpl, .int mcl, .int mrw, .int mqt, .int mlv, .int mtl, .int mbe, .int mch, .ref hpb, .ref hwa, .ref hmn, .ref hcf, .ref hsa, .ref hro])), (hro, .inl (cJ, 16, .inr (.inl mro)))]) [0, 1] (by decide) rfl
  generalize H1 = H at hP hS ⊢
  refine lv_lload hx hb dX8_turn_58 (lv_at hl 2 rfl) ?_
  have hPc := hP.sub (ws' := []) [] rfl
  have hDc := hD.sub (ws' := []) [] (by decide) rfl
  have hFc := va_free (wc := []) hD hS hA [] rfl
  refine va_calll (va_runS (As := [.long v38]) (rest := [.long r55]) ⟨hx, hb, hml, hown, hts⟩ (c_X8_whole l D cI cJ cZ v38 (H).size) (cwS 1 hts (kg_S mk_246 mk_247 mk_189 mk_248) rfl rfl rfl (by decide +kernel) ⟨Nat.le_of_ble_eq_true rfl, Nat.le_of_ble_eq_true rfl⟩) ⟨fun a U g mk q => by obtain ⟨q0, q1, qP, qK, qD⟩ := q; exact ⟨q0, q1, qP, kK.call qK, qD⟩, fun U hU hW => ⟨rfl, by rw [hU], by rw [hU]; exact hPc, kK.warm hW hK, hDc.weaken (fun _ _ _ _ => trivial)⟩⟩ rfl rfl hl.1 rfl (lv_room (Nat.le_of_ble_eq_true rfl)) dX8_turn_60 ⟨Nat.zero_le _, Nat.zero_le _⟩) hS (fun q _ h => hFc q h) hFc (fun r60 u t9 H1 locs ht9 hvm9 hw9 hB9 hz9 hk9 hS => ?_)
  obtain ⟨hP1, hD1⟩ := hB9
  rw [ht9] at hP1
  have hP1 : va_P D vwCl [] H1 := hP1
  obtain ⟨hP, hD⟩ := va_join (wr := [(hm, .inr (8, [.int mrf, .ref hby, .int msz, .int mbg, .long mbt, .int mrg, .int mct, .int mvl, .int mpl, .int mcl, .int mrw, .int mqt, .int mlv, .int mtl, .int mbe, .int mch, .ref hpb, .ref hwa, .ref hmn, .ref hcf, .ref hsa, .ref hro])), (hro, .inl (cJ, 16, .inr (.inl mro)))]) (w1 := []) hP hD [] [0, 1] rfl rfl (by decide) (by decide) hk9 hFc hP1 hD1
  have hP := hP.sub (ws' := [(hm, .inr (8, [.int mrf, .ref hby, .int msz, .int mbg, .long mbt, .int mrg, .int mct, .int mvl, .int mpl, .int mcl, .int mrw, .int mqt, .int mlv, .int mtl, .int mbe, .int mch, .ref hpb, .ref hwa, .ref hmn, .ref hcf, .ref hsa, .ref hro])), (hro, .inl (cJ, 16, .inr (.inl mro)))]) [0, 1] rfl
  have hD := hD.sub (ws' := [(hm, .inr (8, [.int mrf, .ref hby, .int msz, .int mbg, .long mbt, .int mrg, .int mct, .int mvl, .int mpl, .int mcl, .int mrw, .int mqt, .int mlv, .int mtl, .int mbe, .int mch, .ref hpb, .ref hwa, .ref hmn, .ref hcf, .ref hsa, .ref hro])), (hro, .inl (cJ, 16, .inr (.inl mro)))]) [0, 1] (by decide) rfl
  generalize H1 = H at hP hS ⊢
  refine lv_lsub hx hb dX8_turn_63 ?_
  refine lv_topl (fun v63 e63 => ?_)
  refine lv_lstore (lv' := [(15, .long v63), (13, .long v50), (11, .long v44), (9, .long v38), (7, .long v26), (5, .long v14), (3, .long v5), (0, .ref hm), (1, .int fi), (2, .int 1)]) hx hb dX8_turn_64 hl (by decide) rfl (fun ls hl => ?_)
  refine lv_lload hx hb dX8_turn_66 (lv_at hl 5 rfl) ?_
  have hPc := hP.sub (ws' := []) [] rfl
  have hDc := hD.sub (ws' := []) [] (by decide) rfl
  have hFc := va_free (wc := []) hD hS hA [] rfl
  refine va_calll (va_runS (As := [.long v14]) (rest := []) ⟨hx, hb, hml, hown, hts⟩ (c_X8_whole l D cI cJ cZ v14 (H).size) (cwS 1 hts (kg_S mk_246 mk_247 mk_189 mk_248) rfl rfl rfl (by decide +kernel) ⟨Nat.le_of_ble_eq_true rfl, Nat.le_of_ble_eq_true rfl⟩) ⟨fun a U g mk q => by obtain ⟨q0, q1, qP, qK, qD⟩ := q; exact ⟨q0, q1, qP, kK.call qK, qD⟩, fun U hU hW => ⟨rfl, by rw [hU], by rw [hU]; exact hPc, kK.warm hW hK, hDc.weaken (fun _ _ _ _ => trivial)⟩⟩ rfl rfl hl.1 rfl (lv_room (Nat.le_of_ble_eq_true rfl)) dX8_turn_68 ⟨Nat.zero_le _, Nat.zero_le _⟩) hS (fun q _ h => hFc q h) hFc (fun r68 u t9 H1 locs ht9 hvm9 hw9 hB9 hz9 hk9 hS => ?_)
  obtain ⟨hP1, hD1⟩ := hB9
  rw [ht9] at hP1
  have hP1 : va_P D vwCl [] H1 := hP1
  obtain ⟨hP, hD⟩ := va_join (wr := [(hm, .inr (8, [.int mrf, .ref hby, .int msz, .int mbg, .long mbt, .int mrg, .int mct, .int mvl, .int mpl, .int mcl, .int mrw, .int mqt, .int mlv, .int mtl, .int mbe, .int mch, .ref hpb, .ref hwa, .ref hmn, .ref hcf, .ref hsa, .ref hro])), (hro, .inl (cJ, 16, .inr (.inl mro)))]) (w1 := []) hP hD [] [0, 1] rfl rfl (by decide) (by decide) hk9 hFc hP1 hD1
  have hP := hP.sub (ws' := [(hm, .inr (8, [.int mrf, .ref hby, .int msz, .int mbg, .long mbt, .int mrg, .int mct, .int mvl, .int mpl, .int mcl, .int mrw, .int mqt, .int mlv, .int mtl, .int mbe, .int mch, .ref hpb, .ref hwa, .ref hmn, .ref hcf, .ref hsa, .ref hro])), (hro, .inl (cJ, 16, .inr (.inl mro)))]) [0, 1] rfl
  have hD := hD.sub (ws' := [(hm, .inr (8, [.int mrf, .ref hby, .int msz, .int mbg, .long mbt, .int mrg, .int mct, .int mvl, .int mpl, .int mcl, .int mrw, .int mqt, .int mlv, .int mtl, .int mbe, .int mch, .ref hpb, .ref hwa, .ref hmn, .ref hcf, .ref hsa, .ref hro])), (hro, .inl (cJ, 16, .inr (.inl mro)))]) [0, 1] (by decide) rfl
  generalize H1 = H at hP hS ⊢
  refine lv_lload hx hb dX8_turn_71 (lv_at hl 3 rfl) ?_
  have hPc := hP.sub (ws' := []) [] rfl
  have hDc := hD.sub (ws' := []) [] (by decide) rfl
  have hFc := va_free (wc := []) hD hS hA [] rfl
  refine va_calll (va_runS (As := [.long v38]) (rest := [.long r68]) ⟨hx, hb, hml, hown, hts⟩ (c_X8_half l D cI cJ cZ v38 (H).size) (cwS 1 hts (kg_S mk_243 mk_244 mk_189 mk_245) rfl rfl rfl (by decide +kernel) ⟨Nat.le_of_ble_eq_true rfl, Nat.le_of_ble_eq_true rfl⟩) ⟨fun a U g mk q => by obtain ⟨q0, q1, qP, qK, qD⟩ := q; exact ⟨q0, q1, qP, kK.call qK, qD⟩, fun U hU hW => ⟨rfl, by rw [hU], by rw [hU]; exact hPc, kK.warm hW hK, hDc.weaken (fun _ _ _ _ => trivial)⟩⟩ rfl rfl hl.1 rfl (lv_room (Nat.le_of_ble_eq_true rfl)) dX8_turn_73 ⟨Nat.zero_le _, Nat.zero_le _⟩) hS (fun q _ h => hFc q h) hFc (fun r73 u t9 H1 locs ht9 hvm9 hw9 hB9 hz9 hk9 hS => ?_)
  obtain ⟨hP1, hD1⟩ := hB9
  rw [ht9] at hP1
  have hP1 : va_P D vwCl [] H1 := hP1
  obtain ⟨hP, hD⟩ := va_join (wr := [(hm, .inr (8, [.int mrf, .ref hby, .int msz, .int mbg, .long mbt, .int mrg, .int mct, .int mvl, .int mpl, .int mcl, .int mrw, .int mqt, .int mlv, .int mtl, .int mbe, .int mch, .ref hpb, .ref hwa, .ref hmn, .ref hcf, .ref hsa, .ref hro])), (hro, .inl (cJ, 16, .inr (.inl mro)))]) (w1 := []) hP hD [] [0, 1] rfl rfl (by decide) (by decide) hk9 hFc hP1 hD1
  have hP := hP.sub (ws' := [(hm, .inr (8, [.int mrf, .ref hby, .int msz, .int mbg, .long mbt, .int mrg, .int mct, .int mvl, .int mpl, .int mcl, .int mrw, .int mqt, .int mlv, .int mtl, .int mbe, .int mch, .ref hpb, .ref hwa, .ref hmn, .ref hcf, .ref hsa, .ref hro])), (hro, .inl (cJ, 16, .inr (.inl mro)))]) [0, 1] rfl
  have hD := hD.sub (ws' := [(hm, .inr (8, [.int mrf, .ref hby, .int msz, .int mbg, .long mbt, .int mrg, .int mct, .int mvl, .int mpl, .int mcl, .int mrw, .int mqt, .int mlv, .int mtl, .int mbe, .int mch, .ref hpb, .ref hwa, .ref hmn, .ref hcf, .ref hsa, .ref hro])), (hro, .inl (cJ, 16, .inr (.inl mro)))]) [0, 1] (by decide) rfl
  generalize H1 = H at hP hS ⊢
  refine lv_ladd hx hb dX8_turn_76 ?_
  refine lv_topl (fun v76 e76 => ?_)
  refine lv_lstore (lv' := [(17, .long v76), (15, .long v63), (13, .long v50), (11, .long v44), (9, .long v38), (7, .long v26), (5, .long v14), (3, .long v5), (0, .ref hm), (1, .int fi), (2, .int 1)]) hx hb dX8_turn_77 hl (by decide) rfl (fun ls hl => ?_)
  refine lv_aload_n hx hb dX8_turn_79 rfl (lv_at hl 8 rfl) ?_
  refine va_get (D := D) (ci := 8) (v := .ref hro) (C := RX8) (T := TX8) (N := 22) hx hb hts in_X8 hown hK.1 hP 0 rfl rfl 21 (by decide) (hts _ mk_242) (fun _ h9 => h9) rfl dX8_turn_80 ?_
  refine lv_iload_n hx hb dX8_turn_83 rfl (lv_at hl 9 rfl) ?_
  refine lv_lload hx hb dX8_turn_84 (lv_at hl 3 rfl) ?_
  refine lv_lload hx hb dX8_turn_86 (lv_at hl 0 rfl) ?_
  refine lv_ladd hx hb dX8_turn_88 ?_
  refine lv_topl (fun v88 e88 => ?_)
  refine va_last hx hb hK.1 hP hD hS 1 1 rfl rfl (kB_in bfi (by decide)) dX8_turn_89 (fun H locs hP hD hS => ?_)
  have hP : va_P D vwCl [(hm, .inr (8, [.int mrf, .ref hby, .int msz, .int mbg, .long mbt, .int mrg, .int mct, .int mvl, .int mpl, .int mcl, .int mrw, .int mqt, .int mlv, .int mtl, .int mbe, .int mch, .ref hpb, .ref hwa, .ref hmn, .ref hcf, .ref hsa, .ref hro])), (hro, .inl (cJ, 16, .inr (.inl (vp_updL mro fi.toNatClampNeg v88))))] H := hP
  have hD : va_D A [(hm, .inr (8, [.int mrf, .ref hby, .int msz, .int mbg, .long mbt, .int mrg, .int mct, .int mvl, .int mpl, .int mcl, .int mrw, .int mqt, .int mlv, .int mtl, .int mbe, .int mch, .ref hpb, .ref hwa, .ref hmn, .ref hcf, .ref hsa, .ref hro])), (hro, .inl (cJ, 16, .inr (.inl (vp_updL mro fi.toNatClampNeg v88))))] := hD
  generalize hf89 : vp_updL mro fi.toNatClampNeg v88 = f89 at hP hD
  refine lv_aload_n hx hb dX8_turn_90 rfl (lv_at hl 8 rfl) ?_
  refine va_get (D := D) (ci := 8) (v := .ref hro) (C := RX8) (T := TX8) (N := 22) hx hb hts in_X8 hown hK.1 hP 0 rfl rfl 21 (by decide) (hts _ mk_242) (fun _ h9 => h9) rfl dX8_turn_91 ?_
  refine lv_iload_n hx hb dX8_turn_94 rfl (lv_at hl 9 rfl) ?_
  refine lv_iload_n hx hb dX8_turn_95 rfl (lv_at hl 10 rfl) ?_
  refine lv_iadd hx hb dX8_turn_96 ?_
  refine lv_topi (fun v96 e96 => ?_)
  have b96 : kB v96 1 13 := kB_eq e96 (kB_add bfi kc_1 (by decide))
  refine lv_lload hx hb dX8_turn_97 (lv_at hl 2 rfl) ?_
  refine lv_lload hx hb dX8_turn_99 (lv_at hl 1 rfl) ?_
  refine lv_ladd hx hb dX8_turn_101 ?_
  refine lv_topl (fun v101 e101 => ?_)
  refine va_last hx hb hK.1 hP hD hS 1 1 rfl rfl (kB_in b96 (by decide)) dX8_turn_102 (fun H locs hP hD hS => ?_)
  have hP : va_P D vwCl [(hm, .inr (8, [.int mrf, .ref hby, .int msz, .int mbg, .long mbt, .int mrg, .int mct, .int mvl, .int mpl, .int mcl, .int mrw, .int mqt, .int mlv, .int mtl, .int mbe, .int mch, .ref hpb, .ref hwa, .ref hmn, .ref hcf, .ref hsa, .ref hro])), (hro, .inl (cJ, 16, .inr (.inl (vp_updL f89 v96.toNatClampNeg v101))))] H := hP
  have hD : va_D A [(hm, .inr (8, [.int mrf, .ref hby, .int msz, .int mbg, .long mbt, .int mrg, .int mct, .int mvl, .int mpl, .int mcl, .int mrw, .int mqt, .int mlv, .int mtl, .int mbe, .int mch, .ref hpb, .ref hwa, .ref hmn, .ref hcf, .ref hsa, .ref hro])), (hro, .inl (cJ, 16, .inr (.inl (vp_updL f89 v96.toNatClampNeg v101))))] := hD
  generalize hf102 : vp_updL f89 v96.toNatClampNeg v101 = f102 at hP hD
  refine lv_aload_n hx hb dX8_turn_103 rfl (lv_at hl 8 rfl) ?_
  refine va_get (D := D) (ci := 8) (v := .ref hro) (C := RX8) (T := TX8) (N := 22) hx hb hts in_X8 hown hK.1 hP 0 rfl rfl 21 (by decide) (hts _ mk_242) (fun _ h9 => h9) rfl dX8_turn_104 ?_
  refine lv_iload_n hx hb dX8_turn_107 rfl (lv_at hl 9 rfl) ?_
  refine lv_iconst (v := 2) hx hb dX8_turn_108 (by decide) ?_
  refine lv_iload_n hx hb dX8_turn_109 rfl (lv_at hl 10 rfl) ?_
  refine lv_imul hx hb dX8_turn_110 ?_
  refine lv_topi (fun v110 e110 => ?_)
  have b110 : kB v110 2 2 := kB_eq e110 (kB_mulc kc_2 kc_1 (by decide))
  refine lv_iadd hx hb dX8_turn_111 ?_
  refine lv_topi (fun v111 e111 => ?_)
  have b111 : kB v111 2 14 := kB_eq e111 (kB_add bfi b110 (by decide))
  refine lv_lload hx hb dX8_turn_112 (lv_at hl 2 rfl) ?_
  refine lv_lload hx hb dX8_turn_114 (lv_at hl 1 rfl) ?_
  refine lv_lsub hx hb dX8_turn_116 ?_
  refine lv_topl (fun v116 e116 => ?_)
  refine va_last hx hb hK.1 hP hD hS 1 1 rfl rfl (kB_in b111 (by decide)) dX8_turn_117 (fun H locs hP hD hS => ?_)
  have hP : va_P D vwCl [(hm, .inr (8, [.int mrf, .ref hby, .int msz, .int mbg, .long mbt, .int mrg, .int mct, .int mvl, .int mpl, .int mcl, .int mrw, .int mqt, .int mlv, .int mtl, .int mbe, .int mch, .ref hpb, .ref hwa, .ref hmn, .ref hcf, .ref hsa, .ref hro])), (hro, .inl (cJ, 16, .inr (.inl (vp_updL f102 v111.toNatClampNeg v116))))] H := hP
  have hD : va_D A [(hm, .inr (8, [.int mrf, .ref hby, .int msz, .int mbg, .long mbt, .int mrg, .int mct, .int mvl, .int mpl, .int mcl, .int mrw, .int mqt, .int mlv, .int mtl, .int mbe, .int mch, .ref hpb, .ref hwa, .ref hmn, .ref hcf, .ref hsa, .ref hro])), (hro, .inl (cJ, 16, .inr (.inl (vp_updL f102 v111.toNatClampNeg v116))))] := hD
  generalize hf117 : vp_updL f102 v111.toNatClampNeg v116 = f117 at hP hD
  refine lv_aload_n hx hb dX8_turn_118 rfl (lv_at hl 8 rfl) ?_
  refine va_get (D := D) (ci := 8) (v := .ref hro) (C := RX8) (T := TX8) (N := 22) hx hb hts in_X8 hown hK.1 hP 0 rfl rfl 21 (by decide) (hts _ mk_242) (fun _ h9 => h9) rfl dX8_turn_119 ?_
  refine lv_iload_n hx hb dX8_turn_122 rfl (lv_at hl 9 rfl) ?_
  refine lv_iconst (v := 3) hx hb dX8_turn_123 (by decide) ?_
  refine lv_iload_n hx hb dX8_turn_124 rfl (lv_at hl 10 rfl) ?_
  refine lv_imul hx hb dX8_turn_125 ?_
  refine lv_topi (fun v125 e125 => ?_)
  have b125 : kB v125 3 3 := kB_eq e125 (kB_mulc kc_3 kc_1 (by decide))
  refine lv_iadd hx hb dX8_turn_126 ?_
  refine lv_topi (fun v126 e126 => ?_)
  have b126 : kB v126 3 15 := kB_eq e126 (kB_add bfi b125 (by decide))
  refine lv_lload hx hb dX8_turn_127 (lv_at hl 3 rfl) ?_
  refine lv_lload hx hb dX8_turn_129 (lv_at hl 0 rfl) ?_
  refine lv_lsub hx hb dX8_turn_131 ?_
  refine lv_topl (fun v131 e131 => ?_)
  refine va_last hx hb hK.1 hP hD hS 1 1 rfl rfl (kB_in b126 (by decide)) dX8_turn_132 (fun H locs hP hD hS => ?_)
  have hP : va_P D vwCl [(hm, .inr (8, [.int mrf, .ref hby, .int msz, .int mbg, .long mbt, .int mrg, .int mct, .int mvl, .int mpl, .int mcl, .int mrw, .int mqt, .int mlv, .int mtl, .int mbe, .int mch, .ref hpb, .ref hwa, .ref hmn, .ref hcf, .ref hsa, .ref hro])), (hro, .inl (cJ, 16, .inr (.inl (vp_updL f117 v126.toNatClampNeg v131))))] H := hP
  have hD : va_D A [(hm, .inr (8, [.int mrf, .ref hby, .int msz, .int mbg, .long mbt, .int mrg, .int mct, .int mvl, .int mpl, .int mcl, .int mrw, .int mqt, .int mlv, .int mtl, .int mbe, .int mch, .ref hpb, .ref hwa, .ref hmn, .ref hcf, .ref hsa, .ref hro])), (hro, .inl (cJ, 16, .inr (.inl (vp_updL f117 v126.toNatClampNeg v131))))] := hD
  generalize hf132 : vp_updL f117 v126.toNatClampNeg v131 = f132 at hP hD
  exact W.vret hx hb hr (fun t9 ht9 hW9 => ⟨⟨f132, rfl, trivial, by rw [ht9]; exact hP, hD⟩, hS.F ht9⟩) hS.2.2 dX8_turn_133
abbrev kw_X8_transform : List Cond := Cond.code yX8_transform cX8_transform 5 none :: kW
set_option maxHeartbeats 4000000 in
set_option maxRecDepth 100000 in
theorem lp_X8_transform_108 {p : Program} {l : Launch} {e : Env} {s : State} {m : MethodId} {args : Array Value} {below : List Frame} {meth : Method} {c : Code} {A : Nat → Prop} (D : va_G) (cI cJ cZ : ClassId) (hm hby hpb hwa hmn hcf hsa hro : Nat) (mrf : Int32) (msz : Int32) (mbg : Int32) (mrg : Int32) (mct : Int32) (mvl : Int32) (mpl : Int32) (mcl : Int32) (mrw : Int32) (mqt : Int32) (mlv : Int32) (mtl : Int32) (mbe : Int32) (mch : Int32) (mbt : Int64) (mcf : Nat → Int32) (mro : Nat → Int64) (k : Int32) (bk : kB k 0 15) (hx : p.tables.exec = Jvm.exec) (hb : c.code = cX8_transform) (hr : meth.sig.returnType = none) (hml : c.maxLocals = 5) (hown : s.vm.findClass RX8 = some m.cls) (hts : ∀ w ∈ kW, w.before args s = true) (hlocks : meth.locks = false) (hK : kK D cI cJ cZ s) (hA : ∀ q : Nat, s.heap.size ≤ q → A q) : ∀ n : Nat, ∀ (x2 : Int32) (mro2 : Nat → Int64), (16 - x2.toInt).toNat < n → (kB x2 0 16) → ∀ (H : Heap) (locs : List Loc) (ls : Array Slot), va_P D vwCl [(hm, .inr (8, [.int mrf, .ref hby, .int msz, .int mbg, .long mbt, .int mrg, .int mct, .int mvl, .int mpl, .int mcl, .int mrw, .int mqt, .int mlv, .int mtl, .int mbe, .int mch, .ref hpb, .ref hwa, .ref hmn, .ref hcf, .ref hsa, .ref hro])), (hcf, .inl (cI, 256, .inl mcf)), (hro, .inl (cJ, 16, .inr (.inl mro2)))] H → va_D A [(hm, .inr (8, [.int mrf, .ref hby, .int msz, .int mbg, .long mbt, .int mrg, .int mct, .int mvl, .int mpl, .int mcl, .int mrw, .int mqt, .int mlv, .int mtl, .int mbe, .int mch, .ref hpb, .ref hwa, .ref hmn, .ref hcf, .ref hsa, .ref hro])), (hcf, .inl (cI, 256, .inl mcf)), (hro, .inl (cJ, 16, .inr (.inl mro2)))] → va_S A s.heap H locs → lv_has ls 5 [(0, .ref hm), (1, .int k), (2, .int x2)] → W p l e (headSpec kw_X8_transform ({ frames := 2, cells := 0, slots := 0, locals := 59 })).room s m args below meth c H locs 0 0 (MQ below (va_Qv (fun (u : (Nat → Int64)) => True) (fun (u : (Nat → Int64)) (t : State) => va_P D vwCl [(hm, .inr (8, [.int mrf, .ref hby, .int msz, .int mbg, .long mbt, .int mrg, .int mct, .int mvl, .int mpl, .int mcl, .int mrw, .int mqt, .int mlv, .int mtl, .int mbe, .int mch, .ref hpb, .ref hwa, .ref hmn, .ref hcf, .ref hsa, .ref hro])), (hcf, .inl (cI, 256, .inl mcf)), (hro, .inl (cJ, 16, .inr (.inl u)))] t.heap ∧ va_D A [(hm, .inr (8, [.int mrf, .ref hby, .int msz, .int mbg, .long mbt, .int mrg, .int mct, .int mvl, .int mpl, .int mcl, .int mrw, .int mqt, .int mlv, .int mtl, .int mbe, .int mch, .ref hpb, .ref hwa, .ref hmn, .ref hcf, .ref hsa, .ref hro])), (hcf, .inl (cI, 256, .inl mcf)), (hro, .inl (cJ, 16, .inr (.inl u)))]) A) args s 0 0 A) (F0 m 108 ls []) := by
  intro n
  induction n with
  | zero => intro x2 mro2 hmeas; exact absurd hmeas (Nat.not_lt_zero _)
  | succ n ih =>
    intro x2 mro2 hmeas b2 H locs ls hP hD hS hl
    refine lv_iload_n hx hb dX8_transform_108 rfl (lv_at hl 2 rfl) ?_
    refine lv_bipush (v := 16) hx hb dX8_transform_109 (by decide) ?_
    refine lv_icmp_ge (tgt := 138) hx hb dX8_transform_111 (by decide) (fun c111 => ?_) (fun c111 => ?_)
    · have c111y : kB x2 16 16 := kB_le_r kc_16 b2 c111 (by decide)
      exact W.vret hx hb hr (fun t9 ht9 hW9 => ⟨⟨mro2, rfl, trivial, by rw [ht9]; exact hP, hD⟩, hS.F ht9⟩) hS.2.2 dX8_transform_138
    · have c111n : x2 < 16 := kN_le c111
      have c111nx : kB x2 0 15 := kB_lt_l b2 kc_16 c111n (by decide)
      refine lv_aload_n hx hb dX8_transform_114 rfl (lv_at hl 0 rfl) ?_
      refine va_get (D := D) (ci := 8) (v := .ref hro) (C := RX8) (T := TX8) (N := 22) hx hb hts in_X8 hown hK.1 hP 0 rfl rfl 21 (by decide) (hts _ mk_242) (fun _ h9 => h9) rfl dX8_transform_115 ?_
      refine lv_iload_n hx hb dX8_transform_118 rfl (lv_at hl 2 rfl) ?_
      refine lv_aload_n hx hb dX8_transform_119 rfl (lv_at hl 0 rfl) ?_
      refine va_get (D := D) (ci := 8) (v := .ref hro) (C := RX8) (T := TX8) (N := 22) hx hb hts in_X8 hown hK.1 hP 0 rfl rfl 21 (by decide) (hts _ mk_242) (fun _ h9 => h9) rfl dX8_transform_120 ?_
      refine lv_iload_n hx hb dX8_transform_123 rfl (lv_at hl 2 rfl) ?_
      refine va_lald hx hb hK.1 hP 2 1 rfl rfl (kB_in c111nx (by decide)) dX8_transform_124 ?_
      refine lv_topl (fun v124 e124 => ?_)
      refine lv_ldc2 (v := 4) hx hb hown (hts _ mk_249) dX8_transform_125 ?_
      refine lv_ladd hx hb dX8_transform_128 ?_
      refine lv_topl (fun v128 e128 => ?_)
      refine lv_iconst (v := 3) hx hb dX8_transform_129 (by decide) ?_
      refine lv_lshr hx hb dX8_transform_130 rfl ?_
      refine lv_topl (fun v130 e130 => ?_)
      refine va_last hx hb hK.1 hP hD hS 2 1 rfl rfl (kB_in c111nx (by decide)) dX8_transform_131 (fun H locs hP hD hS => ?_)
      have hP : va_P D vwCl [(hm, .inr (8, [.int mrf, .ref hby, .int msz, .int mbg, .long mbt, .int mrg, .int mct, .int mvl, .int mpl, .int mcl, .int mrw, .int mqt, .int mlv, .int mtl, .int mbe, .int mch, .ref hpb, .ref hwa, .ref hmn, .ref hcf, .ref hsa, .ref hro])), (hcf, .inl (cI, 256, .inl mcf)), (hro, .inl (cJ, 16, .inr (.inl (vp_updL mro2 x2.toNatClampNeg v130))))] H := hP
      have hD : va_D A [(hm, .inr (8, [.int mrf, .ref hby, .int msz, .int mbg, .long mbt, .int mrg, .int mct, .int mvl, .int mpl, .int mcl, .int mrw, .int mqt, .int mlv, .int mtl, .int mbe, .int mch, .ref hpb, .ref hwa, .ref hmn, .ref hcf, .ref hsa, .ref hro])), (hcf, .inl (cI, 256, .inl mcf)), (hro, .inl (cJ, 16, .inr (.inl (vp_updL mro2 x2.toNatClampNeg v130))))] := hD
      generalize hf131 : vp_updL mro2 x2.toNatClampNeg v130 = f131 at hP hD
      obtain ⟨v132, e132⟩ : ∃ y : Int32, y = x2 + 1 := ⟨_, rfl⟩
      refine lv_iinc (v := v132) (lv' := [(2, .int v132), (0, .ref hm), (1, .int k)]) hx hb dX8_transform_132 hl (k := 2) rfl (by rw [e132]; rfl) (by decide) rfl (fun ls hl => ?_)
      have b132 : kB v132 1 16 := kB_eq e132 (kB_add c111nx kc_1 (by decide))
      have t132 : v132.toInt = x2.toInt + 1 := by rw [e132]; exact kinc (kB_w c111nx (by decide) (by decide))
      refine lv_goto (tgt := 108) hx hb dX8_transform_135 (by decide) ?_
      exact ih v132 f131 (by have := b132.1; have := b132.2; have := c111nx.1; have := c111nx.2; omega) (kB_w b132 (by decide) (by decide)) _ _ ls hP hD hS (lv_sub hl [1, 2, 0] rfl)
set_option maxHeartbeats 4000000 in
set_option maxRecDepth 100000 in
theorem lp_X8_transform_87 {p : Program} {l : Launch} {e : Env} {s : State} {m : MethodId} {args : Array Value} {below : List Frame} {meth : Method} {c : Code} {A : Nat → Prop} (D : va_G) (cI cJ cZ : ClassId) (hm hby hpb hwa hmn hcf hsa hro : Nat) (mrf : Int32) (msz : Int32) (mbg : Int32) (mrg : Int32) (mct : Int32) (mvl : Int32) (mpl : Int32) (mcl : Int32) (mrw : Int32) (mqt : Int32) (mlv : Int32) (mtl : Int32) (mbe : Int32) (mch : Int32) (mbt : Int64) (mcf : Nat → Int32) (mro : Nat → Int64) (k : Int32) (bk : kB k 0 15) (hx : p.tables.exec = Jvm.exec) (hb : c.code = cX8_transform) (hr : meth.sig.returnType = none) (hml : c.maxLocals = 5) (hown : s.vm.findClass RX8 = some m.cls) (hts : ∀ w ∈ kW, w.before args s = true) (hlocks : meth.locks = false) (hK : kK D cI cJ cZ s) (hA : ∀ q : Nat, s.heap.size ≤ q → A q) : ∀ n : Nat, ∀ (x2 : Int32) (mro2 : Nat → Int64), (4 - x2.toInt).toNat < n → (kB x2 0 4) → ∀ (H : Heap) (locs : List Loc) (ls : Array Slot), va_P D vwCl [(hm, .inr (8, [.int mrf, .ref hby, .int msz, .int mbg, .long mbt, .int mrg, .int mct, .int mvl, .int mpl, .int mcl, .int mrw, .int mqt, .int mlv, .int mtl, .int mbe, .int mch, .ref hpb, .ref hwa, .ref hmn, .ref hcf, .ref hsa, .ref hro])), (hcf, .inl (cI, 256, .inl mcf)), (hro, .inl (cJ, 16, .inr (.inl mro2)))] H → va_D A [(hm, .inr (8, [.int mrf, .ref hby, .int msz, .int mbg, .long mbt, .int mrg, .int mct, .int mvl, .int mpl, .int mcl, .int mrw, .int mqt, .int mlv, .int mtl, .int mbe, .int mch, .ref hpb, .ref hwa, .ref hmn, .ref hcf, .ref hsa, .ref hro])), (hcf, .inl (cI, 256, .inl mcf)), (hro, .inl (cJ, 16, .inr (.inl mro2)))] → va_S A s.heap H locs → lv_has ls 5 [(0, .ref hm), (1, .int k), (2, .int x2)] → W p l e (headSpec kw_X8_transform ({ frames := 2, cells := 0, slots := 0, locals := 59 })).room s m args below meth c H locs 0 0 (MQ below (va_Qv (fun (u : (Nat → Int64)) => True) (fun (u : (Nat → Int64)) (t : State) => va_P D vwCl [(hm, .inr (8, [.int mrf, .ref hby, .int msz, .int mbg, .long mbt, .int mrg, .int mct, .int mvl, .int mpl, .int mcl, .int mrw, .int mqt, .int mlv, .int mtl, .int mbe, .int mch, .ref hpb, .ref hwa, .ref hmn, .ref hcf, .ref hsa, .ref hro])), (hcf, .inl (cI, 256, .inl mcf)), (hro, .inl (cJ, 16, .inr (.inl u)))] t.heap ∧ va_D A [(hm, .inr (8, [.int mrf, .ref hby, .int msz, .int mbg, .long mbt, .int mrg, .int mct, .int mvl, .int mpl, .int mcl, .int mrw, .int mqt, .int mlv, .int mtl, .int mbe, .int mch, .ref hpb, .ref hwa, .ref hmn, .ref hcf, .ref hsa, .ref hro])), (hcf, .inl (cI, 256, .inl mcf)), (hro, .inl (cJ, 16, .inr (.inl u)))]) A) args s 0 0 A) (F0 m 87 ls []) := by
  intro n
  induction n with
  | zero => intro x2 mro2 hmeas; exact absurd hmeas (Nat.not_lt_zero _)
  | succ n ih =>
    intro x2 mro2 hmeas b2 H locs ls hP hD hS hl
    refine lv_iload_n hx hb dX8_transform_87 rfl (lv_at hl 2 rfl) ?_
    refine lv_iconst (v := 4) hx hb dX8_transform_88 (by decide) ?_
    refine lv_icmp_ge (tgt := 106) hx hb dX8_transform_89 (by decide) (fun c89 => ?_) (fun c89 => ?_)
    · have c89y : kB x2 4 4 := kB_le_r kc_4 b2 c89 (by decide)
      refine lv_iconst (v := 0) hx hb dX8_transform_106 (by decide) ?_
      refine lv_istore_n (lv' := [(2, .int 0), (0, .ref hm), (1, .int k)]) hx hb dX8_transform_107 rfl hl (by decide) rfl (fun ls hl => ?_)
      exact lp_X8_transform_108 D cI cJ cZ hm hby hpb hwa hmn hcf hsa hro mrf msz mbg mrg mct mvl mpl mcl mrw mqt mlv mtl mbe mch mbt mcf mro k bk hx hb hr hml hown hts hlocks hK hA ((16 - (0 : Int32).toInt).toNat + 1) 0 mro2 (Nat.lt_succ_self _) (kB_w kc_0 (by decide) (by decide)) _ _ ls hP hD hS (lv_sub hl [1, 2, 0] rfl)
    · have c89n : x2 < 4 := kN_le c89
      have c89nx : kB x2 0 3 := kB_lt_l b2 kc_4 c89n (by decide)
      refine lv_aload_n hx hb dX8_transform_92 rfl (lv_at hl 0 rfl) ?_
      refine lv_iconst (v := 4) hx hb dX8_transform_93 (by decide) ?_
      refine lv_iload_n hx hb dX8_transform_94 rfl (lv_at hl 2 rfl) ?_
      refine lv_imul hx hb dX8_transform_95 ?_
      refine lv_topi (fun v95 e95 => ?_)
      have b95 : kB v95 0 12 := kB_eq e95 (kB_cmul kc_4 c89nx (by decide))
      refine lv_iconst (v := 1) hx hb dX8_transform_96 (by decide) ?_
      have hPc := hP.sub (ws' := [(hm, .inr (8, [.int mrf, .ref hby, .int msz, .int mbg, .long mbt, .int mrg, .int mct, .int mvl, .int mpl, .int mcl, .int mrw, .int mqt, .int mlv, .int mtl, .int mbe, .int mch, .ref hpb, .ref hwa, .ref hmn, .ref hcf, .ref hsa, .ref hro])), (hro, .inl (cJ, 16, .inr (.inl mro2)))]) [0, 2] rfl
      have hDc := hD.sub (ws' := [(hm, .inr (8, [.int mrf, .ref hby, .int msz, .int mbg, .long mbt, .int mrg, .int mct, .int mvl, .int mpl, .int mcl, .int mrw, .int mqt, .int mlv, .int mtl, .int mbe, .int mch, .ref hpb, .ref hwa, .ref hmn, .ref hcf, .ref hsa, .ref hro])), (hro, .inl (cJ, 16, .inr (.inl mro2)))]) [0, 2] (by decide) rfl
      have hFc := va_free (wc := [(hm, .inr (8, [.int mrf, .ref hby, .int msz, .int mbg, .long mbt, .int mrg, .int mct, .int mvl, .int mpl, .int mcl, .int mrw, .int mqt, .int mlv, .int mtl, .int mbe, .int mch, .ref hpb, .ref hwa, .ref hmn, .ref hcf, .ref hsa, .ref hro])), (hro, .inl (cJ, 16, .inr (.inl mro2)))]) hD hS hA [0, 2] rfl
      refine va_callv (va_runV (As := [.int v95, .int 1]) (rest := []) ⟨hx, hb, hml, hown, hts⟩ (c_X8_turn_b l D cI cJ cZ hm hby hpb hwa hmn hcf hsa hro mrf msz mbg mrg mct mvl mpl mcl mrw mqt mlv mtl mbe mch mbt mro2 v95 b95 (H).size) (cwV 2 hts (kg_V mk_250 mk_251 mk_252 mk_189 mk_253) rfl rfl rfl (by decide +kernel) ⟨Nat.le_of_ble_eq_true rfl, Nat.le_of_ble_eq_true rfl⟩) ⟨fun a U g mk q => by obtain ⟨q0, q1, qP, qK, qD⟩ := q; exact ⟨q0, q1, qP, kK.call qK, qD⟩, va_recv hK.1 hPc (ci := 8) (q0 := 0) rfl rfl, fun U hU hW => ⟨rfl, by rw [hU], by rw [hU]; exact hPc, kK.warm hW hK, hDc.weaken (fun _ _ _ _ => trivial)⟩⟩ rfl rfl hl.1 rfl (lv_room (Nat.le_of_ble_eq_true rfl)) dX8_transform_97 ⟨Nat.zero_le _, Nat.zero_le _⟩) hS (fun q _ h => hFc q h) hFc (fun u t9 H1 locs ht9 hvm9 hw9 hB9 hz9 hk9 hS => ?_)
      obtain ⟨mro2_97, rfl⟩ : ∃ z, z = u := ⟨_, rfl⟩
      obtain ⟨hP1, hD1⟩ := hB9
      rw [ht9] at hP1
      have hP1 : va_P D vwCl [(hm, .inr (8, [.int mrf, .ref hby, .int msz, .int mbg, .long mbt, .int mrg, .int mct, .int mvl, .int mpl, .int mcl, .int mrw, .int mqt, .int mlv, .int mtl, .int mbe, .int mch, .ref hpb, .ref hwa, .ref hmn, .ref hcf, .ref hsa, .ref hro])), (hro, .inl (cJ, 16, .inr (.inl mro2_97)))] H1 := hP1
      obtain ⟨hP, hD⟩ := va_join (wr := [(hcf, .inl (cI, 256, .inl mcf))]) (w1 := [(hm, .inr (8, [.int mrf, .ref hby, .int msz, .int mbg, .long mbt, .int mrg, .int mct, .int mvl, .int mpl, .int mcl, .int mrw, .int mqt, .int mlv, .int mtl, .int mbe, .int mch, .ref hpb, .ref hwa, .ref hmn, .ref hcf, .ref hsa, .ref hro])), (hro, .inl (cJ, 16, .inr (.inl mro2_97)))]) hP hD [0, 2] [1] rfl rfl (by decide) (by decide) hk9 hFc hP1 hD1
      have hP := hP.sub (ws' := [(hm, .inr (8, [.int mrf, .ref hby, .int msz, .int mbg, .long mbt, .int mrg, .int mct, .int mvl, .int mpl, .int mcl, .int mrw, .int mqt, .int mlv, .int mtl, .int mbe, .int mch, .ref hpb, .ref hwa, .ref hmn, .ref hcf, .ref hsa, .ref hro])), (hcf, .inl (cI, 256, .inl mcf)), (hro, .inl (cJ, 16, .inr (.inl mro2_97)))]) [1, 0, 2] rfl
      have hD := hD.sub (ws' := [(hm, .inr (8, [.int mrf, .ref hby, .int msz, .int mbg, .long mbt, .int mrg, .int mct, .int mvl, .int mpl, .int mcl, .int mrw, .int mqt, .int mlv, .int mtl, .int mbe, .int mch, .ref hpb, .ref hwa, .ref hmn, .ref hcf, .ref hsa, .ref hro])), (hcf, .inl (cI, 256, .inl mcf)), (hro, .inl (cJ, 16, .inr (.inl mro2_97)))]) [1, 0, 2] (by decide) rfl
      generalize H1 = H at hP hS ⊢
      obtain ⟨v100, e100⟩ : ∃ y : Int32, y = x2 + 1 := ⟨_, rfl⟩
      refine lv_iinc (v := v100) (lv' := [(2, .int v100), (0, .ref hm), (1, .int k)]) hx hb dX8_transform_100 hl (k := 2) rfl (by rw [e100]; rfl) (by decide) rfl (fun ls hl => ?_)
      have b100 : kB v100 1 4 := kB_eq e100 (kB_add c89nx kc_1 (by decide))
      have t100 : v100.toInt = x2.toInt + 1 := by rw [e100]; exact kinc (kB_w c89nx (by decide) (by decide))
      refine lv_goto (tgt := 87) hx hb dX8_transform_103 (by decide) ?_
      exact ih v100 mro2_97 (by have := b100.1; have := b100.2; have := c89nx.1; have := c89nx.2; omega) (kB_w b100 (by decide) (by decide)) _ _ ls hP hD hS (lv_sub hl [1, 2, 0] rfl)
set_option maxHeartbeats 4000000 in
set_option maxRecDepth 100000 in
theorem lp_X8_transform_68 {p : Program} {l : Launch} {e : Env} {s : State} {m : MethodId} {args : Array Value} {below : List Frame} {meth : Method} {c : Code} {A : Nat → Prop} (D : va_G) (cI cJ cZ : ClassId) (hm hby hpb hwa hmn hcf hsa hro : Nat) (mrf : Int32) (msz : Int32) (mbg : Int32) (mrg : Int32) (mct : Int32) (mvl : Int32) (mpl : Int32) (mcl : Int32) (mrw : Int32) (mqt : Int32) (mlv : Int32) (mtl : Int32) (mbe : Int32) (mch : Int32) (mbt : Int64) (mcf : Nat → Int32) (mro : Nat → Int64) (k : Int32) (bk : kB k 0 15) (hx : p.tables.exec = Jvm.exec) (hb : c.code = cX8_transform) (hr : meth.sig.returnType = none) (hml : c.maxLocals = 5) (hown : s.vm.findClass RX8 = some m.cls) (hts : ∀ w ∈ kW, w.before args s = true) (hlocks : meth.locks = false) (hK : kK D cI cJ cZ s) (hA : ∀ q : Nat, s.heap.size ≤ q → A q) : ∀ n : Nat, ∀ (x2 : Int32) (mro2 : Nat → Int64), (4 - x2.toInt).toNat < n → (kB x2 0 4) → ∀ (H : Heap) (locs : List Loc) (ls : Array Slot), va_P D vwCl [(hm, .inr (8, [.int mrf, .ref hby, .int msz, .int mbg, .long mbt, .int mrg, .int mct, .int mvl, .int mpl, .int mcl, .int mrw, .int mqt, .int mlv, .int mtl, .int mbe, .int mch, .ref hpb, .ref hwa, .ref hmn, .ref hcf, .ref hsa, .ref hro])), (hcf, .inl (cI, 256, .inl mcf)), (hro, .inl (cJ, 16, .inr (.inl mro2)))] H → va_D A [(hm, .inr (8, [.int mrf, .ref hby, .int msz, .int mbg, .long mbt, .int mrg, .int mct, .int mvl, .int mpl, .int mcl, .int mrw, .int mqt, .int mlv, .int mtl, .int mbe, .int mch, .ref hpb, .ref hwa, .ref hmn, .ref hcf, .ref hsa, .ref hro])), (hcf, .inl (cI, 256, .inl mcf)), (hro, .inl (cJ, 16, .inr (.inl mro2)))] → va_S A s.heap H locs → lv_has ls 5 [(0, .ref hm), (1, .int k), (2, .int x2)] → W p l e (headSpec kw_X8_transform ({ frames := 2, cells := 0, slots := 0, locals := 59 })).room s m args below meth c H locs 0 0 (MQ below (va_Qv (fun (u : (Nat → Int64)) => True) (fun (u : (Nat → Int64)) (t : State) => va_P D vwCl [(hm, .inr (8, [.int mrf, .ref hby, .int msz, .int mbg, .long mbt, .int mrg, .int mct, .int mvl, .int mpl, .int mcl, .int mrw, .int mqt, .int mlv, .int mtl, .int mbe, .int mch, .ref hpb, .ref hwa, .ref hmn, .ref hcf, .ref hsa, .ref hro])), (hcf, .inl (cI, 256, .inl mcf)), (hro, .inl (cJ, 16, .inr (.inl u)))] t.heap ∧ va_D A [(hm, .inr (8, [.int mrf, .ref hby, .int msz, .int mbg, .long mbt, .int mrg, .int mct, .int mvl, .int mpl, .int mcl, .int mrw, .int mqt, .int mlv, .int mtl, .int mbe, .int mch, .ref hpb, .ref hwa, .ref hmn, .ref hcf, .ref hsa, .ref hro])), (hcf, .inl (cI, 256, .inl mcf)), (hro, .inl (cJ, 16, .inr (.inl u)))]) A) args s 0 0 A) (F0 m 68 ls []) := by
  intro n
  induction n with
  | zero => intro x2 mro2 hmeas; exact absurd hmeas (Nat.not_lt_zero _)
  | succ n ih =>
    intro x2 mro2 hmeas b2 H locs ls hP hD hS hl
    refine lv_iload_n hx hb dX8_transform_68 rfl (lv_at hl 2 rfl) ?_
    refine lv_iconst (v := 4) hx hb dX8_transform_69 (by decide) ?_
    refine lv_icmp_ge (tgt := 85) hx hb dX8_transform_70 (by decide) (fun c70 => ?_) (fun c70 => ?_)
    · have c70y : kB x2 4 4 := kB_le_r kc_4 b2 c70 (by decide)
      refine lv_iconst (v := 0) hx hb dX8_transform_85 (by decide) ?_
      refine lv_istore_n (lv' := [(2, .int 0), (0, .ref hm), (1, .int k)]) hx hb dX8_transform_86 rfl hl (by decide) rfl (fun ls hl => ?_)
      exact lp_X8_transform_87 D cI cJ cZ hm hby hpb hwa hmn hcf hsa hro mrf msz mbg mrg mct mvl mpl mcl mrw mqt mlv mtl mbe mch mbt mcf mro k bk hx hb hr hml hown hts hlocks hK hA ((4 - (0 : Int32).toInt).toNat + 1) 0 mro2 (Nat.lt_succ_self _) (kB_w kc_0 (by decide) (by decide)) _ _ ls hP hD hS (lv_sub hl [1, 2, 0] rfl)
    · have c70n : x2 < 4 := kN_le c70
      have c70nx : kB x2 0 3 := kB_lt_l b2 kc_4 c70n (by decide)
      refine lv_aload_n hx hb dX8_transform_73 rfl (lv_at hl 0 rfl) ?_
      refine lv_iload_n hx hb dX8_transform_74 rfl (lv_at hl 2 rfl) ?_
      refine lv_iconst (v := 4) hx hb dX8_transform_75 (by decide) ?_
      have hPc := hP.sub (ws' := [(hm, .inr (8, [.int mrf, .ref hby, .int msz, .int mbg, .long mbt, .int mrg, .int mct, .int mvl, .int mpl, .int mcl, .int mrw, .int mqt, .int mlv, .int mtl, .int mbe, .int mch, .ref hpb, .ref hwa, .ref hmn, .ref hcf, .ref hsa, .ref hro])), (hro, .inl (cJ, 16, .inr (.inl mro2)))]) [0, 2] rfl
      have hDc := hD.sub (ws' := [(hm, .inr (8, [.int mrf, .ref hby, .int msz, .int mbg, .long mbt, .int mrg, .int mct, .int mvl, .int mpl, .int mcl, .int mrw, .int mqt, .int mlv, .int mtl, .int mbe, .int mch, .ref hpb, .ref hwa, .ref hmn, .ref hcf, .ref hsa, .ref hro])), (hro, .inl (cJ, 16, .inr (.inl mro2)))]) [0, 2] (by decide) rfl
      have hFc := va_free (wc := [(hm, .inr (8, [.int mrf, .ref hby, .int msz, .int mbg, .long mbt, .int mrg, .int mct, .int mvl, .int mpl, .int mcl, .int mrw, .int mqt, .int mlv, .int mtl, .int mbe, .int mch, .ref hpb, .ref hwa, .ref hmn, .ref hcf, .ref hsa, .ref hro])), (hro, .inl (cJ, 16, .inr (.inl mro2)))]) hD hS hA [0, 2] rfl
      refine va_callv (va_runV (As := [.int x2, .int 4]) (rest := []) ⟨hx, hb, hml, hown, hts⟩ (c_X8_turn_a l D cI cJ cZ hm hby hpb hwa hmn hcf hsa hro mrf msz mbg mrg mct mvl mpl mcl mrw mqt mlv mtl mbe mch mbt mro2 x2 c70nx (H).size) (cwV 2 hts (kg_V mk_250 mk_251 mk_252 mk_189 mk_253) rfl rfl rfl (by decide +kernel) ⟨Nat.le_of_ble_eq_true rfl, Nat.le_of_ble_eq_true rfl⟩) ⟨fun a U g mk q => by obtain ⟨q0, q1, qP, qK, qD⟩ := q; exact ⟨q0, q1, qP, kK.call qK, qD⟩, va_recv hK.1 hPc (ci := 8) (q0 := 0) rfl rfl, fun U hU hW => ⟨rfl, by rw [hU], by rw [hU]; exact hPc, kK.warm hW hK, hDc.weaken (fun _ _ _ _ => trivial)⟩⟩ rfl rfl hl.1 rfl (lv_room (Nat.le_of_ble_eq_true rfl)) dX8_transform_76 ⟨Nat.zero_le _, Nat.zero_le _⟩) hS (fun q _ h => hFc q h) hFc (fun u t9 H1 locs ht9 hvm9 hw9 hB9 hz9 hk9 hS => ?_)
      obtain ⟨mro2_76, rfl⟩ : ∃ z, z = u := ⟨_, rfl⟩
      obtain ⟨hP1, hD1⟩ := hB9
      rw [ht9] at hP1
      have hP1 : va_P D vwCl [(hm, .inr (8, [.int mrf, .ref hby, .int msz, .int mbg, .long mbt, .int mrg, .int mct, .int mvl, .int mpl, .int mcl, .int mrw, .int mqt, .int mlv, .int mtl, .int mbe, .int mch, .ref hpb, .ref hwa, .ref hmn, .ref hcf, .ref hsa, .ref hro])), (hro, .inl (cJ, 16, .inr (.inl mro2_76)))] H1 := hP1
      obtain ⟨hP, hD⟩ := va_join (wr := [(hcf, .inl (cI, 256, .inl mcf))]) (w1 := [(hm, .inr (8, [.int mrf, .ref hby, .int msz, .int mbg, .long mbt, .int mrg, .int mct, .int mvl, .int mpl, .int mcl, .int mrw, .int mqt, .int mlv, .int mtl, .int mbe, .int mch, .ref hpb, .ref hwa, .ref hmn, .ref hcf, .ref hsa, .ref hro])), (hro, .inl (cJ, 16, .inr (.inl mro2_76)))]) hP hD [0, 2] [1] rfl rfl (by decide) (by decide) hk9 hFc hP1 hD1
      have hP := hP.sub (ws' := [(hm, .inr (8, [.int mrf, .ref hby, .int msz, .int mbg, .long mbt, .int mrg, .int mct, .int mvl, .int mpl, .int mcl, .int mrw, .int mqt, .int mlv, .int mtl, .int mbe, .int mch, .ref hpb, .ref hwa, .ref hmn, .ref hcf, .ref hsa, .ref hro])), (hcf, .inl (cI, 256, .inl mcf)), (hro, .inl (cJ, 16, .inr (.inl mro2_76)))]) [1, 0, 2] rfl
      have hD := hD.sub (ws' := [(hm, .inr (8, [.int mrf, .ref hby, .int msz, .int mbg, .long mbt, .int mrg, .int mct, .int mvl, .int mpl, .int mcl, .int mrw, .int mqt, .int mlv, .int mtl, .int mbe, .int mch, .ref hpb, .ref hwa, .ref hmn, .ref hcf, .ref hsa, .ref hro])), (hcf, .inl (cI, 256, .inl mcf)), (hro, .inl (cJ, 16, .inr (.inl mro2_76)))]) [1, 0, 2] (by decide) rfl
      generalize H1 = H at hP hS ⊢
      obtain ⟨v79, e79⟩ : ∃ y : Int32, y = x2 + 1 := ⟨_, rfl⟩
      refine lv_iinc (v := v79) (lv' := [(2, .int v79), (0, .ref hm), (1, .int k)]) hx hb dX8_transform_79 hl (k := 2) rfl (by rw [e79]; rfl) (by decide) rfl (fun ls hl => ?_)
      have b79 : kB v79 1 4 := kB_eq e79 (kB_add c70nx kc_1 (by decide))
      have t79 : v79.toInt = x2.toInt + 1 := by rw [e79]; exact kinc (kB_w c70nx (by decide) (by decide))
      refine lv_goto (tgt := 68) hx hb dX8_transform_82 (by decide) ?_
      exact ih v79 mro2_76 (by have := b79.1; have := b79.2; have := c70nx.1; have := c70nx.2; omega) (kB_w b79 (by decide) (by decide)) _ _ ls hP hD hS (lv_sub hl [1, 2, 0] rfl)
set_option maxHeartbeats 4000000 in
set_option maxRecDepth 100000 in
theorem lp_X8_transform_2 {p : Program} {l : Launch} {e : Env} {s : State} {m : MethodId} {args : Array Value} {below : List Frame} {meth : Method} {c : Code} {A : Nat → Prop} (D : va_G) (cI cJ cZ : ClassId) (hm hby hpb hwa hmn hcf hsa hro : Nat) (mrf : Int32) (msz : Int32) (mbg : Int32) (mrg : Int32) (mct : Int32) (mvl : Int32) (mpl : Int32) (mcl : Int32) (mrw : Int32) (mqt : Int32) (mlv : Int32) (mtl : Int32) (mbe : Int32) (mch : Int32) (mbt : Int64) (mcf : Nat → Int32) (mro : Nat → Int64) (k : Int32) (bk : kB k 0 15) (hx : p.tables.exec = Jvm.exec) (hb : c.code = cX8_transform) (hr : meth.sig.returnType = none) (hml : c.maxLocals = 5) (hown : s.vm.findClass RX8 = some m.cls) (hts : ∀ w ∈ kW, w.before args s = true) (hlocks : meth.locks = false) (hK : kK D cI cJ cZ s) (hA : ∀ q : Nat, s.heap.size ≤ q → A q) : ∀ n : Nat, ∀ (x2 : Int32) (mro2 : Nat → Int64), (16 - x2.toInt).toNat < n → (kB x2 0 16) → ∀ (H : Heap) (locs : List Loc) (ls : Array Slot), va_P D vwCl [(hm, .inr (8, [.int mrf, .ref hby, .int msz, .int mbg, .long mbt, .int mrg, .int mct, .int mvl, .int mpl, .int mcl, .int mrw, .int mqt, .int mlv, .int mtl, .int mbe, .int mch, .ref hpb, .ref hwa, .ref hmn, .ref hcf, .ref hsa, .ref hro])), (hcf, .inl (cI, 256, .inl mcf)), (hro, .inl (cJ, 16, .inr (.inl mro2)))] H → va_D A [(hm, .inr (8, [.int mrf, .ref hby, .int msz, .int mbg, .long mbt, .int mrg, .int mct, .int mvl, .int mpl, .int mcl, .int mrw, .int mqt, .int mlv, .int mtl, .int mbe, .int mch, .ref hpb, .ref hwa, .ref hmn, .ref hcf, .ref hsa, .ref hro])), (hcf, .inl (cI, 256, .inl mcf)), (hro, .inl (cJ, 16, .inr (.inl mro2)))] → va_S A s.heap H locs → lv_has ls 5 [(0, .ref hm), (1, .int k), (2, .int x2)] → W p l e (headSpec kw_X8_transform ({ frames := 2, cells := 0, slots := 0, locals := 59 })).room s m args below meth c H locs 0 0 (MQ below (va_Qv (fun (u : (Nat → Int64)) => True) (fun (u : (Nat → Int64)) (t : State) => va_P D vwCl [(hm, .inr (8, [.int mrf, .ref hby, .int msz, .int mbg, .long mbt, .int mrg, .int mct, .int mvl, .int mpl, .int mcl, .int mrw, .int mqt, .int mlv, .int mtl, .int mbe, .int mch, .ref hpb, .ref hwa, .ref hmn, .ref hcf, .ref hsa, .ref hro])), (hcf, .inl (cI, 256, .inl mcf)), (hro, .inl (cJ, 16, .inr (.inl u)))] t.heap ∧ va_D A [(hm, .inr (8, [.int mrf, .ref hby, .int msz, .int mbg, .long mbt, .int mrg, .int mct, .int mvl, .int mpl, .int mcl, .int mrw, .int mqt, .int mlv, .int mtl, .int mbe, .int mch, .ref hpb, .ref hwa, .ref hmn, .ref hcf, .ref hsa, .ref hro])), (hcf, .inl (cI, 256, .inl mcf)), (hro, .inl (cJ, 16, .inr (.inl u)))]) A) args s 0 0 A) (F0 m 2 ls []) := by
  intro n
  induction n with
  | zero => intro x2 mro2 hmeas; exact absurd hmeas (Nat.not_lt_zero _)
  | succ n ih =>
    intro x2 mro2 hmeas b2 H locs ls hP hD hS hl
    refine lv_iload_n hx hb dX8_transform_2 rfl (lv_at hl 2 rfl) ?_
    refine lv_bipush (v := 16) hx hb dX8_transform_3 (by decide) ?_
    refine lv_icmp_ge (tgt := 66) hx hb dX8_transform_5 (by decide) (fun c5 => ?_) (fun c5 => ?_)
    · have c5y : kB x2 16 16 := kB_le_r kc_16 b2 c5 (by decide)
      refine lv_iconst (v := 0) hx hb dX8_transform_66 (by decide) ?_
      refine lv_istore_n (lv' := [(2, .int 0), (0, .ref hm), (1, .int k)]) hx hb dX8_transform_67 rfl hl (by decide) rfl (fun ls hl => ?_)
      exact lp_X8_transform_68 D cI cJ cZ hm hby hpb hwa hmn hcf hsa hro mrf msz mbg mrg mct mvl mpl mcl mrw mqt mlv mtl mbe mch mbt mcf mro k bk hx hb hr hml hown hts hlocks hK hA ((4 - (0 : Int32).toInt).toNat + 1) 0 mro2 (Nat.lt_succ_self _) (kB_w kc_0 (by decide) (by decide)) _ _ ls hP hD hS (lv_sub hl [1, 2, 0] rfl)
    · have c5n : x2 < 16 := kN_le c5
      have c5nx : kB x2 0 15 := kB_lt_l b2 kc_16 c5n (by decide)
      refine lv_iload_n hx hb dX8_transform_8 rfl (lv_at hl 2 rfl) ?_
      refine lv_if_ne (tgt := 22) hx hb dX8_transform_9 (by decide) (fun c9 => ?_) (fun c9 => ?_)
      · have c9x : kB x2 1 15 := kB_nlo c5nx c9 kc_0 (by decide)
        refine lv_iconst (v := 4) hx hb dX8_transform_22 (by decide) ?_
        refine lv_aload_n hx hb dX8_transform_23 rfl (lv_at hl 0 rfl) ?_
        refine va_get (D := D) (ci := 8) (v := .int mqt) (C := RX8) (T := TX8) (N := 22) hx hb hts in_X8 hown hK.1 hP 0 rfl rfl 11 (by decide) (hts _ mk_254) (fun _ h9 => h9) rfl dX8_transform_24 ?_
        refine lv_iadd hx hb dX8_transform_27 ?_
        refine lv_topi (fun v27 e27 => ?_)
        refine lv_aload_n hx hb dX8_transform_28 rfl (lv_at hl 0 rfl) ?_
        refine va_get (D := D) (ci := 8) (v := .int mqt) (C := RX8) (T := TX8) (N := 22) hx hb hts in_X8 hown hK.1 hP 0 rfl rfl 11 (by decide) (hts _ mk_254) (fun _ h9 => h9) rfl dX8_transform_29 ?_
        refine lv_iconst (v := 2) hx hb dX8_transform_32 (by decide) ?_
        refine lv_idiv hx hb dX8_transform_33 (kB_ne0 kc_2 (Or.inl (by decide))) ?_
        refine lv_topi (fun v33 e33 => ?_)
        refine lv_iadd hx hb dX8_transform_34 ?_
        refine lv_topi (fun v34 e34 => ?_)
        refine lv_i2l hx hb dX8_transform_35 rfl ?_
        refine lv_topl (fun v35 e35 => ?_)
        refine lv_lstore_n (lv' := [(3, .long v35), (0, .ref hm), (1, .int k), (2, .int x2)]) hx hb dX8_transform_36 rfl hl (by decide) rfl (fun ls hl => ?_)
        refine lv_aload_n hx hb dX8_transform_37 rfl (lv_at hl 1 rfl) ?_
        refine va_get (D := D) (ci := 8) (v := .ref hro) (C := RX8) (T := TX8) (N := 22) hx hb hts in_X8 hown hK.1 hP 0 rfl rfl 21 (by decide) (hts _ mk_242) (fun _ h9 => h9) rfl dX8_transform_38 ?_
        refine lv_iload_n hx hb dX8_transform_41 rfl (lv_at hl 3 rfl) ?_
        have hPc := hP.sub (ws' := []) [] rfl
        have hDc := hD.sub (ws' := []) [] (by decide) rfl
        have hFc := va_free (wc := []) hD hS hA [] rfl
        refine va_calli (va_runS (As := [.int x2]) (rest := [.ref hro]) ⟨hx, hb, hml, hown, hts⟩ (c_X8_spot l D cI cJ cZ x2 (kB_w c9x (by decide) (by decide)) (H).size) (cwS 1 hts (kg_S mk_255 mk_256 mk_189 mk_257) rfl rfl rfl (by decide +kernel) ⟨Nat.le_of_ble_eq_true rfl, Nat.le_of_ble_eq_true rfl⟩) ⟨fun a U g mk q => by obtain ⟨q0, q1, qP, qK, qD⟩ := q; exact ⟨q0, q1, qP, kK.call qK, qD⟩, fun U hU hW => ⟨rfl, by rw [hU], by rw [hU]; exact hPc, kK.warm hW hK, hDc.weaken (fun _ _ _ _ => trivial)⟩⟩ rfl rfl hl.1 rfl (lv_room (Nat.le_of_ble_eq_true rfl)) dX8_transform_42 ⟨Nat.zero_le _, Nat.zero_le _⟩) hS (fun q _ h => hFc q h) hFc (fun r42 u t9 H1 locs ht9 hvm9 hw9 hB9 hz9 hk9 hS => ?_)
        obtain ⟨hP1, hD1⟩ := hB9
        rw [ht9] at hP1
        have hP1 : va_P D vwCl [] H1 := hP1
        obtain ⟨hP, hD⟩ := va_join (wr := [(hm, .inr (8, [.int mrf, .ref hby, .int msz, .int mbg, .long mbt, .int mrg, .int mct, .int mvl, .int mpl, .int mcl, .int mrw, .int mqt, .int mlv, .int mtl, .int mbe, .int mch, .ref hpb, .ref hwa, .ref hmn, .ref hcf, .ref hsa, .ref hro])), (hcf, .inl (cI, 256, .inl mcf)), (hro, .inl (cJ, 16, .inr (.inl mro2)))]) (w1 := []) hP hD [] [0, 1, 2] rfl rfl (by decide) (by decide) hk9 hFc hP1 hD1
        have hP := hP.sub (ws' := [(hm, .inr (8, [.int mrf, .ref hby, .int msz, .int mbg, .long mbt, .int mrg, .int mct, .int mvl, .int mpl, .int mcl, .int mrw, .int mqt, .int mlv, .int mtl, .int mbe, .int mch, .ref hpb, .ref hwa, .ref hmn, .ref hcf, .ref hsa, .ref hro])), (hcf, .inl (cI, 256, .inl mcf)), (hro, .inl (cJ, 16, .inr (.inl mro2)))]) [0, 1, 2] rfl
        have hD := hD.sub (ws' := [(hm, .inr (8, [.int mrf, .ref hby, .int msz, .int mbg, .long mbt, .int mrg, .int mct, .int mvl, .int mpl, .int mcl, .int mrw, .int mqt, .int mlv, .int mtl, .int mbe, .int mch, .ref hpb, .ref hwa, .ref hmn, .ref hcf, .ref hsa, .ref hro])), (hcf, .inl (cI, 256, .inl mcf)), (hro, .inl (cJ, 16, .inr (.inl mro2)))]) [0, 1, 2] (by decide) rfl
        generalize H1 = H at hP hS ⊢
        have q42_0 : kB r42 0 15 := hw9
        refine lv_aload_n hx hb dX8_transform_45 rfl (lv_at hl 1 rfl) ?_
        refine va_get (D := D) (ci := 8) (v := .ref hcf) (C := RX8) (T := TX8) (N := 22) hx hb hts in_X8 hown hK.1 hP 0 rfl rfl 19 (by decide) (hts _ mk_226) (fun _ h9 => h9) rfl dX8_transform_46 ?_
        refine lv_bipush (v := 16) hx hb dX8_transform_49 (by decide) ?_
        refine lv_iload_n hx hb dX8_transform_51 rfl (lv_at hl 2 rfl) ?_
        refine lv_imul hx hb dX8_transform_52 ?_
        refine lv_topi (fun v52 e52 => ?_)
        have b52 : kB v52 0 240 := kB_eq e52 (kB_cmul kc_16 bk (by decide))
        refine lv_iload_n hx hb dX8_transform_53 rfl (lv_at hl 3 rfl) ?_
        refine lv_iadd hx hb dX8_transform_54 ?_
        refine lv_topi (fun v54 e54 => ?_)
        have b54 : kB v54 1 255 := kB_eq e54 (kB_add b52 c9x (by decide))
        refine va_iald hx hb hK.1 hP 1 0 rfl rfl (kB_in b54 (by decide)) dX8_transform_55 ?_
        refine lv_topi (fun v55 e55 => ?_)
        refine lv_i2l hx hb dX8_transform_56 rfl ?_
        refine lv_topl (fun v56 e56 => ?_)
        refine lv_lload_n hx hb dX8_transform_57 rfl (lv_at hl 0 rfl) ?_
        refine lv_lmul hx hb dX8_transform_58 ?_
        refine lv_topl (fun v58 e58 => ?_)
        refine va_last hx hb hK.1 hP hD hS 2 1 rfl rfl (kB_in q42_0 (by decide)) dX8_transform_59 (fun H locs hP hD hS => ?_)
        have hP : va_P D vwCl [(hm, .inr (8, [.int mrf, .ref hby, .int msz, .int mbg, .long mbt, .int mrg, .int mct, .int mvl, .int mpl, .int mcl, .int mrw, .int mqt, .int mlv, .int mtl, .int mbe, .int mch, .ref hpb, .ref hwa, .ref hmn, .ref hcf, .ref hsa, .ref hro])), (hcf, .inl (cI, 256, .inl mcf)), (hro, .inl (cJ, 16, .inr (.inl (vp_updL mro2 r42.toNatClampNeg v58))))] H := hP
        have hD : va_D A [(hm, .inr (8, [.int mrf, .ref hby, .int msz, .int mbg, .long mbt, .int mrg, .int mct, .int mvl, .int mpl, .int mcl, .int mrw, .int mqt, .int mlv, .int mtl, .int mbe, .int mch, .ref hpb, .ref hwa, .ref hmn, .ref hcf, .ref hsa, .ref hro])), (hcf, .inl (cI, 256, .inl mcf)), (hro, .inl (cJ, 16, .inr (.inl (vp_updL mro2 r42.toNatClampNeg v58))))] := hD
        generalize hf59 : vp_updL mro2 r42.toNatClampNeg v58 = f59 at hP hD
        obtain ⟨v60, e60⟩ : ∃ y : Int32, y = x2 + 1 := ⟨_, rfl⟩
        refine lv_iinc (v := v60) (lv' := [(2, .int v60), (3, .long v35), (0, .ref hm), (1, .int k)]) hx hb dX8_transform_60 hl (k := 3) rfl (by rw [e60]; rfl) (by decide) rfl (fun ls hl => ?_)
        have b60 : kB v60 2 16 := kB_eq e60 (kB_add c9x kc_1 (by decide))
        have t60 : v60.toInt = x2.toInt + 1 := by rw [e60]; exact kinc (kB_w c9x (by decide) (by decide))
        refine lv_goto (tgt := 2) hx hb dX8_transform_63 (by decide) ?_
        exact ih v60 f59 (by have := b60.1; have := b60.2; have := c9x.1; have := c9x.2; omega) (kB_w b60 (by decide) (by decide)) _ _ ls hP hD hS (lv_sub hl [2, 3, 0] rfl)
      · have c9x : kB x2 0 0 := kB_eq c9 kc_0
        refine lv_iconst (v := 4) hx hb dX8_transform_12 (by decide) ?_
        refine lv_aload_n hx hb dX8_transform_13 rfl (lv_at hl 0 rfl) ?_
        refine va_get (D := D) (ci := 8) (v := .int mqt) (C := RX8) (T := TX8) (N := 22) hx hb hts in_X8 hown hK.1 hP 0 rfl rfl 11 (by decide) (hts _ mk_254) (fun _ h9 => h9) rfl dX8_transform_14 ?_
        refine lv_iadd hx hb dX8_transform_17 ?_
        refine lv_topi (fun v17 e17 => ?_)
        refine lv_i2l hx hb dX8_transform_18 rfl ?_
        refine lv_topl (fun v18 e18 => ?_)
        refine lv_goto (tgt := 36) hx hb dX8_transform_19 (by decide) ?_
        refine lv_lstore_n (lv' := [(3, .long v18), (0, .ref hm), (1, .int k), (2, .int x2)]) hx hb dX8_transform_36 rfl hl (by decide) rfl (fun ls hl => ?_)
        refine lv_aload_n hx hb dX8_transform_37 rfl (lv_at hl 1 rfl) ?_
        refine va_get (D := D) (ci := 8) (v := .ref hro) (C := RX8) (T := TX8) (N := 22) hx hb hts in_X8 hown hK.1 hP 0 rfl rfl 21 (by decide) (hts _ mk_242) (fun _ h9 => h9) rfl dX8_transform_38 ?_
        refine lv_iload_n hx hb dX8_transform_41 rfl (lv_at hl 3 rfl) ?_
        have hPc := hP.sub (ws' := []) [] rfl
        have hDc := hD.sub (ws' := []) [] (by decide) rfl
        have hFc := va_free (wc := []) hD hS hA [] rfl
        refine va_calli (va_runS (As := [.int x2]) (rest := [.ref hro]) ⟨hx, hb, hml, hown, hts⟩ (c_X8_spot l D cI cJ cZ x2 (kB_w c9x (by decide) (by decide)) (H).size) (cwS 1 hts (kg_S mk_255 mk_256 mk_189 mk_257) rfl rfl rfl (by decide +kernel) ⟨Nat.le_of_ble_eq_true rfl, Nat.le_of_ble_eq_true rfl⟩) ⟨fun a U g mk q => by obtain ⟨q0, q1, qP, qK, qD⟩ := q; exact ⟨q0, q1, qP, kK.call qK, qD⟩, fun U hU hW => ⟨rfl, by rw [hU], by rw [hU]; exact hPc, kK.warm hW hK, hDc.weaken (fun _ _ _ _ => trivial)⟩⟩ rfl rfl hl.1 rfl (lv_room (Nat.le_of_ble_eq_true rfl)) dX8_transform_42 ⟨Nat.zero_le _, Nat.zero_le _⟩) hS (fun q _ h => hFc q h) hFc (fun r42 u t9 H1 locs ht9 hvm9 hw9 hB9 hz9 hk9 hS => ?_)
        obtain ⟨hP1, hD1⟩ := hB9
        rw [ht9] at hP1
        have hP1 : va_P D vwCl [] H1 := hP1
        obtain ⟨hP, hD⟩ := va_join (wr := [(hm, .inr (8, [.int mrf, .ref hby, .int msz, .int mbg, .long mbt, .int mrg, .int mct, .int mvl, .int mpl, .int mcl, .int mrw, .int mqt, .int mlv, .int mtl, .int mbe, .int mch, .ref hpb, .ref hwa, .ref hmn, .ref hcf, .ref hsa, .ref hro])), (hcf, .inl (cI, 256, .inl mcf)), (hro, .inl (cJ, 16, .inr (.inl mro2)))]) (w1 := []) hP hD [] [0, 1, 2] rfl rfl (by decide) (by decide) hk9 hFc hP1 hD1
        have hP := hP.sub (ws' := [(hm, .inr (8, [.int mrf, .ref hby, .int msz, .int mbg, .long mbt, .int mrg, .int mct, .int mvl, .int mpl, .int mcl, .int mrw, .int mqt, .int mlv, .int mtl, .int mbe, .int mch, .ref hpb, .ref hwa, .ref hmn, .ref hcf, .ref hsa, .ref hro])), (hcf, .inl (cI, 256, .inl mcf)), (hro, .inl (cJ, 16, .inr (.inl mro2)))]) [0, 1, 2] rfl
        have hD := hD.sub (ws' := [(hm, .inr (8, [.int mrf, .ref hby, .int msz, .int mbg, .long mbt, .int mrg, .int mct, .int mvl, .int mpl, .int mcl, .int mrw, .int mqt, .int mlv, .int mtl, .int mbe, .int mch, .ref hpb, .ref hwa, .ref hmn, .ref hcf, .ref hsa, .ref hro])), (hcf, .inl (cI, 256, .inl mcf)), (hro, .inl (cJ, 16, .inr (.inl mro2)))]) [0, 1, 2] (by decide) rfl
        generalize H1 = H at hP hS ⊢
        have q42_0 : kB r42 0 15 := hw9
        refine lv_aload_n hx hb dX8_transform_45 rfl (lv_at hl 1 rfl) ?_
        refine va_get (D := D) (ci := 8) (v := .ref hcf) (C := RX8) (T := TX8) (N := 22) hx hb hts in_X8 hown hK.1 hP 0 rfl rfl 19 (by decide) (hts _ mk_226) (fun _ h9 => h9) rfl dX8_transform_46 ?_
        refine lv_bipush (v := 16) hx hb dX8_transform_49 (by decide) ?_
        refine lv_iload_n hx hb dX8_transform_51 rfl (lv_at hl 2 rfl) ?_
        refine lv_imul hx hb dX8_transform_52 ?_
        refine lv_topi (fun v52 e52 => ?_)
        have b52 : kB v52 0 240 := kB_eq e52 (kB_cmul kc_16 bk (by decide))
        refine lv_iload_n hx hb dX8_transform_53 rfl (lv_at hl 3 rfl) ?_
        refine lv_iadd hx hb dX8_transform_54 ?_
        refine lv_topi (fun v54 e54 => ?_)
        have b54 : kB v54 0 240 := kB_eq e54 (kB_add b52 c9x (by decide))
        refine va_iald hx hb hK.1 hP 1 0 rfl rfl (kB_in b54 (by decide)) dX8_transform_55 ?_
        refine lv_topi (fun v55 e55 => ?_)
        refine lv_i2l hx hb dX8_transform_56 rfl ?_
        refine lv_topl (fun v56 e56 => ?_)
        refine lv_lload_n hx hb dX8_transform_57 rfl (lv_at hl 0 rfl) ?_
        refine lv_lmul hx hb dX8_transform_58 ?_
        refine lv_topl (fun v58 e58 => ?_)
        refine va_last hx hb hK.1 hP hD hS 2 1 rfl rfl (kB_in q42_0 (by decide)) dX8_transform_59 (fun H locs hP hD hS => ?_)
        have hP : va_P D vwCl [(hm, .inr (8, [.int mrf, .ref hby, .int msz, .int mbg, .long mbt, .int mrg, .int mct, .int mvl, .int mpl, .int mcl, .int mrw, .int mqt, .int mlv, .int mtl, .int mbe, .int mch, .ref hpb, .ref hwa, .ref hmn, .ref hcf, .ref hsa, .ref hro])), (hcf, .inl (cI, 256, .inl mcf)), (hro, .inl (cJ, 16, .inr (.inl (vp_updL mro2 r42.toNatClampNeg v58))))] H := hP
        have hD : va_D A [(hm, .inr (8, [.int mrf, .ref hby, .int msz, .int mbg, .long mbt, .int mrg, .int mct, .int mvl, .int mpl, .int mcl, .int mrw, .int mqt, .int mlv, .int mtl, .int mbe, .int mch, .ref hpb, .ref hwa, .ref hmn, .ref hcf, .ref hsa, .ref hro])), (hcf, .inl (cI, 256, .inl mcf)), (hro, .inl (cJ, 16, .inr (.inl (vp_updL mro2 r42.toNatClampNeg v58))))] := hD
        generalize hf59 : vp_updL mro2 r42.toNatClampNeg v58 = f59 at hP hD
        obtain ⟨v60, e60⟩ : ∃ y : Int32, y = x2 + 1 := ⟨_, rfl⟩
        refine lv_iinc (v := v60) (lv' := [(2, .int v60), (3, .long v18), (0, .ref hm), (1, .int k)]) hx hb dX8_transform_60 hl (k := 3) rfl (by rw [e60]; rfl) (by decide) rfl (fun ls hl => ?_)
        have b60 : kB v60 1 1 := kB_eq e60 (kB_add c9x kc_1 (by decide))
        have t60 : v60.toInt = x2.toInt + 1 := by rw [e60]; exact kinc (kB_w c9x (by decide) (by decide))
        refine lv_goto (tgt := 2) hx hb dX8_transform_63 (by decide) ?_
        exact ih v60 f59 (by have := b60.1; have := b60.2; have := c9x.1; have := c9x.2; omega) (kB_w b60 (by decide) (by decide)) _ _ ls hP hD hS (lv_sub hl [2, 3, 0] rfl)
set_option maxHeartbeats 4000000 in
set_option maxRecDepth 100000 in
theorem c_X8_transform (l : Launch) (D : va_G) (cI cJ cZ : ClassId) (hm hby hpb hwa hmn hcf hsa hro : Nat) (mrf : Int32) (msz : Int32) (mbg : Int32) (mrg : Int32) (mct : Int32) (mvl : Int32) (mpl : Int32) (mcl : Int32) (mrw : Int32) (mqt : Int32) (mlv : Int32) (mtl : Int32) (mbe : Int32) (mch : Int32) (mbt : Int64) (mcf : Nat → Int32) (mro : Nat → Int64) (k : Int32) (bk : kB k 0 15) (hpz : Nat) : Met l yX8_transform kw_X8_transform ({ frames := 2, cells := 0, slots := 0, locals := 59 }) (va_Pc [.ref hm, .int k] (fun U => U.heap.size = hpz ∧ va_P D vwCl [(hm, .inr (8, [.int mrf, .ref hby, .int msz, .int mbg, .long mbt, .int mrg, .int mct, .int mvl, .int mpl, .int mcl, .int mrw, .int mqt, .int mlv, .int mtl, .int mbe, .int mch, .ref hpb, .ref hwa, .ref hmn, .ref hcf, .ref hsa, .ref hro])), (hcf, .inl (cI, 256, .inl mcf)), (hro, .inl (cJ, 16, .inr (.inl mro)))] U.heap ∧ kK D cI cJ cZ U ∧ va_D (fun _ => True) [(hm, .inr (8, [.int mrf, .ref hby, .int msz, .int mbg, .long mbt, .int mrg, .int mct, .int mvl, .int mpl, .int mcl, .int mrw, .int mqt, .int mlv, .int mtl, .int mbe, .int mch, .ref hpb, .ref hwa, .ref hmn, .ref hcf, .ref hsa, .ref hro])), (hcf, .inl (cI, 256, .inl mcf)), (hro, .inl (cJ, 16, .inr (.inl mro)))])) (va_Qv (fun (u : (Nat → Int64)) => True) (fun (u : (Nat → Int64)) (t : State) => va_P D vwCl [(hm, .inr (8, [.int mrf, .ref hby, .int msz, .int mbg, .long mbt, .int mrg, .int mct, .int mvl, .int mpl, .int mcl, .int mrw, .int mqt, .int mlv, .int mtl, .int mbe, .int mch, .ref hpb, .ref hwa, .ref hmn, .ref hcf, .ref hsa, .ref hro])), (hcf, .inl (cI, 256, .inl mcf)), (hro, .inl (cJ, 16, .inr (.inl u)))] t.heap ∧ va_D (va_A [(hm, .inr (8, [.int mrf, .ref hby, .int msz, .int mbg, .long mbt, .int mrg, .int mct, .int mvl, .int mpl, .int mcl, .int mrw, .int mqt, .int mlv, .int mtl, .int mbe, .int mch, .ref hpb, .ref hwa, .ref hmn, .ref hcf, .ref hsa, .ref hro])), (hcf, .inl (cI, 256, .inl mcf)), (hro, .inl (cJ, 16, .inr (.inl mro)))] hpz) [(hm, .inr (8, [.int mrf, .ref hby, .int msz, .int mbg, .long mbt, .int mrg, .int mct, .int mvl, .int mpl, .int mcl, .int mrw, .int mqt, .int mlv, .int mtl, .int mbe, .int mch, .ref hpb, .ref hwa, .ref hmn, .ref hcf, .ref hsa, .ref hro])), (hcf, .inl (cI, 256, .inl mcf)), (hro, .inl (cJ, 16, .inr (.inl u)))]) (va_A [(hm, .inr (8, [.int mrf, .ref hby, .int msz, .int mbg, .long mbt, .int mrg, .int mct, .int mvl, .int mpl, .int mcl, .int mrw, .int mqt, .int mlv, .int mtl, .int mbe, .int mch, .ref hpb, .ref hwa, .ref hmn, .ref hcf, .ref hsa, .ref hro])), (hcf, .inl (cI, 256, .inl mcf)), (hro, .inl (cJ, 16, .inr (.inl mro)))] hpz)) 0 0 (va_A [(hm, .inr (8, [.int mrf, .ref hby, .int msz, .int mbg, .long mbt, .int mrg, .int mct, .int mvl, .int mpl, .int mcl, .int mrw, .int mqt, .int mlv, .int mtl, .int mbe, .int mch, .ref hpb, .ref hwa, .ref hmn, .ref hcf, .ref hsa, .ref hro])), (hcf, .inl (cI, 256, .inl mcf)), (hro, .inl (cJ, 16, .inr (.inl mro)))] hpz) := by
  refine Met.ofW (cc := cX8_transform) (maxL := 5) (ret := none) (by decide) rfl ?_
  intro p e s m args below meth c s₁ B hml hv
  obtain ⟨rfl, hsz, hP, hK, hD0⟩ := hv
  have hx := B.exec
  have hb := B.bytes
  have hr := B.returns
  have hts := fun (w : Cond) (h : w ∈ kW) => atoms_spec (ws := kw_X8_transform) B.pre w (List.mem_cons_of_mem _ h)
  have hown : s.vm.findClass RX8 = some m.cls := findClass_of_methodNamed B.named
  have hlocks := B.notSynchronized
  subst hsz
  have hD := hD0.self (sz := s.heap.size)
  generalize hAe : va_A [(hm, .inr (8, [.int mrf, .ref hby, .int msz, .int mbg, .long mbt, .int mrg, .int mct, .int mvl, .int mpl, .int mcl, .int mrw, .int mqt, .int mlv, .int mtl, .int mbe, .int mch, .ref hpb, .ref hwa, .ref hmn, .ref hcf, .ref hsa, .ref hro])), (hcf, .inl (cI, 256, .inl mcf)), (hro, .inl (cJ, 16, .inr (.inl mro)))] s.heap.size = A at hD ⊢
  have hA : ∀ q : Nat, s.heap.size ≤ q → A q := fun q h => by rw [← hAe]; exact Or.inr h
  have hS : va_S A s.heap s.heap [] := va_S.rf
  have hP : va_P D vwCl [(hm, .inr (8, [.int mrf, .ref hby, .int msz, .int mbg, .long mbt, .int mrg, .int mct, .int mvl, .int mpl, .int mcl, .int mrw, .int mqt, .int mlv, .int mtl, .int mbe, .int mch, .ref hpb, .ref hwa, .ref hmn, .ref hcf, .ref hsa, .ref hro])), (hcf, .inl (cI, 256, .inl mcf)), (hro, .inl (cJ, 16, .inr (.inl mro)))] s.heap := hP
  have hl := lv_entry ([.ref hm, .int k]) (n := 5) (Nat.le_of_ble_eq_true rfl)
  rw [lg_entry_eq]
  generalize (lg_sl ([.ref hm, .int k]) ++ List.replicate (5 - (lg_sl ([.ref hm, .int k])).length) Slot.unset).toArray = ls at hl ⊢
  have hl : lv_has ls 5 [(0, .ref hm), (1, .int k)] := hl
  refine lv_iconst (v := 0) hx hb dX8_transform_0 (by decide) ?_
  refine lv_istore_n (lv' := [(2, .int 0), (0, .ref hm), (1, .int k)]) hx hb dX8_transform_1 rfl hl (by decide) rfl (fun ls hl => ?_)
  exact lp_X8_transform_2 D cI cJ cZ hm hby hpb hwa hmn hcf hsa hro mrf msz mbg mrg mct mvl mpl mcl mrw mqt mlv mtl mbe mch mbt mcf mro k bk hx hb hr hml hown hts hlocks hK hA ((16 - (0 : Int32).toInt).toNat + 1) 0 mro (Nat.lt_succ_self _) (kB_w kc_0 (by decide) (by decide)) _ _ ls hP hD hS (lv_sub hl [1, 2, 0] rfl)
