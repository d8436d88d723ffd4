abbrev kw_X8_band : List Cond := Cond.code yX8_band cX8_band 1 (some .int) :: kW
set_option maxHeartbeats 4000000 in
set_option maxRecDepth 100000 in
theorem c_X8_band (l : Launch) (D : va_G) (cI cJ cZ : ClassId) (k : Int32) (bk : kB k 0 15) (hpz : Nat) : Met l yX8_band kw_X8_band ({ frames := 0, cells := 0, slots := 0, locals := 0 }) (va_Pc [.int k] (fun U => U.heap.size = hpz ∧ va_P D vwCl [] U.heap ∧ kK D cI cJ cZ U ∧ va_D (fun _ => True) [])) (va_Qi (fun (r : Int32) (u : Unit) => (kB r 0 7)) (fun (u : Unit) (t : State) => va_P D vwCl [] t.heap ∧ va_D (va_A [] hpz) []) (va_A [] hpz)) 0 0 (va_A [] hpz) := by
  refine Met.ofW (cc := cX8_band) (maxL := 1) (ret := (some .int)) (by decide) rfl ?_
  intro p e s m args below meth c s₁ B hml hv
  obtain ⟨rfl, hsz, hP, hK, hD0⟩ := hv
  have hx := B.exec
  have hb := B.bytes
  have hr := B.returns
  have hts := fun (w : Cond) (h : w ∈ kW) => atoms_spec (ws := kw_X8_band) B.pre w (List.mem_cons_of_mem _ h)
  have hown : s.vm.findClass RX8 = some m.cls := findClass_of_methodNamed B.named
  have hlocks := B.notSynchronized
  subst hsz
  have hD := hD0.self (sz := s.heap.size)
  generalize hAe : va_A [] s.heap.size = A at hD ⊢
  have hA : ∀ q : Nat, s.heap.size ≤ q → A q := fun q h => by rw [← hAe]; exact Or.inr h
  have hS : va_S A s.heap s.heap [] := va_S.rf
  have hP : va_P D vwCl [] s.heap := hP
  have hl := lv_entry ([.int k]) (n := 1) (Nat.le_of_ble_eq_true rfl)
  rw [lg_entry_eq]
  generalize (lg_sl ([.int k]) ++ List.replicate (1 - (lg_sl ([.int k])).length) Slot.unset).toArray = ls at hl ⊢
  have hl : lv_has ls 1 [(0, .int k)] := hl
  refine lv_iload_n hx hb dX8_band_0 rfl (lv_at hl 0 rfl) ?_
  refine lv_iconst (v := 4) hx hb dX8_band_1 (by decide) ?_
  refine lv_icmp_ge (tgt := 9) hx hb dX8_band_2 (by decide) (fun c2 => ?_) (fun c2 => ?_)
  · have c2y : kB k 4 15 := kB_le_r kc_4 bk c2 (by decide)
    refine lv_iload_n hx hb dX8_band_9 rfl (lv_at hl 0 rfl) ?_
    refine lv_iconst (v := 5) hx hb dX8_band_10 (by decide) ?_
    refine lv_icmp_ne (tgt := 18) hx hb dX8_band_11 (by decide) (fun c11 => ?_) (fun c11 => ?_)
    · refine lv_iload_n hx hb dX8_band_18 rfl (lv_at hl 0 rfl) ?_
      refine lv_bipush (v := 6) hx hb dX8_band_19 (by decide) ?_
      refine lv_icmp_ne (tgt := 28) hx hb dX8_band_21 (by decide) (fun c21 => ?_) (fun c21 => ?_)
      · refine lv_iload_n hx hb dX8_band_28 rfl (lv_at hl 0 rfl) ?_
        refine lv_bipush (v := 15) hx hb dX8_band_29 (by decide) ?_
        refine lv_icmp_ne (tgt := 39) hx hb dX8_band_31 (by decide) (fun c31 => ?_) (fun c31 => ?_)
        · have c31x : kB k 4 14 := kB_nhi c2y c31 kc_15 (by decide)
          refine lv_bipush (v := 6) hx hb dX8_band_39 (by decide) ?_
          have pf_b : kB (6 : Int32) 0 7 := (kB_w kc_6 (by decide) (by decide))
          exact W.iret (v := 6) hx hb hr (fun t9 ht9 hW9 => ⟨⟨6, (), rfl, pf_b, by rw [ht9]; exact hP, hD⟩, hS.F ht9⟩) hS.2.2 dX8_band_41
        · have c31x : kB k 15 15 := kB_eq c31 kc_15
          refine lv_bipush (v := 7) hx hb dX8_band_34 (by decide) ?_
          refine lv_goto (tgt := 41) hx hb dX8_band_36 (by decide) ?_
          have pf_b : kB (7 : Int32) 0 7 := (kB_w kc_7 (by decide) (by decide))
          exact W.iret (v := 7) hx hb hr (fun t9 ht9 hW9 => ⟨⟨7, (), rfl, pf_b, by rw [ht9]; exact hP, hD⟩, hS.F ht9⟩) hS.2.2 dX8_band_41
      · have c21x : kB k 6 6 := kB_eq c21 kc_6
        refine lv_iconst (v := 5) hx hb dX8_band_24 (by decide) ?_
        refine lv_goto (tgt := 41) hx hb dX8_band_25 (by decide) ?_
        have pf_b : kB (5 : Int32) 0 7 := (kB_w kc_5 (by decide) (by decide))
        exact W.iret (v := 5) hx hb hr (fun t9 ht9 hW9 => ⟨⟨5, (), rfl, pf_b, by rw [ht9]; exact hP, hD⟩, hS.F ht9⟩) hS.2.2 dX8_band_41
    · have c11x : kB k 5 5 := kB_eq c11 kc_5
      refine lv_iconst (v := 4) hx hb dX8_band_14 (by decide) ?_
      refine lv_goto (tgt := 41) hx hb dX8_band_15 (by decide) ?_
      have pf_b : kB (4 : Int32) 0 7 := (kB_w kc_4 (by decide) (by decide))
      exact W.iret (v := 4) hx hb hr (fun t9 ht9 hW9 => ⟨⟨4, (), rfl, pf_b, by rw [ht9]; exact hP, hD⟩, hS.F ht9⟩) hS.2.2 dX8_band_41
  · have c2n : k < 4 := kN_le c2
    have c2nx : kB k 0 3 := kB_lt_l bk kc_4 c2n (by decide)
    refine lv_iload_n hx hb dX8_band_5 rfl (lv_at hl 0 rfl) ?_
    refine lv_goto (tgt := 41) hx hb dX8_band_6 (by decide) ?_
    have pf_b : kB k 0 7 := (kB_w c2nx (by decide) (by decide))
    exact W.iret (v := k) hx hb hr (fun t9 ht9 hW9 => ⟨⟨k, (), rfl, pf_b, by rw [ht9]; exact hP, hD⟩, hS.F ht9⟩) hS.2.2 dX8_band_41
abbrev kw_X8_spot : List Cond := Cond.code yX8_spot cX8_spot 1 (some .int) :: kW
set_option maxHeartbeats 4000000 in
set_option maxRecDepth 100000 in
theorem c_X8_spot (l : Launch) (D : va_G) (cI cJ cZ : ClassId) (k : Int32) (bk : kB k 0 15) (hpz : Nat) : Met l yX8_spot kw_X8_spot ({ frames := 0, cells := 0, slots := 0, locals := 0 }) (va_Pc [.int k] (fun U => U.heap.size = hpz ∧ va_P D vwCl [] U.heap ∧ kK D cI cJ cZ U ∧ va_D (fun _ => True) [])) (va_Qi (fun (r : Int32) (u : Unit) => (kB r 0 15)) (fun (u : Unit) (t : State) => va_P D vwCl [] t.heap ∧ va_D (va_A [] hpz) []) (va_A [] hpz)) 0 0 (va_A [] hpz) := by
  refine Met.ofW (cc := cX8_spot) (maxL := 1) (ret := (some .int)) (by decide) rfl ?_
  intro p e s m args below meth c s₁ B hml hv
  obtain ⟨rfl, hsz, hP, hK, hD0⟩ := hv
  have hx := B.exec
  have hb := B.bytes
  have hr := B.returns
  have hts := fun (w : Cond) (h : w ∈ kW) => atoms_spec (ws := kw_X8_spot) B.pre w (List.mem_cons_of_mem _ h)
  have hown : s.vm.findClass RX8 = some m.cls := findClass_of_methodNamed B.named
  have hlocks := B.notSynchronized
  subst hsz
  have hD := hD0.self (sz := s.heap.size)
  generalize hAe : va_A [] s.heap.size = A at hD ⊢
  have hA : ∀ q : Nat, s.heap.size ≤ q → A q := fun q h => by rw [← hAe]; exact Or.inr h
  have hS : va_S A s.heap s.heap [] := va_S.rf
  have hP : va_P D vwCl [] s.heap := hP
  have hl := lv_entry ([.int k]) (n := 1) (Nat.le_of_ble_eq_true rfl)
  rw [lg_entry_eq]
  generalize (lg_sl ([.int k]) ++ List.replicate (1 - (lg_sl ([.int k])).length) Slot.unset).toArray = ls at hl ⊢
  have hl : lv_has ls 1 [(0, .int k)] := hl
  refine lv_iload_n hx hb dX8_spot_0 rfl (lv_at hl 0 rfl) ?_
  by_cases h1 : k.toInt < 0 ∨ 15 < k.toInt
  · exact absurd h1 (by have := bk.1; have := bk.2; omega)
  · have g1 : k.toInt = 0 ∨ k.toInt = 1 ∨ k.toInt = 2 ∨ k.toInt = 3 ∨ k.toInt = 4 ∨ k.toInt = 5 ∨ k.toInt = 6 ∨ k.toInt = 7 ∨ k.toInt = 8 ∨ k.toInt = 9 ∨ k.toInt = 10 ∨ k.toInt = 11 ∨ k.toInt = 12 ∨ k.toInt = 13 ∨ k.toInt = 14 ∨ k.toInt = 15 := by omega
    rcases g1 with k1 | k1 | k1 | k1 | k1 | k1 | k1 | k1 | k1 | k1 | k1 | k1 | k1 | k1 | k1 | k1
    · have x1 : kB k 0 0 := ⟨Int.le_of_eq k1.symm, Int.le_of_eq k1⟩
      refine lv_tableIn (tgt := 80) (off := 79) hx hb dX8_spot_1 (by omega) (by omega) (by rw [k1]; rfl) (by decide) ?_
      refine lv_iload_n hx hb dX8_spot_80 rfl (lv_at hl 0 rfl) ?_
      have pf_b : kB k 0 15 := (kB_w x1 (by decide) (by decide))
      exact W.iret (v := k) hx hb hr (fun t9 ht9 hW9 => ⟨⟨k, (), rfl, pf_b, by rw [ht9]; exact hP, hD⟩, hS.F ht9⟩) hS.2.2 dX8_spot_81
    · have x1 : kB k 1 1 := ⟨Int.le_of_eq k1.symm, Int.le_of_eq k1⟩
      refine lv_tableIn (tgt := 80) (off := 79) hx hb dX8_spot_1 (by omega) (by omega) (by rw [k1]; rfl) (by decide) ?_
      refine lv_iload_n hx hb dX8_spot_80 rfl (lv_at hl 0 rfl) ?_
      have pf_b : kB k 0 15 := (kB_w x1 (by decide) (by decide))
      exact W.iret (v := k) hx hb hr (fun t9 ht9 hW9 => ⟨⟨k, (), rfl, pf_b, by rw [ht9]; exact hP, hD⟩, hS.F ht9⟩) hS.2.2 dX8_spot_81
    · have x1 : kB k 2 2 := ⟨Int.le_of_eq k1.symm, Int.le_of_eq k1⟩
      refine lv_tableIn (tgt := 82) (off := 81) hx hb dX8_spot_1 (by omega) (by omega) (by rw [k1]; rfl) (by decide) ?_
      refine lv_iconst (v := 4) hx hb dX8_spot_82 (by decide) ?_
      have pf_b : kB (4 : Int32) 0 15 := (kB_w kc_4 (by decide) (by decide))
      exact W.iret (v := 4) hx hb hr (fun t9 ht9 hW9 => ⟨⟨4, (), rfl, pf_b, by rw [ht9]; exact hP, hD⟩, hS.F ht9⟩) hS.2.2 dX8_spot_83
    · have x1 : kB k 3 3 := ⟨Int.le_of_eq k1.symm, Int.le_of_eq k1⟩
      refine lv_tableIn (tgt := 84) (off := 83) hx hb dX8_spot_1 (by omega) (by omega) (by rw [k1]; rfl) (by decide) ?_
      refine lv_bipush (v := 8) hx hb dX8_spot_84 (by decide) ?_
      have pf_b : kB (8 : Int32) 0 15 := (kB_w kc_8 (by decide) (by decide))
      exact W.iret (v := 8) hx hb hr (fun t9 ht9 hW9 => ⟨⟨8, (), rfl, pf_b, by rw [ht9]; exact hP, hD⟩, hS.F ht9⟩) hS.2.2 dX8_spot_86
    · have x1 : kB k 4 4 := ⟨Int.le_of_eq k1.symm, Int.le_of_eq k1⟩
      refine lv_tableIn (tgt := 87) (off := 86) hx hb dX8_spot_1 (by omega) (by omega) (by rw [k1]; rfl) (by decide) ?_
      refine lv_iconst (v := 5) hx hb dX8_spot_87 (by decide) ?_
      have pf_b : kB (5 : Int32) 0 15 := (kB_w kc_5 (by decide) (by decide))
      exact W.iret (v := 5) hx hb hr (fun t9 ht9 hW9 => ⟨⟨5, (), rfl, pf_b, by rw [ht9]; exact hP, hD⟩, hS.F ht9⟩) hS.2.2 dX8_spot_88
    · have x1 : kB k 5 5 := ⟨Int.le_of_eq k1.symm, Int.le_of_eq k1⟩
      refine lv_tableIn (tgt := 89) (off := 88) hx hb dX8_spot_1 (by omega) (by omega) (by rw [k1]; rfl) (by decide) ?_
      refine lv_iconst (v := 2) hx hb dX8_spot_89 (by decide) ?_
      have pf_b : kB (2 : Int32) 0 15 := (kB_w kc_2 (by decide) (by decide))
      exact W.iret (v := 2) hx hb hr (fun t9 ht9 hW9 => ⟨⟨2, (), rfl, pf_b, by rw [ht9]; exact hP, hD⟩, hS.F ht9⟩) hS.2.2 dX8_spot_90
    · have x1 : kB k 6 6 := ⟨Int.le_of_eq k1.symm, Int.le_of_eq k1⟩
      refine lv_tableIn (tgt := 91) (off := 90) hx hb dX8_spot_1 (by omega) (by omega) (by rw [k1]; rfl) (by decide) ?_
      refine lv_iconst (v := 3) hx hb dX8_spot_91 (by decide) ?_
      have pf_b : kB (3 : Int32) 0 15 := (kB_w kc_3 (by decide) (by decide))
      exact W.iret (v := 3) hx hb hr (fun t9 ht9 hW9 => ⟨⟨3, (), rfl, pf_b, by rw [ht9]; exact hP, hD⟩, hS.F ht9⟩) hS.2.2 dX8_spot_92
    · have x1 : kB k 7 7 := ⟨Int.le_of_eq k1.symm, Int.le_of_eq k1⟩
      refine lv_tableIn (tgt := 93) (off := 92) hx hb dX8_spot_1 (by omega) (by omega) (by rw [k1]; rfl) (by decide) ?_
      refine lv_bipush (v := 6) hx hb dX8_spot_93 (by decide) ?_
      have pf_b : kB (6 : Int32) 0 15 := (kB_w kc_6 (by decide) (by decide))
      exact W.iret (v := 6) hx hb hr (fun t9 ht9 hW9 => ⟨⟨6, (), rfl, pf_b, by rw [ht9]; exact hP, hD⟩, hS.F ht9⟩) hS.2.2 dX8_spot_95
    · have x1 : kB k 8 8 := ⟨Int.le_of_eq k1.symm, Int.le_of_eq k1⟩
      refine lv_tableIn (tgt := 96) (off := 95) hx hb dX8_spot_1 (by omega) (by omega) (by rw [k1]; rfl) (by decide) ?_
      refine lv_bipush (v := 9) hx hb dX8_spot_96 (by decide) ?_
      have pf_b : kB (9 : Int32) 0 15 := (kB_w kc_9 (by decide) (by decide))
      exact W.iret (v := 9) hx hb hr (fun t9 ht9 hW9 => ⟨⟨9, (), rfl, pf_b, by rw [ht9]; exact hP, hD⟩, hS.F ht9⟩) hS.2.2 dX8_spot_98
    · have x1 : kB k 9 9 := ⟨Int.le_of_eq k1.symm, Int.le_of_eq k1⟩
      refine lv_tableIn (tgt := 99) (off := 98) hx hb dX8_spot_1 (by omega) (by omega) (by rw [k1]; rfl) (by decide) ?_
      refine lv_bipush (v := 12) hx hb dX8_spot_99 (by decide) ?_
      have pf_b : kB (12 : Int32) 0 15 := (kB_w kc_12 (by decide) (by decide))
      exact W.iret (v := 12) hx hb hr (fun t9 ht9 hW9 => ⟨⟨12, (), rfl, pf_b, by rw [ht9]; exact hP, hD⟩, hS.F ht9⟩) hS.2.2 dX8_spot_101
    · have x1 : kB k 10 10 := ⟨Int.le_of_eq k1.symm, Int.le_of_eq k1⟩
      refine lv_tableIn (tgt := 102) (off := 101) hx hb dX8_spot_1 (by omega) (by omega) (by rw [k1]; rfl) (by decide) ?_
      refine lv_bipush (v := 13) hx hb dX8_spot_102 (by decide) ?_
      have pf_b : kB (13 : Int32) 0 15 := (kB_w kc_13 (by decide) (by decide))
      exact W.iret (v := 13) hx hb hr (fun t9 ht9 hW9 => ⟨⟨13, (), rfl, pf_b, by rw [ht9]; exact hP, hD⟩, hS.F ht9⟩) hS.2.2 dX8_spot_104
    · have x1 : kB k 11 11 := ⟨Int.le_of_eq k1.symm, Int.le_of_eq k1⟩
      refine lv_tableIn (tgt := 105) (off := 104) hx hb dX8_spot_1 (by omega) (by omega) (by rw [k1]; rfl) (by decide) ?_
      refine lv_bipush (v := 10) hx hb dX8_spot_105 (by decide) ?_
      have pf_b : kB (10 : Int32) 0 15 := (kB_w kc_10 (by decide) (by decide))
      exact W.iret (v := 10) hx hb hr (fun t9 ht9 hW9 => ⟨⟨10, (), rfl, pf_b, by rw [ht9]; exact hP, hD⟩, hS.F ht9⟩) hS.2.2 dX8_spot_107
    · have x1 : kB k 12 12 := ⟨Int.le_of_eq k1.symm, Int.le_of_eq k1⟩
      refine lv_tableIn (tgt := 108) (off := 107) hx hb dX8_spot_1 (by omega) (by omega) (by rw [k1]; rfl) (by decide) ?_
      refine lv_bipush (v := 7) hx hb dX8_spot_108 (by decide) ?_
      have pf_b : kB (7 : Int32) 0 15 := (kB_w kc_7 (by decide) (by decide))
      exact W.iret (v := 7) hx hb hr (fun t9 ht9 hW9 => ⟨⟨7, (), rfl, pf_b, by rw [ht9]; exact hP, hD⟩, hS.F ht9⟩) hS.2.2 dX8_spot_110
    · have x1 : kB k 13 13 := ⟨Int.le_of_eq k1.symm, Int.le_of_eq k1⟩
      refine lv_tableIn (tgt := 111) (off := 110) hx hb dX8_spot_1 (by omega) (by omega) (by rw [k1]; rfl) (by decide) ?_
      refine lv_bipush (v := 11) hx hb dX8_spot_111 (by decide) ?_
      have pf_b : kB (11 : Int32) 0 15 := (kB_w kc_11 (by decide) (by decide))
      exact W.iret (v := 11) hx hb hr (fun t9 ht9 hW9 => ⟨⟨11, (), rfl, pf_b, by rw [ht9]; exact hP, hD⟩, hS.F ht9⟩) hS.2.2 dX8_spot_113
    · have x1 : kB k 14 14 := ⟨Int.le_of_eq k1.symm, Int.le_of_eq k1⟩
      refine lv_tableIn (tgt := 114) (off := 113) hx hb dX8_spot_1 (by omega) (by omega) (by rw [k1]; rfl) (by decide) ?_
      refine lv_bipush (v := 14) hx hb dX8_spot_114 (by decide) ?_
      have pf_b : kB (14 : Int32) 0 15 := (kB_w kc_14 (by decide) (by decide))
      exact W.iret (v := 14) hx hb hr (fun t9 ht9 hW9 => ⟨⟨14, (), rfl, pf_b, by rw [ht9]; exact hP, hD⟩, hS.F ht9⟩) hS.2.2 dX8_spot_116
    · have x1 : kB k 15 15 := ⟨Int.le_of_eq k1.symm, Int.le_of_eq k1⟩
      refine lv_tableIn (tgt := 80) (off := 79) hx hb dX8_spot_1 (by omega) (by omega) (by rw [k1]; rfl) (by decide) ?_
      refine lv_iload_n hx hb dX8_spot_80 rfl (lv_at hl 0 rfl) ?_
      have pf_b : kB k 0 15 := (kB_w x1 (by decide) (by decide))
      exact W.iret (v := k) hx hb hr (fun t9 ht9 hW9 => ⟨⟨k, (), rfl, pf_b, by rw [ht9]; exact hP, hD⟩, hS.F ht9⟩) hS.2.2 dX8_spot_81
abbrev kw_X8_last : List Cond := Cond.code yX8_last cX8_last 1 (some .int) :: kW
set_option maxHeartbeats 4000000 in
set_option maxRecDepth 100000 in
theorem c_X8_last (l : Launch) (D : va_G) (cI cJ cZ : ClassId) (k : Int32) (bk : kB k 0 10) (hpz : Nat) : Met l yX8_last kw_X8_last ({ frames := 0, cells := 0, slots := 0, locals := 0 }) (va_Pc [.int k] (fun U => U.heap.size = hpz ∧ va_P D vwCl [] U.heap ∧ kK D cI cJ cZ U ∧ va_D (fun _ => True) [])) (va_Qi (fun (r : Int32) (u : Unit) => (kB r 0 255)) (fun (u : Unit) (t : State) => va_P D vwCl [] t.heap ∧ va_D (va_A [] hpz) []) (va_A [] hpz)) 0 0 (va_A [] hpz) := by
  refine Met.ofW (cc := cX8_last) (maxL := 1) (ret := (some .int)) (by decide) rfl ?_
  intro p e s m args below meth c s₁ B hml hv
  obtain ⟨rfl, hsz, hP, hK, hD0⟩ := hv
  have hx := B.exec
  have hb := B.bytes
  have hr := B.returns
  have hts := fun (w : Cond) (h : w ∈ kW) => atoms_spec (ws := kw_X8_last) B.pre w (List.mem_cons_of_mem _ h)
  have hown : s.vm.findClass RX8 = some m.cls := findClass_of_methodNamed B.named
  have hlocks := B.notSynchronized
  subst hsz
  have hD := hD0.self (sz := s.heap.size)
  generalize hAe : va_A [] s.heap.size = A at hD ⊢
  have hA : ∀ q : Nat, s.heap.size ≤ q → A q := fun q h => by rw [← hAe]; exact Or.inr h
  have hS : va_S A s.heap s.heap [] := va_S.rf
  have hP : va_P D vwCl [] s.heap := hP
  have hl := lv_entry ([.int k]) (n := 1) (Nat.le_of_ble_eq_true rfl)
  rw [lg_entry_eq]
  generalize (lg_sl ([.int k]) ++ List.replicate (1 - (lg_sl ([.int k])).length) Slot.unset).toArray = ls at hl ⊢
  have hl : lv_has ls 1 [(0, .int k)] := hl
  refine lv_iload_n hx hb dX8_last_0 rfl (lv_at hl 0 rfl) ?_
  by_cases h1 : k.toInt < 0 ∨ 9 < k.toInt
  · refine lv_tableOut (tgt := 92) hx hb dX8_last_1 h1 (by decide) ?_
    refine lv_sipush (v := 129) hx hb dX8_last_92 (by decide) ?_
    have pf_b : kB (129 : Int32) 0 255 := (kB_w kc_129 (by decide) (by decide))
    exact W.iret (v := 129) hx hb hr (fun t9 ht9 hW9 => ⟨⟨129, (), rfl, pf_b, by rw [ht9]; exact hP, hD⟩, hS.F ht9⟩) hS.2.2 dX8_last_95
  · have g1 : k.toInt = 0 ∨ k.toInt = 1 ∨ k.toInt = 2 ∨ k.toInt = 3 ∨ k.toInt = 4 ∨ k.toInt = 5 ∨ k.toInt = 6 ∨ k.toInt = 7 ∨ k.toInt = 8 ∨ k.toInt = 9 := by omega
    rcases g1 with k1 | k1 | k1 | k1 | k1 | k1 | k1 | k1 | k1 | k1
    · have x1 : kB k 0 0 := ⟨Int.le_of_eq k1.symm, Int.le_of_eq k1⟩
      refine lv_tableIn (tgt := 56) (off := 55) hx hb dX8_last_1 (by omega) (by omega) (by rw [k1]; rfl) (by decide) ?_
      refine lv_sipush (v := 254) hx hb dX8_last_56 (by decide) ?_
      have pf_b : kB (254 : Int32) 0 255 := (kB_w kc_254 (by decide) (by decide))
      exact W.iret (v := 254) hx hb hr (fun t9 ht9 hW9 => ⟨⟨254, (), rfl, pf_b, by rw [ht9]; exact hP, hD⟩, hS.F ht9⟩) hS.2.2 dX8_last_59
    · have x1 : kB k 1 1 := ⟨Int.le_of_eq k1.symm, Int.le_of_eq k1⟩
      refine lv_tableIn (tgt := 56) (off := 55) hx hb dX8_last_1 (by omega) (by omega) (by rw [k1]; rfl) (by decide) ?_
      refine lv_sipush (v := 254) hx hb dX8_last_56 (by decide) ?_
      have pf_b : kB (254 : Int32) 0 255 := (kB_w kc_254 (by decide) (by decide))
      exact W.iret (v := 254) hx hb hr (fun t9 ht9 hW9 => ⟨⟨254, (), rfl, pf_b, by rw [ht9]; exact hP, hD⟩, hS.F ht9⟩) hS.2.2 dX8_last_59
    · have x1 : kB k 2 2 := ⟨Int.le_of_eq k1.symm, Int.le_of_eq k1⟩
      refine lv_tableIn (tgt := 60) (off := 59) hx hb dX8_last_1 (by omega) (by omega) (by rw [k1]; rfl) (by decide) ?_
      refine lv_sipush (v := 243) hx hb dX8_last_60 (by decide) ?_
      have pf_b : kB (243 : Int32) 0 255 := (kB_w kc_243 (by decide) (by decide))
      exact W.iret (v := 243) hx hb hr (fun t9 ht9 hW9 => ⟨⟨243, (), rfl, pf_b, by rw [ht9]; exact hP, hD⟩, hS.F ht9⟩) hS.2.2 dX8_last_63
    · have x1 : kB k 3 3 := ⟨Int.le_of_eq k1.symm, Int.le_of_eq k1⟩
      refine lv_tableIn (tgt := 64) (off := 63) hx hb dX8_last_1 (by omega) (by omega) (by rw [k1]; rfl) (by decide) ?_
      refine lv_sipush (v := 230) hx hb dX8_last_64 (by decide) ?_
      have pf_b : kB (230 : Int32) 0 255 := (kB_w kc_230 (by decide) (by decide))
      exact W.iret (v := 230) hx hb hr (fun t9 ht9 hW9 => ⟨⟨230, (), rfl, pf_b, by rw [ht9]; exact hP, hD⟩, hS.F ht9⟩) hS.2.2 dX8_last_67
    · have x1 : kB k 4 4 := ⟨Int.le_of_eq k1.symm, Int.le_of_eq k1⟩
      refine lv_tableIn (tgt := 68) (off := 67) hx hb dX8_last_1 (by omega) (by omega) (by rw [k1]; rfl) (by decide) ?_
      refine lv_sipush (v := 196) hx hb dX8_last_68 (by decide) ?_
      have pf_b : kB (196 : Int32) 0 255 := (kB_w kc_196 (by decide) (by decide))
      exact W.iret (v := 196) hx hb hr (fun t9 ht9 hW9 => ⟨⟨196, (), rfl, pf_b, by rw [ht9]; exact hP, hD⟩, hS.F ht9⟩) hS.2.2 dX8_last_71
    · have x1 : kB k 5 5 := ⟨Int.le_of_eq k1.symm, Int.le_of_eq k1⟩
      refine lv_tableIn (tgt := 72) (off := 71) hx hb dX8_last_1 (by omega) (by omega) (by rw [k1]; rfl) (by decide) ?_
      refine lv_sipush (v := 177) hx hb dX8_last_72 (by decide) ?_
      have pf_b : kB (177 : Int32) 0 255 := (kB_w kc_177 (by decide) (by decide))
      exact W.iret (v := 177) hx hb hr (fun t9 ht9 hW9 => ⟨⟨177, (), rfl, pf_b, by rw [ht9]; exact hP, hD⟩, hS.F ht9⟩) hS.2.2 dX8_last_75
    · have x1 : kB k 6 6 := ⟨Int.le_of_eq k1.symm, Int.le_of_eq k1⟩
      refine lv_tableIn (tgt := 76) (off := 75) hx hb dX8_last_1 (by omega) (by omega) (by rw [k1]; rfl) (by decide) ?_
      refine lv_sipush (v := 153) hx hb dX8_last_76 (by decide) ?_
      have pf_b : kB (153 : Int32) 0 255 := (kB_w kc_153 (by decide) (by decide))
      exact W.iret (v := 153) hx hb hr (fun t9 ht9 hW9 => ⟨⟨153, (), rfl, pf_b, by rw [ht9]; exact hP, hD⟩, hS.F ht9⟩) hS.2.2 dX8_last_79
    · have x1 : kB k 7 7 := ⟨Int.le_of_eq k1.symm, Int.le_of_eq k1⟩
      refine lv_tableIn (tgt := 80) (off := 79) hx hb dX8_last_1 (by omega) (by omega) (by rw [k1]; rfl) (by decide) ?_
      refine lv_sipush (v := 140) hx hb dX8_last_80 (by decide) ?_
      have pf_b : kB (140 : Int32) 0 255 := (kB_w kc_140 (by decide) (by decide))
      exact W.iret (v := 140) hx hb hr (fun t9 ht9 hW9 => ⟨⟨140, (), rfl, pf_b, by rw [ht9]; exact hP, hD⟩, hS.F ht9⟩) hS.2.2 dX8_last_83
    · have x1 : kB k 8 8 := ⟨Int.le_of_eq k1.symm, Int.le_of_eq k1⟩
      refine lv_tableIn (tgt := 84) (off := 83) hx hb dX8_last_1 (by omega) (by omega) (by rw [k1]; rfl) (by decide) ?_
      refine lv_sipush (v := 133) hx hb dX8_last_84 (by decide) ?_
      have pf_b : kB (133 : Int32) 0 255 := (kB_w kc_133 (by decide) (by decide))
      exact W.iret (v := 133) hx hb hr (fun t9 ht9 hW9 => ⟨⟨133, (), rfl, pf_b, by rw [ht9]; exact hP, hD⟩, hS.F ht9⟩) hS.2.2 dX8_last_87
    · have x1 : kB k 9 9 := ⟨Int.le_of_eq k1.symm, Int.le_of_eq k1⟩
      refine lv_tableIn (tgt := 88) (off := 87) hx hb dX8_last_1 (by omega) (by omega) (by rw [k1]; rfl) (by decide) ?_
      refine lv_sipush (v := 130) hx hb dX8_last_88 (by decide) ?_
      have pf_b : kB (130 : Int32) 0 255 := (kB_w kc_130 (by decide) (by decide))
      exact W.iret (v := 130) hx hb hr (fun t9 ht9 hW9 => ⟨⟨130, (), rfl, pf_b, by rw [ht9]; exact hP, hD⟩, hS.F ht9⟩) hS.2.2 dX8_last_91
abbrev kw_X8_tell : List Cond := Cond.code yX8_tell cX8_tell 3 (some .int) :: kW
set_option maxHeartbeats 4000000 in
set_option maxRecDepth 100000 in
theorem c_X8_tell (l : Launch) (D : va_G) (cI cJ cZ : ClassId) (hm hby hpb hwa hmn hcf hsa hro : Nat) (mrf : Int32) (msz : Int32) (mbg : Int32) (mrg : Int32) (mct : Int32) (mvl : Int32) (mpl : Int32) (mcl : Int32) (mrw : Int32) (mqt : Int32) (mlv : Int32) (mtl : Int32) (mbe : Int32) (mch : Int32) (mbt : Int64) (mby : Nat → Int32) (mpb : Nat → Int32) (bs : Int32) (kk : Int32) (brg : kB mrg 128 255) (bct : kB mct 0 7) (bsz : kB msz 0 600) (apb : kA mpb 0 255) (bbs : kB bs 0 253) (bkk : kB kk 0 10) (hpl : 0 ≤ mpl.toInt ∧ mpl.toInt ≤ 1000000000) (hpz : Nat) : Met l yX8_tell kw_X8_tell ({ frames := 2, cells := 0, slots := 0, locals := 44 }) (va_Pc [.ref hm, .int bs, .int kk] (fun U => U.heap.size = hpz ∧ va_P D vwCl [(hm, .inr (8, [.int mrf, .ref hby, .int msz, .int mbg, .long mbt, .int mrg, .int mct, .int mvl, .int mpl, .int mcl, .int mrw, .int mqt, .int mlv, .int mtl, .int mbe, .int mch, .ref hpb, .ref hwa, .ref hmn, .ref hcf, .ref hsa, .ref hro])), (hby, .inl (cI, 600, .inl mby)), (hpb, .inl (cI, 264, .inl mpb))] U.heap ∧ kK D cI cJ cZ U ∧ va_D (fun _ => True) [(hm, .inr (8, [.int mrf, .ref hby, .int msz, .int mbg, .long mbt, .int mrg, .int mct, .int mvl, .int mpl, .int mcl, .int mrw, .int mqt, .int mlv, .int mtl, .int mbe, .int mch, .ref hpb, .ref hwa, .ref hmn, .ref hcf, .ref hsa, .ref hro])), (hby, .inl (cI, 600, .inl mby)), (hpb, .inl (cI, 264, .inl mpb))])) (va_Qi (fun (r : Int32) (u : Int32 × Int32 × Int32 × Int32) => (kB r 0 1) ∧ (kB u.1 128 255) ∧ (kB u.2.1 0 7) ∧ (0 ≤ u.2.2.2.toInt ∧ u.2.2.2.toInt ≤ mpl.toInt + 7)) (fun (u : Int32 × Int32 × Int32 × Int32) (t : State) => va_P D vwCl [(hm, .inr (8, [.int mrf, .ref hby, .int msz, .int mbg, .long mbt, .int u.1, .int u.2.1, .int u.2.2.1, .int u.2.2.2, .int mcl, .int mrw, .int mqt, .int mlv, .int mtl, .int mbe, .int mch, .ref hpb, .ref hwa, .ref hmn, .ref hcf, .ref hsa, .ref hro])), (hby, .inl (cI, 600, .inl mby)), (hpb, .inl (cI, 264, .inl mpb))] t.heap ∧ va_D (va_A [(hm, .inr (8, [.int mrf, .ref hby, .int msz, .int mbg, .long mbt, .int mrg, .int mct, .int mvl, .int mpl, .int mcl, .int mrw, .int mqt, .int mlv, .int mtl, .int mbe, .int mch, .ref hpb, .ref hwa, .ref hmn, .ref hcf, .ref hsa, .ref hro])), (hby, .inl (cI, 600, .inl mby)), (hpb, .inl (cI, 264, .inl mpb))] hpz) [(hm, .inr (8, [.int mrf, .ref hby, .int msz, .int mbg, .long mbt, .int u.1, .int u.2.1, .int u.2.2.1, .int u.2.2.2, .int mcl, .int mrw, .int mqt, .int mlv, .int mtl, .int mbe, .int mch, .ref hpb, .ref hwa, .ref hmn, .ref hcf, .ref hsa, .ref hro])), (hby, .inl (cI, 600, .inl mby)), (hpb, .inl (cI, 264, .inl mpb))]) (va_A [(hm, .inr (8, [.int mrf, .ref hby, .int msz, .int mbg, .long mbt, .int mrg, .int mct, .int mvl, .int mpl, .int mcl, .int mrw, .int mqt, .int mlv, .int mtl, .int mbe, .int mch, .ref hpb, .ref hwa, .ref hmn, .ref hcf, .ref hsa, .ref hro])), (hby, .inl (cI, 600, .inl mby)), (hpb, .inl (cI, 264, .inl mpb))] hpz)) 0 0 (va_A [(hm, .inr (8, [.int mrf, .ref hby, .int msz, .int mbg, .long mbt, .int mrg, .int mct, .int mvl, .int mpl, .int mcl, .int mrw, .int mqt, .int mlv, .int mtl, .int mbe, .int mch, .ref hpb, .ref hwa, .ref hmn, .ref hcf, .ref hsa, .ref hro])), (hby, .inl (cI, 600, .inl mby)), (hpb, .inl (cI, 264, .inl mpb))] hpz) := by
  refine Met.ofW (cc := cX8_tell) (maxL := 3) (ret := (some .int)) (by decide) rfl ?_
  intro p e s m args below meth c s₁ B hml hv
  obtain ⟨rfl, hsz, hP, hK, hD0⟩ := hv
  have hx := B.exec
  have hb := B.bytes
  have hr := B.returns
  have hts := fun (w : Cond) (h : w ∈ kW) => atoms_spec (ws := kw_X8_tell) B.pre w (List.mem_cons_of_mem _ h)
  have hown : s.vm.findClass RX8 = some m.cls := findClass_of_methodNamed B.named
  have hlocks := B.notSynchronized
  subst hsz
  have hD := hD0.self (sz := s.heap.size)
  generalize hAe : va_A [(hm, .inr (8, [.int mrf, .ref hby, .int msz, .int mbg, .long mbt, .int mrg, .int mct, .int mvl, .int mpl, .int mcl, .int mrw, .int mqt, .int mlv, .int mtl, .int mbe, .int mch, .ref hpb, .ref hwa, .ref hmn, .ref hcf, .ref hsa, .ref hro])), (hby, .inl (cI, 600, .inl mby)), (hpb, .inl (cI, 264, .inl mpb))] s.heap.size = A at hD ⊢
  have hA : ∀ q : Nat, s.heap.size ≤ q → A q := fun q h => by rw [← hAe]; exact Or.inr h
  have hS : va_S A s.heap s.heap [] := va_S.rf
  have hP : va_P D vwCl [(hm, .inr (8, [.int mrf, .ref hby, .int msz, .int mbg, .long mbt, .int mrg, .int mct, .int mvl, .int mpl, .int mcl, .int mrw, .int mqt, .int mlv, .int mtl, .int mbe, .int mch, .ref hpb, .ref hwa, .ref hmn, .ref hcf, .ref hsa, .ref hro])), (hby, .inl (cI, 600, .inl mby)), (hpb, .inl (cI, 264, .inl mpb))] s.heap := hP
  have hl := lv_entry ([.ref hm, .int bs, .int kk]) (n := 3) (Nat.le_of_ble_eq_true rfl)
  rw [lg_entry_eq]
  generalize (lg_sl ([.ref hm, .int bs, .int kk]) ++ List.replicate (3 - (lg_sl ([.ref hm, .int bs, .int kk])).length) Slot.unset).toArray = ls at hl ⊢
  have hl : lv_has ls 3 [(0, .ref hm), (1, .int bs), (2, .int kk)] := hl
  refine lv_aload_n hx hb dX8_tell_0 rfl (lv_at hl 0 rfl) ?_
  refine lv_aload_n hx hb dX8_tell_1 rfl (lv_at hl 0 rfl) ?_
  refine va_get (D := D) (ci := 8) (v := .ref hpb) (C := RX8) (T := TX8) (N := 22) hx hb hts in_X8 hown hK.1 hP 0 rfl rfl 16 (by decide) (hts _ mk_204) (fun _ h9 => h9) rfl dX8_tell_2 ?_
  refine lv_iload_n hx hb dX8_tell_5 rfl (lv_at hl 1 rfl) ?_
  refine lv_iload_n hx hb dX8_tell_6 rfl (lv_at hl 2 rfl) ?_
  refine lv_iadd hx hb dX8_tell_7 ?_
  refine lv_topi (fun v7 e7 => ?_)
  have b7 : kB v7 0 263 := kB_eq e7 (kB_add bbs bkk (by decide))
  refine va_iald hx hb hK.1 hP 2 0 rfl rfl (kB_in b7 (by decide)) dX8_tell_8 ?_
  refine lv_topi (fun v8 e8 => ?_)
  have b8 : kB v8 0 255 := kB_eq e8 (apb _)
  have hPc := hP.sub (ws' := [(hm, .inr (8, [.int mrf, .ref hby, .int msz, .int mbg, .long mbt, .int mrg, .int mct, .int mvl, .int mpl, .int mcl, .int mrw, .int mqt, .int mlv, .int mtl, .int mbe, .int mch, .ref hpb, .ref hwa, .ref hmn, .ref hcf, .ref hsa, .ref hro])), (hby, .inl (cI, 600, .inl mby))]) [0, 1] rfl
  have hDc := hD.sub (ws' := [(hm, .inr (8, [.int mrf, .ref hby, .int msz, .int mbg, .long mbt, .int mrg, .int mct, .int mvl, .int mpl, .int mcl, .int mrw, .int mqt, .int mlv, .int mtl, .int mbe, .int mch, .ref hpb, .ref hwa, .ref hmn, .ref hcf, .ref hsa, .ref hro])), (hby, .inl (cI, 600, .inl mby))]) [0, 1] (by decide) rfl
  have hFc := va_free (wc := [(hm, .inr (8, [.int mrf, .ref hby, .int msz, .int mbg, .long mbt, .int mrg, .int mct, .int mvl, .int mpl, .int mcl, .int mrw, .int mqt, .int mlv, .int mtl, .int mbe, .int mch, .ref hpb, .ref hwa, .ref hmn, .ref hcf, .ref hsa, .ref hro])), (hby, .inl (cI, 600, .inl mby))]) hD hS hA [0, 1] rfl
  refine va_calli (va_runV (As := [.int v8]) (rest := []) ⟨hx, hb, hml, hown, hts⟩ (c_X8_readBit l D cI cJ cZ hm hby hpb hwa hmn hcf hsa hro mrf msz mbg mrg mct mvl mpl mcl mrw mqt mlv mtl mbe mch mbt mby v8 brg bct bsz b8 hpl (s.heap).size) (cwV 1 hts (kg_V mk_200 mk_201 mk_202 mk_189 mk_203) rfl rfl rfl (by decide +kernel) ⟨Nat.le_of_ble_eq_true rfl, Nat.le_of_ble_eq_true rfl⟩) ⟨fun a U g mk q => by obtain ⟨q0, q1, qP, qK, qD⟩ := q; exact ⟨q0, q1, qP, kK.call qK, qD⟩, va_recv hK.1 hPc (ci := 8) (q0 := 0) rfl rfl, fun U hU hW => ⟨rfl, by rw [hU], by rw [hU]; exact hPc, kK.warm hW hK, hDc.weaken (fun _ _ _ _ => trivial)⟩⟩ rfl rfl hl.1 rfl (lv_room (Nat.le_of_ble_eq_true rfl)) dX8_tell_9 ⟨Nat.zero_le _, Nat.zero_le _⟩) hS (fun q _ h => hFc q h) hFc (fun r9 u t9 H1 locs ht9 hvm9 hw9 hB9 hz9 hk9 hS => ?_)
  obtain ⟨mrg2_9, mct2_9, mvl2_9, mpl2_9⟩ := u
  obtain ⟨hP1, hD1⟩ := hB9
  rw [ht9] at hP1
  have hP1 : va_P D vwCl [(hm, .inr (8, [.int mrf, .ref hby, .int msz, .int mbg, .long mbt, .int mrg2_9, .int mct2_9, .int mvl2_9, .int mpl2_9, .int mcl, .int mrw, .int mqt, .int mlv, .int mtl, .int mbe, .int mch, .ref hpb, .ref hwa, .ref hmn, .ref hcf, .ref hsa, .ref hro])), (hby, .inl (cI, 600, .inl mby))] H1 := hP1
  obtain ⟨hP, hD⟩ := va_join (wr := [(hpb, .inl (cI, 264, .inl mpb))]) (w1 := [(hm, .inr (8, [.int mrf, .ref hby, .int msz, .int mbg, .long mbt, .int mrg2_9, .int mct2_9, .int mvl2_9, .int mpl2_9, .int mcl, .int mrw, .int mqt, .int mlv, .int mtl, .int mbe, .int mch, .ref hpb, .ref hwa, .ref hmn, .ref hcf, .ref hsa, .ref hro])), (hby, .inl (cI, 600, .inl mby))]) hP hD [0, 1] [2] rfl rfl (by decide) (by decide) hk9 hFc hP1 hD1
  have hP := hP.sub (ws' := [(hm, .inr (8, [.int mrf, .ref hby, .int msz, .int mbg, .long mbt, .int mrg2_9, .int mct2_9, .int mvl2_9, .int mpl2_9, .int mcl, .int mrw, .int mqt, .int mlv, .int mtl, .int mbe, .int mch, .ref hpb, .ref hwa, .ref hmn, .ref hcf, .ref hsa, .ref hro])), (hby, .inl (cI, 600, .inl mby)), (hpb, .inl (cI, 264, .inl mpb))]) [1, 2, 0] rfl
  have hD := hD.sub (ws' := [(hm, .inr (8, [.int mrf, .ref hby, .int msz, .int mbg, .long mbt, .int mrg2_9, .int mct2_9, .int mvl2_9, .int mpl2_9, .int mcl, .int mrw, .int mqt, .int mlv, .int mtl, .int mbe, .int mch, .ref hpb, .ref hwa, .ref hmn, .ref hcf, .ref hsa, .ref hro])), (hby, .inl (cI, 600, .inl mby)), (hpb, .inl (cI, 264, .inl mpb))]) [1, 2, 0] (by decide) rfl
  generalize H1 = H at hP hS ⊢
  obtain ⟨q9_0, q9_1, q9_2, q9_3, q9_4⟩ := hw9
  have q9_0 : kB r9 0 1 := q9_0
  have q9_1 : kB mrg2_9 128 255 := q9_1
  have q9_2 : kB mct2_9 0 7 := q9_2
  have q9_3 : 0 ≤ mpl2_9.toInt ∧ mpl2_9.toInt ≤ mpl.toInt + 7 := q9_3
  have q9_4 : kIf (v8.toInt = 128 ∧ 0 ≤ mvl.toInt ∧ mvl.toInt ≤ 2000000 ∧ mct.toInt ≤ 6) (r9.toInt = rBt mvl.toInt mrg.toInt ∧ (mvl2_9.toInt, mrg2_9.toInt, mct2_9.toInt) = rNx mvl.toInt mrg.toInt mct.toInt) := q9_4
  exact W.iret (v := r9) hx hb hr (fun t9 ht9 hW9 => ⟨⟨r9, (mrg2_9, mct2_9, mvl2_9, mpl2_9), rfl, ⟨q9_0, q9_1, q9_2, q9_3⟩, by rw [ht9]; exact hP, hD⟩, hS.F ht9⟩) hS.2.2 dX8_tell_12
abbrev kw_X8_added : List Cond := Cond.code yX8_added cX8_added 7 (some .int) :: kW
set_option maxHeartbeats 4000000 in
set_option maxRecDepth 100000 in
theorem lp_X8_added_9 {p : Program} {l : Launch} {e : Env} {s : State} {m : MethodId} {args : Array Value} {below : List Frame} {meth : Method} {c : Code} {A : Nat → Prop} (D : va_G) (cI cJ cZ : ClassId) (hm hby hpb hwa hmn hcf hsa hro : Nat) (mrf : Int32) (msz : Int32) (mbg : Int32) (mrg : Int32) (mct : Int32) (mvl : Int32) (mpl : Int32) (mcl : Int32) (mrw : Int32) (mqt : Int32) (mlv : Int32) (mtl : Int32) (mbe : Int32) (mch : Int32) (mbt : Int64) (mby : Nat → Int32) (fr : Int32) (pbs : Int64) (nn : Int32) (brg : kB mrg 128 255) (bct : kB mct 0 7) (bsz : kB msz 0 600) (bfr : kB fr 0 67) (bnn : kB nn 1 5) (hpl : 0 ≤ mpl.toInt ∧ mpl.toInt ≤ 999900000) (hx : p.tables.exec = Jvm.exec) (hb : c.code = cX8_added) (hr : meth.sig.returnType = (some .int)) (hml : c.maxLocals = 7) (hown : s.vm.findClass RX8 = some m.cls) (hts : ∀ w ∈ kW, w.before args s = true) (hlocks : meth.locks = false) (hK : kK D cI cJ cZ s) (hA : ∀ q : Nat, s.heap.size ≤ q → A q) : ∀ n : Nat, ∀ (x5 : Int32) (x6 : Int32) (mrg2 : Int32) (mct2 : Int32) (mvl2 : Int32) (mpl2 : Int32), (x6.toInt + 1).toNat < n → (kB x6 (-1) 4) → (x6.toInt ≤ nn.toInt - 1) → (kB mrg2 128 255) → (kB mct2 0 7) → (0 ≤ mpl2.toInt ∧ mpl2.toInt ≤ mpl.toInt + 7 * (nn.toInt - 1 - x6.toInt)) → (0 ≤ x5.toInt ∧ x5.toInt < pw2 (nn.toInt - 1 - x6.toInt)) → ∀ (H : Heap) (locs : List Loc) (ls : Array Slot), va_P D vwCl [(hm, .inr (8, [.int mrf, .ref hby, .int msz, .int mbg, .long mbt, .int mrg2, .int mct2, .int mvl2, .int mpl2, .int mcl, .int mrw, .int mqt, .int mlv, .int mtl, .int mbe, .int mch, .ref hpb, .ref hwa, .ref hmn, .ref hcf, .ref hsa, .ref hro])), (hby, .inl (cI, 600, .inl mby))] H → va_D A [(hm, .inr (8, [.int mrf, .ref hby, .int msz, .int mbg, .long mbt, .int mrg2, .int mct2, .int mvl2, .int mpl2, .int mcl, .int mrw, .int mqt, .int mlv, .int mtl, .int mbe, .int mch, .ref hpb, .ref hwa, .ref hmn, .ref hcf, .ref hsa, .ref hro])), (hby, .inl (cI, 600, .inl mby))] → va_S A s.heap H locs → lv_has ls 7 [(0, .ref hm), (1, .int fr), (2, .long pbs), (4, .int nn), (5, .int x5), (6, .int x6)] → W p l e (headSpec kw_X8_added ({ frames := 2, cells := 0, slots := 0, locals := 44 })).room s m args below meth c H locs 0 0 (MQ below (va_Qi (fun (r : Int32) (u : Int32 × Int32 × Int32 × Int32) => (kB r 0 99) ∧ (kB u.1 128 255) ∧ (kB u.2.1 0 7) ∧ (0 ≤ u.2.2.2.toInt ∧ u.2.2.2.toInt ≤ mpl.toInt + 42)) (fun (u : Int32 × Int32 × Int32 × Int32) (t : State) => va_P D vwCl [(hm, .inr (8, [.int mrf, .ref hby, .int msz, .int mbg, .long mbt, .int u.1, .int u.2.1, .int u.2.2.1, .int u.2.2.2, .int mcl, .int mrw, .int mqt, .int mlv, .int mtl, .int mbe, .int mch, .ref hpb, .ref hwa, .ref hmn, .ref hcf, .ref hsa, .ref hro])), (hby, .inl (cI, 600, .inl mby))] t.heap ∧ va_D A [(hm, .inr (8, [.int mrf, .ref hby, .int msz, .int mbg, .long mbt, .int u.1, .int u.2.1, .int u.2.2.1, .int u.2.2.2, .int mcl, .int mrw, .int mqt, .int mlv, .int mtl, .int mbe, .int mch, .ref hpb, .ref hwa, .ref hmn, .ref hcf, .ref hsa, .ref hro])), (hby, .inl (cI, 600, .inl mby))]) A) args s 0 0 A) (F0 m 9 ls []) := by
  intro n
  induction n with
  | zero => intro x5 x6 mrg2 mct2 mvl2 mpl2 hmeas; exact absurd hmeas (Nat.not_lt_zero _)
  | succ n ih =>
    intro x5 x6 mrg2 mct2 mvl2 mpl2 hmeas b6 l6 brg2 bct2 hq hn H locs ls hP hD hS hl
    refine lv_iload hx hb dX8_added_9 (lv_at hl 5 rfl) ?_
    refine lv_if_lt (tgt := 43) hx hb dX8_added_11 (by decide) (fun c11 => ?_) (fun c11 => ?_)
    · have c11x : kB x6 (-1) (-1) := kB_lt_l b6 kc_0 c11 (by decide)
      have B5 : kB x5 0 31 := ⟨hn.1, by have h3 := pw2_mono (i := nn.toInt - 1 - x6.toInt) (j := 5) (by have := b6.1; have := bnn.2; omega); rw [show pw2 5 = 32 from by decide] at h3; have := hn.2; omega⟩
      refine lv_iload_n hx hb dX8_added_43 rfl (lv_at hl 1 rfl) ?_
      refine lv_iload hx hb dX8_added_44 (lv_at hl 4 rfl) ?_
      refine lv_iadd hx hb dX8_added_46 ?_
      refine lv_topi (fun v46 e46 => ?_)
      have b46 : kB v46 0 98 := kB_eq e46 (kB_add bfr B5 (by decide))
      have pf_b : kB v46 0 99 := (kB_w b46 (by decide) (by decide))
      have pf_pl : 0 ≤ mpl2.toInt ∧ mpl2.toInt ≤ mpl.toInt + 42 := ⟨hq.1, by have := hq.2; have := b6.1; have := bnn.2; omega⟩
      exact W.iret (v := v46) hx hb hr (fun t9 ht9 hW9 => ⟨⟨v46, (mrg2, mct2, mvl2, mpl2), rfl, ⟨pf_b, brg2, bct2, pf_pl⟩, by rw [ht9]; exact hP, hD⟩, hS.F ht9⟩) hS.2.2 dX8_added_47
    · have c11n : 0 ≤ x6 := kN_lt c11
      have c11ny : kB x6 0 4 := kB_le_r kc_0 b6 c11n (by decide)
      refine lv_iconst (v := 2) hx hb dX8_added_14 (by decide) ?_
      refine lv_iload hx hb dX8_added_15 (lv_at hl 4 rfl) ?_
      refine lv_imul hx hb dX8_added_17 ?_
      refine lv_topi (fun v17 e17 => ?_)
      refine lv_aload_n hx hb dX8_added_18 rfl (lv_at hl 0 rfl) ?_
      refine lv_lload_n hx hb dX8_added_19 rfl (lv_at hl 2 rfl) ?_
      refine lv_bipush (v := 8) hx hb dX8_added_20 (by decide) ?_
      refine lv_iload hx hb dX8_added_22 (lv_at hl 5 rfl) ?_
      refine lv_imul hx hb dX8_added_24 ?_
      refine lv_topi (fun v24 e24 => ?_)
      have b24 : kB v24 0 32 := kB_eq e24 (kB_cmul kc_8 c11ny (by decide))
      refine lv_lshr hx hb dX8_added_25 rfl ?_
      refine lv_topl (fun v25 e25 => ?_)
      refine lv_ldc2 (v := 255) hx hb hown (hts _ mk_205) dX8_added_26 ?_
      refine lv_land hx hb dX8_added_29 ?_
      refine lv_topl (fun v29 e29 => ?_)
      refine lv_l2i hx hb dX8_added_30 rfl ?_
      refine lv_topi (fun v30 e30 => ?_)
      have B30 : kB v30 0 255 := (by rw [e30, e29]; exact kl255)
      have hPc := hP.sub (ws' := [(hm, .inr (8, [.int mrf, .ref hby, .int msz, .int mbg, .long mbt, .int mrg2, .int mct2, .int mvl2, .int mpl2, .int mcl, .int mrw, .int mqt, .int mlv, .int mtl, .int mbe, .int mch, .ref hpb, .ref hwa, .ref hmn, .ref hcf, .ref hsa, .ref hro])), (hby, .inl (cI, 600, .inl mby))]) [0, 1] rfl
      have hDc := hD.sub (ws' := [(hm, .inr (8, [.int mrf, .ref hby, .int msz, .int mbg, .long mbt, .int mrg2, .int mct2, .int mvl2, .int mpl2, .int mcl, .int mrw, .int mqt, .int mlv, .int mtl, .int mbe, .int mch, .ref hpb, .ref hwa, .ref hmn, .ref hcf, .ref hsa, .ref hro])), (hby, .inl (cI, 600, .inl mby))]) [0, 1] (by decide) rfl
      have hFc := va_free (wc := [(hm, .inr (8, [.int mrf, .ref hby, .int msz, .int mbg, .long mbt, .int mrg2, .int mct2, .int mvl2, .int mpl2, .int mcl, .int mrw, .int mqt, .int mlv, .int mtl, .int mbe, .int mch, .ref hpb, .ref hwa, .ref hmn, .ref hcf, .ref hsa, .ref hro])), (hby, .inl (cI, 600, .inl mby))]) hD hS hA [0, 1] rfl
      refine va_calli (va_runV (As := [.int v30]) (rest := [.int v17]) ⟨hx, hb, hml, hown, hts⟩ (c_X8_readBit l D cI cJ cZ hm hby hpb hwa hmn hcf hsa hro mrf msz mbg mrg2 mct2 mvl2 mpl2 mcl mrw mqt mlv mtl mbe mch mbt mby v30 brg2 bct2 bsz B30 ⟨hq.1, by have := hq.2; have := b6.1; have := bnn.2; have := hpl.2; omega⟩ (H).size) (cwV 1 hts (kg_V mk_200 mk_201 mk_202 mk_189 mk_203) rfl rfl rfl (by decide +kernel) ⟨Nat.le_of_ble_eq_true rfl, Nat.le_of_ble_eq_true rfl⟩) ⟨fun a U g mk q => by obtain ⟨q0, q1, qP, qK, qD⟩ := q; exact ⟨q0, q1, qP, kK.call qK, qD⟩, va_recv hK.1 hPc (ci := 8) (q0 := 0) rfl rfl, fun U hU hW => ⟨rfl, by rw [hU], by rw [hU]; exact hPc, kK.warm hW hK, hDc.weaken (fun _ _ _ _ => trivial)⟩⟩ rfl rfl hl.1 rfl (lv_room (Nat.le_of_ble_eq_true rfl)) dX8_added_31 ⟨Nat.zero_le _, Nat.zero_le _⟩) hS (fun q _ h => hFc q h) hFc (fun r31 u t9 H1 locs ht9 hvm9 hw9 hB9 hz9 hk9 hS => ?_)
      obtain ⟨mrg2_31, mct2_31, mvl2_31, mpl2_31⟩ := u
      obtain ⟨hP1, hD1⟩ := hB9
      rw [ht9] at hP1
      have hP1 : va_P D vwCl [(hm, .inr (8, [.int mrf, .ref hby, .int msz, .int mbg, .long mbt, .int mrg2_31, .int mct2_31, .int mvl2_31, .int mpl2_31, .int mcl, .int mrw, .int mqt, .int mlv, .int mtl, .int mbe, .int mch, .ref hpb, .ref hwa, .ref hmn, .ref hcf, .ref hsa, .ref hro])), (hby, .inl (cI, 600, .inl mby))] H1 := hP1
      obtain ⟨hP, hD⟩ := va_join (wr := []) (w1 := [(hm, .inr (8, [.int mrf, .ref hby, .int msz, .int mbg, .long mbt, .int mrg2_31, .int mct2_31, .int mvl2_31, .int mpl2_31, .int mcl, .int mrw, .int mqt, .int mlv, .int mtl, .int mbe, .int mch, .ref hpb, .ref hwa, .ref hmn, .ref hcf, .ref hsa, .ref hro])), (hby, .inl (cI, 600, .inl mby))]) hP hD [0, 1] [] rfl rfl (by decide) (by decide) hk9 hFc hP1 hD1
      have hP := hP.sub (ws' := [(hm, .inr (8, [.int mrf, .ref hby, .int msz, .int mbg, .long mbt, .int mrg2_31, .int mct2_31, .int mvl2_31, .int mpl2_31, .int mcl, .int mrw, .int mqt, .int mlv, .int mtl, .int mbe, .int mch, .ref hpb, .ref hwa, .ref hmn, .ref hcf, .ref hsa, .ref hro])), (hby, .inl (cI, 600, .inl mby))]) [0, 1] rfl
      have hD := hD.sub (ws' := [(hm, .inr (8, [.int mrf, .ref hby, .int msz, .int mbg, .long mbt, .int mrg2_31, .int mct2_31, .int mvl2_31, .int mpl2_31, .int mcl, .int mrw, .int mqt, .int mlv, .int mtl, .int mbe, .int mch, .ref hpb, .ref hwa, .ref hmn, .ref hcf, .ref hsa, .ref hro])), (hby, .inl (cI, 600, .inl mby))]) [0, 1] (by decide) rfl
      generalize H1 = H at hP hS ⊢
      obtain ⟨q31_0, q31_1, q31_2, q31_3, q31_4⟩ := hw9
      have q31_0 : kB r31 0 1 := q31_0
      have q31_1 : kB mrg2_31 128 255 := q31_1
      have q31_2 : kB mct2_31 0 7 := q31_2
      have q31_3 : 0 ≤ mpl2_31.toInt ∧ mpl2_31.toInt ≤ mpl2.toInt + 7 := q31_3
      have q31_4 : kIf (v30.toInt = 128 ∧ 0 ≤ mvl2.toInt ∧ mvl2.toInt ≤ 2000000 ∧ mct2.toInt ≤ 6) (r31.toInt = rBt mvl2.toInt mrg2.toInt ∧ (mvl2_31.toInt, mrg2_31.toInt, mct2_31.toInt) = rNx mvl2.toInt mrg2.toInt mct2.toInt) := q31_4
      refine lv_iadd hx hb dX8_added_34 ?_
      refine lv_topi (fun v34 e34 => ?_)
      refine lv_istore (lv' := [(5, .int v34), (0, .ref hm), (1, .int fr), (2, .long pbs), (4, .int nn), (6, .int x6)]) hx hb dX8_added_35 hl (by decide) rfl (fun ls hl => ?_)
      obtain ⟨v37, e37⟩ : ∃ y : Int32, y = x6 + (-1) := ⟨_, rfl⟩
      refine lv_iinc (v := v37) (lv' := [(6, .int v37), (5, .int v34), (0, .ref hm), (1, .int fr), (2, .long pbs), (4, .int nn)]) hx hb dX8_added_37 hl (k := 5) rfl (by rw [e37]; rfl) (by decide) rfl (fun ls hl => ?_)
      have b37 : kB v37 (-1) 3 := kB_eq e37 (kB_add c11ny kc_m1 (by decide))
      have t37 : v37.toInt = x6.toInt + (-1) := by rw [e37]; exact kdec (kB_w c11ny (by decide) (by decide))
      refine lv_goto (tgt := 9) hx hb dX8_added_40 (by decide) ?_
      exact ih v34 v37 mrg2_31 mct2_31 mvl2_31 mpl2_31 (by have := b37.1; have := b37.2; have := q31_1.1; have := q31_1.2; have := q31_2.1; have := q31_2.2; have := c11ny.1; have := c11ny.2; have := brg2.1; have := brg2.2; have := bct2.1; have := bct2.2; omega) (kB_w b37 (by decide) (by decide)) (by rw [t37]; omega) q31_1 q31_2 ⟨q31_3.1, by rw [t37]; have := q31_3.2; have := hq.2; omega⟩ (by rw [t37, show nn.toInt - 1 - (x6.toInt + -1) = (nn.toInt - 1 - x6.toInt) + 1 by omega, pw2_s (by omega)]; obtain ⟨h1, h2⟩ := hn; have h3 := pw2_mono (i := nn.toInt - 1 - x6.toInt) (j := 5) (by have := b6.1; have := bnn.2; omega); rw [show pw2 5 = 32 from by decide] at h3; have h5 := kdbl2 (x := x5) ⟨h1, by omega⟩; rw [← e17] at h5; have h4 : v34.toInt = v17.toInt + r31.toInt := by { rw [e34, kI_add (by have := q31_0.1; omega) (by have := q31_0.2; omega)] }; rw [h4, h5]; have := q31_0.1; have := q31_0.2; omega) _ _ ls hP hD hS (lv_sub hl [2, 3, 4, 5, 1, 0] rfl)
set_option maxHeartbeats 4000000 in
set_option maxRecDepth 100000 in
theorem c_X8_added (l : Launch) (D : va_G) (cI cJ cZ : ClassId) (hm hby hpb hwa hmn hcf hsa hro : Nat) (mrf : Int32) (msz : Int32) (mbg : Int32) (mrg : Int32) (mct : Int32) (mvl : Int32) (mpl : Int32) (mcl : Int32) (mrw : Int32) (mqt : Int32) (mlv : Int32) (mtl : Int32) (mbe : Int32) (mch : Int32) (mbt : Int64) (mby : Nat → Int32) (fr : Int32) (pbs : Int64) (nn : Int32) (brg : kB mrg 128 255) (bct : kB mct 0 7) (bsz : kB msz 0 600) (bfr : kB fr 0 67) (bnn : kB nn 1 5) (hpl : 0 ≤ mpl.toInt ∧ mpl.toInt ≤ 999900000) (hpz : Nat) : Met l yX8_added kw_X8_added ({ frames := 2, cells := 0, slots := 0, locals := 44 }) (va_Pc [.ref hm, .int fr, .long pbs, .int nn] (fun U => U.heap.size = hpz ∧ va_P D vwCl [(hm, .inr (8, [.int mrf, .ref hby, .int msz, .int mbg, .long mbt, .int mrg, .int mct, .int mvl, .int mpl, .int mcl, .int mrw, .int mqt, .int mlv, .int mtl, .int mbe, .int mch, .ref hpb, .ref hwa, .ref hmn, .ref hcf, .ref hsa, .ref hro])), (hby, .inl (cI, 600, .inl mby))] U.heap ∧ kK D cI cJ cZ U ∧ va_D (fun _ => True) [(hm, .inr (8, [.int mrf, .ref hby, .int msz, .int mbg, .long mbt, .int mrg, .int mct, .int mvl, .int mpl, .int mcl, .int mrw, .int mqt, .int mlv, .int mtl, .int mbe, .int mch, .ref hpb, .ref hwa, .ref hmn, .ref hcf, .ref hsa, .ref hro])), (hby, .inl (cI, 600, .inl mby))])) (va_Qi (fun (r : Int32) (u : Int32 × Int32 × Int32 × Int32) => (kB r 0 99) ∧ (kB u.1 128 255) ∧ (kB u.2.1 0 7) ∧ (0 ≤ u.2.2.2.toInt ∧ u.2.2.2.toInt ≤ mpl.toInt + 42)) (fun (u : Int32 × Int32 × Int32 × Int32) (t : State) => va_P D vwCl [(hm, .inr (8, [.int mrf, .ref hby, .int msz, .int mbg, .long mbt, .int u.1, .int u.2.1, .int u.2.2.1, .int u.2.2.2, .int mcl, .int mrw, .int mqt, .int mlv, .int mtl, .int mbe, .int mch, .ref hpb, .ref hwa, .ref hmn, .ref hcf, .ref hsa, .ref hro])), (hby, .inl (cI, 600, .inl mby))] t.heap ∧ va_D (va_A [(hm, .inr (8, [.int mrf, .ref hby, .int msz, .int mbg, .long mbt, .int mrg, .int mct, .int mvl, .int mpl, .int mcl, .int mrw, .int mqt, .int mlv, .int mtl, .int mbe, .int mch, .ref hpb, .ref hwa, .ref hmn, .ref hcf, .ref hsa, .ref hro])), (hby, .inl (cI, 600, .inl mby))] hpz) [(hm, .inr (8, [.int mrf, .ref hby, .int msz, .int mbg, .long mbt, .int u.1, .int u.2.1, .int u.2.2.1, .int u.2.2.2, .int mcl, .int mrw, .int mqt, .int mlv, .int mtl, .int mbe, .int mch, .ref hpb, .ref hwa, .ref hmn, .ref hcf, .ref hsa, .ref hro])), (hby, .inl (cI, 600, .inl mby))]) (va_A [(hm, .inr (8, [.int mrf, .ref hby, .int msz, .int mbg, .long mbt, .int mrg, .int mct, .int mvl, .int mpl, .int mcl, .int mrw, .int mqt, .int mlv, .int mtl, .int mbe, .int mch, .ref hpb, .ref hwa, .ref hmn, .ref hcf, .ref hsa, .ref hro])), (hby, .inl (cI, 600, .inl mby))] hpz)) 0 0 (va_A [(hm, .inr (8, [.int mrf, .ref hby, .int msz, .int mbg, .long mbt, .int mrg, .int mct, .int mvl, .int mpl, .int mcl, .int mrw, .int mqt, .int mlv, .int mtl, .int mbe, .int mch, .ref hpb, .ref hwa, .ref hmn, .ref hcf, .ref hsa, .ref hro])), (hby, .inl (cI, 600, .inl mby))] hpz) := by
  refine Met.ofW (cc := cX8_added) (maxL := 7) (ret := (some .int)) (by decide) rfl ?_
  intro p e s m args below meth c s₁ B hml hv
  obtain ⟨rfl, hsz, hP, hK, hD0⟩ := hv
  have hx := B.exec
  have hb := B.bytes
  have hr := B.returns
  have hts := fun (w : Cond) (h : w ∈ kW) => atoms_spec (ws := kw_X8_added) B.pre w (List.mem_cons_of_mem _ h)
  have hown : s.vm.findClass RX8 = some m.cls := findClass_of_methodNamed B.named
  have hlocks := B.notSynchronized
  subst hsz
  have hD := hD0.self (sz := s.heap.size)
  generalize hAe : va_A [(hm, .inr (8, [.int mrf, .ref hby, .int msz, .int mbg, .long mbt, .int mrg, .int mct, .int mvl, .int mpl, .int mcl, .int mrw, .int mqt, .int mlv, .int mtl, .int mbe, .int mch, .ref hpb, .ref hwa, .ref hmn, .ref hcf, .ref hsa, .ref hro])), (hby, .inl (cI, 600, .inl mby))] s.heap.size = A at hD ⊢
  have hA : ∀ q : Nat, s.heap.size ≤ q → A q := fun q h => by rw [← hAe]; exact Or.inr h
  have hS : va_S A s.heap s.heap [] := va_S.rf
  have hP : va_P D vwCl [(hm, .inr (8, [.int mrf, .ref hby, .int msz, .int mbg, .long mbt, .int mrg, .int mct, .int mvl, .int mpl, .int mcl, .int mrw, .int mqt, .int mlv, .int mtl, .int mbe, .int mch, .ref hpb, .ref hwa, .ref hmn, .ref hcf, .ref hsa, .ref hro])), (hby, .inl (cI, 600, .inl mby))] s.heap := hP
  have hl := lv_entry ([.ref hm, .int fr, .long pbs, .int nn]) (n := 7) (Nat.le_of_ble_eq_true rfl)
  rw [lg_entry_eq]
  generalize (lg_sl ([.ref hm, .int fr, .long pbs, .int nn]) ++ List.replicate (7 - (lg_sl ([.ref hm, .int fr, .long pbs, .int nn])).length) Slot.unset).toArray = ls at hl ⊢
  have hl : lv_has ls 7 [(0, .ref hm), (1, .int fr), (2, .long pbs), (4, .int nn)] := hl
  refine lv_iconst (v := 0) hx hb dX8_added_0 (by decide) ?_
  refine lv_istore (lv' := [(5, .int 0), (0, .ref hm), (1, .int fr), (2, .long pbs), (4, .int nn)]) hx hb dX8_added_1 hl (by decide) rfl (fun ls hl => ?_)
  refine lv_iload hx hb dX8_added_3 (lv_at hl 4 rfl) ?_
  refine lv_iconst (v := 1) hx hb dX8_added_5 (by decide) ?_
  refine lv_isub hx hb dX8_added_6 ?_
  refine lv_topi (fun v6 e6 => ?_)
  have b6 : kB v6 0 4 := kB_eq e6 (kB_sub bnn kc_1 (by decide))
  have X6 : v6.toInt = nn.toInt - 1 := by rw [e6, kI_sub (by rw [show (1 : Int32).toInt = 1 from by decide]; have := bnn.1; omega) (by rw [show (1 : Int32).toInt = 1 from by decide]; have := bnn.2; omega), show (1 : Int32).toInt = 1 from by decide]
  refine lv_istore (lv' := [(6, .int v6), (5, .int 0), (0, .ref hm), (1, .int fr), (2, .long pbs), (4, .int nn)]) hx hb dX8_added_7 hl (by decide) rfl (fun ls hl => ?_)
  exact lp_X8_added_9 D cI cJ cZ hm hby hpb hwa hmn hcf hsa hro mrf msz mbg mrg mct mvl mpl mcl mrw mqt mlv mtl mbe mch mbt mby fr pbs nn brg bct bsz bfr bnn hpl hx hb hr hml hown hts hlocks hK hA ((v6.toInt + 1).toNat + 1) 0 v6 mrg mct mvl mpl (Nat.lt_succ_self _) (kB_w b6 (by decide) (by decide)) (by rw [X6]; omega) brg bct ⟨hpl.1, by rw [X6]; omega⟩ (by rw [X6, show nn.toInt - 1 - (nn.toInt - 1) = 0 by omega, pw2_0, show (0 : Int32).toInt = 0 from by decide]; decide) _ _ ls hP hD hS (lv_sub hl [2, 3, 4, 5, 1, 0] rfl)
abbrev kw_X8_large : List Cond := Cond.code yX8_large cX8_large 4 (some .int) :: kW
set_option maxHeartbeats 4000000 in
set_option maxRecDepth 100000 in
theorem lp_X8_large_112 {p : Program} {l : Launch} {e : Env} {s : State} {m : MethodId} {args : Array Value} {below : List Frame} {meth : Method} {c : Code} {A : Nat → Prop} (D : va_G) (cI cJ cZ : ClassId) (hm hby hpb hwa hmn hcf hsa hro : Nat) (mrf : Int32) (msz : Int32) (mbg : Int32) (mrg : Int32) (mct : Int32) (mvl : Int32) (mpl : Int32) (mcl : Int32) (mrw : Int32) (mqt : Int32) (mlv : Int32) (mtl : Int32) (mbe : Int32) (mch : Int32) (mbt : Int64) (mby : Nat → Int32) (mpb : Nat → Int32) (bs : Int32) (brg : kB mrg 128 255) (bct : kB mct 0 7) (bsz : kB msz 0 600) (apb : kA mpb 0 255) (bbs : kB bs 0 253) (hpl : 0 ≤ mpl.toInt ∧ mpl.toInt ≤ 999800000) (hx : p.tables.exec = Jvm.exec) (hb : c.code = cX8_large) (hr : meth.sig.returnType = (some .int)) (hml : c.maxLocals = 4) (hown : s.vm.findClass RX8 = some m.cls) (hts : ∀ w ∈ kW, w.before args s = true) (hlocks : meth.locks = false) (hK : kK D cI cJ cZ s) (hA : ∀ q : Nat, s.heap.size ≤ q → A q) : ∀ n : Nat, ∀ (x2 : Int32) (x3 : Int32) (mrg2 : Int32) (mct2 : Int32) (mvl2 : Int32) (mpl2 : Int32), (11 - x3.toInt).toNat < n → (kB x3 0 11) → (kB mrg2 128 255) → (kB mct2 0 7) → (0 ≤ mpl2.toInt ∧ mpl2.toInt ≤ mpl.toInt + 21 + 7 * x3.toInt) → (0 ≤ x2.toInt ∧ x2.toInt < pw2 x3.toInt) → ∀ (H : Heap) (locs : List Loc) (ls : Array Slot), va_P D vwCl [(hm, .inr (8, [.int mrf, .ref hby, .int msz, .int mbg, .long mbt, .int mrg2, .int mct2, .int mvl2, .int mpl2, .int mcl, .int mrw, .int mqt, .int mlv, .int mtl, .int mbe, .int mch, .ref hpb, .ref hwa, .ref hmn, .ref hcf, .ref hsa, .ref hro])), (hby, .inl (cI, 600, .inl mby)), (hpb, .inl (cI, 264, .inl mpb))] H → va_D A [(hm, .inr (8, [.int mrf, .ref hby, .int msz, .int mbg, .long mbt, .int mrg2, .int mct2, .int mvl2, .int mpl2, .int mcl, .int mrw, .int mqt, .int mlv, .int mtl, .int mbe, .int mch, .ref hpb, .ref hwa, .ref hmn, .ref hcf, .ref hsa, .ref hro])), (hby, .inl (cI, 600, .inl mby)), (hpb, .inl (cI, 264, .inl mpb))] → va_S A s.heap H locs → lv_has ls 4 [(0, .ref hm), (2, .int x2), (3, .int x3)] → W p l e (headSpec kw_X8_large ({ frames := 3, cells := 0, slots := 0, locals := 70 })).room s m args below meth c H locs 0 0 (MQ below (va_Qi (fun (r : Int32) (u : Int32 × Int32 × Int32 × Int32) => (kB r 0 70000000) ∧ (kB u.1 128 255) ∧ (kB u.2.1 0 7) ∧ (0 ≤ u.2.2.2.toInt ∧ u.2.2.2.toInt ≤ mpl.toInt + 200)) (fun (u : Int32 × Int32 × Int32 × Int32) (t : State) => va_P D vwCl [(hm, .inr (8, [.int mrf, .ref hby, .int msz, .int mbg, .long mbt, .int u.1, .int u.2.1, .int u.2.2.1, .int u.2.2.2, .int mcl, .int mrw, .int mqt, .int mlv, .int mtl, .int mbe, .int mch, .ref hpb, .ref hwa, .ref hmn, .ref hcf, .ref hsa, .ref hro])), (hby, .inl (cI, 600, .inl mby)), (hpb, .inl (cI, 264, .inl mpb))] t.heap ∧ va_D A [(hm, .inr (8, [.int mrf, .ref hby, .int msz, .int mbg, .long mbt, .int u.1, .int u.2.1, .int u.2.2.1, .int u.2.2.2, .int mcl, .int mrw, .int mqt, .int mlv, .int mtl, .int mbe, .int mch, .ref hpb, .ref hwa, .ref hmn, .ref hcf, .ref hsa, .ref hro])), (hby, .inl (cI, 600, .inl mby)), (hpb, .inl (cI, 264, .inl mpb))]) A) args s 0 0 A) (F0 m 112 ls []) := by
  intro n
  induction n with
  | zero => intro x2 x3 mrg2 mct2 mvl2 mpl2 hmeas; exact absurd hmeas (Nat.not_lt_zero _)
  | succ n ih =>
    intro x2 x3 mrg2 mct2 mvl2 mpl2 hmeas b3 brg2 bct2 hq hn H locs ls hP hD hS hl
    refine lv_iload_n hx hb dX8_large_112 rfl (lv_at hl 2 rfl) ?_
    refine lv_bipush (v := 11) hx hb dX8_large_113 (by decide) ?_
    refine lv_icmp_ge (tgt := 137) hx hb dX8_large_115 (by decide) (fun c115 => ?_) (fun c115 => ?_)
    · have c115y : kB x3 11 11 := kB_le_r kc_11 b3 c115 (by decide)
      have B2 : kB x2 0 2047 := ⟨hn.1, by have h3 := pw2_mono (i := x3.toInt) (j := 11) (by have := b3.2; omega); rw [show pw2 11 = 2048 from by decide] at h3; have := hn.2; omega⟩
      refine lv_bipush (v := 67) hx hb dX8_large_137 (by decide) ?_
      refine lv_iload_n hx hb dX8_large_139 rfl (lv_at hl 1 rfl) ?_
      refine lv_iadd hx hb dX8_large_140 ?_
      refine lv_topi (fun v140 e140 => ?_)
      have b140 : kB v140 67 2114 := kB_eq e140 (kB_add kc_67 B2 (by decide))
      have pf_b : kB v140 0 70000000 := (kB_w b140 (by decide) (by decide))
      have pf_pl : 0 ≤ mpl2.toInt ∧ mpl2.toInt ≤ mpl.toInt + 200 := ⟨hq.1, by have := hq.2; have := b3.2; omega⟩
      exact W.iret (v := v140) hx hb hr (fun t9 ht9 hW9 => ⟨⟨v140, (mrg2, mct2, mvl2, mpl2), rfl, ⟨pf_b, brg2, bct2, pf_pl⟩, by rw [ht9]; exact hP, hD⟩, hS.F ht9⟩) hS.2.2 dX8_large_141
    · have c115n : x3 < 11 := kN_le c115
      have c115nx : kB x3 0 10 := kB_lt_l b3 kc_11 c115n (by decide)
      refine lv_iconst (v := 2) hx hb dX8_large_118 (by decide) ?_
      refine lv_iload_n hx hb dX8_large_119 rfl (lv_at hl 1 rfl) ?_
      refine lv_imul hx hb dX8_large_120 ?_
      refine lv_topi (fun v120 e120 => ?_)
      refine lv_aload_n hx hb dX8_large_121 rfl (lv_at hl 0 rfl) ?_
      refine lv_iload_n hx hb dX8_large_122 rfl (lv_at hl 2 rfl) ?_
      have hPc := hP.sub (ws' := []) [] rfl
      have hDc := hD.sub (ws' := []) [] (by decide) rfl
      have hFc := va_free (wc := []) hD hS hA [] rfl
      refine va_calli (va_runS (As := [.int x3]) (rest := [.ref hm, .int v120]) ⟨hx, hb, hml, hown, hts⟩ (c_X8_last l D cI cJ cZ x3 c115nx (H).size) (cwS 1 hts (kg_S mk_219 mk_220 mk_189 mk_221) rfl rfl rfl (by decide +kernel) ⟨Nat.le_of_ble_eq_true rfl, Nat.le_of_ble_eq_true rfl⟩) ⟨fun a U g mk q => by obtain ⟨q0, q1, qP, qK, qD⟩ := q; exact ⟨q0, q1, qP, kK.call qK, qD⟩, fun U hU hW => ⟨rfl, by rw [hU], by rw [hU]; exact hPc, kK.warm hW hK, hDc.weaken (fun _ _ _ _ => trivial)⟩⟩ rfl rfl hl.1 rfl (lv_room (Nat.le_of_ble_eq_true rfl)) dX8_large_123 ⟨Nat.zero_le _, Nat.zero_le _⟩) hS (fun q _ h => hFc q h) hFc (fun r123 u t9 H1 locs ht9 hvm9 hw9 hB9 hz9 hk9 hS => ?_)
      obtain ⟨hP1, hD1⟩ := hB9
      rw [ht9] at hP1
      have hP1 : va_P D vwCl [] H1 := hP1
      obtain ⟨hP, hD⟩ := va_join (wr := [(hm, .inr (8, [.int mrf, .ref hby, .int msz, .int mbg, .long mbt, .int mrg2, .int mct2, .int mvl2, .int mpl2, .int mcl, .int mrw, .int mqt, .int mlv, .int mtl, .int mbe, .int mch, .ref hpb, .ref hwa, .ref hmn, .ref hcf, .ref hsa, .ref hro])), (hby, .inl (cI, 600, .inl mby)), (hpb, .inl (cI, 264, .inl mpb))]) (w1 := []) hP hD [] [0, 1, 2] rfl rfl (by decide) (by decide) hk9 hFc hP1 hD1
      have hP := hP.sub (ws' := [(hm, .inr (8, [.int mrf, .ref hby, .int msz, .int mbg, .long mbt, .int mrg2, .int mct2, .int mvl2, .int mpl2, .int mcl, .int mrw, .int mqt, .int mlv, .int mtl, .int mbe, .int mch, .ref hpb, .ref hwa, .ref hmn, .ref hcf, .ref hsa, .ref hro])), (hby, .inl (cI, 600, .inl mby)), (hpb, .inl (cI, 264, .inl mpb))]) [0, 1, 2] rfl
      have hD := hD.sub (ws' := [(hm, .inr (8, [.int mrf, .ref hby, .int msz, .int mbg, .long mbt, .int mrg2, .int mct2, .int mvl2, .int mpl2, .int mcl, .int mrw, .int mqt, .int mlv, .int mtl, .int mbe, .int mch, .ref hpb, .ref hwa, .ref hmn, .ref hcf, .ref hsa, .ref hro])), (hby, .inl (cI, 600, .inl mby)), (hpb, .inl (cI, 264, .inl mpb))]) [0, 1, 2] (by decide) rfl
      generalize H1 = H at hP hS ⊢
      have q123_0 : kB r123 0 255 := hw9
      have hPc := hP.sub (ws' := [(hm, .inr (8, [.int mrf, .ref hby, .int msz, .int mbg, .long mbt, .int mrg2, .int mct2, .int mvl2, .int mpl2, .int mcl, .int mrw, .int mqt, .int mlv, .int mtl, .int mbe, .int mch, .ref hpb, .ref hwa, .ref hmn, .ref hcf, .ref hsa, .ref hro])), (hby, .inl (cI, 600, .inl mby))]) [0, 1] rfl
      have hDc := hD.sub (ws' := [(hm, .inr (8, [.int mrf, .ref hby, .int msz, .int mbg, .long mbt, .int mrg2, .int mct2, .int mvl2, .int mpl2, .int mcl, .int mrw, .int mqt, .int mlv, .int mtl, .int mbe, .int mch, .ref hpb, .ref hwa, .ref hmn, .ref hcf, .ref hsa, .ref hro])), (hby, .inl (cI, 600, .inl mby))]) [0, 1] (by decide) rfl
      have hFc := va_free (wc := [(hm, .inr (8, [.int mrf, .ref hby, .int msz, .int mbg, .long mbt, .int mrg2, .int mct2, .int mvl2, .int mpl2, .int mcl, .int mrw, .int mqt, .int mlv, .int mtl, .int mbe, .int mch, .ref hpb, .ref hwa, .ref hmn, .ref hcf, .ref hsa, .ref hro])), (hby, .inl (cI, 600, .inl mby))]) hD hS hA [0, 1] rfl
      refine va_calli (va_runV (As := [.int r123]) (rest := [.int v120]) ⟨hx, hb, hml, hown, hts⟩ (c_X8_readBit l D cI cJ cZ hm hby hpb hwa hmn hcf hsa hro mrf msz mbg mrg2 mct2 mvl2 mpl2 mcl mrw mqt mlv mtl mbe mch mbt mby r123 brg2 bct2 bsz q123_0 ⟨hq.1, by have := hq.2; have := b3.2; have := hpl.2; omega⟩ (H).size) (cwV 1 hts (kg_V mk_200 mk_201 mk_202 mk_189 mk_203) rfl rfl rfl (by decide +kernel) ⟨Nat.le_of_ble_eq_true rfl, Nat.le_of_ble_eq_true rfl⟩) ⟨fun a U g mk q => by obtain ⟨q0, q1, qP, qK, qD⟩ := q; exact ⟨q0, q1, qP, kK.call qK, qD⟩, va_recv hK.1 hPc (ci := 8) (q0 := 0) rfl rfl, fun U hU hW => ⟨rfl, by rw [hU], by rw [hU]; exact hPc, kK.warm hW hK, hDc.weaken (fun _ _ _ _ => trivial)⟩⟩ rfl rfl hl.1 rfl (lv_room (Nat.le_of_ble_eq_true rfl)) dX8_large_126 ⟨Nat.zero_le _, Nat.zero_le _⟩) hS (fun q _ h => hFc q h) hFc (fun r126 u t9 H1 locs ht9 hvm9 hw9 hB9 hz9 hk9 hS => ?_)
      obtain ⟨mrg2_126, mct2_126, mvl2_126, mpl2_126⟩ := u
      obtain ⟨hP1, hD1⟩ := hB9
      rw [ht9] at hP1
      have hP1 : va_P D vwCl [(hm, .inr (8, [.int mrf, .ref hby, .int msz, .int mbg, .long mbt, .int mrg2_126, .int mct2_126, .int mvl2_126, .int mpl2_126, .int mcl, .int mrw, .int mqt, .int mlv, .int mtl, .int mbe, .int mch, .ref hpb, .ref hwa, .ref hmn, .ref hcf, .ref hsa, .ref hro])), (hby, .inl (cI, 600, .inl mby))] H1 := hP1
      obtain ⟨hP, hD⟩ := va_join (wr := [(hpb, .inl (cI, 264, .inl mpb))]) (w1 := [(hm, .inr (8, [.int mrf, .ref hby, .int msz, .int mbg, .long mbt, .int mrg2_126, .int mct2_126, .int mvl2_126, .int mpl2_126, .int mcl, .int mrw, .int mqt, .int mlv, .int mtl, .int mbe, .int mch, .ref hpb, .ref hwa, .ref hmn, .ref hcf, .ref hsa, .ref hro])), (hby, .inl (cI, 600, .inl mby))]) hP hD [0, 1] [2] rfl rfl (by decide) (by decide) hk9 hFc hP1 hD1
      have hP := hP.sub (ws' := [(hm, .inr (8, [.int mrf, .ref hby, .int msz, .int mbg, .long mbt, .int mrg2_126, .int mct2_126, .int mvl2_126, .int mpl2_126, .int mcl, .int mrw, .int mqt, .int mlv, .int mtl, .int mbe, .int mch, .ref hpb, .ref hwa, .ref hmn, .ref hcf, .ref hsa, .ref hro])), (hby, .inl (cI, 600, .inl mby)), (hpb, .inl (cI, 264, .inl mpb))]) [1, 2, 0] rfl
      have hD := hD.sub (ws' := [(hm, .inr (8, [.int mrf, .ref hby, .int msz, .int mbg, .long mbt, .int mrg2_126, .int mct2_126, .int mvl2_126, .int mpl2_126, .int mcl, .int mrw, .int mqt, .int mlv, .int mtl, .int mbe, .int mch, .ref hpb, .ref hwa, .ref hmn, .ref hcf, .ref hsa, .ref hro])), (hby, .inl (cI, 600, .inl mby)), (hpb, .inl (cI, 264, .inl mpb))]) [1, 2, 0] (by decide) rfl
      generalize H1 = H at hP hS ⊢
      obtain ⟨q126_0, q126_1, q126_2, q126_3, q126_4⟩ := hw9
      have q126_0 : kB r126 0 1 := q126_0
      have q126_1 : kB mrg2_126 128 255 := q126_1
      have q126_2 : kB mct2_126 0 7 := q126_2
      have q126_3 : 0 ≤ mpl2_126.toInt ∧ mpl2_126.toInt ≤ mpl2.toInt + 7 := q126_3
      have q126_4 : kIf (r123.toInt = 128 ∧ 0 ≤ mvl2.toInt ∧ mvl2.toInt ≤ 2000000 ∧ mct2.toInt ≤ 6) (r126.toInt = rBt mvl2.toInt mrg2.toInt ∧ (mvl2_126.toInt, mrg2_126.toInt, mct2_126.toInt) = rNx mvl2.toInt mrg2.toInt mct2.toInt) := q126_4
      refine lv_iadd hx hb dX8_large_129 ?_
      refine lv_topi (fun v129 e129 => ?_)
      refine lv_istore_n (lv' := [(2, .int v129), (0, .ref hm), (3, .int x3)]) hx hb dX8_large_130 rfl hl (by decide) rfl (fun ls hl => ?_)
      obtain ⟨v131, e131⟩ : ∃ y : Int32, y = x3 + 1 := ⟨_, rfl⟩
      refine lv_iinc (v := v131) (lv' := [(3, .int v131), (2, .int v129), (0, .ref hm)]) hx hb dX8_large_131 hl (k := 2) rfl (by rw [e131]; rfl) (by decide) rfl (fun ls hl => ?_)
      have b131 : kB v131 1 11 := kB_eq e131 (kB_add c115nx kc_1 (by decide))
      have t131 : v131.toInt = x3.toInt + 1 := by rw [e131]; exact kinc (kB_w c115nx (by decide) (by decide))
      refine lv_goto (tgt := 112) hx hb dX8_large_134 (by decide) ?_
      exact ih v129 v131 mrg2_126 mct2_126 mvl2_126 mpl2_126 (by have := b131.1; have := b131.2; have := q126_1.1; have := q126_1.2; have := q126_2.1; have := q126_2.2; have := c115nx.1; have := c115nx.2; have := brg2.1; have := brg2.2; have := bct2.1; have := bct2.2; omega) (kB_w b131 (by decide) (by decide)) q126_1 q126_2 ⟨q126_3.1, by rw [t131]; have := q126_3.2; have := hq.2; omega⟩ (by rw [t131, pw2_s b3.1]; obtain ⟨h1, h2⟩ := hn; have h3 := pw2_mono (i := x3.toInt) (j := 11) b3.2; rw [show pw2 11 = 2048 from by decide] at h3; have h5 := kdbl2 (x := x2) ⟨h1, by omega⟩; rw [← e120] at h5; have h4 : v129.toInt = v120.toInt + r126.toInt := by { rw [e129, kI_add (by have := q126_0.1; omega) (by have := q126_0.2; omega)] }; rw [h4, h5]; have := q126_0.1; have := q126_0.2; omega) _ _ ls hP hD hS (lv_sub hl [2, 1, 0] rfl)
set_option maxHeartbeats 4000000 in
set_option maxRecDepth 100000 in
theorem c_X8_large (l : Launch) (D : va_G) (cI cJ cZ : ClassId) (hm hby hpb hwa hmn hcf hsa hro : Nat) (mrf : Int32) (msz : Int32) (mbg : Int32) (mrg : Int32) (mct : Int32) (mvl : Int32) (mpl : Int32) (mcl : Int32) (mrw : Int32) (mqt : Int32) (mlv : Int32) (mtl : Int32) (mbe : Int32) (mch : Int32) (mbt : Int64) (mby : Nat → Int32) (mpb : Nat → Int32) (bs : Int32) (brg : kB mrg 128 255) (bct : kB mct 0 7) (bsz : kB msz 0 600) (apb : kA mpb 0 255) (bbs : kB bs 0 253) (hpl : 0 ≤ mpl.toInt ∧ mpl.toInt ≤ 999800000) (hpz : Nat) : Met l yX8_large kw_X8_large ({ frames := 3, cells := 0, slots := 0, locals := 70 }) (va_Pc [.ref hm, .int bs] (fun U => U.heap.size = hpz ∧ va_P D vwCl [(hm, .inr (8, [.int mrf, .ref hby, .int msz, .int mbg, .long mbt, .int mrg, .int mct, .int mvl, .int mpl, .int mcl, .int mrw, .int mqt, .int mlv, .int mtl, .int mbe, .int mch, .ref hpb, .ref hwa, .ref hmn, .ref hcf, .ref hsa, .ref hro])), (hby, .inl (cI, 600, .inl mby)), (hpb, .inl (cI, 264, .inl mpb))] U.heap ∧ kK D cI cJ cZ U ∧ va_D (fun _ => True) [(hm, .inr (8, [.int mrf, .ref hby, .int msz, .int mbg, .long mbt, .int mrg, .int mct, .int mvl, .int mpl, .int mcl, .int mrw, .int mqt, .int mlv, .int mtl, .int mbe, .int mch, .ref hpb, .ref hwa, .ref hmn, .ref hcf, .ref hsa, .ref hro])), (hby, .inl (cI, 600, .inl mby)), (hpb, .inl (cI, 264, .inl mpb))])) (va_Qi (fun (r : Int32) (u : Int32 × Int32 × Int32 × Int32) => (kB r 0 70000000) ∧ (kB u.1 128 255) ∧ (kB u.2.1 0 7) ∧ (0 ≤ u.2.2.2.toInt ∧ u.2.2.2.toInt ≤ mpl.toInt + 200)) (fun (u : Int32 × Int32 × Int32 × Int32) (t : State) => va_P D vwCl [(hm, .inr (8, [.int mrf, .ref hby, .int msz, .int mbg, .long mbt, .int u.1, .int u.2.1, .int u.2.2.1, .int u.2.2.2, .int mcl, .int mrw, .int mqt, .int mlv, .int mtl, .int mbe, .int mch, .ref hpb, .ref hwa, .ref hmn, .ref hcf, .ref hsa, .ref hro])), (hby, .inl (cI, 600, .inl mby)), (hpb, .inl (cI, 264, .inl mpb))] t.heap ∧ va_D (va_A [(hm, .inr (8, [.int mrf, .ref hby, .int msz, .int mbg, .long mbt, .int mrg, .int mct, .int mvl, .int mpl, .int mcl, .int mrw, .int mqt, .int mlv, .int mtl, .int mbe, .int mch, .ref hpb, .ref hwa, .ref hmn, .ref hcf, .ref hsa, .ref hro])), (hby, .inl (cI, 600, .inl mby)), (hpb, .inl (cI, 264, .inl mpb))] hpz) [(hm, .inr (8, [.int mrf, .ref hby, .int msz, .int mbg, .long mbt, .int u.1, .int u.2.1, .int u.2.2.1, .int u.2.2.2, .int mcl, .int mrw, .int mqt, .int mlv, .int mtl, .int mbe, .int mch, .ref hpb, .ref hwa, .ref hmn, .ref hcf, .ref hsa, .ref hro])), (hby, .inl (cI, 600, .inl mby)), (hpb, .inl (cI, 264, .inl mpb))]) (va_A [(hm, .inr (8, [.int mrf, .ref hby, .int msz, .int mbg, .long mbt, .int mrg, .int mct, .int mvl, .int mpl, .int mcl, .int mrw, .int mqt, .int mlv, .int mtl, .int mbe, .int mch, .ref hpb, .ref hwa, .ref hmn, .ref hcf, .ref hsa, .ref hro])), (hby, .inl (cI, 600, .inl mby)), (hpb, .inl (cI, 264, .inl mpb))] hpz)) 0 0 (va_A [(hm, .inr (8, [.int mrf, .ref hby, .int msz, .int mbg, .long mbt, .int mrg, .int mct, .int mvl, .int mpl, .int mcl, .int mrw, .int mqt, .int mlv, .int mtl, .int mbe, .int mch, .ref hpb, .ref hwa, .ref hmn, .ref hcf, .ref hsa, .ref hro])), (hby, .inl (cI, 600, .inl mby)), (hpb, .inl (cI, 264, .inl mpb))] hpz) := by
  refine Met.ofW (cc := cX8_large) (maxL := 4) (ret := (some .int)) (by decide) rfl ?_
  intro p e s m args below meth c s₁ B hml hv
  obtain ⟨rfl, hsz, hP, hK, hD0⟩ := hv
  have hx := B.exec
  have hb := B.bytes
  have hr := B.returns
  have hts := fun (w : Cond) (h : w ∈ kW) => atoms_spec (ws := kw_X8_large) B.pre w (List.mem_cons_of_mem _ h)
  have hown : s.vm.findClass RX8 = some m.cls := findClass_of_methodNamed B.named
  have hlocks := B.notSynchronized
  subst hsz
  have hD := hD0.self (sz := s.heap.size)
  generalize hAe : va_A [(hm, .inr (8, [.int mrf, .ref hby, .int msz, .int mbg, .long mbt, .int mrg, .int mct, .int mvl, .int mpl, .int mcl, .int mrw, .int mqt, .int mlv, .int mtl, .int mbe, .int mch, .ref hpb, .ref hwa, .ref hmn, .ref hcf, .ref hsa, .ref hro])), (hby, .inl (cI, 600, .inl mby)), (hpb, .inl (cI, 264, .inl mpb))] s.heap.size = A at hD ⊢
  have hA : ∀ q : Nat, s.heap.size ≤ q → A q := fun q h => by rw [← hAe]; exact Or.inr h
  have hS : va_S A s.heap s.heap [] := va_S.rf
  have hP : va_P D vwCl [(hm, .inr (8, [.int mrf, .ref hby, .int msz, .int mbg, .long mbt, .int mrg, .int mct, .int mvl, .int mpl, .int mcl, .int mrw, .int mqt, .int mlv, .int mtl, .int mbe, .int mch, .ref hpb, .ref hwa, .ref hmn, .ref hcf, .ref hsa, .ref hro])), (hby, .inl (cI, 600, .inl mby)), (hpb, .inl (cI, 264, .inl mpb))] s.heap := hP
  have hl := lv_entry ([.ref hm, .int bs]) (n := 4) (Nat.le_of_ble_eq_true rfl)
  rw [lg_entry_eq]
  generalize (lg_sl ([.ref hm, .int bs]) ++ List.replicate (4 - (lg_sl ([.ref hm, .int bs])).length) Slot.unset).toArray = ls at hl ⊢
  have hl : lv_has ls 4 [(0, .ref hm), (1, .int bs)] := hl
  refine lv_aload_n hx hb dX8_large_0 rfl (lv_at hl 0 rfl) ?_
  refine lv_iload_n hx hb dX8_large_1 rfl (lv_at hl 1 rfl) ?_
  refine lv_bipush (v := 6) hx hb dX8_large_2 (by decide) ?_
  have hPc := hP.sub (ws' := [(hm, .inr (8, [.int mrf, .ref hby, .int msz, .int mbg, .long mbt, .int mrg, .int mct, .int mvl, .int mpl, .int mcl, .int mrw, .int mqt, .int mlv, .int mtl, .int mbe, .int mch, .ref hpb, .ref hwa, .ref hmn, .ref hcf, .ref hsa, .ref hro])), (hby, .inl (cI, 600, .inl mby)), (hpb, .inl (cI, 264, .inl mpb))]) [0, 1, 2] rfl
  have hDc := hD.sub (ws' := [(hm, .inr (8, [.int mrf, .ref hby, .int msz, .int mbg, .long mbt, .int mrg, .int mct, .int mvl, .int mpl, .int mcl, .int mrw, .int mqt, .int mlv, .int mtl, .int mbe, .int mch, .ref hpb, .ref hwa, .ref hmn, .ref hcf, .ref hsa, .ref hro])), (hby, .inl (cI, 600, .inl mby)), (hpb, .inl (cI, 264, .inl mpb))]) [0, 1, 2] (by decide) rfl
  have hFc := va_free (wc := [(hm, .inr (8, [.int mrf, .ref hby, .int msz, .int mbg, .long mbt, .int mrg, .int mct, .int mvl, .int mpl, .int mcl, .int mrw, .int mqt, .int mlv, .int mtl, .int mbe, .int mch, .ref hpb, .ref hwa, .ref hmn, .ref hcf, .ref hsa, .ref hro])), (hby, .inl (cI, 600, .inl mby)), (hpb, .inl (cI, 264, .inl mpb))]) hD hS hA [0, 1, 2] rfl
  refine va_calli (va_runV (As := [.int bs, .int 6]) (rest := []) ⟨hx, hb, hml, hown, hts⟩ (c_X8_tell l D cI cJ cZ hm hby hpb hwa hmn hcf hsa hro mrf msz mbg mrg mct mvl mpl mcl mrw mqt mlv mtl mbe mch mbt mby mpb bs 6 brg bct bsz apb bbs (kB_w kc_6 (by decide) (by decide)) (by first | assumption | omega) (s.heap).size) (cwV 2 hts (kg_V mk_206 mk_207 mk_208 mk_189 mk_209) rfl rfl rfl (by decide +kernel) ⟨Nat.le_of_ble_eq_true rfl, Nat.le_of_ble_eq_true rfl⟩) ⟨fun a U g mk q => by obtain ⟨q0, q1, qP, qK, qD⟩ := q; exact ⟨q0, q1, qP, kK.call qK, qD⟩, va_recv hK.1 hPc (ci := 8) (q0 := 0) rfl rfl, fun U hU hW => ⟨rfl, by rw [hU], by rw [hU]; exact hPc, kK.warm hW hK, hDc.weaken (fun _ _ _ _ => trivial)⟩⟩ rfl rfl hl.1 rfl (lv_room (Nat.le_of_ble_eq_true rfl)) dX8_large_4 ⟨Nat.zero_le _, Nat.zero_le _⟩) hS (fun q _ h => hFc q h) hFc (fun r4 u t9 H1 locs ht9 hvm9 hw9 hB9 hz9 hk9 hS => ?_)
  obtain ⟨mrg2_4, mct2_4, mvl2_4, mpl2_4⟩ := u
  obtain ⟨hP1, hD1⟩ := hB9
  rw [ht9] at hP1
  have hP1 : va_P D vwCl [(hm, .inr (8, [.int mrf, .ref hby, .int msz, .int mbg, .long mbt, .int mrg2_4, .int mct2_4, .int mvl2_4, .int mpl2_4, .int mcl, .int mrw, .int mqt, .int mlv, .int mtl, .int mbe, .int mch, .ref hpb, .ref hwa, .ref hmn, .ref hcf, .ref hsa, .ref hro])), (hby, .inl (cI, 600, .inl mby)), (hpb, .inl (cI, 264, .inl mpb))] H1 := hP1
  obtain ⟨hP, hD⟩ := va_join (wr := []) (w1 := [(hm, .inr (8, [.int mrf, .ref hby, .int msz, .int mbg, .long mbt, .int mrg2_4, .int mct2_4, .int mvl2_4, .int mpl2_4, .int mcl, .int mrw, .int mqt, .int mlv, .int mtl, .int mbe, .int mch, .ref hpb, .ref hwa, .ref hmn, .ref hcf, .ref hsa, .ref hro])), (hby, .inl (cI, 600, .inl mby)), (hpb, .inl (cI, 264, .inl mpb))]) hP hD [0, 1, 2] [] rfl rfl (by decide) (by decide) hk9 hFc hP1 hD1
  have hP := hP.sub (ws' := [(hm, .inr (8, [.int mrf, .ref hby, .int msz, .int mbg, .long mbt, .int mrg2_4, .int mct2_4, .int mvl2_4, .int mpl2_4, .int mcl, .int mrw, .int mqt, .int mlv, .int mtl, .int mbe, .int mch, .ref hpb, .ref hwa, .ref hmn, .ref hcf, .ref hsa, .ref hro])), (hby, .inl (cI, 600, .inl mby)), (hpb, .inl (cI, 264, .inl mpb))]) [0, 1, 2] rfl
  have hD := hD.sub (ws' := [(hm, .inr (8, [.int mrf, .ref hby, .int msz, .int mbg, .long mbt, .int mrg2_4, .int mct2_4, .int mvl2_4, .int mpl2_4, .int mcl, .int mrw, .int mqt, .int mlv, .int mtl, .int mbe, .int mch, .ref hpb, .ref hwa, .ref hmn, .ref hcf, .ref hsa, .ref hro])), (hby, .inl (cI, 600, .inl mby)), (hpb, .inl (cI, 264, .inl mpb))]) [0, 1, 2] (by decide) rfl
  generalize H1 = H at hP hS ⊢
  obtain ⟨q4_0, q4_1, q4_2, q4_3⟩ := hw9
  have q4_0 : kB r4 0 1 := q4_0
  have q4_1 : kB mrg2_4 128 255 := q4_1
  have q4_2 : kB mct2_4 0 7 := q4_2
  have q4_3 : 0 ≤ mpl2_4.toInt ∧ mpl2_4.toInt ≤ mpl.toInt + 7 := q4_3
  refine lv_if_ne (tgt := 43) hx hb dX8_large_7 (by decide) (fun c7 => ?_) (fun c7 => ?_)
  · have c7x : kB r4 1 1 := kB_nlo q4_0 c7 kc_0 (by decide)
    refine lv_aload_n hx hb dX8_large_43 rfl (lv_at hl 0 rfl) ?_
    refine lv_iload_n hx hb dX8_large_44 rfl (lv_at hl 1 rfl) ?_
    refine lv_bipush (v := 8) hx hb dX8_large_45 (by decide) ?_
    have hPc := hP.sub (ws' := [(hm, .inr (8, [.int mrf, .ref hby, .int msz, .int mbg, .long mbt, .int mrg2_4, .int mct2_4, .int mvl2_4, .int mpl2_4, .int mcl, .int mrw, .int mqt, .int mlv, .int mtl, .int mbe, .int mch, .ref hpb, .ref hwa, .ref hmn, .ref hcf, .ref hsa, .ref hro])), (hby, .inl (cI, 600, .inl mby)), (hpb, .inl (cI, 264, .inl mpb))]) [0, 1, 2] rfl
    have hDc := hD.sub (ws' := [(hm, .inr (8, [.int mrf, .ref hby, .int msz, .int mbg, .long mbt, .int mrg2_4, .int mct2_4, .int mvl2_4, .int mpl2_4, .int mcl, .int mrw, .int mqt, .int mlv, .int mtl, .int mbe, .int mch, .ref hpb, .ref hwa, .ref hmn, .ref hcf, .ref hsa, .ref hro])), (hby, .inl (cI, 600, .inl mby)), (hpb, .inl (cI, 264, .inl mpb))]) [0, 1, 2] (by decide) rfl
    have hFc := va_free (wc := [(hm, .inr (8, [.int mrf, .ref hby, .int msz, .int mbg, .long mbt, .int mrg2_4, .int mct2_4, .int mvl2_4, .int mpl2_4, .int mcl, .int mrw, .int mqt, .int mlv, .int mtl, .int mbe, .int mch, .ref hpb, .ref hwa, .ref hmn, .ref hcf, .ref hsa, .ref hro])), (hby, .inl (cI, 600, .inl mby)), (hpb, .inl (cI, 264, .inl mpb))]) hD hS hA [0, 1, 2] rfl
    refine va_calli (va_runV (As := [.int bs, .int 8]) (rest := []) ⟨hx, hb, hml, hown, hts⟩ (c_X8_tell l D cI cJ cZ hm hby hpb hwa hmn hcf hsa hro mrf msz mbg mrg2_4 mct2_4 mvl2_4 mpl2_4 mcl mrw mqt mlv mtl mbe mch mbt mby mpb bs 8 q4_1 q4_2 bsz apb bbs (kB_w kc_8 (by decide) (by decide)) (by first | assumption | omega) (H).size) (cwV 2 hts (kg_V mk_206 mk_207 mk_208 mk_189 mk_209) rfl rfl rfl (by decide +kernel) ⟨Nat.le_of_ble_eq_true rfl, Nat.le_of_ble_eq_true rfl⟩) ⟨fun a U g mk q => by obtain ⟨q0, q1, qP, qK, qD⟩ := q; exact ⟨q0, q1, qP, kK.call qK, qD⟩, va_recv hK.1 hPc (ci := 8) (q0 := 0) rfl rfl, fun U hU hW => ⟨rfl, by rw [hU], by rw [hU]; exact hPc, kK.warm hW hK, hDc.weaken (fun _ _ _ _ => trivial)⟩⟩ rfl rfl hl.1 rfl (lv_room (Nat.le_of_ble_eq_true rfl)) dX8_large_47 ⟨Nat.zero_le _, Nat.zero_le _⟩) hS (fun q _ h => hFc q h) hFc (fun r47 u t9 H1 locs ht9 hvm9 hw9 hB9 hz9 hk9 hS => ?_)
    obtain ⟨mrg2_47, mct2_47, mvl2_47, mpl2_47⟩ := u
    obtain ⟨hP1, hD1⟩ := hB9
    rw [ht9] at hP1
    have hP1 : va_P D vwCl [(hm, .inr (8, [.int mrf, .ref hby, .int msz, .int mbg, .long mbt, .int mrg2_47, .int mct2_47, .int mvl2_47, .int mpl2_47, .int mcl, .int mrw, .int mqt, .int mlv, .int mtl, .int mbe, .int mch, .ref hpb, .ref hwa, .ref hmn, .ref hcf, .ref hsa, .ref hro])), (hby, .inl (cI, 600, .inl mby)), (hpb, .inl (cI, 264, .inl mpb))] H1 := hP1
    obtain ⟨hP, hD⟩ := va_join (wr := []) (w1 := [(hm, .inr (8, [.int mrf, .ref hby, .int msz, .int mbg, .long mbt, .int mrg2_47, .int mct2_47, .int mvl2_47, .int mpl2_47, .int mcl, .int mrw, .int mqt, .int mlv, .int mtl, .int mbe, .int mch, .ref hpb, .ref hwa, .ref hmn, .ref hcf, .ref hsa, .ref hro])), (hby, .inl (cI, 600, .inl mby)), (hpb, .inl (cI, 264, .inl mpb))]) hP hD [0, 1, 2] [] rfl rfl (by decide) (by decide) hk9 hFc hP1 hD1
    have hP := hP.sub (ws' := [(hm, .inr (8, [.int mrf, .ref hby, .int msz, .int mbg, .long mbt, .int mrg2_47, .int mct2_47, .int mvl2_47, .int mpl2_47, .int mcl, .int mrw, .int mqt, .int mlv, .int mtl, .int mbe, .int mch, .ref hpb, .ref hwa, .ref hmn, .ref hcf, .ref hsa, .ref hro])), (hby, .inl (cI, 600, .inl mby)), (hpb, .inl (cI, 264, .inl mpb))]) [0, 1, 2] rfl
    have hD := hD.sub (ws' := [(hm, .inr (8, [.int mrf, .ref hby, .int msz, .int mbg, .long mbt, .int mrg2_47, .int mct2_47, .int mvl2_47, .int mpl2_47, .int mcl, .int mrw, .int mqt, .int mlv, .int mtl, .int mbe, .int mch, .ref hpb, .ref hwa, .ref hmn, .ref hcf, .ref hsa, .ref hro])), (hby, .inl (cI, 600, .inl mby)), (hpb, .inl (cI, 264, .inl mpb))]) [0, 1, 2] (by decide) rfl
    generalize H1 = H at hP hS ⊢
    obtain ⟨q47_0, q47_1, q47_2, q47_3⟩ := hw9
    have q47_0 : kB r47 0 1 := q47_0
    have q47_1 : kB mrg2_47 128 255 := q47_1
    have q47_2 : kB mct2_47 0 7 := q47_2
    have q47_3 : 0 ≤ mpl2_47.toInt ∧ mpl2_47.toInt ≤ mpl2_4.toInt + 7 := q47_3
    refine lv_if_ne (tgt := 87) hx hb dX8_large_50 (by decide) (fun c50 => ?_) (fun c50 => ?_)
    · have c50x : kB r47 1 1 := kB_nlo q47_0 c50 kc_0 (by decide)
      refine lv_aload_n hx hb dX8_large_87 rfl (lv_at hl 0 rfl) ?_
      refine lv_iload_n hx hb dX8_large_88 rfl (lv_at hl 1 rfl) ?_
      refine lv_bipush (v := 10) hx hb dX8_large_89 (by decide) ?_
      have hPc := hP.sub (ws' := [(hm, .inr (8, [.int mrf, .ref hby, .int msz, .int mbg, .long mbt, .int mrg2_47, .int mct2_47, .int mvl2_47, .int mpl2_47, .int mcl, .int mrw, .int mqt, .int mlv, .int mtl, .int mbe, .int mch, .ref hpb, .ref hwa, .ref hmn, .ref hcf, .ref hsa, .ref hro])), (hby, .inl (cI, 600, .inl mby)), (hpb, .inl (cI, 264, .inl mpb))]) [0, 1, 2] rfl
      have hDc := hD.sub (ws' := [(hm, .inr (8, [.int mrf, .ref hby, .int msz, .int mbg, .long mbt, .int mrg2_47, .int mct2_47, .int mvl2_47, .int mpl2_47, .int mcl, .int mrw, .int mqt, .int mlv, .int mtl, .int mbe, .int mch, .ref hpb, .ref hwa, .ref hmn, .ref hcf, .ref hsa, .ref hro])), (hby, .inl (cI, 600, .inl mby)), (hpb, .inl (cI, 264, .inl mpb))]) [0, 1, 2] (by decide) rfl
      have hFc := va_free (wc := [(hm, .inr (8, [.int mrf, .ref hby, .int msz, .int mbg, .long mbt, .int mrg2_47, .int mct2_47, .int mvl2_47, .int mpl2_47, .int mcl, .int mrw, .int mqt, .int mlv, .int mtl, .int mbe, .int mch, .ref hpb, .ref hwa, .ref hmn, .ref hcf, .ref hsa, .ref hro])), (hby, .inl (cI, 600, .inl mby)), (hpb, .inl (cI, 264, .inl mpb))]) hD hS hA [0, 1, 2] rfl
      refine va_calli (va_runV (As := [.int bs, .int 10]) (rest := []) ⟨hx, hb, hml, hown, hts⟩ (c_X8_tell l D cI cJ cZ hm hby hpb hwa hmn hcf hsa hro mrf msz mbg mrg2_47 mct2_47 mvl2_47 mpl2_47 mcl mrw mqt mlv mtl mbe mch mbt mby mpb bs 10 q47_1 q47_2 bsz apb bbs (kB_w kc_10 (by decide) (by decide)) (by first | assumption | omega) (H).size) (cwV 2 hts (kg_V mk_206 mk_207 mk_208 mk_189 mk_209) rfl rfl rfl (by decide +kernel) ⟨Nat.le_of_ble_eq_true rfl, Nat.le_of_ble_eq_true rfl⟩) ⟨fun a U g mk q => by obtain ⟨q0, q1, qP, qK, qD⟩ := q; exact ⟨q0, q1, qP, kK.call qK, qD⟩, va_recv hK.1 hPc (ci := 8) (q0 := 0) rfl rfl, fun U hU hW => ⟨rfl, by rw [hU], by rw [hU]; exact hPc, kK.warm hW hK, hDc.weaken (fun _ _ _ _ => trivial)⟩⟩ rfl rfl hl.1 rfl (lv_room (Nat.le_of_ble_eq_true rfl)) dX8_large_91 ⟨Nat.zero_le _, Nat.zero_le _⟩) hS (fun q _ h => hFc q h) hFc (fun r91 u t9 H1 locs ht9 hvm9 hw9 hB9 hz9 hk9 hS => ?_)
      obtain ⟨mrg2_91, mct2_91, mvl2_91, mpl2_91⟩ := u
      obtain ⟨hP1, hD1⟩ := hB9
      rw [ht9] at hP1
      have hP1 : va_P D vwCl [(hm, .inr (8, [.int mrf, .ref hby, .int msz, .int mbg, .long mbt, .int mrg2_91, .int mct2_91, .int mvl2_91, .int mpl2_91, .int mcl, .int mrw, .int mqt, .int mlv, .int mtl, .int mbe, .int mch, .ref hpb, .ref hwa, .ref hmn, .ref hcf, .ref hsa, .ref hro])), (hby, .inl (cI, 600, .inl mby)), (hpb, .inl (cI, 264, .inl mpb))] H1 := hP1
      obtain ⟨hP, hD⟩ := va_join (wr := []) (w1 := [(hm, .inr (8, [.int mrf, .ref hby, .int msz, .int mbg, .long mbt, .int mrg2_91, .int mct2_91, .int mvl2_91, .int mpl2_91, .int mcl, .int mrw, .int mqt, .int mlv, .int mtl, .int mbe, .int mch, .ref hpb, .ref hwa, .ref hmn, .ref hcf, .ref hsa, .ref hro])), (hby, .inl (cI, 600, .inl mby)), (hpb, .inl (cI, 264, .inl mpb))]) hP hD [0, 1, 2] [] rfl rfl (by decide) (by decide) hk9 hFc hP1 hD1
      have hP := hP.sub (ws' := [(hm, .inr (8, [.int mrf, .ref hby, .int msz, .int mbg, .long mbt, .int mrg2_91, .int mct2_91, .int mvl2_91, .int mpl2_91, .int mcl, .int mrw, .int mqt, .int mlv, .int mtl, .int mbe, .int mch, .ref hpb, .ref hwa, .ref hmn, .ref hcf, .ref hsa, .ref hro])), (hby, .inl (cI, 600, .inl mby)), (hpb, .inl (cI, 264, .inl mpb))]) [0, 1, 2] rfl
      have hD := hD.sub (ws' := [(hm, .inr (8, [.int mrf, .ref hby, .int msz, .int mbg, .long mbt, .int mrg2_91, .int mct2_91, .int mvl2_91, .int mpl2_91, .int mcl, .int mrw, .int mqt, .int mlv, .int mtl, .int mbe, .int mch, .ref hpb, .ref hwa, .ref hmn, .ref hcf, .ref hsa, .ref hro])), (hby, .inl (cI, 600, .inl mby)), (hpb, .inl (cI, 264, .inl mpb))]) [0, 1, 2] (by decide) rfl
      generalize H1 = H at hP hS ⊢
      obtain ⟨q91_0, q91_1, q91_2, q91_3⟩ := hw9
      have q91_0 : kB r91 0 1 := q91_0
      have q91_1 : kB mrg2_91 128 255 := q91_1
      have q91_2 : kB mct2_91 0 7 := q91_2
      have q91_3 : 0 ≤ mpl2_91.toInt ∧ mpl2_91.toInt ≤ mpl2_47.toInt + 7 := q91_3
      refine lv_if_ne (tgt := 108) hx hb dX8_large_94 (by decide) (fun c94 => ?_) (fun c94 => ?_)
      · have c94x : kB r91 1 1 := kB_nlo q91_0 c94 kc_0 (by decide)
        refine lv_iconst (v := 0) hx hb dX8_large_108 (by decide) ?_
        refine lv_istore_n (lv' := [(2, .int 0), (0, .ref hm), (1, .int bs)]) hx hb dX8_large_109 rfl hl (by decide) rfl (fun ls hl => ?_)
        refine lv_iconst (v := 0) hx hb dX8_large_110 (by decide) ?_
        refine lv_istore_n (lv' := [(3, .int 0), (2, .int 0), (0, .ref hm), (1, .int bs)]) hx hb dX8_large_111 rfl hl (by decide) rfl (fun ls hl => ?_)
        exact lp_X8_large_112 D cI cJ cZ hm hby hpb hwa hmn hcf hsa hro mrf msz mbg mrg mct mvl mpl mcl mrw mqt mlv mtl mbe mch mbt mby mpb bs brg bct bsz apb bbs hpl hx hb hr hml hown hts hlocks hK hA ((11 - (0 : Int32).toInt).toNat + 1) 0 0 mrg2_91 mct2_91 mvl2_91 mpl2_91 (Nat.lt_succ_self _) (kB_w kc_0 (by decide) (by decide)) q91_1 q91_2 (by rw [show (0 : Int32).toInt = 0 from by decide]; omega) (by rw [show (0 : Int32).toInt = 0 from by decide, pw2_0]; decide) _ _ ls hP hD hS (lv_sub hl [2, 1, 0] rfl)
      · have c94x : kB r91 0 0 := kB_eq c94 kc_0
        refine lv_aload_n hx hb dX8_large_97 rfl (lv_at hl 0 rfl) ?_
        refine lv_bipush (v := 35) hx hb dX8_large_98 (by decide) ?_
        refine lv_ldc2 (v := 775737411202) hx hb hown (hts _ mk_210) dX8_large_100 ?_
        refine lv_iconst (v := 5) hx hb dX8_large_103 (by decide) ?_
        have hPc := hP.sub (ws' := [(hm, .inr (8, [.int mrf, .ref hby, .int msz, .int mbg, .long mbt, .int mrg2_91, .int mct2_91, .int mvl2_91, .int mpl2_91, .int mcl, .int mrw, .int mqt, .int mlv, .int mtl, .int mbe, .int mch, .ref hpb, .ref hwa, .ref hmn, .ref hcf, .ref hsa, .ref hro])), (hby, .inl (cI, 600, .inl mby))]) [0, 1] rfl
        have hDc := hD.sub (ws' := [(hm, .inr (8, [.int mrf, .ref hby, .int msz, .int mbg, .long mbt, .int mrg2_91, .int mct2_91, .int mvl2_91, .int mpl2_91, .int mcl, .int mrw, .int mqt, .int mlv, .int mtl, .int mbe, .int mch, .ref hpb, .ref hwa, .ref hmn, .ref hcf, .ref hsa, .ref hro])), (hby, .inl (cI, 600, .inl mby))]) [0, 1] (by decide) rfl
        have hFc := va_free (wc := [(hm, .inr (8, [.int mrf, .ref hby, .int msz, .int mbg, .long mbt, .int mrg2_91, .int mct2_91, .int mvl2_91, .int mpl2_91, .int mcl, .int mrw, .int mqt, .int mlv, .int mtl, .int mbe, .int mch, .ref hpb, .ref hwa, .ref hmn, .ref hcf, .ref hsa, .ref hro])), (hby, .inl (cI, 600, .inl mby))]) hD hS hA [0, 1] rfl
        refine va_calli (va_runV (As := [.int 35, .long 775737411202, .int 5]) (rest := []) ⟨hx, hb, hml, hown, hts⟩ (c_X8_added l D cI cJ cZ hm hby hpb hwa hmn hcf hsa hro mrf msz mbg mrg2_91 mct2_91 mvl2_91 mpl2_91 mcl mrw mqt mlv mtl mbe mch mbt mby 35 775737411202 5 q91_1 q91_2 bsz (kB_w kc_35 (by decide) (by decide)) (kB_w kc_5 (by decide) (by decide)) (by first | assumption | omega) (H).size) (cwV 3 hts (kg_V mk_211 mk_212 mk_213 mk_189 mk_214) rfl rfl rfl (by decide +kernel) ⟨Nat.le_of_ble_eq_true rfl, Nat.le_of_ble_eq_true rfl⟩) ⟨fun a U g mk q => by obtain ⟨q0, q1, qP, qK, qD⟩ := q; exact ⟨q0, q1, qP, kK.call qK, qD⟩, va_recv hK.1 hPc (ci := 8) (q0 := 0) rfl rfl, fun U hU hW => ⟨rfl, by rw [hU], by rw [hU]; exact hPc, kK.warm hW hK, hDc.weaken (fun _ _ _ _ => trivial)⟩⟩ rfl rfl hl.1 rfl (lv_room (Nat.le_of_ble_eq_true rfl)) dX8_large_104 ⟨Nat.zero_le _, Nat.zero_le _⟩) hS (fun q _ h => hFc q h) hFc (fun r104 u t9 H1 locs ht9 hvm9 hw9 hB9 hz9 hk9 hS => ?_)
        obtain ⟨mrg2_104, mct2_104, mvl2_104, mpl2_104⟩ := u
        obtain ⟨hP1, hD1⟩ := hB9
        rw [ht9] at hP1
        have hP1 : va_P D vwCl [(hm, .inr (8, [.int mrf, .ref hby, .int msz, .int mbg, .long mbt, .int mrg2_104, .int mct2_104, .int mvl2_104, .int mpl2_104, .int mcl, .int mrw, .int mqt, .int mlv, .int mtl, .int mbe, .int mch, .ref hpb, .ref hwa, .ref hmn, .ref hcf, .ref hsa, .ref hro])), (hby, .inl (cI, 600, .inl mby))] H1 := hP1
        obtain ⟨hP, hD⟩ := va_join (wr := [(hpb, .inl (cI, 264, .inl mpb))]) (w1 := [(hm, .inr (8, [.int mrf, .ref hby, .int msz, .int mbg, .long mbt, .int mrg2_104, .int mct2_104, .int mvl2_104, .int mpl2_104, .int mcl, .int mrw, .int mqt, .int mlv, .int mtl, .int mbe, .int mch, .ref hpb, .ref hwa, .ref hmn, .ref hcf, .ref hsa, .ref hro])), (hby, .inl (cI, 600, .inl mby))]) hP hD [0, 1] [2] rfl rfl (by decide) (by decide) hk9 hFc hP1 hD1
        have hP := hP.sub (ws' := [(hm, .inr (8, [.int mrf, .ref hby, .int msz, .int mbg, .long mbt, .int mrg2_104, .int mct2_104, .int mvl2_104, .int mpl2_104, .int mcl, .int mrw, .int mqt, .int mlv, .int mtl, .int mbe, .int mch, .ref hpb, .ref hwa, .ref hmn, .ref hcf, .ref hsa, .ref hro])), (hby, .inl (cI, 600, .inl mby)), (hpb, .inl (cI, 264, .inl mpb))]) [1, 2, 0] rfl
        have hD := hD.sub (ws' := [(hm, .inr (8, [.int mrf, .ref hby, .int msz, .int mbg, .long mbt, .int mrg2_104, .int mct2_104, .int mvl2_104, .int mpl2_104, .int mcl, .int mrw, .int mqt, .int mlv, .int mtl, .int mbe, .int mch, .ref hpb, .ref hwa, .ref hmn, .ref hcf, .ref hsa, .ref hro])), (hby, .inl (cI, 600, .inl mby)), (hpb, .inl (cI, 264, .inl mpb))]) [1, 2, 0] (by decide) rfl
        generalize H1 = H at hP hS ⊢
        obtain ⟨q104_0, q104_1, q104_2, q104_3⟩ := hw9
        have q104_0 : kB r104 0 99 := q104_0
        have q104_1 : kB mrg2_104 128 255 := q104_1
        have q104_2 : kB mct2_104 0 7 := q104_2
        have q104_3 : 0 ≤ mpl2_104.toInt ∧ mpl2_104.toInt ≤ mpl2_91.toInt + 42 := q104_3
        have pf_b : kB r104 0 70000000 := (kB_w q104_0 (by decide) (by decide))
        have pf_pl : 0 ≤ mpl2_104.toInt ∧ mpl2_104.toInt ≤ mpl.toInt + 200 := (by first | assumption | rfl | omega)
        exact W.iret (v := r104) hx hb hr (fun t9 ht9 hW9 => ⟨⟨r104, (mrg2_104, mct2_104, mvl2_104, mpl2_104), rfl, ⟨pf_b, q104_1, q104_2, pf_pl⟩, by rw [ht9]; exact hP, hD⟩, hS.F ht9⟩) hS.2.2 dX8_large_107
    · have c50x : kB r47 0 0 := kB_eq c50 kc_0
      refine lv_aload_n hx hb dX8_large_53 rfl (lv_at hl 0 rfl) ?_
      refine lv_iload_n hx hb dX8_large_54 rfl (lv_at hl 1 rfl) ?_
      refine lv_bipush (v := 9) hx hb dX8_large_55 (by decide) ?_
      have hPc := hP.sub (ws' := [(hm, .inr (8, [.int mrf, .ref hby, .int msz, .int mbg, .long mbt, .int mrg2_47, .int mct2_47, .int mvl2_47, .int mpl2_47, .int mcl, .int mrw, .int mqt, .int mlv, .int mtl, .int mbe, .int mch, .ref hpb, .ref hwa, .ref hmn, .ref hcf, .ref hsa, .ref hro])), (hby, .inl (cI, 600, .inl mby)), (hpb, .inl (cI, 264, .inl mpb))]) [0, 1, 2] rfl
      have hDc := hD.sub (ws' := [(hm, .inr (8, [.int mrf, .ref hby, .int msz, .int mbg, .long mbt, .int mrg2_47, .int mct2_47, .int mvl2_47, .int mpl2_47, .int mcl, .int mrw, .int mqt, .int mlv, .int mtl, .int mbe, .int mch, .ref hpb, .ref hwa, .ref hmn, .ref hcf, .ref hsa, .ref hro])), (hby, .inl (cI, 600, .inl mby)), (hpb, .inl (cI, 264, .inl mpb))]) [0, 1, 2] (by decide) rfl
      have hFc := va_free (wc := [(hm, .inr (8, [.int mrf, .ref hby, .int msz, .int mbg, .long mbt, .int mrg2_47, .int mct2_47, .int mvl2_47, .int mpl2_47, .int mcl, .int mrw, .int mqt, .int mlv, .int mtl, .int mbe, .int mch, .ref hpb, .ref hwa, .ref hmn, .ref hcf, .ref hsa, .ref hro])), (hby, .inl (cI, 600, .inl mby)), (hpb, .inl (cI, 264, .inl mpb))]) hD hS hA [0, 1, 2] rfl
      refine va_calli (va_runV (As := [.int bs, .int 9]) (rest := []) ⟨hx, hb, hml, hown, hts⟩ (c_X8_tell l D cI cJ cZ hm hby hpb hwa hmn hcf hsa hro mrf msz mbg mrg2_47 mct2_47 mvl2_47 mpl2_47 mcl mrw mqt mlv mtl mbe mch mbt mby mpb bs 9 q47_1 q47_2 bsz apb bbs (kB_w kc_9 (by decide) (by decide)) (by first | assumption | omega) (H).size) (cwV 2 hts (kg_V mk_206 mk_207 mk_208 mk_189 mk_209) rfl rfl rfl (by decide +kernel) ⟨Nat.le_of_ble_eq_true rfl, Nat.le_of_ble_eq_true rfl⟩) ⟨fun a U g mk q => by obtain ⟨q0, q1, qP, qK, qD⟩ := q; exact ⟨q0, q1, qP, kK.call qK, qD⟩, va_recv hK.1 hPc (ci := 8) (q0 := 0) rfl rfl, fun U hU hW => ⟨rfl, by rw [hU], by rw [hU]; exact hPc, kK.warm hW hK, hDc.weaken (fun _ _ _ _ => trivial)⟩⟩ rfl rfl hl.1 rfl (lv_room (Nat.le_of_ble_eq_true rfl)) dX8_large_57 ⟨Nat.zero_le _, Nat.zero_le _⟩) hS (fun q _ h => hFc q h) hFc (fun r57 u t9 H1 locs ht9 hvm9 hw9 hB9 hz9 hk9 hS => ?_)
      obtain ⟨mrg2_57, mct2_57, mvl2_57, mpl2_57⟩ := u
      obtain ⟨hP1, hD1⟩ := hB9
      rw [ht9] at hP1
      have hP1 : va_P D vwCl [(hm, .inr (8, [.int mrf, .ref hby, .int msz, .int mbg, .long mbt, .int mrg2_57, .int mct2_57, .int mvl2_57, .int mpl2_57, .int mcl, .int mrw, .int mqt, .int mlv, .int mtl, .int mbe, .int mch, .ref hpb, .ref hwa, .ref hmn, .ref hcf, .ref hsa, .ref hro])), (hby, .inl (cI, 600, .inl mby)), (hpb, .inl (cI, 264, .inl mpb))] H1 := hP1
      obtain ⟨hP, hD⟩ := va_join (wr := []) (w1 := [(hm, .inr (8, [.int mrf, .ref hby, .int msz, .int mbg, .long mbt, .int mrg2_57, .int mct2_57, .int mvl2_57, .int mpl2_57, .int mcl, .int mrw, .int mqt, .int mlv, .int mtl, .int mbe, .int mch, .ref hpb, .ref hwa, .ref hmn, .ref hcf, .ref hsa, .ref hro])), (hby, .inl (cI, 600, .inl mby)), (hpb, .inl (cI, 264, .inl mpb))]) hP hD [0, 1, 2] [] rfl rfl (by decide) (by decide) hk9 hFc hP1 hD1
      have hP := hP.sub (ws' := [(hm, .inr (8, [.int mrf, .ref hby, .int msz, .int mbg, .long mbt, .int mrg2_57, .int mct2_57, .int mvl2_57, .int mpl2_57, .int mcl, .int mrw, .int mqt, .int mlv, .int mtl, .int mbe, .int mch, .ref hpb, .ref hwa, .ref hmn, .ref hcf, .ref hsa, .ref hro])), (hby, .inl (cI, 600, .inl mby)), (hpb, .inl (cI, 264, .inl mpb))]) [0, 1, 2] rfl
      have hD := hD.sub (ws' := [(hm, .inr (8, [.int mrf, .ref hby, .int msz, .int mbg, .long mbt, .int mrg2_57, .int mct2_57, .int mvl2_57, .int mpl2_57, .int mcl, .int mrw, .int mqt, .int mlv, .int mtl, .int mbe, .int mch, .ref hpb, .ref hwa, .ref hmn, .ref hcf, .ref hsa, .ref hro])), (hby, .inl (cI, 600, .inl mby)), (hpb, .inl (cI, 264, .inl mpb))]) [0, 1, 2] (by decide) rfl
      generalize H1 = H at hP hS ⊢
      obtain ⟨q57_0, q57_1, q57_2, q57_3⟩ := hw9
      have q57_0 : kB r57 0 1 := q57_0
      have q57_1 : kB mrg2_57 128 255 := q57_1
      have q57_2 : kB mct2_57 0 7 := q57_2
      have q57_3 : 0 ≤ mpl2_57.toInt ∧ mpl2_57.toInt ≤ mpl2_47.toInt + 7 := q57_3
      refine lv_if_ne (tgt := 76) hx hb dX8_large_60 (by decide) (fun c60 => ?_) (fun c60 => ?_)
      · have c60x : kB r57 1 1 := kB_nlo q57_0 c60 kc_0 (by decide)
        refine lv_aload_n hx hb dX8_large_76 rfl (lv_at hl 0 rfl) ?_
        refine lv_bipush (v := 19) hx hb dX8_large_77 (by decide) ?_
        refine lv_ldc2 (v := 2962984071) hx hb hown (hts _ mk_215) dX8_large_79 ?_
        refine lv_iconst (v := 4) hx hb dX8_large_82 (by decide) ?_
        have hPc := hP.sub (ws' := [(hm, .inr (8, [.int mrf, .ref hby, .int msz, .int mbg, .long mbt, .int mrg2_57, .int mct2_57, .int mvl2_57, .int mpl2_57, .int mcl, .int mrw, .int mqt, .int mlv, .int mtl, .int mbe, .int mch, .ref hpb, .ref hwa, .ref hmn, .ref hcf, .ref hsa, .ref hro])), (hby, .inl (cI, 600, .inl mby))]) [0, 1] rfl
        have hDc := hD.sub (ws' := [(hm, .inr (8, [.int mrf, .ref hby, .int msz, .int mbg, .long mbt, .int mrg2_57, .int mct2_57, .int mvl2_57, .int mpl2_57, .int mcl, .int mrw, .int mqt, .int mlv, .int mtl, .int mbe, .int mch, .ref hpb, .ref hwa, .ref hmn, .ref hcf, .ref hsa, .ref hro])), (hby, .inl (cI, 600, .inl mby))]) [0, 1] (by decide) rfl
        have hFc := va_free (wc := [(hm, .inr (8, [.int mrf, .ref hby, .int msz, .int mbg, .long mbt, .int mrg2_57, .int mct2_57, .int mvl2_57, .int mpl2_57, .int mcl, .int mrw, .int mqt, .int mlv, .int mtl, .int mbe, .int mch, .ref hpb, .ref hwa, .ref hmn, .ref hcf, .ref hsa, .ref hro])), (hby, .inl (cI, 600, .inl mby))]) hD hS hA [0, 1] rfl
        refine va_calli (va_runV (As := [.int 19, .long 2962984071, .int 4]) (rest := []) ⟨hx, hb, hml, hown, hts⟩ (c_X8_added l D cI cJ cZ hm hby hpb hwa hmn hcf hsa hro mrf msz mbg mrg2_57 mct2_57 mvl2_57 mpl2_57 mcl mrw mqt mlv mtl mbe mch mbt mby 19 2962984071 4 q57_1 q57_2 bsz (kB_w kc_19 (by decide) (by decide)) (kB_w kc_4 (by decide) (by decide)) (by first | assumption | omega) (H).size) (cwV 3 hts (kg_V mk_211 mk_212 mk_213 mk_189 mk_214) rfl rfl rfl (by decide +kernel) ⟨Nat.le_of_ble_eq_true rfl, Nat.le_of_ble_eq_true rfl⟩) ⟨fun a U g mk q => by obtain ⟨q0, q1, qP, qK, qD⟩ := q; exact ⟨q0, q1, qP, kK.call qK, qD⟩, va_recv hK.1 hPc (ci := 8) (q0 := 0) rfl rfl, fun U hU hW => ⟨rfl, by rw [hU], by rw [hU]; exact hPc, kK.warm hW hK, hDc.weaken (fun _ _ _ _ => trivial)⟩⟩ rfl rfl hl.1 rfl (lv_room (Nat.le_of_ble_eq_true rfl)) dX8_large_83 ⟨Nat.zero_le _, Nat.zero_le _⟩) hS (fun q _ h => hFc q h) hFc (fun r83 u t9 H1 locs ht9 hvm9 hw9 hB9 hz9 hk9 hS => ?_)
        obtain ⟨mrg2_83, mct2_83, mvl2_83, mpl2_83⟩ := u
        obtain ⟨hP1, hD1⟩ := hB9
        rw [ht9] at hP1
        have hP1 : va_P D vwCl [(hm, .inr (8, [.int mrf, .ref hby, .int msz, .int mbg, .long mbt, .int mrg2_83, .int mct2_83, .int mvl2_83, .int mpl2_83, .int mcl, .int mrw, .int mqt, .int mlv, .int mtl, .int mbe, .int mch, .ref hpb, .ref hwa, .ref hmn, .ref hcf, .ref hsa, .ref hro])), (hby, .inl (cI, 600, .inl mby))] H1 := hP1
        obtain ⟨hP, hD⟩ := va_join (wr := [(hpb, .inl (cI, 264, .inl mpb))]) (w1 := [(hm, .inr (8, [.int mrf, .ref hby, .int msz, .int mbg, .long mbt, .int mrg2_83, .int mct2_83, .int mvl2_83, .int mpl2_83, .int mcl, .int mrw, .int mqt, .int mlv, .int mtl, .int mbe, .int mch, .ref hpb, .ref hwa, .ref hmn, .ref hcf, .ref hsa, .ref hro])), (hby, .inl (cI, 600, .inl mby))]) hP hD [0, 1] [2] rfl rfl (by decide) (by decide) hk9 hFc hP1 hD1
        have hP := hP.sub (ws' := [(hm, .inr (8, [.int mrf, .ref hby, .int msz, .int mbg, .long mbt, .int mrg2_83, .int mct2_83, .int mvl2_83, .int mpl2_83, .int mcl, .int mrw, .int mqt, .int mlv, .int mtl, .int mbe, .int mch, .ref hpb, .ref hwa, .ref hmn, .ref hcf, .ref hsa, .ref hro])), (hby, .inl (cI, 600, .inl mby)), (hpb, .inl (cI, 264, .inl mpb))]) [1, 2, 0] rfl
        have hD := hD.sub (ws' := [(hm, .inr (8, [.int mrf, .ref hby, .int msz, .int mbg, .long mbt, .int mrg2_83, .int mct2_83, .int mvl2_83, .int mpl2_83, .int mcl, .int mrw, .int mqt, .int mlv, .int mtl, .int mbe, .int mch, .ref hpb, .ref hwa, .ref hmn, .ref hcf, .ref hsa, .ref hro])), (hby, .inl (cI, 600, .inl mby)), (hpb, .inl (cI, 264, .inl mpb))]) [1, 2, 0] (by decide) rfl
        generalize H1 = H at hP hS ⊢
        obtain ⟨q83_0, q83_1, q83_2, q83_3⟩ := hw9
        have q83_0 : kB r83 0 99 := q83_0
        have q83_1 : kB mrg2_83 128 255 := q83_1
        have q83_2 : kB mct2_83 0 7 := q83_2
        have q83_3 : 0 ≤ mpl2_83.toInt ∧ mpl2_83.toInt ≤ mpl2_57.toInt + 42 := q83_3
        have pf_b : kB r83 0 70000000 := (kB_w q83_0 (by decide) (by decide))
        have pf_pl : 0 ≤ mpl2_83.toInt ∧ mpl2_83.toInt ≤ mpl.toInt + 200 := (by first | assumption | rfl | omega)
        exact W.iret (v := r83) hx hb hr (fun t9 ht9 hW9 => ⟨⟨r83, (mrg2_83, mct2_83, mvl2_83, mpl2_83), rfl, ⟨pf_b, q83_1, q83_2, pf_pl⟩, by rw [ht9]; exact hP, hD⟩, hS.F ht9⟩) hS.2.2 dX8_large_86
      · have c60x : kB r57 0 0 := kB_eq c60 kc_0
        refine lv_aload_n hx hb dX8_large_63 rfl (lv_at hl 0 rfl) ?_
        refine lv_bipush (v := 11) hx hb dX8_large_64 (by decide) ?_
        refine lv_ldc2 (v := 11375756) hx hb hown (hts _ mk_216) dX8_large_66 ?_
        refine lv_iconst (v := 3) hx hb dX8_large_69 (by decide) ?_
        have hPc := hP.sub (ws' := [(hm, .inr (8, [.int mrf, .ref hby, .int msz, .int mbg, .long mbt, .int mrg2_57, .int mct2_57, .int mvl2_57, .int mpl2_57, .int mcl, .int mrw, .int mqt, .int mlv, .int mtl, .int mbe, .int mch, .ref hpb, .ref hwa, .ref hmn, .ref hcf, .ref hsa, .ref hro])), (hby, .inl (cI, 600, .inl mby))]) [0, 1] rfl
        have hDc := hD.sub (ws' := [(hm, .inr (8, [.int mrf, .ref hby, .int msz, .int mbg, .long mbt, .int mrg2_57, .int mct2_57, .int mvl2_57, .int mpl2_57, .int mcl, .int mrw, .int mqt, .int mlv, .int mtl, .int mbe, .int mch, .ref hpb, .ref hwa, .ref hmn, .ref hcf, .ref hsa, .ref hro])), (hby, .inl (cI, 600, .inl mby))]) [0, 1] (by decide) rfl
        have hFc := va_free (wc := [(hm, .inr (8, [.int mrf, .ref hby, .int msz, .int mbg, .long mbt, .int mrg2_57, .int mct2_57, .int mvl2_57, .int mpl2_57, .int mcl, .int mrw, .int mqt, .int mlv, .int mtl, .int mbe, .int mch, .ref hpb, .ref hwa, .ref hmn, .ref hcf, .ref hsa, .ref hro])), (hby, .inl (cI, 600, .inl mby))]) hD hS hA [0, 1] rfl
        refine va_calli (va_runV (As := [.int 11, .long 11375756, .int 3]) (rest := []) ⟨hx, hb, hml, hown, hts⟩ (c_X8_added l D cI cJ cZ hm hby hpb hwa hmn hcf hsa hro mrf msz mbg mrg2_57 mct2_57 mvl2_57 mpl2_57 mcl mrw mqt mlv mtl mbe mch mbt mby 11 11375756 3 q57_1 q57_2 bsz (kB_w kc_11 (by decide) (by decide)) (kB_w kc_3 (by decide) (by decide)) (by first | assumption | omega) (H).size) (cwV 3 hts (kg_V mk_211 mk_212 mk_213 mk_189 mk_214) rfl rfl rfl (by decide +kernel) ⟨Nat.le_of_ble_eq_true rfl, Nat.le_of_ble_eq_true rfl⟩) ⟨fun a U g mk q => by obtain ⟨q0, q1, qP, qK, qD⟩ := q; exact ⟨q0, q1, qP, kK.call qK, qD⟩, va_recv hK.1 hPc (ci := 8) (q0 := 0) rfl rfl, fun U hU hW => ⟨rfl, by rw [hU], by rw [hU]; exact hPc, kK.warm hW hK, hDc.weaken (fun _ _ _ _ => trivial)⟩⟩ rfl rfl hl.1 rfl (lv_room (Nat.le_of_ble_eq_true rfl)) dX8_large_70 ⟨Nat.zero_le _, Nat.zero_le _⟩) hS (fun q _ h => hFc q h) hFc (fun r70 u t9 H1 locs ht9 hvm9 hw9 hB9 hz9 hk9 hS => ?_)
        obtain ⟨mrg2_70, mct2_70, mvl2_70, mpl2_70⟩ := u
        obtain ⟨hP1, hD1⟩ := hB9
        rw [ht9] at hP1
        have hP1 : va_P D vwCl [(hm, .inr (8, [.int mrf, .ref hby, .int msz, .int mbg, .long mbt, .int mrg2_70, .int mct2_70, .int mvl2_70, .int mpl2_70, .int mcl, .int mrw, .int mqt, .int mlv, .int mtl, .int mbe, .int mch, .ref hpb, .ref hwa, .ref hmn, .ref hcf, .ref hsa, .ref hro])), (hby, .inl (cI, 600, .inl mby))] H1 := hP1
        obtain ⟨hP, hD⟩ := va_join (wr := [(hpb, .inl (cI, 264, .inl mpb))]) (w1 := [(hm, .inr (8, [.int mrf, .ref hby, .int msz, .int mbg, .long mbt, .int mrg2_70, .int mct2_70, .int mvl2_70, .int mpl2_70, .int mcl, .int mrw, .int mqt, .int mlv, .int mtl, .int mbe, .int mch, .ref hpb, .ref hwa, .ref hmn, .ref hcf, .ref hsa, .ref hro])), (hby, .inl (cI, 600, .inl mby))]) hP hD [0, 1] [2] rfl rfl (by decide) (by decide) hk9 hFc hP1 hD1
        have hP := hP.sub (ws' := [(hm, .inr (8, [.int mrf, .ref hby, .int msz, .int mbg, .long mbt, .int mrg2_70, .int mct2_70, .int mvl2_70, .int mpl2_70, .int mcl, .int mrw, .int mqt, .int mlv, .int mtl, .int mbe, .int mch, .ref hpb, .ref hwa, .ref hmn, .ref hcf, .ref hsa, .ref hro])), (hby, .inl (cI, 600, .inl mby)), (hpb, .inl (cI, 264, .inl mpb))]) [1, 2, 0] rfl
        have hD := hD.sub (ws' := [(hm, .inr (8, [.int mrf, .ref hby, .int msz, .int mbg, .long mbt, .int mrg2_70, .int mct2_70, .int mvl2_70, .int mpl2_70, .int mcl, .int mrw, .int mqt, .int mlv, .int mtl, .int mbe, .int mch, .ref hpb, .ref hwa, .ref hmn, .ref hcf, .ref hsa, .ref hro])), (hby, .inl (cI, 600, .inl mby)), (hpb, .inl (cI, 264, .inl mpb))]) [1, 2, 0] (by decide) rfl
        generalize H1 = H at hP hS ⊢
        obtain ⟨q70_0, q70_1, q70_2, q70_3⟩ := hw9
        have q70_0 : kB r70 0 99 := q70_0
        have q70_1 : kB mrg2_70 128 255 := q70_1
        have q70_2 : kB mct2_70 0 7 := q70_2
        have q70_3 : 0 ≤ mpl2_70.toInt ∧ mpl2_70.toInt ≤ mpl2_57.toInt + 42 := q70_3
        refine lv_goto (tgt := 86) hx hb dX8_large_73 (by decide) ?_
        have pf_b : kB r70 0 70000000 := (kB_w q70_0 (by decide) (by decide))
        have pf_pl : 0 ≤ mpl2_70.toInt ∧ mpl2_70.toInt ≤ mpl.toInt + 200 := (by first | assumption | rfl | omega)
        exact W.iret (v := r70) hx hb hr (fun t9 ht9 hW9 => ⟨⟨r70, (mrg2_70, mct2_70, mvl2_70, mpl2_70), rfl, ⟨pf_b, q70_1, q70_2, pf_pl⟩, by rw [ht9]; exact hP, hD⟩, hS.F ht9⟩) hS.2.2 dX8_large_86
  · have c7x : kB r4 0 0 := kB_eq c7 kc_0
    refine lv_aload_n hx hb dX8_large_10 rfl (lv_at hl 0 rfl) ?_
    refine lv_iload_n hx hb dX8_large_11 rfl (lv_at hl 1 rfl) ?_
    refine lv_bipush (v := 7) hx hb dX8_large_12 (by decide) ?_
    have hPc := hP.sub (ws' := [(hm, .inr (8, [.int mrf, .ref hby, .int msz, .int mbg, .long mbt, .int mrg2_4, .int mct2_4, .int mvl2_4, .int mpl2_4, .int mcl, .int mrw, .int mqt, .int mlv, .int mtl, .int mbe, .int mch, .ref hpb, .ref hwa, .ref hmn, .ref hcf, .ref hsa, .ref hro])), (hby, .inl (cI, 600, .inl mby)), (hpb, .inl (cI, 264, .inl mpb))]) [0, 1, 2] rfl
    have hDc := hD.sub (ws' := [(hm, .inr (8, [.int mrf, .ref hby, .int msz, .int mbg, .long mbt, .int mrg2_4, .int mct2_4, .int mvl2_4, .int mpl2_4, .int mcl, .int mrw, .int mqt, .int mlv, .int mtl, .int mbe, .int mch, .ref hpb, .ref hwa, .ref hmn, .ref hcf, .ref hsa, .ref hro])), (hby, .inl (cI, 600, .inl mby)), (hpb, .inl (cI, 264, .inl mpb))]) [0, 1, 2] (by decide) rfl
    have hFc := va_free (wc := [(hm, .inr (8, [.int mrf, .ref hby, .int msz, .int mbg, .long mbt, .int mrg2_4, .int mct2_4, .int mvl2_4, .int mpl2_4, .int mcl, .int mrw, .int mqt, .int mlv, .int mtl, .int mbe, .int mch, .ref hpb, .ref hwa, .ref hmn, .ref hcf, .ref hsa, .ref hro])), (hby, .inl (cI, 600, .inl mby)), (hpb, .inl (cI, 264, .inl mpb))]) hD hS hA [0, 1, 2] rfl
    refine va_calli (va_runV (As := [.int bs, .int 7]) (rest := []) ⟨hx, hb, hml, hown, hts⟩ (c_X8_tell l D cI cJ cZ hm hby hpb hwa hmn hcf hsa hro mrf msz mbg mrg2_4 mct2_4 mvl2_4 mpl2_4 mcl mrw mqt mlv mtl mbe mch mbt mby mpb bs 7 q4_1 q4_2 bsz apb bbs (kB_w kc_7 (by decide) (by decide)) (by first | assumption | omega) (H).size) (cwV 2 hts (kg_V mk_206 mk_207 mk_208 mk_189 mk_209) rfl rfl rfl (by decide +kernel) ⟨Nat.le_of_ble_eq_true rfl, Nat.le_of_ble_eq_true rfl⟩) ⟨fun a U g mk q => by obtain ⟨q0, q1, qP, qK, qD⟩ := q; exact ⟨q0, q1, qP, kK.call qK, qD⟩, va_recv hK.1 hPc (ci := 8) (q0 := 0) rfl rfl, fun U hU hW => ⟨rfl, by rw [hU], by rw [hU]; exact hPc, kK.warm hW hK, hDc.weaken (fun _ _ _ _ => trivial)⟩⟩ rfl rfl hl.1 rfl (lv_room (Nat.le_of_ble_eq_true rfl)) dX8_large_14 ⟨Nat.zero_le _, Nat.zero_le _⟩) hS (fun q _ h => hFc q h) hFc (fun r14 u t9 H1 locs ht9 hvm9 hw9 hB9 hz9 hk9 hS => ?_)
    obtain ⟨mrg2_14, mct2_14, mvl2_14, mpl2_14⟩ := u
    obtain ⟨hP1, hD1⟩ := hB9
    rw [ht9] at hP1
    have hP1 : va_P D vwCl [(hm, .inr (8, [.int mrf, .ref hby, .int msz, .int mbg, .long mbt, .int mrg2_14, .int mct2_14, .int mvl2_14, .int mpl2_14, .int mcl, .int mrw, .int mqt, .int mlv, .int mtl, .int mbe, .int mch, .ref hpb, .ref hwa, .ref hmn, .ref hcf, .ref hsa, .ref hro])), (hby, .inl (cI, 600, .inl mby)), (hpb, .inl (cI, 264, .inl mpb))] H1 := hP1
    obtain ⟨hP, hD⟩ := va_join (wr := []) (w1 := [(hm, .inr (8, [.int mrf, .ref hby, .int msz, .int mbg, .long mbt, .int mrg2_14, .int mct2_14, .int mvl2_14, .int mpl2_14, .int mcl, .int mrw, .int mqt, .int mlv, .int mtl, .int mbe, .int mch, .ref hpb, .ref hwa, .ref hmn, .ref hcf, .ref hsa, .ref hro])), (hby, .inl (cI, 600, .inl mby)), (hpb, .inl (cI, 264, .inl mpb))]) hP hD [0, 1, 2] [] rfl rfl (by decide) (by decide) hk9 hFc hP1 hD1
    have hP := hP.sub (ws' := [(hm, .inr (8, [.int mrf, .ref hby, .int msz, .int mbg, .long mbt, .int mrg2_14, .int mct2_14, .int mvl2_14, .int mpl2_14, .int mcl, .int mrw, .int mqt, .int mlv, .int mtl, .int mbe, .int mch, .ref hpb, .ref hwa, .ref hmn, .ref hcf, .ref hsa, .ref hro])), (hby, .inl (cI, 600, .inl mby)), (hpb, .inl (cI, 264, .inl mpb))]) [0, 1, 2] rfl
    have hD := hD.sub (ws' := [(hm, .inr (8, [.int mrf, .ref hby, .int msz, .int mbg, .long mbt, .int mrg2_14, .int mct2_14, .int mvl2_14, .int mpl2_14, .int mcl, .int mrw, .int mqt, .int mlv, .int mtl, .int mbe, .int mch, .ref hpb, .ref hwa, .ref hmn, .ref hcf, .ref hsa, .ref hro])), (hby, .inl (cI, 600, .inl mby)), (hpb, .inl (cI, 264, .inl mpb))]) [0, 1, 2] (by decide) rfl
    generalize H1 = H at hP hS ⊢
    obtain ⟨q14_0, q14_1, q14_2, q14_3⟩ := hw9
    have q14_0 : kB r14 0 1 := q14_0
    have q14_1 : kB mrg2_14 128 255 := q14_1
    have q14_2 : kB mct2_14 0 7 := q14_2
    have q14_3 : 0 ≤ mpl2_14.toInt ∧ mpl2_14.toInt ≤ mpl2_4.toInt + 7 := q14_3
    refine lv_if_ne (tgt := 32) hx hb dX8_large_17 (by decide) (fun c17 => ?_) (fun c17 => ?_)
    · have c17x : kB r14 1 1 := kB_nlo q14_0 c17 kc_0 (by decide)
      refine lv_aload_n hx hb dX8_large_32 rfl (lv_at hl 0 rfl) ?_
      refine lv_bipush (v := 7) hx hb dX8_large_33 (by decide) ?_
      refine lv_ldc2 (v := 42385) hx hb hown (hts _ mk_217) dX8_large_35 ?_
      refine lv_iconst (v := 2) hx hb dX8_large_38 (by decide) ?_
      have hPc := hP.sub (ws' := [(hm, .inr (8, [.int mrf, .ref hby, .int msz, .int mbg, .long mbt, .int mrg2_14, .int mct2_14, .int mvl2_14, .int mpl2_14, .int mcl, .int mrw, .int mqt, .int mlv, .int mtl, .int mbe, .int mch, .ref hpb, .ref hwa, .ref hmn, .ref hcf, .ref hsa, .ref hro])), (hby, .inl (cI, 600, .inl mby))]) [0, 1] rfl
      have hDc := hD.sub (ws' := [(hm, .inr (8, [.int mrf, .ref hby, .int msz, .int mbg, .long mbt, .int mrg2_14, .int mct2_14, .int mvl2_14, .int mpl2_14, .int mcl, .int mrw, .int mqt, .int mlv, .int mtl, .int mbe, .int mch, .ref hpb, .ref hwa, .ref hmn, .ref hcf, .ref hsa, .ref hro])), (hby, .inl (cI, 600, .inl mby))]) [0, 1] (by decide) rfl
      have hFc := va_free (wc := [(hm, .inr (8, [.int mrf, .ref hby, .int msz, .int mbg, .long mbt, .int mrg2_14, .int mct2_14, .int mvl2_14, .int mpl2_14, .int mcl, .int mrw, .int mqt, .int mlv, .int mtl, .int mbe, .int mch, .ref hpb, .ref hwa, .ref hmn, .ref hcf, .ref hsa, .ref hro])), (hby, .inl (cI, 600, .inl mby))]) hD hS hA [0, 1] rfl
      refine va_calli (va_runV (As := [.int 7, .long 42385, .int 2]) (rest := []) ⟨hx, hb, hml, hown, hts⟩ (c_X8_added l D cI cJ cZ hm hby hpb hwa hmn hcf hsa hro mrf msz mbg mrg2_14 mct2_14 mvl2_14 mpl2_14 mcl mrw mqt mlv mtl mbe mch mbt mby 7 42385 2 q14_1 q14_2 bsz (kB_w kc_7 (by decide) (by decide)) (kB_w kc_2 (by decide) (by decide)) (by first | assumption | omega) (H).size) (cwV 3 hts (kg_V mk_211 mk_212 mk_213 mk_189 mk_214) rfl rfl rfl (by decide +kernel) ⟨Nat.le_of_ble_eq_true rfl, Nat.le_of_ble_eq_true rfl⟩) ⟨fun a U g mk q => by obtain ⟨q0, q1, qP, qK, qD⟩ := q; exact ⟨q0, q1, qP, kK.call qK, qD⟩, va_recv hK.1 hPc (ci := 8) (q0 := 0) rfl rfl, fun U hU hW => ⟨rfl, by rw [hU], by rw [hU]; exact hPc, kK.warm hW hK, hDc.weaken (fun _ _ _ _ => trivial)⟩⟩ rfl rfl hl.1 rfl (lv_room (Nat.le_of_ble_eq_true rfl)) dX8_large_39 ⟨Nat.zero_le _, Nat.zero_le _⟩) hS (fun q _ h => hFc q h) hFc (fun r39 u t9 H1 locs ht9 hvm9 hw9 hB9 hz9 hk9 hS => ?_)
      obtain ⟨mrg2_39, mct2_39, mvl2_39, mpl2_39⟩ := u
      obtain ⟨hP1, hD1⟩ := hB9
      rw [ht9] at hP1
      have hP1 : va_P D vwCl [(hm, .inr (8, [.int mrf, .ref hby, .int msz, .int mbg, .long mbt, .int mrg2_39, .int mct2_39, .int mvl2_39, .int mpl2_39, .int mcl, .int mrw, .int mqt, .int mlv, .int mtl, .int mbe, .int mch, .ref hpb, .ref hwa, .ref hmn, .ref hcf, .ref hsa, .ref hro])), (hby, .inl (cI, 600, .inl mby))] H1 := hP1
      obtain ⟨hP, hD⟩ := va_join (wr := [(hpb, .inl (cI, 264, .inl mpb))]) (w1 := [(hm, .inr (8, [.int mrf, .ref hby, .int msz, .int mbg, .long mbt, .int mrg2_39, .int mct2_39, .int mvl2_39, .int mpl2_39, .int mcl, .int mrw, .int mqt, .int mlv, .int mtl, .int mbe, .int mch, .ref hpb, .ref hwa, .ref hmn, .ref hcf, .ref hsa, .ref hro])), (hby, .inl (cI, 600, .inl mby))]) hP hD [0, 1] [2] rfl rfl (by decide) (by decide) hk9 hFc hP1 hD1
      have hP := hP.sub (ws' := [(hm, .inr (8, [.int mrf, .ref hby, .int msz, .int mbg, .long mbt, .int mrg2_39, .int mct2_39, .int mvl2_39, .int mpl2_39, .int mcl, .int mrw, .int mqt, .int mlv, .int mtl, .int mbe, .int mch, .ref hpb, .ref hwa, .ref hmn, .ref hcf, .ref hsa, .ref hro])), (hby, .inl (cI, 600, .inl mby)), (hpb, .inl (cI, 264, .inl mpb))]) [1, 2, 0] rfl
      have hD := hD.sub (ws' := [(hm, .inr (8, [.int mrf, .ref hby, .int msz, .int mbg, .long mbt, .int mrg2_39, .int mct2_39, .int mvl2_39, .int mpl2_39, .int mcl, .int mrw, .int mqt, .int mlv, .int mtl, .int mbe, .int mch, .ref hpb, .ref hwa, .ref hmn, .ref hcf, .ref hsa, .ref hro])), (hby, .inl (cI, 600, .inl mby)), (hpb, .inl (cI, 264, .inl mpb))]) [1, 2, 0] (by decide) rfl
      generalize H1 = H at hP hS ⊢
      obtain ⟨q39_0, q39_1, q39_2, q39_3⟩ := hw9
      have q39_0 : kB r39 0 99 := q39_0
      have q39_1 : kB mrg2_39 128 255 := q39_1
      have q39_2 : kB mct2_39 0 7 := q39_2
      have q39_3 : 0 ≤ mpl2_39.toInt ∧ mpl2_39.toInt ≤ mpl2_14.toInt + 42 := q39_3
      have pf_b : kB r39 0 70000000 := (kB_w q39_0 (by decide) (by decide))
      have pf_pl : 0 ≤ mpl2_39.toInt ∧ mpl2_39.toInt ≤ mpl.toInt + 200 := (by first | assumption | rfl | omega)
      exact W.iret (v := r39) hx hb hr (fun t9 ht9 hW9 => ⟨⟨r39, (mrg2_39, mct2_39, mvl2_39, mpl2_39), rfl, ⟨pf_b, q39_1, q39_2, pf_pl⟩, by rw [ht9]; exact hP, hD⟩, hS.F ht9⟩) hS.2.2 dX8_large_42
    · have c17x : kB r14 0 0 := kB_eq c17 kc_0
      refine lv_aload_n hx hb dX8_large_20 rfl (lv_at hl 0 rfl) ?_
      refine lv_iconst (v := 5) hx hb dX8_large_21 (by decide) ?_
      refine lv_ldc2 (v := 159) hx hb hown (hts _ mk_218) dX8_large_22 ?_
      refine lv_iconst (v := 1) hx hb dX8_large_25 (by decide) ?_
      have hPc := hP.sub (ws' := [(hm, .inr (8, [.int mrf, .ref hby, .int msz, .int mbg, .long mbt, .int mrg2_14, .int mct2_14, .int mvl2_14, .int mpl2_14, .int mcl, .int mrw, .int mqt, .int mlv, .int mtl, .int mbe, .int mch, .ref hpb, .ref hwa, .ref hmn, .ref hcf, .ref hsa, .ref hro])), (hby, .inl (cI, 600, .inl mby))]) [0, 1] rfl
      have hDc := hD.sub (ws' := [(hm, .inr (8, [.int mrf, .ref hby, .int msz, .int mbg, .long mbt, .int mrg2_14, .int mct2_14, .int mvl2_14, .int mpl2_14, .int mcl, .int mrw, .int mqt, .int mlv, .int mtl, .int mbe, .int mch, .ref hpb, .ref hwa, .ref hmn, .ref hcf, .ref hsa, .ref hro])), (hby, .inl (cI, 600, .inl mby))]) [0, 1] (by decide) rfl
      have hFc := va_free (wc := [(hm, .inr (8, [.int mrf, .ref hby, .int msz, .int mbg, .long mbt, .int mrg2_14, .int mct2_14, .int mvl2_14, .int mpl2_14, .int mcl, .int mrw, .int mqt, .int mlv, .int mtl, .int mbe, .int mch, .ref hpb, .ref hwa, .ref hmn, .ref hcf, .ref hsa, .ref hro])), (hby, .inl (cI, 600, .inl mby))]) hD hS hA [0, 1] rfl
      refine va_calli (va_runV (As := [.int 5, .long 159, .int 1]) (rest := []) ⟨hx, hb, hml, hown, hts⟩ (c_X8_added l D cI cJ cZ hm hby hpb hwa hmn hcf hsa hro mrf msz mbg mrg2_14 mct2_14 mvl2_14 mpl2_14 mcl mrw mqt mlv mtl mbe mch mbt mby 5 159 1 q14_1 q14_2 bsz (kB_w kc_5 (by decide) (by decide)) (kB_w kc_1 (by decide) (by decide)) (by first | assumption | omega) (H).size) (cwV 3 hts (kg_V mk_211 mk_212 mk_213 mk_189 mk_214) rfl rfl rfl (by decide +kernel) ⟨Nat.le_of_ble_eq_true rfl, Nat.le_of_ble_eq_true rfl⟩) ⟨fun a U g mk q => by obtain ⟨q0, q1, qP, qK, qD⟩ := q; exact ⟨q0, q1, qP, kK.call qK, qD⟩, va_recv hK.1 hPc (ci := 8) (q0 := 0) rfl rfl, fun U hU hW => ⟨rfl, by rw [hU], by rw [hU]; exact hPc, kK.warm hW hK, hDc.weaken (fun _ _ _ _ => trivial)⟩⟩ rfl rfl hl.1 rfl (lv_room (Nat.le_of_ble_eq_true rfl)) dX8_large_26 ⟨Nat.zero_le _, Nat.zero_le _⟩) hS (fun q _ h => hFc q h) hFc (fun r26 u t9 H1 locs ht9 hvm9 hw9 hB9 hz9 hk9 hS => ?_)
      obtain ⟨mrg2_26, mct2_26, mvl2_26, mpl2_26⟩ := u
      obtain ⟨hP1, hD1⟩ := hB9
      rw [ht9] at hP1
      have hP1 : va_P D vwCl [(hm, .inr (8, [.int mrf, .ref hby, .int msz, .int mbg, .long mbt, .int mrg2_26, .int mct2_26, .int mvl2_26, .int mpl2_26, .int mcl, .int mrw, .int mqt, .int mlv, .int mtl, .int mbe, .int mch, .ref hpb, .ref hwa, .ref hmn, .ref hcf, .ref hsa, .ref hro])), (hby, .inl (cI, 600, .inl mby))] H1 := hP1
      obtain ⟨hP, hD⟩ := va_join (wr := [(hpb, .inl (cI, 264, .inl mpb))]) (w1 := [(hm, .inr (8, [.int mrf, .ref hby, .int msz, .int mbg, .long mbt, .int mrg2_26, .int mct2_26, .int mvl2_26, .int mpl2_26, .int mcl, .int mrw, .int mqt, .int mlv, .int mtl, .int mbe, .int mch, .ref hpb, .ref hwa, .ref hmn, .ref hcf, .ref hsa, .ref hro])), (hby, .inl (cI, 600, .inl mby))]) hP hD [0, 1] [2] rfl rfl (by decide) (by decide) hk9 hFc hP1 hD1
      have hP := hP.sub (ws' := [(hm, .inr (8, [.int mrf, .ref hby, .int msz, .int mbg, .long mbt, .int mrg2_26, .int mct2_26, .int mvl2_26, .int mpl2_26, .int mcl, .int mrw, .int mqt, .int mlv, .int mtl, .int mbe, .int mch, .ref hpb, .ref hwa, .ref hmn, .ref hcf, .ref hsa, .ref hro])), (hby, .inl (cI, 600, .inl mby)), (hpb, .inl (cI, 264, .inl mpb))]) [1, 2, 0] rfl
      have hD := hD.sub (ws' := [(hm, .inr (8, [.int mrf, .ref hby, .int msz, .int mbg, .long mbt, .int mrg2_26, .int mct2_26, .int mvl2_26, .int mpl2_26, .int mcl, .int mrw, .int mqt, .int mlv, .int mtl, .int mbe, .int mch, .ref hpb, .ref hwa, .ref hmn, .ref hcf, .ref hsa, .ref hro])), (hby, .inl (cI, 600, .inl mby)), (hpb, .inl (cI, 264, .inl mpb))]) [1, 2, 0] (by decide) rfl
      generalize H1 = H at hP hS ⊢
      obtain ⟨q26_0, q26_1, q26_2, q26_3⟩ := hw9
      have q26_0 : kB r26 0 99 := q26_0
      have q26_1 : kB mrg2_26 128 255 := q26_1
      have q26_2 : kB mct2_26 0 7 := q26_2
      have q26_3 : 0 ≤ mpl2_26.toInt ∧ mpl2_26.toInt ≤ mpl2_14.toInt + 42 := q26_3
      refine lv_goto (tgt := 42) hx hb dX8_large_29 (by decide) ?_
      have pf_b : kB r26 0 70000000 := (kB_w q26_0 (by decide) (by decide))
      have pf_pl : 0 ≤ mpl2_26.toInt ∧ mpl2_26.toInt ≤ mpl.toInt + 200 := (by first | assumption | rfl | omega)
      exact W.iret (v := r26) hx hb hr (fun t9 ht9 hW9 => ⟨⟨r26, (mrg2_26, mct2_26, mvl2_26, mpl2_26), rfl, ⟨pf_b, q26_1, q26_2, pf_pl⟩, by rw [ht9]; exact hP, hD⟩, hS.F ht9⟩) hS.2.2 dX8_large_42
abbrev kw_X8_sizeOf : List Cond := Cond.code yX8_sizeOf cX8_sizeOf 2 (some .int) :: kW
set_option maxHeartbeats 4000000 in
set_option maxRecDepth 100000 in
theorem c_X8_sizeOf (l : Launch) (D : va_G) (cI cJ cZ : ClassId) (hm hby hpb hwa hmn hcf hsa hro : Nat) (mrf : Int32) (msz : Int32) (mbg : Int32) (mrg : Int32) (mct : Int32) (mvl : Int32) (mpl : Int32) (mcl : Int32) (mrw : Int32) (mqt : Int32) (mlv : Int32) (mtl : Int32) (mbe : Int32) (mch : Int32) (mbt : Int64) (mby : Nat → Int32) (mpb : Nat → Int32) (bs : Int32) (brg : kB mrg 128 255) (bct : kB mct 0 7) (bsz : kB msz 0 600) (apb : kA mpb 0 255) (bbs : kB bs 0 253) (hpl : 0 ≤ mpl.toInt ∧ mpl.toInt ≤ 999700000) (hpz : Nat) : Met l yX8_sizeOf kw_X8_sizeOf ({ frames := 4, cells := 0, slots := 0, locals := 93 }) (va_Pc [.ref hm, .int bs] (fun U => U.heap.size = hpz ∧ va_P D vwCl [(hm, .inr (8, [.int mrf, .ref hby, .int msz, .int mbg, .long mbt, .int mrg, .int mct, .int mvl, .int mpl, .int mcl, .int mrw, .int mqt, .int mlv, .int mtl, .int mbe, .int mch, .ref hpb, .ref hwa, .ref hmn, .ref hcf, .ref hsa, .ref hro])), (hby, .inl (cI, 600, .inl mby)), (hpb, .inl (cI, 264, .inl mpb))] U.heap ∧ kK D cI cJ cZ U ∧ va_D (fun _ => True) [(hm, .inr (8, [.int mrf, .ref hby, .int msz, .int mbg, .long mbt, .int mrg, .int mct, .int mvl, .int mpl, .int mcl, .int mrw, .int mqt, .int mlv, .int mtl, .int mbe, .int mch, .ref hpb, .ref hwa, .ref hmn, .ref hcf, .ref hsa, .ref hro])), (hby, .inl (cI, 600, .inl mby)), (hpb, .inl (cI, 264, .inl mpb))])) (va_Qi (fun (r : Int32) (u : Int32 × Int32 × Int32 × Int32) => (kB r 0 70000000) ∧ (kB u.1 128 255) ∧ (kB u.2.1 0 7) ∧ (0 ≤ u.2.2.2.toInt ∧ u.2.2.2.toInt ≤ mpl.toInt + 300)) (fun (u : Int32 × Int32 × Int32 × Int32) (t : State) => va_P D vwCl [(hm, .inr (8, [.int mrf, .ref hby, .int msz, .int mbg, .long mbt, .int u.1, .int u.2.1, .int u.2.2.1, .int u.2.2.2, .int mcl, .int mrw, .int mqt, .int mlv, .int mtl, .int mbe, .int mch, .ref hpb, .ref hwa, .ref hmn, .ref hcf, .ref hsa, .ref hro])), (hby, .inl (cI, 600, .inl mby)), (hpb, .inl (cI, 264, .inl mpb))] t.heap ∧ va_D (va_A [(hm, .inr (8, [.int mrf, .ref hby, .int msz, .int mbg, .long mbt, .int mrg, .int mct, .int mvl, .int mpl, .int mcl, .int mrw, .int mqt, .int mlv, .int mtl, .int mbe, .int mch, .ref hpb, .ref hwa, .ref hmn, .ref hcf, .ref hsa, .ref hro])), (hby, .inl (cI, 600, .inl mby)), (hpb, .inl (cI, 264, .inl mpb))] hpz) [(hm, .inr (8, [.int mrf, .ref hby, .int msz, .int mbg, .long mbt, .int u.1, .int u.2.1, .int u.2.2.1, .int u.2.2.2, .int mcl, .int mrw, .int mqt, .int mlv, .int mtl, .int mbe, .int mch, .ref hpb, .ref hwa, .ref hmn, .ref hcf, .ref hsa, .ref hro])), (hby, .inl (cI, 600, .inl mby)), (hpb, .inl (cI, 264, .inl mpb))]) (va_A [(hm, .inr (8, [.int mrf, .ref hby, .int msz, .int mbg, .long mbt, .int mrg, .int mct, .int mvl, .int mpl, .int mcl, .int mrw, .int mqt, .int mlv, .int mtl, .int mbe, .int mch, .ref hpb, .ref hwa, .ref hmn, .ref hcf, .ref hsa, .ref hro])), (hby, .inl (cI, 600, .inl mby)), (hpb, .inl (cI, 264, .inl mpb))] hpz)) 0 0 (va_A [(hm, .inr (8, [.int mrf, .ref hby, .int msz, .int mbg, .long mbt, .int mrg, .int mct, .int mvl, .int mpl, .int mcl, .int mrw, .int mqt, .int mlv, .int mtl, .int mbe, .int mch, .ref hpb, .ref hwa, .ref hmn, .ref hcf, .ref hsa, .ref hro])), (hby, .inl (cI, 600, .inl mby)), (hpb, .inl (cI, 264, .inl mpb))] hpz) := by
  refine Met.ofW (cc := cX8_sizeOf) (maxL := 2) (ret := (some .int)) (by decide) rfl ?_
  intro p e s m args below meth c s₁ B hml hv
  obtain ⟨rfl, hsz, hP, hK, hD0⟩ := hv
  have hx := B.exec
  have hb := B.bytes
  have hr := B.returns
  have hts := fun (w : Cond) (h : w ∈ kW) => atoms_spec (ws := kw_X8_sizeOf) B.pre w (List.mem_cons_of_mem _ h)
  have hown : s.vm.findClass RX8 = some m.cls := findClass_of_methodNamed B.named
  have hlocks := B.notSynchronized
  subst hsz
  have hD := hD0.self (sz := s.heap.size)
  generalize hAe : va_A [(hm, .inr (8, [.int mrf, .ref hby, .int msz, .int mbg, .long mbt, .int mrg, .int mct, .int mvl, .int mpl, .int mcl, .int mrw, .int mqt, .int mlv, .int mtl, .int mbe, .int mch, .ref hpb, .ref hwa, .ref hmn, .ref hcf, .ref hsa, .ref hro])), (hby, .inl (cI, 600, .inl mby)), (hpb, .inl (cI, 264, .inl mpb))] s.heap.size = A at hD ⊢
  have hA : ∀ q : Nat, s.heap.size ≤ q → A q := fun q h => by rw [← hAe]; exact Or.inr h
  have hS : va_S A s.heap s.heap [] := va_S.rf
  have hP : va_P D vwCl [(hm, .inr (8, [.int mrf, .ref hby, .int msz, .int mbg, .long mbt, .int mrg, .int mct, .int mvl, .int mpl, .int mcl, .int mrw, .int mqt, .int mlv, .int mtl, .int mbe, .int mch, .ref hpb, .ref hwa, .ref hmn, .ref hcf, .ref hsa, .ref hro])), (hby, .inl (cI, 600, .inl mby)), (hpb, .inl (cI, 264, .inl mpb))] s.heap := hP
  have hl := lv_entry ([.ref hm, .int bs]) (n := 2) (Nat.le_of_ble_eq_true rfl)
  rw [lg_entry_eq]
  generalize (lg_sl ([.ref hm, .int bs]) ++ List.replicate (2 - (lg_sl ([.ref hm, .int bs])).length) Slot.unset).toArray = ls at hl ⊢
  have hl : lv_has ls 2 [(0, .ref hm), (1, .int bs)] := hl
  refine lv_aload_n hx hb dX8_sizeOf_0 rfl (lv_at hl 0 rfl) ?_
  refine lv_iload_n hx hb dX8_sizeOf_1 rfl (lv_at hl 1 rfl) ?_
  refine lv_iconst (v := 2) hx hb dX8_sizeOf_2 (by decide) ?_
  have hPc := hP.sub (ws' := [(hm, .inr (8, [.int mrf, .ref hby, .int msz, .int mbg, .long mbt, .int mrg, .int mct, .int mvl, .int mpl, .int mcl, .int mrw, .int mqt, .int mlv, .int mtl, .int mbe, .int mch, .ref hpb, .ref hwa, .ref hmn, .ref hcf, .ref hsa, .ref hro])), (hby, .inl (cI, 600, .inl mby)), (hpb, .inl (cI, 264, .inl mpb))]) [0, 1, 2] rfl
  have hDc := hD.sub (ws' := [(hm, .inr (8, [.int mrf, .ref hby, .int msz, .int mbg, .long mbt, .int mrg, .int mct, .int mvl, .int mpl, .int mcl, .int mrw, .int mqt, .int mlv, .int mtl, .int mbe, .int mch, .ref hpb, .ref hwa, .ref hmn, .ref hcf, .ref hsa, .ref hro])), (hby, .inl (cI, 600, .inl mby)), (hpb, .inl (cI, 264, .inl mpb))]) [0, 1, 2] (by decide) rfl
  have hFc := va_free (wc := [(hm, .inr (8, [.int mrf, .ref hby, .int msz, .int mbg, .long mbt, .int mrg, .int mct, .int mvl, .int mpl, .int mcl, .int mrw, .int mqt, .int mlv, .int mtl, .int mbe, .int mch, .ref hpb, .ref hwa, .ref hmn, .ref hcf, .ref hsa, .ref hro])), (hby, .inl (cI, 600, .inl mby)), (hpb, .inl (cI, 264, .inl mpb))]) hD hS hA [0, 1, 2] rfl
  refine va_calli (va_runV (As := [.int bs, .int 2]) (rest := []) ⟨hx, hb, hml, hown, hts⟩ (c_X8_tell l D cI cJ cZ hm hby hpb hwa hmn hcf hsa hro mrf msz mbg mrg mct mvl mpl mcl mrw mqt mlv mtl mbe mch mbt mby mpb bs 2 brg bct bsz apb bbs (kB_w kc_2 (by decide) (by decide)) (by first | assumption | omega) (s.heap).size) (cwV 2 hts (kg_V mk_206 mk_207 mk_208 mk_189 mk_209) rfl rfl rfl (by decide +kernel) ⟨Nat.le_of_ble_eq_true rfl, Nat.le_of_ble_eq_true rfl⟩) ⟨fun a U g mk q => by obtain ⟨q0, q1, qP, qK, qD⟩ := q; exact ⟨q0, q1, qP, kK.call qK, qD⟩, va_recv hK.1 hPc (ci := 8) (q0 := 0) rfl rfl, fun U hU hW => ⟨rfl, by rw [hU], by rw [hU]; exact hPc, kK.warm hW hK, hDc.weaken (fun _ _ _ _ => trivial)⟩⟩ rfl rfl hl.1 rfl (lv_room (Nat.le_of_ble_eq_true rfl)) dX8_sizeOf_3 ⟨Nat.zero_le _, Nat.zero_le _⟩) hS (fun q _ h => hFc q h) hFc (fun r3 u t9 H1 locs ht9 hvm9 hw9 hB9 hz9 hk9 hS => ?_)
  obtain ⟨mrg2_3, mct2_3, mvl2_3, mpl2_3⟩ := u
  obtain ⟨hP1, hD1⟩ := hB9
  rw [ht9] at hP1
  have hP1 : va_P D vwCl [(hm, .inr (8, [.int mrf, .ref hby, .int msz, .int mbg, .long mbt, .int mrg2_3, .int mct2_3, .int mvl2_3, .int mpl2_3, .int mcl, .int mrw, .int mqt, .int mlv, .int mtl, .int mbe, .int mch, .ref hpb, .ref hwa, .ref hmn, .ref hcf, .ref hsa, .ref hro])), (hby, .inl (cI, 600, .inl mby)), (hpb, .inl (cI, 264, .inl mpb))] H1 := hP1
  obtain ⟨hP, hD⟩ := va_join (wr := []) (w1 := [(hm, .inr (8, [.int mrf, .ref hby, .int msz, .int mbg, .long mbt, .int mrg2_3, .int mct2_3, .int mvl2_3, .int mpl2_3, .int mcl, .int mrw, .int mqt, .int mlv, .int mtl, .int mbe, .int mch, .ref hpb, .ref hwa, .ref hmn, .ref hcf, .ref hsa, .ref hro])), (hby, .inl (cI, 600, .inl mby)), (hpb, .inl (cI, 264, .inl mpb))]) hP hD [0, 1, 2] [] rfl rfl (by decide) (by decide) hk9 hFc hP1 hD1
  have hP := hP.sub (ws' := [(hm, .inr (8, [.int mrf, .ref hby, .int msz, .int mbg, .long mbt, .int mrg2_3, .int mct2_3, .int mvl2_3, .int mpl2_3, .int mcl, .int mrw, .int mqt, .int mlv, .int mtl, .int mbe, .int mch, .ref hpb, .ref hwa, .ref hmn, .ref hcf, .ref hsa, .ref hro])), (hby, .inl (cI, 600, .inl mby)), (hpb, .inl (cI, 264, .inl mpb))]) [0, 1, 2] rfl
  have hD := hD.sub (ws' := [(hm, .inr (8, [.int mrf, .ref hby, .int msz, .int mbg, .long mbt, .int mrg2_3, .int mct2_3, .int mvl2_3, .int mpl2_3, .int mcl, .int mrw, .int mqt, .int mlv, .int mtl, .int mbe, .int mch, .ref hpb, .ref hwa, .ref hmn, .ref hcf, .ref hsa, .ref hro])), (hby, .inl (cI, 600, .inl mby)), (hpb, .inl (cI, 264, .inl mpb))]) [0, 1, 2] (by decide) rfl
  generalize H1 = H at hP hS ⊢
  obtain ⟨q3_0, q3_1, q3_2, q3_3⟩ := hw9
  have q3_0 : kB r3 0 1 := q3_0
  have q3_1 : kB mrg2_3 128 255 := q3_1
  have q3_2 : kB mct2_3 0 7 := q3_2
  have q3_3 : 0 ≤ mpl2_3.toInt ∧ mpl2_3.toInt ≤ mpl.toInt + 7 := q3_3
  refine lv_if_ne (tgt := 11) hx hb dX8_sizeOf_6 (by decide) (fun c6 => ?_) (fun c6 => ?_)
  · have c6x : kB r3 1 1 := kB_nlo q3_0 c6 kc_0 (by decide)
    refine lv_aload_n hx hb dX8_sizeOf_11 rfl (lv_at hl 0 rfl) ?_
    refine lv_iload_n hx hb dX8_sizeOf_12 rfl (lv_at hl 1 rfl) ?_
    refine lv_iconst (v := 3) hx hb dX8_sizeOf_13 (by decide) ?_
    have hPc := hP.sub (ws' := [(hm, .inr (8, [.int mrf, .ref hby, .int msz, .int mbg, .long mbt, .int mrg2_3, .int mct2_3, .int mvl2_3, .int mpl2_3, .int mcl, .int mrw, .int mqt, .int mlv, .int mtl, .int mbe, .int mch, .ref hpb, .ref hwa, .ref hmn, .ref hcf, .ref hsa, .ref hro])), (hby, .inl (cI, 600, .inl mby)), (hpb, .inl (cI, 264, .inl mpb))]) [0, 1, 2] rfl
    have hDc := hD.sub (ws' := [(hm, .inr (8, [.int mrf, .ref hby, .int msz, .int mbg, .long mbt, .int mrg2_3, .int mct2_3, .int mvl2_3, .int mpl2_3, .int mcl, .int mrw, .int mqt, .int mlv, .int mtl, .int mbe, .int mch, .ref hpb, .ref hwa, .ref hmn, .ref hcf, .ref hsa, .ref hro])), (hby, .inl (cI, 600, .inl mby)), (hpb, .inl (cI, 264, .inl mpb))]) [0, 1, 2] (by decide) rfl
    have hFc := va_free (wc := [(hm, .inr (8, [.int mrf, .ref hby, .int msz, .int mbg, .long mbt, .int mrg2_3, .int mct2_3, .int mvl2_3, .int mpl2_3, .int mcl, .int mrw, .int mqt, .int mlv, .int mtl, .int mbe, .int mch, .ref hpb, .ref hwa, .ref hmn, .ref hcf, .ref hsa, .ref hro])), (hby, .inl (cI, 600, .inl mby)), (hpb, .inl (cI, 264, .inl mpb))]) hD hS hA [0, 1, 2] rfl
    refine va_calli (va_runV (As := [.int bs, .int 3]) (rest := []) ⟨hx, hb, hml, hown, hts⟩ (c_X8_tell l D cI cJ cZ hm hby hpb hwa hmn hcf hsa hro mrf msz mbg mrg2_3 mct2_3 mvl2_3 mpl2_3 mcl mrw mqt mlv mtl mbe mch mbt mby mpb bs 3 q3_1 q3_2 bsz apb bbs (kB_w kc_3 (by decide) (by decide)) (by first | assumption | omega) (H).size) (cwV 2 hts (kg_V mk_206 mk_207 mk_208 mk_189 mk_209) rfl rfl rfl (by decide +kernel) ⟨Nat.le_of_ble_eq_true rfl, Nat.le_of_ble_eq_true rfl⟩) ⟨fun a U g mk q => by obtain ⟨q0, q1, qP, qK, qD⟩ := q; exact ⟨q0, q1, qP, kK.call qK, qD⟩, va_recv hK.1 hPc (ci := 8) (q0 := 0) rfl rfl, fun U hU hW => ⟨rfl, by rw [hU], by rw [hU]; exact hPc, kK.warm hW hK, hDc.weaken (fun _ _ _ _ => trivial)⟩⟩ rfl rfl hl.1 rfl (lv_room (Nat.le_of_ble_eq_true rfl)) dX8_sizeOf_14 ⟨Nat.zero_le _, Nat.zero_le _⟩) hS (fun q _ h => hFc q h) hFc (fun r14 u t9 H1 locs ht9 hvm9 hw9 hB9 hz9 hk9 hS => ?_)
    obtain ⟨mrg2_14, mct2_14, mvl2_14, mpl2_14⟩ := u
    obtain ⟨hP1, hD1⟩ := hB9
    rw [ht9] at hP1
    have hP1 : va_P D vwCl [(hm, .inr (8, [.int mrf, .ref hby, .int msz, .int mbg, .long mbt, .int mrg2_14, .int mct2_14, .int mvl2_14, .int mpl2_14, .int mcl, .int mrw, .int mqt, .int mlv, .int mtl, .int mbe, .int mch, .ref hpb, .ref hwa, .ref hmn, .ref hcf, .ref hsa, .ref hro])), (hby, .inl (cI, 600, .inl mby)), (hpb, .inl (cI, 264, .inl mpb))] H1 := hP1
    obtain ⟨hP, hD⟩ := va_join (wr := []) (w1 := [(hm, .inr (8, [.int mrf, .ref hby, .int msz, .int mbg, .long mbt, .int mrg2_14, .int mct2_14, .int mvl2_14, .int mpl2_14, .int mcl, .int mrw, .int mqt, .int mlv, .int mtl, .int mbe, .int mch, .ref hpb, .ref hwa, .ref hmn, .ref hcf, .ref hsa, .ref hro])), (hby, .inl (cI, 600, .inl mby)), (hpb, .inl (cI, 264, .inl mpb))]) hP hD [0, 1, 2] [] rfl rfl (by decide) (by decide) hk9 hFc hP1 hD1
    have hP := hP.sub (ws' := [(hm, .inr (8, [.int mrf, .ref hby, .int msz, .int mbg, .long mbt, .int mrg2_14, .int mct2_14, .int mvl2_14, .int mpl2_14, .int mcl, .int mrw, .int mqt, .int mlv, .int mtl, .int mbe, .int mch, .ref hpb, .ref hwa, .ref hmn, .ref hcf, .ref hsa, .ref hro])), (hby, .inl (cI, 600, .inl mby)), (hpb, .inl (cI, 264, .inl mpb))]) [0, 1, 2] rfl
    have hD := hD.sub (ws' := [(hm, .inr (8, [.int mrf, .ref hby, .int msz, .int mbg, .long mbt, .int mrg2_14, .int mct2_14, .int mvl2_14, .int mpl2_14, .int mcl, .int mrw, .int mqt, .int mlv, .int mtl, .int mbe, .int mch, .ref hpb, .ref hwa, .ref hmn, .ref hcf, .ref hsa, .ref hro])), (hby, .inl (cI, 600, .inl mby)), (hpb, .inl (cI, 264, .inl mpb))]) [0, 1, 2] (by decide) rfl
    generalize H1 = H at hP hS ⊢
    obtain ⟨q14_0, q14_1, q14_2, q14_3⟩ := hw9
    have q14_0 : kB r14 0 1 := q14_0
    have q14_1 : kB mrg2_14 128 255 := q14_1
    have q14_2 : kB mct2_14 0 7 := q14_2
    have q14_3 : 0 ≤ mpl2_14.toInt ∧ mpl2_14.toInt ≤ mpl2_3.toInt + 7 := q14_3
    refine lv_iconst (v := 1) hx hb dX8_sizeOf_17 (by decide) ?_
    refine lv_icmp_ne (tgt := 27) hx hb dX8_sizeOf_18 (by decide) (fun c18 => ?_) (fun c18 => ?_)
    · have c18x : kB r14 0 0 := kB_nhi q14_0 c18 kc_1 (by decide)
      refine lv_aload_n hx hb dX8_sizeOf_27 rfl (lv_at hl 0 rfl) ?_
      refine lv_iload_n hx hb dX8_sizeOf_28 rfl (lv_at hl 1 rfl) ?_
      refine lv_iconst (v := 4) hx hb dX8_sizeOf_29 (by decide) ?_
      have hPc := hP.sub (ws' := [(hm, .inr (8, [.int mrf, .ref hby, .int msz, .int mbg, .long mbt, .int mrg2_14, .int mct2_14, .int mvl2_14, .int mpl2_14, .int mcl, .int mrw, .int mqt, .int mlv, .int mtl, .int mbe, .int mch, .ref hpb, .ref hwa, .ref hmn, .ref hcf, .ref hsa, .ref hro])), (hby, .inl (cI, 600, .inl mby)), (hpb, .inl (cI, 264, .inl mpb))]) [0, 1, 2] rfl
      have hDc := hD.sub (ws' := [(hm, .inr (8, [.int mrf, .ref hby, .int msz, .int mbg, .long mbt, .int mrg2_14, .int mct2_14, .int mvl2_14, .int mpl2_14, .int mcl, .int mrw, .int mqt, .int mlv, .int mtl, .int mbe, .int mch, .ref hpb, .ref hwa, .ref hmn, .ref hcf, .ref hsa, .ref hro])), (hby, .inl (cI, 600, .inl mby)), (hpb, .inl (cI, 264, .inl mpb))]) [0, 1, 2] (by decide) rfl
      have hFc := va_free (wc := [(hm, .inr (8, [.int mrf, .ref hby, .int msz, .int mbg, .long mbt, .int mrg2_14, .int mct2_14, .int mvl2_14, .int mpl2_14, .int mcl, .int mrw, .int mqt, .int mlv, .int mtl, .int mbe, .int mch, .ref hpb, .ref hwa, .ref hmn, .ref hcf, .ref hsa, .ref hro])), (hby, .inl (cI, 600, .inl mby)), (hpb, .inl (cI, 264, .inl mpb))]) hD hS hA [0, 1, 2] rfl
      refine va_calli (va_runV (As := [.int bs, .int 4]) (rest := []) ⟨hx, hb, hml, hown, hts⟩ (c_X8_tell l D cI cJ cZ hm hby hpb hwa hmn hcf hsa hro mrf msz mbg mrg2_14 mct2_14 mvl2_14 mpl2_14 mcl mrw mqt mlv mtl mbe mch mbt mby mpb bs 4 q14_1 q14_2 bsz apb bbs (kB_w kc_4 (by decide) (by decide)) (by first | assumption | omega) (H).size) (cwV 2 hts (kg_V mk_206 mk_207 mk_208 mk_189 mk_209) rfl rfl rfl (by decide +kernel) ⟨Nat.le_of_ble_eq_true rfl, Nat.le_of_ble_eq_true rfl⟩) ⟨fun a U g mk q => by obtain ⟨q0, q1, qP, qK, qD⟩ := q; exact ⟨q0, q1, qP, kK.call qK, qD⟩, va_recv hK.1 hPc (ci := 8) (q0 := 0) rfl rfl, fun U hU hW => ⟨rfl, by rw [hU], by rw [hU]; exact hPc, kK.warm hW hK, hDc.weaken (fun _ _ _ _ => trivial)⟩⟩ rfl rfl hl.1 rfl (lv_room (Nat.le_of_ble_eq_true rfl)) dX8_sizeOf_30 ⟨Nat.zero_le _, Nat.zero_le _⟩) hS (fun q _ h => hFc q h) hFc (fun r30 u t9 H1 locs ht9 hvm9 hw9 hB9 hz9 hk9 hS => ?_)
      obtain ⟨mrg2_30, mct2_30, mvl2_30, mpl2_30⟩ := u
      obtain ⟨hP1, hD1⟩ := hB9
      rw [ht9] at hP1
      have hP1 : va_P D vwCl [(hm, .inr (8, [.int mrf, .ref hby, .int msz, .int mbg, .long mbt, .int mrg2_30, .int mct2_30, .int mvl2_30, .int mpl2_30, .int mcl, .int mrw, .int mqt, .int mlv, .int mtl, .int mbe, .int mch, .ref hpb, .ref hwa, .ref hmn, .ref hcf, .ref hsa, .ref hro])), (hby, .inl (cI, 600, .inl mby)), (hpb, .inl (cI, 264, .inl mpb))] H1 := hP1
      obtain ⟨hP, hD⟩ := va_join (wr := []) (w1 := [(hm, .inr (8, [.int mrf, .ref hby, .int msz, .int mbg, .long mbt, .int mrg2_30, .int mct2_30, .int mvl2_30, .int mpl2_30, .int mcl, .int mrw, .int mqt, .int mlv, .int mtl, .int mbe, .int mch, .ref hpb, .ref hwa, .ref hmn, .ref hcf, .ref hsa, .ref hro])), (hby, .inl (cI, 600, .inl mby)), (hpb, .inl (cI, 264, .inl mpb))]) hP hD [0, 1, 2] [] rfl rfl (by decide) (by decide) hk9 hFc hP1 hD1
      have hP := hP.sub (ws' := [(hm, .inr (8, [.int mrf, .ref hby, .int msz, .int mbg, .long mbt, .int mrg2_30, .int mct2_30, .int mvl2_30, .int mpl2_30, .int mcl, .int mrw, .int mqt, .int mlv, .int mtl, .int mbe, .int mch, .ref hpb, .ref hwa, .ref hmn, .ref hcf, .ref hsa, .ref hro])), (hby, .inl (cI, 600, .inl mby)), (hpb, .inl (cI, 264, .inl mpb))]) [0, 1, 2] rfl
      have hD := hD.sub (ws' := [(hm, .inr (8, [.int mrf, .ref hby, .int msz, .int mbg, .long mbt, .int mrg2_30, .int mct2_30, .int mvl2_30, .int mpl2_30, .int mcl, .int mrw, .int mqt, .int mlv, .int mtl, .int mbe, .int mch, .ref hpb, .ref hwa, .ref hmn, .ref hcf, .ref hsa, .ref hro])), (hby, .inl (cI, 600, .inl mby)), (hpb, .inl (cI, 264, .inl mpb))]) [0, 1, 2] (by decide) rfl
      generalize H1 = H at hP hS ⊢
      obtain ⟨q30_0, q30_1, q30_2, q30_3⟩ := hw9
      have q30_0 : kB r30 0 1 := q30_0
      have q30_1 : kB mrg2_30 128 255 := q30_1
      have q30_2 : kB mct2_30 0 7 := q30_2
      have q30_3 : 0 ≤ mpl2_30.toInt ∧ mpl2_30.toInt ≤ mpl2_14.toInt + 7 := q30_3
      refine lv_if_ne (tgt := 38) hx hb dX8_sizeOf_33 (by decide) (fun c33 => ?_) (fun c33 => ?_)
      · have c33x : kB r30 1 1 := kB_nlo q30_0 c33 kc_0 (by decide)
        refine lv_iconst (v := 3) hx hb dX8_sizeOf_38 (by decide) ?_
        refine lv_aload_n hx hb dX8_sizeOf_39 rfl (lv_at hl 0 rfl) ?_
        refine lv_iload_n hx hb dX8_sizeOf_40 rfl (lv_at hl 1 rfl) ?_
        refine lv_iconst (v := 5) hx hb dX8_sizeOf_41 (by decide) ?_
        have hPc := hP.sub (ws' := [(hm, .inr (8, [.int mrf, .ref hby, .int msz, .int mbg, .long mbt, .int mrg2_30, .int mct2_30, .int mvl2_30, .int mpl2_30, .int mcl, .int mrw, .int mqt, .int mlv, .int mtl, .int mbe, .int mch, .ref hpb, .ref hwa, .ref hmn, .ref hcf, .ref hsa, .ref hro])), (hby, .inl (cI, 600, .inl mby)), (hpb, .inl (cI, 264, .inl mpb))]) [0, 1, 2] rfl
        have hDc := hD.sub (ws' := [(hm, .inr (8, [.int mrf, .ref hby, .int msz, .int mbg, .long mbt, .int mrg2_30, .int mct2_30, .int mvl2_30, .int mpl2_30, .int mcl, .int mrw, .int mqt, .int mlv, .int mtl, .int mbe, .int mch, .ref hpb, .ref hwa, .ref hmn, .ref hcf, .ref hsa, .ref hro])), (hby, .inl (cI, 600, .inl mby)), (hpb, .inl (cI, 264, .inl mpb))]) [0, 1, 2] (by decide) rfl
        have hFc := va_free (wc := [(hm, .inr (8, [.int mrf, .ref hby, .int msz, .int mbg, .long mbt, .int mrg2_30, .int mct2_30, .int mvl2_30, .int mpl2_30, .int mcl, .int mrw, .int mqt, .int mlv, .int mtl, .int mbe, .int mch, .ref hpb, .ref hwa, .ref hmn, .ref hcf, .ref hsa, .ref hro])), (hby, .inl (cI, 600, .inl mby)), (hpb, .inl (cI, 264, .inl mpb))]) hD hS hA [0, 1, 2] rfl
        refine va_calli (va_runV (As := [.int bs, .int 5]) (rest := [.int 3]) ⟨hx, hb, hml, hown, hts⟩ (c_X8_tell l D cI cJ cZ hm hby hpb hwa hmn hcf hsa hro mrf msz mbg mrg2_30 mct2_30 mvl2_30 mpl2_30 mcl mrw mqt mlv mtl mbe mch mbt mby mpb bs 5 q30_1 q30_2 bsz apb bbs (kB_w kc_5 (by decide) (by decide)) (by first | assumption | omega) (H).size) (cwV 2 hts (kg_V mk_206 mk_207 mk_208 mk_189 mk_209) rfl rfl rfl (by decide +kernel) ⟨Nat.le_of_ble_eq_true rfl, Nat.le_of_ble_eq_true rfl⟩) ⟨fun a U g mk q => by obtain ⟨q0, q1, qP, qK, qD⟩ := q; exact ⟨q0, q1, qP, kK.call qK, qD⟩, va_recv hK.1 hPc (ci := 8) (q0 := 0) rfl rfl, fun U hU hW => ⟨rfl, by rw [hU], by rw [hU]; exact hPc, kK.warm hW hK, hDc.weaken (fun _ _ _ _ => trivial)⟩⟩ rfl rfl hl.1 rfl (lv_room (Nat.le_of_ble_eq_true rfl)) dX8_sizeOf_42 ⟨Nat.zero_le _, Nat.zero_le _⟩) hS (fun q _ h => hFc q h) hFc (fun r42 u t9 H1 locs ht9 hvm9 hw9 hB9 hz9 hk9 hS => ?_)
        obtain ⟨mrg2_42, mct2_42, mvl2_42, mpl2_42⟩ := u
        obtain ⟨hP1, hD1⟩ := hB9
        rw [ht9] at hP1
        have hP1 : va_P D vwCl [(hm, .inr (8, [.int mrf, .ref hby, .int msz, .int mbg, .long mbt, .int mrg2_42, .int mct2_42, .int mvl2_42, .int mpl2_42, .int mcl, .int mrw, .int mqt, .int mlv, .int mtl, .int mbe, .int mch, .ref hpb, .ref hwa, .ref hmn, .ref hcf, .ref hsa, .ref hro])), (hby, .inl (cI, 600, .inl mby)), (hpb, .inl (cI, 264, .inl mpb))] H1 := hP1
        obtain ⟨hP, hD⟩ := va_join (wr := []) (w1 := [(hm, .inr (8, [.int mrf, .ref hby, .int msz, .int mbg, .long mbt, .int mrg2_42, .int mct2_42, .int mvl2_42, .int mpl2_42, .int mcl, .int mrw, .int mqt, .int mlv, .int mtl, .int mbe, .int mch, .ref hpb, .ref hwa, .ref hmn, .ref hcf, .ref hsa, .ref hro])), (hby, .inl (cI, 600, .inl mby)), (hpb, .inl (cI, 264, .inl mpb))]) hP hD [0, 1, 2] [] rfl rfl (by decide) (by decide) hk9 hFc hP1 hD1
        have hP := hP.sub (ws' := [(hm, .inr (8, [.int mrf, .ref hby, .int msz, .int mbg, .long mbt, .int mrg2_42, .int mct2_42, .int mvl2_42, .int mpl2_42, .int mcl, .int mrw, .int mqt, .int mlv, .int mtl, .int mbe, .int mch, .ref hpb, .ref hwa, .ref hmn, .ref hcf, .ref hsa, .ref hro])), (hby, .inl (cI, 600, .inl mby)), (hpb, .inl (cI, 264, .inl mpb))]) [0, 1, 2] rfl
        have hD := hD.sub (ws' := [(hm, .inr (8, [.int mrf, .ref hby, .int msz, .int mbg, .long mbt, .int mrg2_42, .int mct2_42, .int mvl2_42, .int mpl2_42, .int mcl, .int mrw, .int mqt, .int mlv, .int mtl, .int mbe, .int mch, .ref hpb, .ref hwa, .ref hmn, .ref hcf, .ref hsa, .ref hro])), (hby, .inl (cI, 600, .inl mby)), (hpb, .inl (cI, 264, .inl mpb))]) [0, 1, 2] (by decide) rfl
        generalize H1 = H at hP hS ⊢
        obtain ⟨q42_0, q42_1, q42_2, q42_3⟩ := hw9
        have q42_0 : kB r42 0 1 := q42_0
        have q42_1 : kB mrg2_42 128 255 := q42_1
        have q42_2 : kB mct2_42 0 7 := q42_2
        have q42_3 : 0 ≤ mpl2_42.toInt ∧ mpl2_42.toInt ≤ mpl2_30.toInt + 7 := q42_3
        refine lv_iadd hx hb dX8_sizeOf_45 ?_
        refine lv_topi (fun v45 e45 => ?_)
        have b45 : kB v45 3 4 := kB_eq e45 (kB_add kc_3 q42_0 (by decide))
        have pf_b : kB v45 0 70000000 := (kB_w b45 (by decide) (by decide))
        have pf_pl : 0 ≤ mpl2_42.toInt ∧ mpl2_42.toInt ≤ mpl.toInt + 300 := (by first | assumption | rfl | omega)
        exact W.iret (v := v45) hx hb hr (fun t9 ht9 hW9 => ⟨⟨v45, (mrg2_42, mct2_42, mvl2_42, mpl2_42), rfl, ⟨pf_b, q42_1, q42_2, pf_pl⟩, by rw [ht9]; exact hP, hD⟩, hS.F ht9⟩) hS.2.2 dX8_sizeOf_46
      · have c33x : kB r30 0 0 := kB_eq c33 kc_0
        refine lv_iconst (v := 2) hx hb dX8_sizeOf_36 (by decide) ?_
        have pf_b : kB (2 : Int32) 0 70000000 := (kB_w kc_2 (by decide) (by decide))
        have pf_pl : 0 ≤ mpl2_30.toInt ∧ mpl2_30.toInt ≤ mpl.toInt + 300 := (by first | assumption | rfl | omega)
        exact W.iret (v := 2) hx hb hr (fun t9 ht9 hW9 => ⟨⟨2, (mrg2_30, mct2_30, mvl2_30, mpl2_30), rfl, ⟨pf_b, q30_1, q30_2, pf_pl⟩, by rw [ht9]; exact hP, hD⟩, hS.F ht9⟩) hS.2.2 dX8_sizeOf_37
    · have c18x : kB r14 1 1 := kB_eq c18 kc_1
      refine lv_aload_n hx hb dX8_sizeOf_21 rfl (lv_at hl 0 rfl) ?_
      refine lv_iload_n hx hb dX8_sizeOf_22 rfl (lv_at hl 1 rfl) ?_
      have hPc := hP.sub (ws' := [(hm, .inr (8, [.int mrf, .ref hby, .int msz, .int mbg, .long mbt, .int mrg2_14, .int mct2_14, .int mvl2_14, .int mpl2_14, .int mcl, .int mrw, .int mqt, .int mlv, .int mtl, .int mbe, .int mch, .ref hpb, .ref hwa, .ref hmn, .ref hcf, .ref hsa, .ref hro])), (hby, .inl (cI, 600, .inl mby)), (hpb, .inl (cI, 264, .inl mpb))]) [0, 1, 2] rfl
      have hDc := hD.sub (ws' := [(hm, .inr (8, [.int mrf, .ref hby, .int msz, .int mbg, .long mbt, .int mrg2_14, .int mct2_14, .int mvl2_14, .int mpl2_14, .int mcl, .int mrw, .int mqt, .int mlv, .int mtl, .int mbe, .int mch, .ref hpb, .ref hwa, .ref hmn, .ref hcf, .ref hsa, .ref hro])), (hby, .inl (cI, 600, .inl mby)), (hpb, .inl (cI, 264, .inl mpb))]) [0, 1, 2] (by decide) rfl
      have hFc := va_free (wc := [(hm, .inr (8, [.int mrf, .ref hby, .int msz, .int mbg, .long mbt, .int mrg2_14, .int mct2_14, .int mvl2_14, .int mpl2_14, .int mcl, .int mrw, .int mqt, .int mlv, .int mtl, .int mbe, .int mch, .ref hpb, .ref hwa, .ref hmn, .ref hcf, .ref hsa, .ref hro])), (hby, .inl (cI, 600, .inl mby)), (hpb, .inl (cI, 264, .inl mpb))]) hD hS hA [0, 1, 2] rfl
      refine va_calli (va_runV (As := [.int bs]) (rest := []) ⟨hx, hb, hml, hown, hts⟩ (c_X8_large l D cI cJ cZ hm hby hpb hwa hmn hcf hsa hro mrf msz mbg mrg2_14 mct2_14 mvl2_14 mpl2_14 mcl mrw mqt mlv mtl mbe mch mbt mby mpb bs q14_1 q14_2 bsz apb bbs (by first | assumption | omega) (H).size) (cwV 1 hts (kg_V mk_222 mk_223 mk_224 mk_189 mk_225) rfl rfl rfl (by decide +kernel) ⟨Nat.le_of_ble_eq_true rfl, Nat.le_of_ble_eq_true rfl⟩) ⟨fun a U g mk q => by obtain ⟨q0, q1, qP, qK, qD⟩ := q; exact ⟨q0, q1, qP, kK.call qK, qD⟩, va_recv hK.1 hPc (ci := 8) (q0 := 0) rfl rfl, fun U hU hW => ⟨rfl, by rw [hU], by rw [hU]; exact hPc, kK.warm hW hK, hDc.weaken (fun _ _ _ _ => trivial)⟩⟩ rfl rfl hl.1 rfl (lv_room (Nat.le_of_ble_eq_true rfl)) dX8_sizeOf_23 ⟨Nat.zero_le _, Nat.zero_le _⟩) hS (fun q _ h => hFc q h) hFc (fun r23 u t9 H1 locs ht9 hvm9 hw9 hB9 hz9 hk9 hS => ?_)
      obtain ⟨mrg2_23, mct2_23, mvl2_23, mpl2_23⟩ := u
      obtain ⟨hP1, hD1⟩ := hB9
      rw [ht9] at hP1
      have hP1 : va_P D vwCl [(hm, .inr (8, [.int mrf, .ref hby, .int msz, .int mbg, .long mbt, .int mrg2_23, .int mct2_23, .int mvl2_23, .int mpl2_23, .int mcl, .int mrw, .int mqt, .int mlv, .int mtl, .int mbe, .int mch, .ref hpb, .ref hwa, .ref hmn, .ref hcf, .ref hsa, .ref hro])), (hby, .inl (cI, 600, .inl mby)), (hpb, .inl (cI, 264, .inl mpb))] H1 := hP1
      obtain ⟨hP, hD⟩ := va_join (wr := []) (w1 := [(hm, .inr (8, [.int mrf, .ref hby, .int msz, .int mbg, .long mbt, .int mrg2_23, .int mct2_23, .int mvl2_23, .int mpl2_23, .int mcl, .int mrw, .int mqt, .int mlv, .int mtl, .int mbe, .int mch, .ref hpb, .ref hwa, .ref hmn, .ref hcf, .ref hsa, .ref hro])), (hby, .inl (cI, 600, .inl mby)), (hpb, .inl (cI, 264, .inl mpb))]) hP hD [0, 1, 2] [] rfl rfl (by decide) (by decide) hk9 hFc hP1 hD1
      have hP := hP.sub (ws' := [(hm, .inr (8, [.int mrf, .ref hby, .int msz, .int mbg, .long mbt, .int mrg2_23, .int mct2_23, .int mvl2_23, .int mpl2_23, .int mcl, .int mrw, .int mqt, .int mlv, .int mtl, .int mbe, .int mch, .ref hpb, .ref hwa, .ref hmn, .ref hcf, .ref hsa, .ref hro])), (hby, .inl (cI, 600, .inl mby)), (hpb, .inl (cI, 264, .inl mpb))]) [0, 1, 2] rfl
      have hD := hD.sub (ws' := [(hm, .inr (8, [.int mrf, .ref hby, .int msz, .int mbg, .long mbt, .int mrg2_23, .int mct2_23, .int mvl2_23, .int mpl2_23, .int mcl, .int mrw, .int mqt, .int mlv, .int mtl, .int mbe, .int mch, .ref hpb, .ref hwa, .ref hmn, .ref hcf, .ref hsa, .ref hro])), (hby, .inl (cI, 600, .inl mby)), (hpb, .inl (cI, 264, .inl mpb))]) [0, 1, 2] (by decide) rfl
      generalize H1 = H at hP hS ⊢
      obtain ⟨q23_0, q23_1, q23_2, q23_3⟩ := hw9
      have q23_0 : kB r23 0 70000000 := q23_0
      have q23_1 : kB mrg2_23 128 255 := q23_1
      have q23_2 : kB mct2_23 0 7 := q23_2
      have q23_3 : 0 ≤ mpl2_23.toInt ∧ mpl2_23.toInt ≤ mpl2_14.toInt + 200 := q23_3
      have pf_pl : 0 ≤ mpl2_23.toInt ∧ mpl2_23.toInt ≤ mpl.toInt + 300 := (by first | assumption | rfl | omega)
      exact W.iret (v := r23) hx hb hr (fun t9 ht9 hW9 => ⟨⟨r23, (mrg2_23, mct2_23, mvl2_23, mpl2_23), rfl, ⟨q23_0, q23_1, q23_2, pf_pl⟩, by rw [ht9]; exact hP, hD⟩, hS.F ht9⟩) hS.2.2 dX8_sizeOf_26
  · have c6x : kB r3 0 0 := kB_eq c6 kc_0
    refine lv_iconst (v := 1) hx hb dX8_sizeOf_9 (by decide) ?_
    have pf_b : kB (1 : Int32) 0 70000000 := (kB_w kc_1 (by decide) (by decide))
    have pf_pl : 0 ≤ mpl2_3.toInt ∧ mpl2_3.toInt ≤ mpl.toInt + 300 := (by first | assumption | rfl | omega)
    exact W.iret (v := 1) hx hb hr (fun t9 ht9 hW9 => ⟨⟨1, (mrg2_3, mct2_3, mvl2_3, mpl2_3), rfl, ⟨pf_b, q3_1, q3_2, pf_pl⟩, by rw [ht9]; exact hP, hD⟩, hS.F ht9⟩) hS.2.2 dX8_sizeOf_10
abbrev kw_X8_readWay : List Cond := Cond.code yX8_readWay cX8_readWay 1 (some .int) :: kW
set_option maxHeartbeats 4000000 in
set_option maxRecDepth 100000 in
theorem c_X8_readWay (l : Launch) (D : va_G) (cI cJ cZ : ClassId) (hm hby hpb hwa hmn hcf hsa hro : Nat) (mrf : Int32) (msz : Int32) (mbg : Int32) (mrg : Int32) (mct : Int32) (mvl : Int32) (mpl : Int32) (mcl : Int32) (mrw : Int32) (mqt : Int32) (mlv : Int32) (mtl : Int32) (mbe : Int32) (mch : Int32) (mbt : Int64) (mby : Nat → Int32) (brg : kB mrg 128 255) (bct : kB mct 0 7) (bsz : kB msz 0 600) (hpl : 0 ≤ mpl.toInt ∧ mpl.toInt ≤ 999900000) (hpz : Nat) : Met l yX8_readWay kw_X8_readWay ({ frames := 2, cells := 0, slots := 0, locals := 44 }) (va_Pc [.ref hm] (fun U => U.heap.size = hpz ∧ va_P D vwCl [(hm, .inr (8, [.int mrf, .ref hby, .int msz, .int mbg, .long mbt, .int mrg, .int mct, .int mvl, .int mpl, .int mcl, .int mrw, .int mqt, .int mlv, .int mtl, .int mbe, .int mch, .ref hpb, .ref hwa, .ref hmn, .ref hcf, .ref hsa, .ref hro])), (hby, .inl (cI, 600, .inl mby))] U.heap ∧ kK D cI cJ cZ U ∧ va_D (fun _ => True) [(hm, .inr (8, [.int mrf, .ref hby, .int msz, .int mbg, .long mbt, .int mrg, .int mct, .int mvl, .int mpl, .int mcl, .int mrw, .int mqt, .int mlv, .int mtl, .int mbe, .int mch, .ref hpb, .ref hwa, .ref hmn, .ref hcf, .ref hsa, .ref hro])), (hby, .inl (cI, 600, .inl mby))])) (va_Qi (fun (r : Int32) (u : Int32 × Int32 × Int32 × Int32) => (kB r 0 3) ∧ (kB u.1 128 255) ∧ (kB u.2.1 0 7) ∧ (0 ≤ u.2.2.2.toInt ∧ u.2.2.2.toInt ≤ mpl.toInt + 21)) (fun (u : Int32 × Int32 × Int32 × Int32) (t : State) => va_P D vwCl [(hm, .inr (8, [.int mrf, .ref hby, .int msz, .int mbg, .long mbt, .int u.1, .int u.2.1, .int u.2.2.1, .int u.2.2.2, .int mcl, .int mrw, .int mqt, .int mlv, .int mtl, .int mbe, .int mch, .ref hpb, .ref hwa, .ref hmn, .ref hcf, .ref hsa, .ref hro])), (hby, .inl (cI, 600, .inl mby))] t.heap ∧ va_D (va_A [(hm, .inr (8, [.int mrf, .ref hby, .int msz, .int mbg, .long mbt, .int mrg, .int mct, .int mvl, .int mpl, .int mcl, .int mrw, .int mqt, .int mlv, .int mtl, .int mbe, .int mch, .ref hpb, .ref hwa, .ref hmn, .ref hcf, .ref hsa, .ref hro])), (hby, .inl (cI, 600, .inl mby))] hpz) [(hm, .inr (8, [.int mrf, .ref hby, .int msz, .int mbg, .long mbt, .int u.1, .int u.2.1, .int u.2.2.1, .int u.2.2.2, .int mcl, .int mrw, .int mqt, .int mlv, .int mtl, .int mbe, .int mch, .ref hpb, .ref hwa, .ref hmn, .ref hcf, .ref hsa, .ref hro])), (hby, .inl (cI, 600, .inl mby))]) (va_A [(hm, .inr (8, [.int mrf, .ref hby, .int msz, .int mbg, .long mbt, .int mrg, .int mct, .int mvl, .int mpl, .int mcl, .int mrw, .int mqt, .int mlv, .int mtl, .int mbe, .int mch, .ref hpb, .ref hwa, .ref hmn, .ref hcf, .ref hsa, .ref hro])), (hby, .inl (cI, 600, .inl mby))] hpz)) 0 0 (va_A [(hm, .inr (8, [.int mrf, .ref hby, .int msz, .int mbg, .long mbt, .int mrg, .int mct, .int mvl, .int mpl, .int mcl, .int mrw, .int mqt, .int mlv, .int mtl, .int mbe, .int mch, .ref hpb, .ref hwa, .ref hmn, .ref hcf, .ref hsa, .ref hro])), (hby, .inl (cI, 600, .inl mby))] hpz) := by
  refine Met.ofW (cc := cX8_readWay) (maxL := 1) (ret := (some .int)) (by decide) rfl ?_
  intro p e s m args below meth c s₁ B hml hv
  obtain ⟨rfl, hsz, hP, hK, hD0⟩ := hv
  have hx := B.exec
  have hb := B.bytes
  have hr := B.returns
  have hts := fun (w : Cond) (h : w ∈ kW) => atoms_spec (ws := kw_X8_readWay) B.pre w (List.mem_cons_of_mem _ h)
  have hown : s.vm.findClass RX8 = some m.cls := findClass_of_methodNamed B.named
  have hlocks := B.notSynchronized
  subst hsz
  have hD := hD0.self (sz := s.heap.size)
  generalize hAe : va_A [(hm, .inr (8, [.int mrf, .ref hby, .int msz, .int mbg, .long mbt, .int mrg, .int mct, .int mvl, .int mpl, .int mcl, .int mrw, .int mqt, .int mlv, .int mtl, .int mbe, .int mch, .ref hpb, .ref hwa, .ref hmn, .ref hcf, .ref hsa, .ref hro])), (hby, .inl (cI, 600, .inl mby))] s.heap.size = A at hD ⊢
  have hA : ∀ q : Nat, s.heap.size ≤ q → A q := fun q h => by rw [← hAe]; exact Or.inr h
  have hS : va_S A s.heap s.heap [] := va_S.rf
  have hP : va_P D vwCl [(hm, .inr (8, [.int mrf, .ref hby, .int msz, .int mbg, .long mbt, .int mrg, .int mct, .int mvl, .int mpl, .int mcl, .int mrw, .int mqt, .int mlv, .int mtl, .int mbe, .int mch, .ref hpb, .ref hwa, .ref hmn, .ref hcf, .ref hsa, .ref hro])), (hby, .inl (cI, 600, .inl mby))] s.heap := hP
  have hl := lv_entry ([.ref hm]) (n := 1) (Nat.le_of_ble_eq_true rfl)
  rw [lg_entry_eq]
  generalize (lg_sl ([.ref hm]) ++ List.replicate (1 - (lg_sl ([.ref hm])).length) Slot.unset).toArray = ls at hl ⊢
  have hl : lv_has ls 1 [(0, .ref hm)] := hl
  refine lv_aload_n hx hb dX8_readWay_0 rfl (lv_at hl 0 rfl) ?_
  refine lv_bipush (v := 112) hx hb dX8_readWay_1 (by decide) ?_
  have hPc := hP.sub (ws' := [(hm, .inr (8, [.int mrf, .ref hby, .int msz, .int mbg, .long mbt, .int mrg, .int mct, .int mvl, .int mpl, .int mcl, .int mrw, .int mqt, .int mlv, .int mtl, .int mbe, .int mch, .ref hpb, .ref hwa, .ref hmn, .ref hcf, .ref hsa, .ref hro])), (hby, .inl (cI, 600, .inl mby))]) [0, 1] rfl
  have hDc := hD.sub (ws' := [(hm, .inr (8, [.int mrf, .ref hby, .int msz, .int mbg, .long mbt, .int mrg, .int mct, .int mvl, .int mpl, .int mcl, .int mrw, .int mqt, .int mlv, .int mtl, .int mbe, .int mch, .ref hpb, .ref hwa, .ref hmn, .ref hcf, .ref hsa, .ref hro])), (hby, .inl (cI, 600, .inl mby))]) [0, 1] (by decide) rfl
  have hFc := va_free (wc := [(hm, .inr (8, [.int mrf, .ref hby, .int msz, .int mbg, .long mbt, .int mrg, .int mct, .int mvl, .int mpl, .int mcl, .int mrw, .int mqt, .int mlv, .int mtl, .int mbe, .int mch, .ref hpb, .ref hwa, .ref hmn, .ref hcf, .ref hsa, .ref hro])), (hby, .inl (cI, 600, .inl mby))]) hD hS hA [0, 1] rfl
  refine va_calli (va_runV (As := [.int 112]) (rest := []) ⟨hx, hb, hml, hown, hts⟩ (c_X8_readBit l D cI cJ cZ hm hby hpb hwa hmn hcf hsa hro mrf msz mbg mrg mct mvl mpl mcl mrw mqt mlv mtl mbe mch mbt mby 112 brg bct bsz (kB_w kc_112 (by decide) (by decide)) (by first | assumption | omega) (s.heap).size) (cwV 1 hts (kg_V mk_200 mk_201 mk_202 mk_189 mk_203) rfl rfl rfl (by decide +kernel) ⟨Nat.le_of_ble_eq_true rfl, Nat.le_of_ble_eq_true rfl⟩) ⟨fun a U g mk q => by obtain ⟨q0, q1, qP, qK, qD⟩ := q; exact ⟨q0, q1, qP, kK.call qK, qD⟩, va_recv hK.1 hPc (ci := 8) (q0 := 0) rfl rfl, fun U hU hW => ⟨rfl, by rw [hU], by rw [hU]; exact hPc, kK.warm hW hK, hDc.weaken (fun _ _ _ _ => trivial)⟩⟩ rfl rfl hl.1 rfl (lv_room (Nat.le_of_ble_eq_true rfl)) dX8_readWay_3 ⟨Nat.zero_le _, Nat.zero_le _⟩) hS (fun q _ h => hFc q h) hFc (fun r3 u t9 H1 locs ht9 hvm9 hw9 hB9 hz9 hk9 hS => ?_)
  obtain ⟨mrg2_3, mct2_3, mvl2_3, mpl2_3⟩ := u
  obtain ⟨hP1, hD1⟩ := hB9
  rw [ht9] at hP1
  have hP1 : va_P D vwCl [(hm, .inr (8, [.int mrf, .ref hby, .int msz, .int mbg, .long mbt, .int mrg2_3, .int mct2_3, .int mvl2_3, .int mpl2_3, .int mcl, .int mrw, .int mqt, .int mlv, .int mtl, .int mbe, .int mch, .ref hpb, .ref hwa, .ref hmn, .ref hcf, .ref hsa, .ref hro])), (hby, .inl (cI, 600, .inl mby))] H1 := hP1
  obtain ⟨hP, hD⟩ := va_join (wr := []) (w1 := [(hm, .inr (8, [.int mrf, .ref hby, .int msz, .int mbg, .long mbt, .int mrg2_3, .int mct2_3, .int mvl2_3, .int mpl2_3, .int mcl, .int mrw, .int mqt, .int mlv, .int mtl, .int mbe, .int mch, .ref hpb, .ref hwa, .ref hmn, .ref hcf, .ref hsa, .ref hro])), (hby, .inl (cI, 600, .inl mby))]) hP hD [0, 1] [] rfl rfl (by decide) (by decide) hk9 hFc hP1 hD1
  have hP := hP.sub (ws' := [(hm, .inr (8, [.int mrf, .ref hby, .int msz, .int mbg, .long mbt, .int mrg2_3, .int mct2_3, .int mvl2_3, .int mpl2_3, .int mcl, .int mrw, .int mqt, .int mlv, .int mtl, .int mbe, .int mch, .ref hpb, .ref hwa, .ref hmn, .ref hcf, .ref hsa, .ref hro])), (hby, .inl (cI, 600, .inl mby))]) [0, 1] rfl
  have hD := hD.sub (ws' := [(hm, .inr (8, [.int mrf, .ref hby, .int msz, .int mbg, .long mbt, .int mrg2_3, .int mct2_3, .int mvl2_3, .int mpl2_3, .int mcl, .int mrw, .int mqt, .int mlv, .int mtl, .int mbe, .int mch, .ref hpb, .ref hwa, .ref hmn, .ref hcf, .ref hsa, .ref hro])), (hby, .inl (cI, 600, .inl mby))]) [0, 1] (by decide) rfl
  generalize H1 = H at hP hS ⊢
  obtain ⟨q3_0, q3_1, q3_2, q3_3, q3_4⟩ := hw9
  have q3_0 : kB r3 0 1 := q3_0
  have q3_1 : kB mrg2_3 128 255 := q3_1
  have q3_2 : kB mct2_3 0 7 := q3_2
  have q3_3 : 0 ≤ mpl2_3.toInt ∧ mpl2_3.toInt ≤ mpl.toInt + 7 := q3_3
  have q3_4 : kIf ((112 : Int32).toInt = 128 ∧ 0 ≤ mvl.toInt ∧ mvl.toInt ≤ 2000000 ∧ mct.toInt ≤ 6) (r3.toInt = rBt mvl.toInt mrg.toInt ∧ (mvl2_3.toInt, mrg2_3.toInt, mct2_3.toInt) = rNx mvl.toInt mrg.toInt mct.toInt) := q3_4
  refine lv_if_ne (tgt := 11) hx hb dX8_readWay_6 (by decide) (fun c6 => ?_) (fun c6 => ?_)
  · have c6x : kB r3 1 1 := kB_nlo q3_0 c6 kc_0 (by decide)
    refine lv_aload_n hx hb dX8_readWay_11 rfl (lv_at hl 0 rfl) ?_
    refine lv_bipush (v := 86) hx hb dX8_readWay_12 (by decide) ?_
    have hPc := hP.sub (ws' := [(hm, .inr (8, [.int mrf, .ref hby, .int msz, .int mbg, .long mbt, .int mrg2_3, .int mct2_3, .int mvl2_3, .int mpl2_3, .int mcl, .int mrw, .int mqt, .int mlv, .int mtl, .int mbe, .int mch, .ref hpb, .ref hwa, .ref hmn, .ref hcf, .ref hsa, .ref hro])), (hby, .inl (cI, 600, .inl mby))]) [0, 1] rfl
    have hDc := hD.sub (ws' := [(hm, .inr (8, [.int mrf, .ref hby, .int msz, .int mbg, .long mbt, .int mrg2_3, .int mct2_3, .int mvl2_3, .int mpl2_3, .int mcl, .int mrw, .int mqt, .int mlv, .int mtl, .int mbe, .int mch, .ref hpb, .ref hwa, .ref hmn, .ref hcf, .ref hsa, .ref hro])), (hby, .inl (cI, 600, .inl mby))]) [0, 1] (by decide) rfl
    have hFc := va_free (wc := [(hm, .inr (8, [.int mrf, .ref hby, .int msz, .int mbg, .long mbt, .int mrg2_3, .int mct2_3, .int mvl2_3, .int mpl2_3, .int mcl, .int mrw, .int mqt, .int mlv, .int mtl, .int mbe, .int mch, .ref hpb, .ref hwa, .ref hmn, .ref hcf, .ref hsa, .ref hro])), (hby, .inl (cI, 600, .inl mby))]) hD hS hA [0, 1] rfl
    refine va_calli (va_runV (As := [.int 86]) (rest := []) ⟨hx, hb, hml, hown, hts⟩ (c_X8_readBit l D cI cJ cZ hm hby hpb hwa hmn hcf hsa hro mrf msz mbg mrg2_3 mct2_3 mvl2_3 mpl2_3 mcl mrw mqt mlv mtl mbe mch mbt mby 86 q3_1 q3_2 bsz (kB_w kc_86 (by decide) (by decide)) (by first | assumption | omega) (H).size) (cwV 1 hts (kg_V mk_200 mk_201 mk_202 mk_189 mk_203) rfl rfl rfl (by decide +kernel) ⟨Nat.le_of_ble_eq_true rfl, Nat.le_of_ble_eq_true rfl⟩) ⟨fun a U g mk q => by obtain ⟨q0, q1, qP, qK, qD⟩ := q; exact ⟨q0, q1, qP, kK.call qK, qD⟩, va_recv hK.1 hPc (ci := 8) (q0 := 0) rfl rfl, fun U hU hW => ⟨rfl, by rw [hU], by rw [hU]; exact hPc, kK.warm hW hK, hDc.weaken (fun _ _ _ _ => trivial)⟩⟩ rfl rfl hl.1 rfl (lv_room (Nat.le_of_ble_eq_true rfl)) dX8_readWay_14 ⟨Nat.zero_le _, Nat.zero_le _⟩) hS (fun q _ h => hFc q h) hFc (fun r14 u t9 H1 locs ht9 hvm9 hw9 hB9 hz9 hk9 hS => ?_)
    obtain ⟨mrg2_14, mct2_14, mvl2_14, mpl2_14⟩ := u
    obtain ⟨hP1, hD1⟩ := hB9
    rw [ht9] at hP1
    have hP1 : va_P D vwCl [(hm, .inr (8, [.int mrf, .ref hby, .int msz, .int mbg, .long mbt, .int mrg2_14, .int mct2_14, .int mvl2_14, .int mpl2_14, .int mcl, .int mrw, .int mqt, .int mlv, .int mtl, .int mbe, .int mch, .ref hpb, .ref hwa, .ref hmn, .ref hcf, .ref hsa, .ref hro])), (hby, .inl (cI, 600, .inl mby))] H1 := hP1
    obtain ⟨hP, hD⟩ := va_join (wr := []) (w1 := [(hm, .inr (8, [.int mrf, .ref hby, .int msz, .int mbg, .long mbt, .int mrg2_14, .int mct2_14, .int mvl2_14, .int mpl2_14, .int mcl, .int mrw, .int mqt, .int mlv, .int mtl, .int mbe, .int mch, .ref hpb, .ref hwa, .ref hmn, .ref hcf, .ref hsa, .ref hro])), (hby, .inl (cI, 600, .inl mby))]) hP hD [0, 1] [] rfl rfl (by decide) (by decide) hk9 hFc hP1 hD1
    have hP := hP.sub (ws' := [(hm, .inr (8, [.int mrf, .ref hby, .int msz, .int mbg, .long mbt, .int mrg2_14, .int mct2_14, .int mvl2_14, .int mpl2_14, .int mcl, .int mrw, .int mqt, .int mlv, .int mtl, .int mbe, .int mch, .ref hpb, .ref hwa, .ref hmn, .ref hcf, .ref hsa, .ref hro])), (hby, .inl (cI, 600, .inl mby))]) [0, 1] rfl
    have hD := hD.sub (ws' := [(hm, .inr (8, [.int mrf, .ref hby, .int msz, .int mbg, .long mbt, .int mrg2_14, .int mct2_14, .int mvl2_14, .int mpl2_14, .int mcl, .int mrw, .int mqt, .int mlv, .int mtl, .int mbe, .int mch, .ref hpb, .ref hwa, .ref hmn, .ref hcf, .ref hsa, .ref hro])), (hby, .inl (cI, 600, .inl mby))]) [0, 1] (by decide) rfl
    generalize H1 = H at hP hS ⊢
    obtain ⟨q14_0, q14_1, q14_2, q14_3, q14_4⟩ := hw9
    have q14_0 : kB r14 0 1 := q14_0
    have q14_1 : kB mrg2_14 128 255 := q14_1
    have q14_2 : kB mct2_14 0 7 := q14_2
    have q14_3 : 0 ≤ mpl2_14.toInt ∧ mpl2_14.toInt ≤ mpl2_3.toInt + 7 := q14_3
    have q14_4 : kIf ((86 : Int32).toInt = 128 ∧ 0 ≤ mvl2_3.toInt ∧ mvl2_3.toInt ≤ 2000000 ∧ mct2_3.toInt ≤ 6) (r14.toInt = rBt mvl2_3.toInt mrg2_3.toInt ∧ (mvl2_14.toInt, mrg2_14.toInt, mct2_14.toInt) = rNx mvl2_3.toInt mrg2_3.toInt mct2_3.toInt) := q14_4
    refine lv_if_ne (tgt := 22) hx hb dX8_readWay_17 (by decide) (fun c17 => ?_) (fun c17 => ?_)
    · have c17x : kB r14 1 1 := kB_nlo q14_0 c17 kc_0 (by decide)
      refine lv_iconst (v := 2) hx hb dX8_readWay_22 (by decide) ?_
      refine lv_aload_n hx hb dX8_readWay_23 rfl (lv_at hl 0 rfl) ?_
      refine lv_sipush (v := 140) hx hb dX8_readWay_24 (by decide) ?_
      have hPc := hP.sub (ws' := [(hm, .inr (8, [.int mrf, .ref hby, .int msz, .int mbg, .long mbt, .int mrg2_14, .int mct2_14, .int mvl2_14, .int mpl2_14, .int mcl, .int mrw, .int mqt, .int mlv, .int mtl, .int mbe, .int mch, .ref hpb, .ref hwa, .ref hmn, .ref hcf, .ref hsa, .ref hro])), (hby, .inl (cI, 600, .inl mby))]) [0, 1] rfl
      have hDc := hD.sub (ws' := [(hm, .inr (8, [.int mrf, .ref hby, .int msz, .int mbg, .long mbt, .int mrg2_14, .int mct2_14, .int mvl2_14, .int mpl2_14, .int mcl, .int mrw, .int mqt, .int mlv, .int mtl, .int mbe, .int mch, .ref hpb, .ref hwa, .ref hmn, .ref hcf, .ref hsa, .ref hro])), (hby, .inl (cI, 600, .inl mby))]) [0, 1] (by decide) rfl
      have hFc := va_free (wc := [(hm, .inr (8, [.int mrf, .ref hby, .int msz, .int mbg, .long mbt, .int mrg2_14, .int mct2_14, .int mvl2_14, .int mpl2_14, .int mcl, .int mrw, .int mqt, .int mlv, .int mtl, .int mbe, .int mch, .ref hpb, .ref hwa, .ref hmn, .ref hcf, .ref hsa, .ref hro])), (hby, .inl (cI, 600, .inl mby))]) hD hS hA [0, 1] rfl
      refine va_calli (va_runV (As := [.int 140]) (rest := [.int 2]) ⟨hx, hb, hml, hown, hts⟩ (c_X8_readBit l D cI cJ cZ hm hby hpb hwa hmn hcf hsa hro mrf msz mbg mrg2_14 mct2_14 mvl2_14 mpl2_14 mcl mrw mqt mlv mtl mbe mch mbt mby 140 q14_1 q14_2 bsz (kB_w kc_140 (by decide) (by decide)) (by first | assumption | omega) (H).size) (cwV 1 hts (kg_V mk_200 mk_201 mk_202 mk_189 mk_203) rfl rfl rfl (by decide +kernel) ⟨Nat.le_of_ble_eq_true rfl, Nat.le_of_ble_eq_true rfl⟩) ⟨fun a U g mk q => by obtain ⟨q0, q1, qP, qK, qD⟩ := q; exact ⟨q0, q1, qP, kK.call qK, qD⟩, va_recv hK.1 hPc (ci := 8) (q0 := 0) rfl rfl, fun U hU hW => ⟨rfl, by rw [hU], by rw [hU]; exact hPc, kK.warm hW hK, hDc.weaken (fun _ _ _ _ => trivial)⟩⟩ rfl rfl hl.1 rfl (lv_room (Nat.le_of_ble_eq_true rfl)) dX8_readWay_27 ⟨Nat.zero_le _, Nat.zero_le _⟩) hS (fun q _ h => hFc q h) hFc (fun r27 u t9 H1 locs ht9 hvm9 hw9 hB9 hz9 hk9 hS => ?_)
      obtain ⟨mrg2_27, mct2_27, mvl2_27, mpl2_27⟩ := u
      obtain ⟨hP1, hD1⟩ := hB9
      rw [ht9] at hP1
      have hP1 : va_P D vwCl [(hm, .inr (8, [.int mrf, .ref hby, .int msz, .int mbg, .long mbt, .int mrg2_27, .int mct2_27, .int mvl2_27, .int mpl2_27, .int mcl, .int mrw, .int mqt, .int mlv, .int mtl, .int mbe, .int mch, .ref hpb, .ref hwa, .ref hmn, .ref hcf, .ref hsa, .ref hro])), (hby, .inl (cI, 600, .inl mby))] H1 := hP1
      obtain ⟨hP, hD⟩ := va_join (wr := []) (w1 := [(hm, .inr (8, [.int mrf, .ref hby, .int msz, .int mbg, .long mbt, .int mrg2_27, .int mct2_27, .int mvl2_27, .int mpl2_27, .int mcl, .int mrw, .int mqt, .int mlv, .int mtl, .int mbe, .int mch, .ref hpb, .ref hwa, .ref hmn, .ref hcf, .ref hsa, .ref hro])), (hby, .inl (cI, 600, .inl mby))]) hP hD [0, 1] [] rfl rfl (by decide) (by decide) hk9 hFc hP1 hD1
      have hP := hP.sub (ws' := [(hm, .inr (8, [.int mrf, .ref hby, .int msz, .int mbg, .long mbt, .int mrg2_27, .int mct2_27, .int mvl2_27, .int mpl2_27, .int mcl, .int mrw, .int mqt, .int mlv, .int mtl, .int mbe, .int mch, .ref hpb, .ref hwa, .ref hmn, .ref hcf, .ref hsa, .ref hro])), (hby, .inl (cI, 600, .inl mby))]) [0, 1] rfl
      have hD := hD.sub (ws' := [(hm, .inr (8, [.int mrf, .ref hby, .int msz, .int mbg, .long mbt, .int mrg2_27, .int mct2_27, .int mvl2_27, .int mpl2_27, .int mcl, .int mrw, .int mqt, .int mlv, .int mtl, .int mbe, .int mch, .ref hpb, .ref hwa, .ref hmn, .ref hcf, .ref hsa, .ref hro])), (hby, .inl (cI, 600, .inl mby))]) [0, 1] (by decide) rfl
      generalize H1 = H at hP hS ⊢
      obtain ⟨q27_0, q27_1, q27_2, q27_3, q27_4⟩ := hw9
      have q27_0 : kB r27 0 1 := q27_0
      have q27_1 : kB mrg2_27 128 255 := q27_1
      have q27_2 : kB mct2_27 0 7 := q27_2
      have q27_3 : 0 ≤ mpl2_27.toInt ∧ mpl2_27.toInt ≤ mpl2_14.toInt + 7 := q27_3
      have q27_4 : kIf ((140 : Int32).toInt = 128 ∧ 0 ≤ mvl2_14.toInt ∧ mvl2_14.toInt ≤ 2000000 ∧ mct2_14.toInt ≤ 6) (r27.toInt = rBt mvl2_14.toInt mrg2_14.toInt ∧ (mvl2_27.toInt, mrg2_27.toInt, mct2_27.toInt) = rNx mvl2_14.toInt mrg2_14.toInt mct2_14.toInt) := q27_4
      refine lv_iadd hx hb dX8_readWay_30 ?_
      refine lv_topi (fun v30 e30 => ?_)
      have b30 : kB v30 2 3 := kB_eq e30 (kB_add kc_2 q27_0 (by decide))
      have pf_b : kB v30 0 3 := (kB_w b30 (by decide) (by decide))
      have pf_pl : 0 ≤ mpl2_27.toInt ∧ mpl2_27.toInt ≤ mpl.toInt + 21 := (by first | assumption | rfl | omega)
      exact W.iret (v := v30) hx hb hr (fun t9 ht9 hW9 => ⟨⟨v30, (mrg2_27, mct2_27, mvl2_27, mpl2_27), rfl, ⟨pf_b, q27_1, q27_2, pf_pl⟩, by rw [ht9]; exact hP, hD⟩, hS.F ht9⟩) hS.2.2 dX8_readWay_31
    · have c17x : kB r14 0 0 := kB_eq c17 kc_0
      refine lv_iconst (v := 1) hx hb dX8_readWay_20 (by decide) ?_
      have pf_b : kB (1 : Int32) 0 3 := (kB_w kc_1 (by decide) (by decide))
      have pf_pl : 0 ≤ mpl2_14.toInt ∧ mpl2_14.toInt ≤ mpl.toInt + 21 := (by first | assumption | rfl | omega)
      exact W.iret (v := 1) hx hb hr (fun t9 ht9 hW9 => ⟨⟨1, (mrg2_14, mct2_14, mvl2_14, mpl2_14), rfl, ⟨pf_b, q14_1, q14_2, pf_pl⟩, by rw [ht9]; exact hP, hD⟩, hS.F ht9⟩) hS.2.2 dX8_readWay_21
  · have c6x : kB r3 0 0 := kB_eq c6 kc_0
    refine lv_iconst (v := 0) hx hb dX8_readWay_9 (by decide) ?_
    have pf_b : kB (0 : Int32) 0 3 := (kB_w kc_0 (by decide) (by decide))
    have pf_pl : 0 ≤ mpl2_3.toInt ∧ mpl2_3.toInt ≤ mpl.toInt + 21 := (by first | assumption | rfl | omega)
    exact W.iret (v := 0) hx hb hr (fun t9 ht9 hW9 => ⟨⟨0, (mrg2_3, mct2_3, mvl2_3, mpl2_3), rfl, ⟨pf_b, q3_1, q3_2, pf_pl⟩, by rw [ht9]; exact hP, hD⟩, hS.F ht9⟩) hS.2.2 dX8_readWay_10
abbrev kw_X8_hasSome : List Cond := Cond.code yX8_hasSome cX8_hasSome 3 (some .boolean) :: kW
set_option maxHeartbeats 4000000 in
set_option maxRecDepth 100000 in
theorem lp_X8_hasSome_2 {p : Program} {l : Launch} {e : Env} {s : State} {m : MethodId} {args : Array Value} {below : List Frame} {meth : Method} {c : Code} {A : Nat → Prop} (D : va_G) (cI cJ cZ : ClassId) (hm hby hpb hwa hmn hcf hsa hro : Nat) (mrf : Int32) (msz : Int32) (mbg : Int32) (mrg : Int32) (mct : Int32) (mvl : Int32) (mpl : Int32) (mcl : Int32) (mrw : Int32) (mqt : Int32) (mlv : Int32) (mtl : Int32) (mbe : Int32) (mch : Int32) (mbt : Int64) (mcf : Nat → Int32) (k : Int32) (bk : kB k 0 15) (hx : p.tables.exec = Jvm.exec) (hb : c.code = cX8_hasSome) (hr : meth.sig.returnType = (some .boolean)) (hml : c.maxLocals = 3) (hown : s.vm.findClass RX8 = some m.cls) (hts : ∀ w ∈ kW, w.before args s = true) (hlocks : meth.locks = false) (hK : kK D cI cJ cZ s) (hA : ∀ q : Nat, s.heap.size ≤ q → A q) : ∀ n : Nat, ∀ (x2 : Int32), (16 - x2.toInt).toNat < n → (kB x2 0 16) → ∀ (H : Heap) (locs : List Loc) (ls : Array Slot), va_P D vwCl [(hm, .inr (8, [.int mrf, .ref hby, .int msz, .int mbg, .long mbt, .int mrg, .int mct, .int mvl, .int mpl, .int mcl, .int mrw, .int mqt, .int mlv, .int mtl, .int mbe, .int mch, .ref hpb, .ref hwa, .ref hmn, .ref hcf, .ref hsa, .ref hro])), (hcf, .inl (cI, 256, .inl mcf))] H → va_D A [(hm, .inr (8, [.int mrf, .ref hby, .int msz, .int mbg, .long mbt, .int mrg, .int mct, .int mvl, .int mpl, .int mcl, .int mrw, .int mqt, .int mlv, .int mtl, .int mbe, .int mch, .ref hpb, .ref hwa, .ref hmn, .ref hcf, .ref hsa, .ref hro])), (hcf, .inl (cI, 256, .inl mcf))] → va_S A s.heap H locs → lv_has ls 3 [(0, .ref hm), (1, .int k), (2, .int x2)] → W p l e (headSpec kw_X8_hasSome ({ frames := 0, cells := 0, slots := 0, locals := 0 })).room s m args below meth c H locs 0 0 (MQ below (va_Qi (fun (r : Int32) (u : Unit) => (kB r 0 1)) (fun (u : Unit) (t : State) => va_P D vwCl [(hm, .inr (8, [.int mrf, .ref hby, .int msz, .int mbg, .long mbt, .int mrg, .int mct, .int mvl, .int mpl, .int mcl, .int mrw, .int mqt, .int mlv, .int mtl, .int mbe, .int mch, .ref hpb, .ref hwa, .ref hmn, .ref hcf, .ref hsa, .ref hro])), (hcf, .inl (cI, 256, .inl mcf))] t.heap ∧ va_D A [(hm, .inr (8, [.int mrf, .ref hby, .int msz, .int mbg, .long mbt, .int mrg, .int mct, .int mvl, .int mpl, .int mcl, .int mrw, .int mqt, .int mlv, .int mtl, .int mbe, .int mch, .ref hpb, .ref hwa, .ref hmn, .ref hcf, .ref hsa, .ref hro])), (hcf, .inl (cI, 256, .inl mcf))]) A) args s 0 0 A) (F0 m 2 ls []) := by
  intro n
  induction n with
  | zero => intro x2 hmeas; exact absurd hmeas (Nat.not_lt_zero _)
  | succ n ih =>
    intro x2 hmeas b2 H locs ls hP hD hS hl
    refine lv_iload_n hx hb dX8_hasSome_2 rfl (lv_at hl 2 rfl) ?_
    refine lv_bipush (v := 16) hx hb dX8_hasSome_3 (by decide) ?_
    refine lv_icmp_ge (tgt := 30) hx hb dX8_hasSome_5 (by decide) (fun c5 => ?_) (fun c5 => ?_)
    · have c5y : kB x2 16 16 := kB_le_r kc_16 b2 c5 (by decide)
      refine lv_iconst (v := 0) hx hb dX8_hasSome_30 (by decide) ?_
      have pf_b : kB (0 : Int32) 0 1 := (kB_w kc_0 (by decide) (by decide))
      exact W.zret (v := 0) hx hb hr (kB_nz (kB_w kc_0 (by decide) (by decide))) (fun t9 ht9 hW9 => ⟨⟨0, (), rfl, pf_b, by rw [ht9]; exact hP, hD⟩, hS.F ht9⟩) hS.2.2 dX8_hasSome_31
    · have c5n : x2 < 16 := kN_le c5
      have c5nx : kB x2 0 15 := kB_lt_l b2 kc_16 c5n (by decide)
      refine lv_aload_n hx hb dX8_hasSome_8 rfl (lv_at hl 0 rfl) ?_
      refine va_get (D := D) (ci := 8) (v := .ref hcf) (C := RX8) (T := TX8) (N := 22) hx hb hts in_X8 hown hK.1 hP 0 rfl rfl 19 (by decide) (hts _ mk_226) (fun _ h9 => h9) rfl dX8_hasSome_9 ?_
      refine lv_bipush (v := 16) hx hb dX8_hasSome_12 (by decide) ?_
      refine lv_iload_n hx hb dX8_hasSome_14 rfl (lv_at hl 1 rfl) ?_
      refine lv_imul hx hb dX8_hasSome_15 ?_
      refine lv_topi (fun v15 e15 => ?_)
      have b15 : kB v15 0 240 := kB_eq e15 (kB_cmul kc_16 bk (by decide))
      refine lv_iload_n hx hb dX8_hasSome_16 rfl (lv_at hl 2 rfl) ?_
      refine lv_iadd hx hb dX8_hasSome_17 ?_
      refine lv_topi (fun v17 e17 => ?_)
      have b17 : kB v17 0 255 := kB_eq e17 (kB_add b15 c5nx (by decide))
      refine va_iald hx hb hK.1 hP 1 0 rfl rfl (kB_in b17 (by decide)) dX8_hasSome_18 ?_
      refine lv_topi (fun v18 e18 => ?_)
      refine lv_if_eq (tgt := 24) hx hb dX8_hasSome_19 (by decide) (fun c19 => ?_) (fun c19 => ?_)
      · have c19x : kB v18 0 0 := kB_eq c19 kc_0
        obtain ⟨v24, e24⟩ : ∃ y : Int32, y = x2 + 1 := ⟨_, rfl⟩
        refine lv_iinc (v := v24) (lv' := [(2, .int v24), (0, .ref hm), (1, .int k)]) hx hb dX8_hasSome_24 hl (k := 2) rfl (by rw [e24]; rfl) (by decide) rfl (fun ls hl => ?_)
        have b24 : kB v24 1 16 := kB_eq e24 (kB_add c5nx kc_1 (by decide))
        have t24 : v24.toInt = x2.toInt + 1 := by rw [e24]; exact kinc (kB_w c5nx (by decide) (by decide))
        refine lv_goto (tgt := 2) hx hb dX8_hasSome_27 (by decide) ?_
        exact ih v24 (by have := b24.1; have := b24.2; have := c5nx.1; have := c5nx.2; omega) (kB_w b24 (by decide) (by decide)) _ _ ls hP hD hS (lv_sub hl [1, 2, 0] rfl)
      · refine lv_iconst (v := 1) hx hb dX8_hasSome_22 (by decide) ?_
        have pf_b : kB (1 : Int32) 0 1 := (kB_w kc_1 (by decide) (by decide))
        exact W.zret (v := 1) hx hb hr (kB_nz (kB_w kc_1 (by decide) (by decide))) (fun t9 ht9 hW9 => ⟨⟨1, (), rfl, pf_b, by rw [ht9]; exact hP, hD⟩, hS.F ht9⟩) hS.2.2 dX8_hasSome_23
set_option maxHeartbeats 4000000 in
set_option maxRecDepth 100000 in
theorem c_X8_hasSome (l : Launch) (D : va_G) (cI cJ cZ : ClassId) (hm hby hpb hwa hmn hcf hsa hro : Nat) (mrf : Int32) (msz : Int32) (mbg : Int32) (mrg : Int32) (mct : Int32) (mvl : Int32) (mpl : Int32) (mcl : Int32) (mrw : Int32) (mqt : Int32) (mlv : Int32) (mtl : Int32) (mbe : Int32) (mch : Int32) (mbt : Int64) (mcf : Nat → Int32) (k : Int32) (bk : kB k 0 15) (hpz : Nat) : Met l yX8_hasSome kw_X8_hasSome ({ frames := 0, cells := 0, slots := 0, locals := 0 }) (va_Pc [.ref hm, .int k] (fun U => U.heap.size = hpz ∧ va_P D vwCl [(hm, .inr (8, [.int mrf, .ref hby, .int msz, .int mbg, .long mbt, .int mrg, .int mct, .int mvl, .int mpl, .int mcl, .int mrw, .int mqt, .int mlv, .int mtl, .int mbe, .int mch, .ref hpb, .ref hwa, .ref hmn, .ref hcf, .ref hsa, .ref hro])), (hcf, .inl (cI, 256, .inl mcf))] U.heap ∧ kK D cI cJ cZ U ∧ va_D (fun _ => True) [(hm, .inr (8, [.int mrf, .ref hby, .int msz, .int mbg, .long mbt, .int mrg, .int mct, .int mvl, .int mpl, .int mcl, .int mrw, .int mqt, .int mlv, .int mtl, .int mbe, .int mch, .ref hpb, .ref hwa, .ref hmn, .ref hcf, .ref hsa, .ref hro])), (hcf, .inl (cI, 256, .inl mcf))])) (va_Qi (fun (r : Int32) (u : Unit) => (kB r 0 1)) (fun (u : Unit) (t : State) => va_P D vwCl [(hm, .inr (8, [.int mrf, .ref hby, .int msz, .int mbg, .long mbt, .int mrg, .int mct, .int mvl, .int mpl, .int mcl, .int mrw, .int mqt, .int mlv, .int mtl, .int mbe, .int mch, .ref hpb, .ref hwa, .ref hmn, .ref hcf, .ref hsa, .ref hro])), (hcf, .inl (cI, 256, .inl mcf))] t.heap ∧ va_D (va_A [(hm, .inr (8, [.int mrf, .ref hby, .int msz, .int mbg, .long mbt, .int mrg, .int mct, .int mvl, .int mpl, .int mcl, .int mrw, .int mqt, .int mlv, .int mtl, .int mbe, .int mch, .ref hpb, .ref hwa, .ref hmn, .ref hcf, .ref hsa, .ref hro])), (hcf, .inl (cI, 256, .inl mcf))] hpz) [(hm, .inr (8, [.int mrf, .ref hby, .int msz, .int mbg, .long mbt, .int mrg, .int mct, .int mvl, .int mpl, .int mcl, .int mrw, .int mqt, .int mlv, .int mtl, .int mbe, .int mch, .ref hpb, .ref hwa, .ref hmn, .ref hcf, .ref hsa, .ref hro])), (hcf, .inl (cI, 256, .inl mcf))]) (va_A [(hm, .inr (8, [.int mrf, .ref hby, .int msz, .int mbg, .long mbt, .int mrg, .int mct, .int mvl, .int mpl, .int mcl, .int mrw, .int mqt, .int mlv, .int mtl, .int mbe, .int mch, .ref hpb, .ref hwa, .ref hmn, .ref hcf, .ref hsa, .ref hro])), (hcf, .inl (cI, 256, .inl mcf))] hpz)) 0 0 (va_A [(hm, .inr (8, [.int mrf, .ref hby, .int msz, .int mbg, .long mbt, .int mrg, .int mct, .int mvl, .int mpl, .int mcl, .int mrw, .int mqt, .int mlv, .int mtl, .int mbe, .int mch, .ref hpb, .ref hwa, .ref hmn, .ref hcf, .ref hsa, .ref hro])), (hcf, .inl (cI, 256, .inl mcf))] hpz) := by
  refine Met.ofW (cc := cX8_hasSome) (maxL := 3) (ret := (some .boolean)) (by decide) rfl ?_
  intro p e s m args below meth c s₁ B hml hv
  obtain ⟨rfl, hsz, hP, hK, hD0⟩ := hv
  have hx := B.exec
  have hb := B.bytes
  have hr := B.returns
  have hts := fun (w : Cond) (h : w ∈ kW) => atoms_spec (ws := kw_X8_hasSome) B.pre w (List.mem_cons_of_mem _ h)
  have hown : s.vm.findClass RX8 = some m.cls := findClass_of_methodNamed B.named
  have hlocks := B.notSynchronized
  subst hsz
  have hD := hD0.self (sz := s.heap.size)
  generalize hAe : va_A [(hm, .inr (8, [.int mrf, .ref hby, .int msz, .int mbg, .long mbt, .int mrg, .int mct, .int mvl, .int mpl, .int mcl, .int mrw, .int mqt, .int mlv, .int mtl, .int mbe, .int mch, .ref hpb, .ref hwa, .ref hmn, .ref hcf, .ref hsa, .ref hro])), (hcf, .inl (cI, 256, .inl mcf))] s.heap.size = A at hD ⊢
  have hA : ∀ q : Nat, s.heap.size ≤ q → A q := fun q h => by rw [← hAe]; exact Or.inr h
  have hS : va_S A s.heap s.heap [] := va_S.rf
  have hP : va_P D vwCl [(hm, .inr (8, [.int mrf, .ref hby, .int msz, .int mbg, .long mbt, .int mrg, .int mct, .int mvl, .int mpl, .int mcl, .int mrw, .int mqt, .int mlv, .int mtl, .int mbe, .int mch, .ref hpb, .ref hwa, .ref hmn, .ref hcf, .ref hsa, .ref hro])), (hcf, .inl (cI, 256, .inl mcf))] s.heap := hP
  have hl := lv_entry ([.ref hm, .int k]) (n := 3) (Nat.le_of_ble_eq_true rfl)
  rw [lg_entry_eq]
  generalize (lg_sl ([.ref hm, .int k]) ++ List.replicate (3 - (lg_sl ([.ref hm, .int k])).length) Slot.unset).toArray = ls at hl ⊢
  have hl : lv_has ls 3 [(0, .ref hm), (1, .int k)] := hl
  refine lv_iconst (v := 0) hx hb dX8_hasSome_0 (by decide) ?_
  refine lv_istore_n (lv' := [(2, .int 0), (0, .ref hm), (1, .int k)]) hx hb dX8_hasSome_1 rfl hl (by decide) rfl (fun ls hl => ?_)
  exact lp_X8_hasSome_2 D cI cJ cZ hm hby hpb hwa hmn hcf hsa hro mrf msz mbg mrg mct mvl mpl mcl mrw mqt mlv mtl mbe mch mbt mcf k bk hx hb hr hml hown hts hlocks hK hA ((16 - (0 : Int32).toInt).toNat + 1) 0 (Nat.lt_succ_self _) (kB_w kc_0 (by decide) (by decide)) _ _ ls hP hD hS (lv_sub hl [1, 2, 0] rfl)
