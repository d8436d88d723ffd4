/-! the bits of a number -/
def kbt (b : Int32) (i : Nat) : Int := b.toInt / 2 ^ i % 2
theorem k31 : ∀ j, j < 32 → (((nI j &&& 31).toBitVec).smod 32).toNat = j := by decide
theorem k31u : ∀ j, j < 32 → (((nI j).toUInt32 &&& Int32.toUInt32 31).toBitVec % 32).toNat = j := by decide
theorem kbt_01 (b : Int32) (i : Nat) : 0 ≤ kbt b i ∧ kbt b i ≤ 1 := by unfold kbt; omega
theorem kbtM {b x : Int32} (hx : kB x 0 31) : ((b >>> (x &&& 31)) &&& 1).toInt = kbt b x.toInt.toNat := by
  obtain ⟨h1, h2⟩ := hx
  obtain ⟨j, hj, rfl⟩ := nI_of (x := x) (by rw [Int32.lt_iff_toInt_lt, show (0 : Int32).toInt = 0 from by decide]; omega)
  rw [nI_toInt hj] at h1 h2 ⊢
  have hj2 : j < 32 := by omega
  rw [pk_and _ 1 (by decide), nI_toInt (by omega)]
  have e := pk_shr b (nI j &&& 31) j (k31 j hj2)
  rw [Int.shiftRight_eq_div_pow] at e
  have e2 : ((b >>> (nI j &&& 31)).toInt) = if 2 * (b >>> (nI j &&& 31)).toBitVec.toNat < 2 ^ 32 then ((b >>> (nI j &&& 31)).toBitVec.toNat : Int) else ((b >>> (nI j &&& 31)).toBitVec.toNat : Int) - (2 ^ 32 : Nat) := BitVec.toInt_eq_toNat_cond _
  unfold kbt
  rw [Int.toNat_natCast, show (b.toInt / 2 ^ j : Int) = (b >>> (nI j &&& 31)).toInt by rw [e]; simp]
  split at e2 <;> omega
theorem kbt_cases {N t : Int} (h : t = N ∨ t = N - 4294967296) (j : Nat) (hj : j < 32) : N / 2 ^ j % 2 = t / 2 ^ j % 2 := by
  rcases h with h | h
  · rw [h]
  · have hc : j = 0 ∨ j = 1 ∨ j = 2 ∨ j = 3 ∨ j = 4 ∨ j = 5 ∨ j = 6 ∨ j = 7 ∨ j = 8 ∨ j = 9 ∨ j = 10 ∨ j = 11 ∨ j = 12 ∨ j = 13 ∨ j = 14 ∨ j = 15 ∨ j = 16 ∨ j = 17 ∨ j = 18 ∨ j = 19 ∨ j = 20 ∨ j = 21 ∨ j = 22 ∨ j = 23 ∨ j = 24 ∨ j = 25 ∨ j = 26 ∨ j = 27 ∨ j = 28 ∨ j = 29 ∨ j = 30 ∨ j = 31 := by omega
    rcases hc with q | q | q | q | q | q | q | q | q | q | q | q | q | q | q | q | q | q | q | q | q | q | q | q | q | q | q | q | q | q | q | q
    all_goals (subst q; rw [h]; omega)
theorem kbtC {b x : Int32} (hx : kB x 0 31) : ((b.toUInt32 >>> (x.toUInt32 &&& Int32.toUInt32 31)).toInt32 &&& 1).toInt = kbt b x.toInt.toNat := by
  obtain ⟨h1, h2⟩ := hx
  obtain ⟨j, hj, rfl⟩ := nI_of (x := x) (by rw [Int32.lt_iff_toInt_lt, show (0 : Int32).toInt = 0 from by decide]; omega)
  rw [nI_toInt hj] at h1 h2 ⊢
  have hj2 : j < 32 := by omega
  rw [pk_and _ 1 (by decide), nI_toInt (by omega), pk_ushr b (nI j) j (k31u j hj2), Int.toNat_natCast]
  have e2 : b.toInt = if 2 * b.toBitVec.toNat < 2 ^ 32 then (b.toBitVec.toNat : Int) else (b.toBitVec.toNat : Int) - (2 ^ 32 : Nat) := BitVec.toInt_eq_toNat_cond _
  have e3 := kbt_cases (N := (b.toBitVec.toNat : Int)) (t := b.toInt) (by split at e2 <;> omega) j hj2
  unfold kbt
  rw [← e3]
  simp
theorem kput_s (p : Int) (bt : Nat → Int) (n : Nat) (s : Int × Int) : kput p bt (n + 1) s = kput p bt n (krn (kr1 p (bt n) s.1), s.2 + kdl (kr1 p (bt n) s.1)) := rfl
theorem kc_17 : kB (17 : Int32) 17 17 := ⟨by decide, by decide⟩
theorem kc_560 : kB (560 : Int32) 560 560 := ⟨by decide, by decide⟩
theorem mk_369 : Cond.methodLink RX8 36 yX8_isIn ∈ kW := kW_mem (by decide +kernel) (by decide +kernel)
theorem mk_370 : Cond.static yX8_isIn ∈ kW := kW_mem (by decide +kernel) (by decide +kernel)
theorem mk_371 : Cond.code yX8_isIn cX8_isIn 3 (some .boolean) ∈ kW := kW_mem (by decide +kernel) (by decide +kernel)
theorem mk_372 : Cond.methodLink RX8 43 yX8_refused ∈ kW := kW_mem (by decide +kernel) (by decide +kernel)
theorem mk_373 : Cond.instanceMethod yX8_refused ∈ kW := kW_mem (by decide +kernel) (by decide +kernel)
theorem mk_374 : Cond.selects RX8 yX8_refused yX8_refused ∈ kW := kW_mem (by decide +kernel) (by decide +kernel)
theorem mk_375 : Cond.code yX8_refused cX8_refused 2 (some .boolean) ∈ kW := kW_mem (by decide +kernel) (by decide +kernel)
theorem mk_376 : Cond.methodLink RX8 77 yX8_writeBit ∈ kW := kW_mem (by decide +kernel) (by decide +kernel)
theorem mk_377 : Cond.instanceMethod yX8_writeBit ∈ kW := kW_mem (by decide +kernel) (by decide +kernel)
theorem mk_378 : Cond.selects RX8 yX8_writeBit yX8_writeBit ∈ kW := kW_mem (by decide +kernel) (by decide +kernel)
theorem mk_379 : Cond.code yX8_writeBit cX8_writeBit 4 none ∈ kW := kW_mem (by decide +kernel) (by decide +kernel)
