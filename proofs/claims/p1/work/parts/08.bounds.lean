/-! intervals of ints: kB x a b, a ≤ x ≤ b -/
abbrev kB (x : Int32) (a b : Int) : Prop := a ≤ x.toInt ∧ x.toInt ≤ b
theorem kB_w {x : Int32} {a b : Int} (h : kB x a b) {lo hi : Int} (h1 : lo ≤ a) (h2 : b ≤ hi) : kB x lo hi := ⟨Int.le_trans h1 h.1, Int.le_trans h.2 h2⟩
theorem kB_all (x : Int32) : kB x (-2147483648) 2147483647 := ⟨by have := x.le_toInt; omega, by have := x.toInt_lt; omega⟩
theorem kB_eq {x y : Int32} {a b : Int} (e : x = y) (h : kB y a b) : kB x a b := e ▸ h
theorem kI_add {x y : Int32} (h1 : -2147483648 ≤ x.toInt + y.toInt) (h2 : x.toInt + y.toInt ≤ 2147483647) : (x + y).toInt = x.toInt + y.toInt := by
  rw [Int32.toInt_add]; exact Int.bmod_eq_of_le (by omega) (by omega)
theorem kI_sub {x y : Int32} (h1 : -2147483648 ≤ x.toInt - y.toInt) (h2 : x.toInt - y.toInt ≤ 2147483647) : (x - y).toInt = x.toInt - y.toInt := by
  rw [Int32.toInt_sub]; exact Int.bmod_eq_of_le (by omega) (by omega)
theorem kI_mul {x y : Int32} (h1 : -2147483648 ≤ x.toInt * y.toInt) (h2 : x.toInt * y.toInt ≤ 2147483647) : (x * y).toInt = x.toInt * y.toInt := by
  rw [Int32.toInt_mul]; exact Int.bmod_eq_of_le (by omega) (by omega)
theorem kI_neg {x : Int32} (h1 : -2147483647 ≤ x.toInt) : (-x).toInt = -x.toInt := by
  have := x.toInt_lt
  rw [Int32.toInt_neg]; exact Int.bmod_eq_of_le (by omega) (by omega)
theorem kB_add {x y : Int32} {a b c d lo hi : Int} (h : kB x a b) (k : kB y c d) (hc : lo ≤ a + c ∧ b + d ≤ hi ∧ -2147483648 ≤ a + c ∧ b + d ≤ 2147483647) : kB (x + y) lo hi := by
  obtain ⟨h1, h2⟩ := h; obtain ⟨k1, k2⟩ := k; obtain ⟨c1, c2, c3, c4⟩ := hc
  have e := kI_add (x := x) (y := y) (by omega) (by omega)
  exact ⟨by omega, by omega⟩
theorem kB_sub {x y : Int32} {a b c d lo hi : Int} (h : kB x a b) (k : kB y c d) (hc : lo ≤ a - d ∧ b - c ≤ hi ∧ -2147483648 ≤ a - d ∧ b - c ≤ 2147483647) : kB (x - y) lo hi := by
  obtain ⟨h1, h2⟩ := h; obtain ⟨k1, k2⟩ := k; obtain ⟨c1, c2, c3, c4⟩ := hc
  have e := kI_sub (x := x) (y := y) (by omega) (by omega)
  exact ⟨by omega, by omega⟩
theorem kB_neg {x : Int32} {a b lo hi : Int} (h : kB x a b) (hc : lo ≤ -b ∧ -a ≤ hi ∧ -2147483647 ≤ a) : kB (-x) lo hi := by
  obtain ⟨h1, h2⟩ := h; obtain ⟨c1, c2, c3⟩ := hc
  have e := kI_neg (x := x) (by omega)
  exact ⟨by omega, by omega⟩
/-- both factors at least 0 -/
theorem kB_mul {x y : Int32} {a b c d lo hi : Int} (h : kB x a b) (k : kB y c d) (hc : 0 ≤ a ∧ 0 ≤ c ∧ lo ≤ a * c ∧ b * d ≤ hi ∧ b * d ≤ 2147483647) : kB (x * y) lo hi := by
  obtain ⟨h1, h2⟩ := h; obtain ⟨k1, k2⟩ := k; obtain ⟨c1, c2, c3, c4, c5⟩ := hc
  have m1 : a * c ≤ x.toInt * y.toInt := Int.mul_le_mul h1 k1 c2 (by omega)
  have m2 : x.toInt * y.toInt ≤ b * d := Int.mul_le_mul h2 k2 (by omega) (by omega)
  have m0 : 0 ≤ x.toInt * y.toInt := Int.mul_nonneg (by omega) (by omega)
  have e := kI_mul (x := x) (y := y) (by omega) (by omega)
  exact ⟨by omega, by omega⟩
/-- a factor that is a number n > 0 -/
theorem kB_mulc {x y : Int32} {a b lo hi n : Int} (h : kB x a b) (k : kB y n n) (hc : 0 < n ∧ lo ≤ a * n ∧ b * n ≤ hi ∧ -2147483648 ≤ a * n ∧ b * n ≤ 2147483647) : kB (x * y) lo hi := by
  obtain ⟨h1, h2⟩ := h; obtain ⟨k1, k2⟩ := k; obtain ⟨c0, c1, c2, c3, c4⟩ := hc
  have ey : y.toInt = n := by omega
  have m1 : a * n ≤ x.toInt * n := Int.mul_le_mul_of_nonneg_right h1 (by omega)
  have m2 : x.toInt * n ≤ b * n := Int.mul_le_mul_of_nonneg_right h2 (by omega)
  have e := kI_mul (x := x) (y := y) (by rw [ey]; omega) (by rw [ey]; omega)
  rw [ey] at e
  exact ⟨by omega, by omega⟩
theorem kB_cmul {x y : Int32} {a b lo hi n : Int} (k : kB y n n) (h : kB x a b) (hc : 0 < n ∧ lo ≤ a * n ∧ b * n ≤ hi ∧ -2147483648 ≤ a * n ∧ b * n ≤ 2147483647) : kB (y * x) lo hi := by
  rw [Int32.mul_comm]; exact kB_mulc h k hc
/-- divided by a number n > 0, what is at least 0 -/
theorem kB_div {x y : Int32} {a b lo hi n : Int} (h : kB x a b) (k : kB y n n) (hc : 0 ≤ a ∧ 0 < n ∧ lo ≤ a / n ∧ b / n ≤ hi) : kB (x / y) lo hi := by
  obtain ⟨h1, h2⟩ := h; obtain ⟨k1, k2⟩ := k; obtain ⟨c0, c1, c2, c3⟩ := hc
  have ey : y.toInt = n := by omega
  have e : (x / y).toInt = x.toInt / n := by rw [lg_idiv_nonneg (by omega) (by omega), ey]
  have m1 : a / n ≤ x.toInt / n := Int.ediv_le_ediv c1 h1
  have m2 : x.toInt / n ≤ b / n := Int.ediv_le_ediv c1 h2
  exact ⟨by omega, by omega⟩
/-- the rest by 1 .. d, of what is at least 0 -/
theorem kB_rem {x y : Int32} {a b c d hi : Int} (h : kB x a b) (k : kB y c d) (hc : 0 ≤ a ∧ 0 < c ∧ d - 1 ≤ hi) : kB (x - x / y * y) 0 hi := by
  obtain ⟨h1, h2⟩ := h; obtain ⟨k1, k2⟩ := k; obtain ⟨c0, c1, c2⟩ := hc
  have e : (x - x / y * y).toInt = x.toInt.tmod y.toInt := rem_toInt x y
  have e2 : x.toInt.tmod y.toInt = x.toInt % y.toInt := Int.tmod_eq_emod_of_nonneg (by omega)
  have m1 : 0 ≤ x.toInt % y.toInt := Int.emod_nonneg _ (by omega)
  have m2 : x.toInt % y.toInt < y.toInt := Int.emod_lt_of_pos _ (by omega)
  exact ⟨by omega, by omega⟩
/-- a mask of k bits -/
theorem kB_and {x m : Int32} (k : Nat) (hm : m.toBitVec.toNat = 2 ^ k - 1) (hk : k ≤ 30) : kB (x &&& m) 0 (2 ^ k - 1) := by
  have h := vp_in_iff.mp (pk_andIn x k hm hk)
  have e : ((2 ^ k : Nat) : Int) = 2 ^ k := by simp
  exact ⟨h.1, by omega⟩
theorem kB_shr {x s : Int32} {a b lo hi : Int} (k : Nat) (hs : (s.toBitVec.smod 32).toNat = k) (h : kB x a b) (hc : lo ≤ a / 2 ^ k ∧ b / 2 ^ k ≤ hi) : kB (x >>> s) lo hi := by
  obtain ⟨h1, h2⟩ := h
  have e : (x >>> s).toInt = x.toInt / 2 ^ k := by rw [pk_shr x s k hs, Int.shiftRight_eq_div_pow]; simp
  have p2 : (0 : Int) < 2 ^ k := by exact_mod_cast Nat.two_pow_pos k
  have m1 : a / 2 ^ k ≤ x.toInt / 2 ^ k := Int.ediv_le_ediv p2 h1
  have m2 : x.toInt / 2 ^ k ≤ b / 2 ^ k := Int.ediv_le_ediv p2 h2
  exact ⟨by omega, by omega⟩
theorem kB_in {x : Int32} {a b : Int} {n : Nat} (h : kB x a b) (hc : 0 ≤ a ∧ b < n) : vp_in x n := vp_in_iff.mpr ⟨Int.le_trans hc.1 h.1, Int.lt_of_le_of_lt h.2 hc.2⟩
theorem kB_ne0 {x : Int32} {a b : Int} (h : kB x a b) (hc : 0 < a ∨ b < 0) : ¬ x = 0 := fun e => by
  obtain ⟨h1, h2⟩ := h
  rw [e, show (0 : Int32).toInt = 0 from by decide] at h1 h2
  omega
/-! what a branch tells -/
theorem kB_lt_l {x y : Int32} {a b c d hi : Int} (h : kB x a b) (k : kB y c d) (q : x < y) (hc : d - 1 ≤ hi) : kB x a hi := ⟨h.1, by have := Int32.lt_iff_toInt_lt.mp q; have := k.2; omega⟩
theorem kB_lt_r {x y : Int32} {a b c d lo : Int} (h : kB x a b) (k : kB y c d) (q : x < y) (hc : lo ≤ a + 1) : kB y lo d := ⟨by have := Int32.lt_iff_toInt_lt.mp q; have := h.1; omega, k.2⟩
theorem kB_le_l {x y : Int32} {a b c d hi : Int} (h : kB x a b) (k : kB y c d) (q : x ≤ y) (hc : d ≤ hi) : kB x a hi := ⟨h.1, by have := Int32.le_iff_toInt_le.mp q; have := k.2; omega⟩
theorem kB_le_r {x y : Int32} {a b c d lo : Int} (h : kB x a b) (k : kB y c d) (q : x ≤ y) (hc : lo ≤ a) : kB y lo d := ⟨by have := Int32.le_iff_toInt_le.mp q; have := h.1; omega, k.2⟩
theorem kN_lt {x y : Int32} (q : ¬ x < y) : y ≤ x := Int32.not_lt.mp q
theorem kN_le {x y : Int32} (q : ¬ x ≤ y) : y < x := Int32.not_le.mp q
theorem kB_eq_l {x y : Int32} {a b c d : Int} (k : kB y c d) (q : x = y) : kB x c d := q ▸ k
/-- a number that is one of 0 .. b and isn't 0 -/
theorem kB_n0 {x : Int32} {a b : Int} (h : kB x a b) (q : ¬ x = 0) (hc : 0 ≤ a) : kB x 1 b := ⟨by
  rcases Int.lt_or_le 0 x.toInt with q2 | q2
  · omega
  · exact absurd (Int32.toInt_inj.mp (show x.toInt = (0 : Int32).toInt by rw [show (0 : Int32).toInt = 0 from by decide]; have := h.1; omega)) q, h.2⟩
def kA (f : Nat → Int32) (a b : Int) : Prop := ∀ j : Nat, kB (f j) a b
theorem kA_up {f : Nat → Int32} {a b : Int} {x : Int32} {k : Nat} (h : kA f a b) (hx : kB x a b) : kA (upd f k x) a b := fun j => by
  rcases Nat.decEq j k with q | q
  · rw [pk_un q]; exact h j
  · rw [q, pk_us]; exact hx
theorem kA_w {f : Nat → Int32} {a b : Int} (h : kA f a b) {lo hi : Int} (h1 : lo ≤ a) (h2 : b ≤ hi) : kA f lo hi := fun j => kB_w (h j) h1 h2
/-- less by what is no more -/
theorem kB_sub0 {x y : Int32} {a b c d hi : Int} (h : kB x a b) (k : kB y c d) (q : y ≤ x) (hc : b - c ≤ hi ∧ b - c ≤ 2147483647) : kB (x - y) 0 hi := by
  obtain ⟨h1, h2⟩ := h; obtain ⟨k1, k2⟩ := k; obtain ⟨c1, c2⟩ := hc
  have q := Int32.le_iff_toInt_le.mp q
  have e := kI_sub (x := x) (y := y) (by omega) (by omega)
  exact ⟨by omega, by omega⟩
/-- divided by what is at least 1 -/
theorem kB_divv {x y : Int32} {a b c d hi : Int} (h : kB x a b) (k : kB y c d) (hc : 0 ≤ a ∧ 0 < c ∧ b ≤ hi) : kB (x / y) 0 hi := by
  obtain ⟨h1, h2⟩ := h; obtain ⟨k1, k2⟩ := k; obtain ⟨c0, c1, c2⟩ := hc
  have e : (x / y).toInt = x.toInt / y.toInt := lg_idiv_nonneg (by omega) (by omega)
  have m1 : 0 ≤ x.toInt / y.toInt := Int.ediv_nonneg (by omega) (by omega)
  have m2 : x.toInt / y.toInt ≤ x.toInt := Int.ediv_le_self _ (by omega)
  exact ⟨by omega, by omega⟩
theorem kB_shl {x s : Int32} {a b lo hi : Int} (k : Nat) (hs : (s.toBitVec.smod 32).toNat = k) (h : kB x a b) (hc : 0 ≤ a ∧ lo ≤ a * 2 ^ k ∧ b * 2 ^ k ≤ hi ∧ b * 2 ^ k ≤ 2147483647) : kB (x <<< s) lo hi := by
  obtain ⟨h1, h2⟩ := h; obtain ⟨c0, c1, c2, c3⟩ := hc
  obtain ⟨j, hj, rfl⟩ := nI_of (x := x) (by rw [Int32.lt_iff_toInt_lt, show (0 : Int32).toInt = 0 from by decide]; omega)
  rw [nI_toInt hj] at h1 h2
  have p2 : (0 : Int) ≤ 2 ^ k := by exact_mod_cast Nat.le_of_lt (Nat.two_pow_pos k)
  have m1 : a * 2 ^ k ≤ (j : Int) * 2 ^ k := Int.mul_le_mul_of_nonneg_right h1 p2
  have m2 : (j : Int) * 2 ^ k ≤ b * 2 ^ k := Int.mul_le_mul_of_nonneg_right h2 p2
  have e1 : ((j * 2 ^ k : Nat) : Int) = (j : Int) * 2 ^ k := by simp
  have hlt : j * 2 ^ k < 2 ^ 31 := by omega
  rw [pk_shlN s k hs (by omega)]
  refine ⟨?_, ?_⟩ <;> rw [nI_toInt hlt] <;> omega
theorem kB_min {x y : Int32} {a b c d lo hi : Int} (h : kB x a b) (k : kB y c d) (hc : lo ≤ a ∧ lo ≤ c ∧ (b ≤ hi ∨ d ≤ hi)) : kB (if y < x then y else x) lo hi := by
  obtain ⟨h1, h2⟩ := h; obtain ⟨k1, k2⟩ := k; obtain ⟨c0, c1, c2⟩ := hc
  by_cases q : y < x
  · rw [if_pos q]; have q := Int32.lt_iff_toInt_lt.mp q; exact ⟨by omega, by omega⟩
  · rw [if_neg q]; have q := Int32.le_iff_toInt_le.mp (kN_lt q); exact ⟨by omega, by omega⟩
theorem kB_max {x y : Int32} {a b c d lo hi : Int} (h : kB x a b) (k : kB y c d) (hc : b ≤ hi ∧ d ≤ hi ∧ (lo ≤ a ∨ lo ≤ c)) : kB (if x < y then y else x) lo hi := by
  obtain ⟨h1, h2⟩ := h; obtain ⟨k1, k2⟩ := k; obtain ⟨c0, c1, c2⟩ := hc
  by_cases q : x < y
  · rw [if_pos q]; have q := Int32.lt_iff_toInt_lt.mp q; exact ⟨by omega, by omega⟩
  · rw [if_neg q]; have q := Int32.le_iff_toInt_le.mp (kN_lt q); exact ⟨by omega, by omega⟩
theorem kB_01 {x : Int32} (h : kB x 0 1) : x = 0 ∨ x = 1 := by
  obtain ⟨h1, h2⟩ := h
  rcases (show x.toInt = 0 ∨ x.toInt = 1 by omega) with q | q
  · exact Or.inl (Int32.toInt_inj.mp (by rw [q]; decide))
  · exact Or.inr (Int32.toInt_inj.mp (by rw [q]; decide))
theorem kB_nz {x : Int32} (h : kB x 0 1) : narrow .boolean (.int x) = .int x := by
  rcases kB_01 h with q | q <;> rw [q] <;> rfl
/-- not the greatest, not the least -/
theorem kB_nhi {x y : Int32} {a b hi : Int} (h : kB x a b) (q : ¬ x = y) (k : kB y b b) (hc : b - 1 ≤ hi) : kB x a hi := ⟨h.1, by
  have h2 := h.2; have k1 := k.1; have k2 := k.2
  rcases Int.lt_or_le x.toInt b with q2 | q2
  · omega
  · exact absurd (Int32.toInt_inj.mp (show x.toInt = y.toInt by omega)) q⟩
theorem kB_nlo {x y : Int32} {a b lo : Int} (h : kB x a b) (q : ¬ x = y) (k : kB y a a) (hc : lo ≤ a + 1) : kB x lo b := ⟨by
  have h2 := h.1; have k1 := k.1; have k2 := k.2
  rcases Int.lt_or_le a x.toInt with q2 | q2
  · omega
  · exact absurd (Int32.toInt_inj.mp (show x.toInt = y.toInt by omega)) q, h.2⟩
