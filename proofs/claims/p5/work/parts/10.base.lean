/-! the words of the tables that every method of ours goes by -/
def kW : List Cond := lw_tbl.filter goodWord
theorem kW_good : ∀ w ∈ kW, (w.onTables && w.keeps) = true ∨ ∃ ty, w = .arrayClass ty := fun w h => good_of_word (List.mem_filter.mp h).2
theorem kW_mem {w : Cond} (h : w ∈ lw_tbl) (g : goodWord w = true) : w ∈ kW := List.mem_filter.mpr ⟨h, g⟩
theorem kg_N {w : Cond} (h : w ∈ kW) : GoodIn kW (w :: kW) := fun x hx => (List.mem_cons.mp hx).elim (fun e => e ▸ ⟨h, kW_good _ h⟩) (fun hx => ⟨hx, kW_good _ hx⟩)
theorem kg_V {own C : String} {idx : Nat} {y : MethodName} {w : Cond} (h1 : Cond.methodLink own idx y ∈ kW) (h2 : Cond.instanceMethod y ∈ kW) (h3 : Cond.selects C y y ∈ kW) (h4 : Cond.initialized C ∈ kW) (h5 : w ∈ kW) : GoodIn kW (wsV own idx C y (w :: kW)) := by
  have key : ∀ x ∈ wsV own idx C y (w :: kW), x ∈ kW := by
    intro x hx
    simp only [wsV, List.mem_append, List.mem_cons, List.not_mem_nil, or_false] at hx
    rcases hx with (h | h | h | h) | h | h
    all_goals first | exact h | (subst h; assumption)
  exact fun x hx => ⟨key x hx, kW_good _ (key x hx)⟩
theorem kg_S {own : String} {idx : Nat} {y : MethodName} {w : Cond} (h1 : Cond.methodLink own idx y ∈ kW) (h2 : Cond.static y ∈ kW) (h4 : Cond.initialized own ∈ kW) (h5 : w ∈ kW) : GoodIn kW (wsS own idx y (w :: kW)) := by
  have key : ∀ x ∈ wsS own idx y (w :: kW), x ∈ kW := by
    intro x hx
    simp only [wsS, List.mem_append, List.mem_cons, List.not_mem_nil, or_false] at hx
    rcases hx with (h | h | h) | h | h
    all_goals first | exact h | (subst h; assumption)
  exact fun x hx => ⟨key x hx, kW_good _ (key x hx)⟩
/-! what stays the same through every method: the classes, the arrays' classes, the links between nest mates -/
def kNs : List Cond := [.methodLinkNest RX7 9 yX3_init "KeyFrames", .methodLinkNest RX7 34 yX4_init "KeyFrames", .methodLinkNest RX4 11 yX2_init "KeyFrames", .methodLinkNest RX4 20 yX6_init "KeyFrames", .methodLinkNest RX4 27 yX5_init "KeyFrames", .methodLinkNest RX0 32 yX7_splitOf "KeyFrames", .methodLinkNest RX1 23 yX7_splitOf "KeyFrames", .methodLinkNest RX5 31 yX7_within "KeyFrames"]
def kNf : List Cond := [.fieldLinkNest RX4 114 "KeyFrames$Transform" "grid" "[J" "KeyFrames", .fieldLinkNest RX7 112 "KeyFrames$Picture" "columns" "I" "KeyFrames", .fieldLinkNest RX7 115 "KeyFrames$Picture" "rows" "I" "KeyFrames", .fieldLinkNest RX7 118 "KeyFrames$Picture" "q" "I" "KeyFrames", .fieldLinkNest RX7 121 "KeyFrames$Picture" "level" "I" "KeyFrames", .fieldLinkNest RX7 124 "KeyFrames$Picture" "toldAnew" "I" "KeyFrames", .fieldLinkNest RX7 127 "KeyFrames$Picture" "octetsBeyond" "I" "KeyFrames", .fieldLinkNest RX7 130 "KeyFrames$Picture" "foursChanged" "I" "KeyFrames"]
def kN (U : State) : Prop := ∀ w ∈ kNs ++ kNf, va_Nw w U
def kK (D : va_G) (cI cJ cZ : ClassId) (U : State) : Prop := va_K D vwCl [(cI, .int), (cJ, .long), (cZ, .boolean)] U ∧ kN U
theorem kN_tab : ∀ w ∈ kNs ++ kNf, w.onTables = true := by
  intro w hw
  simp only [kNs, kNf, List.cons_append, List.nil_append, List.mem_cons, List.not_mem_nil, or_false] at hw
  rcases hw with h | h | h | h | h | h | h | h | h | h | h | h | h | h | h | h <;> (subst h; rfl)
theorem kN_kind : ∀ w ∈ kNs ++ kNf, (∃ a i x h, w = .methodLinkNest a i x h) ∨ (∃ a i b n d h, w = .fieldLinkNest a i b n d h) := by
  intro w hw
  simp only [kNs, kNf, List.cons_append, List.nil_append, List.mem_cons, List.not_mem_nil, or_false] at hw
  rcases hw with h | h | h | h | h | h | h | h | h | h | h | h | h | h | h | h
  all_goals first | exact Or.inl ⟨_, _, _, _, h⟩ | exact Or.inr ⟨_, _, _, _, _, _, h⟩
theorem kN_warm {s U : State} (hW : s.WarmedH U.vm) (h : kN s) : kN U := by
  intro w hw
  rcases kN_kind w hw with ⟨a, i, x, hh, e⟩ | ⟨a, i, b, n, d, hh, e⟩
  · have := h w hw
    rw [e] at this ⊢
    exact va_Nw.warmM hW this
  · have := h w hw
    rw [e] at this ⊢
    exact va_Nw.warmF hW this
theorem kK.call {D : va_G} {cI cJ cZ : ClassId} {U : State} {g : JFrame} {mk : MethodId} {a : Array Value} (h : kK D cI cJ cZ U) : kK D cI cJ cZ (U.calling g mk a) :=
  ⟨va_K.moved (u := U) (U := U.calling g mk a) (Vm.Alike.refl U.vm) h.1, fun w hw => va_Nw.same (u := U) (U := U.calling g mk a) (kN_tab w hw) rfl (h.2 w hw)⟩
theorem kK.warm {D : va_G} {cI cJ cZ : ClassId} {s U : State} (hW : s.WarmedH U.vm) (h : kK D cI cJ cZ s) : kK D cI cJ cZ U := ⟨va_K.moved hW.alike h.1, kN_warm hW h.2⟩
/-! numbers of the coder -/
def pw2 (n : Int) : Int := 2 ^ n.toNat
theorem pw2_0 : pw2 0 = 1 := by decide
theorem pw2_s {i : Int} (h : 0 ≤ i) : pw2 (i + 1) = 2 * pw2 i := by
  unfold pw2
  rw [show (i + 1).toNat = i.toNat + 1 by omega, Int.pow_succ, Int.mul_comm]
theorem pw2_pos (i : Int) : 0 < pw2 i := Int.pow_pos (by decide)
theorem pw2_mono {i j : Int} (h : i ≤ j) : pw2 i ≤ pw2 j := by
  unfold pw2
  have h2 : i.toNat ≤ j.toNat := by omega
  have := Nat.pow_le_pow_right (n := 2) (by decide) h2
  exact_mod_cast this
theorem ksp_toInt {rg p : Int32} (h : kB rg 128 255) (hp : kB p 0 255) : (1 + (((rg - 1) * p) >>> ((8 : Int32) &&& 31))).toInt = 1 + (rg.toInt - 1) * p.toInt / 256 := by
  obtain ⟨h1, h2⟩ := h; obtain ⟨p1, p2⟩ := hp
  have c1 : (1 : Int32).toInt = 1 := by decide
  have e1 : (rg - 1).toInt = rg.toInt - 1 := by rw [kI_sub (by rw [c1]; omega) (by rw [c1]; omega), c1]
  have m1 : 0 ≤ (rg.toInt - 1) * p.toInt := Int.mul_nonneg (by omega) p1
  have m2 : (rg.toInt - 1) * p.toInt ≤ 254 * 255 := Int.mul_le_mul (by omega) p2 p1 (by omega)
  have e2 : ((rg - 1) * p).toInt = (rg.toInt - 1) * p.toInt := by rw [kI_mul (by rw [e1]; omega) (by rw [e1]; omega), e1]
  have e3 : (((rg - 1) * p) >>> ((8 : Int32) &&& 31)).toInt = (rg.toInt - 1) * p.toInt / 256 := by
    rw [pk_shr _ _ 8 (by decide), e2, Int.shiftRight_eq_div_pow]; rfl
  rw [kI_add (by rw [c1, e3]; omega) (by rw [c1, e3]; omega), c1, e3]
theorem ksp_lt {a p : Int} (h1 : 128 ≤ a) (h2 : a ≤ 255) (p1 : 0 ≤ p) (p2 : p ≤ 255) : 1 ≤ 1 + (a - 1) * p / 256 ∧ 1 + (a - 1) * p / 256 < a := by
  have m1 : 0 ≤ (a - 1) * p := Int.mul_nonneg (by omega) p1
  have m2 : (a - 1) * p ≤ (a - 1) * 255 := Int.mul_le_mul_of_nonneg_left p2 (by omega)
  omega
theorem kor1 {n b : Int32} (hn : kB n 0 1073741823) (hb : kB b 0 1) : ((n <<< ((1 : Int32) &&& 31)) ||| b).toInt = 2 * n.toInt + b.toInt := by
  obtain ⟨h1, h2⟩ := hn
  obtain ⟨j, hj, rfl⟩ := nI_of (x := n) (by rw [Int32.lt_iff_toInt_lt, show (0 : Int32).toInt = 0 from by decide]; omega)
  rw [nI_toInt hj] at h1 h2 ⊢
  rw [pk_shlN _ 1 (by decide) (by omega)]
  rcases kB_01 hb with q | q
  · rw [q, show (0 : Int32).toInt = 0 from by decide]
    have : nI (j * 2 ^ 1) ||| 0 = nI (j * 2 ^ 1) := by
      apply Int32.toBitVec_inj.mp
      rw [Int32.toBitVec_or]
      simp
    rw [this, nI_toInt (by omega)]; omega
  · rw [q, show (1 : Int32).toInt = 1 from by decide]
    have : nI (j * 2 ^ 1) ||| 1 = nI (j * 2 + 1) := by
      apply Int32.toBitVec_inj.mp
      apply BitVec.eq_of_toNat_eq
      rw [Int32.toBitVec_or, BitVec.toNat_or, pk_tn (by omega), pk_tn (by omega)]
      have := Nat.two_pow_add_eq_or_of_lt (b := 1) (i := 1) (by decide) j
      rw [Nat.mul_comm j (2 ^ 1), show ((1 : Int32).toBitVec).toNat = 1 from by decide, ← this]
    rw [this, nI_toInt (by omega)]; omega
theorem kinc {x : Int32} (h : kB x (-2147483648) 2147483646) : (x + 1).toInt = x.toInt + 1 := by
  have c1 : (1 : Int32).toInt = 1 := by decide
  rw [kI_add (by rw [c1]; have := h.1; omega) (by rw [c1]; have := h.2; omega), c1]
theorem kdbl {x : Int32} (h : kB x 0 1000000000) : (x <<< ((1 : Int32) &&& 31)).toInt = 2 * x.toInt := by
  obtain ⟨h1, h2⟩ := h
  obtain ⟨j, hj, rfl⟩ := nI_of (x := x) (by rw [Int32.lt_iff_toInt_lt, show (0 : Int32).toInt = 0 from by decide]; omega)
  rw [nI_toInt hj] at h1 h2 ⊢
  rw [pk_shlN _ 1 (by decide) (by omega), nI_toInt (by omega)]; omega
theorem kdec {x : Int32} (h : kB x (-2147483647) 2147483647) : (x + (-1)).toInt = x.toInt + (-1) := by
  have c1 : (-1 : Int32).toInt = -1 := by decide
  rw [kI_add (by rw [c1]; have := h.1; omega) (by rw [c1]; have := h.2; omega), c1]
theorem kinc6 {x : Int32} (h : kB x (-2147483648) 2147483641) : (x + 6).toInt = x.toInt + 6 := by
  have c1 : (6 : Int32).toInt = 6 := by decide
  rw [kI_add (by rw [c1]; have := h.1; omega) (by rw [c1]; have := h.2; omega), c1]
/-! the static tables -/
abbrev tl_BANDS : List Int32 := [0, 1, 2, 3, 6, 4, 5, 6, 6, 6, 6, 6, 6, 6, 6, 7]
abbrev tl_LEAST : List Int32 := [5, 7, 11, 19, 35, 67]
abbrev tl_EXTRA_FROM : List Int32 := [0, 1, 3, 6, 10, 15, 26]
abbrev tl_EXTRA : List Int32 := [159, 165, 145, 173, 148, 140, 176, 155, 140, 135, 180, 157, 141, 134, 130, 254, 254, 243, 230, 196, 177, 153, 140, 133, 130, 129]
abbrev tl_PLACES : List Int32 := [0, 1, 4, 8, 5, 2, 3, 6, 9, 12, 13, 10, 7, 11, 14, 15]
theorem kt_of {L : List Int32} {lo hi : Int} (h0 : lo ≤ 0 ∧ 0 ≤ hi) (h : (L.all (fun x => decide (lo ≤ x.toInt) && decide (x.toInt ≤ hi))) = true) (j : Nat) : kB (L.getD j 0) lo hi := by
  rcases Nat.lt_or_ge j L.length with q | q
  · have h1 := List.all_eq_true.mp h (L[j]) (List.getElem_mem q)
    simp only [Bool.and_eq_true, decide_eq_true_eq] at h1
    rw [List.getD_eq_getElem?_getD, List.getElem?_eq_getElem q]
    exact h1
  · rw [List.getD_eq_getElem?_getD, List.getElem?_eq_none q]
    exact ⟨by show lo ≤ (0 : Int32).toInt; rw [show (0 : Int32).toInt = 0 from by decide]; exact h0.1, by show (0 : Int32).toInt ≤ hi; rw [show (0 : Int32).toInt = 0 from by decide]; exact h0.2⟩
theorem kt_BANDS (j : Nat) : kB (tl_BANDS.getD j 0) 0 7 := kt_of (by decide) (by decide) j
theorem kt_LEAST (j : Nat) : kB (tl_LEAST.getD j 0) 0 67 := kt_of (by decide) (by decide) j
theorem kt_EXTRA_FROM (j : Nat) : kB (tl_EXTRA_FROM.getD j 0) 0 26 := kt_of (by decide) (by decide) j
theorem kt_EXTRA (j : Nat) : kB (tl_EXTRA.getD j 0) 0 254 := kt_of (by decide) (by decide) j
theorem kt_PLACES (j : Nat) : kB (tl_PLACES.getD j 0) 0 15 := kt_of (by decide) (by decide) j
def kT1 (C n : String) (N : Nat) (L : List Int32) (A : Nat → Prop) (U : State) (H : Heap) : Prop := ∃ t : Nat, va_Z C n "[I" (.ref t) A U H ∧ va_T .int t N (fun j => .int (L.getD j 0)) A U H
theorem kT1.at {C n : String} {N : Nat} {L : List Int32} {A B : Nat → Prop} {s U : State} {H : Heap} {locs : List Loc} (h : kT1 C n N L A s s.heap) (hS : va_S A s.heap H locs) (hF : ∀ q, B q → A q) (hW : s.WarmedH U.vm) : kT1 C n N L B U H := by
  obtain ⟨t, h1, h2⟩ := h
  exact ⟨t, ((h1.kept hS.2.1).narrow hF).moved hW.alike, ((h2.kept hS.2.1).narrow hF).moved hW.alike⟩
theorem kT1.call {C n : String} {N : Nat} {L : List Int32} {A : Nat → Prop} {U : State} {g : JFrame} {mk : MethodId} {a : Array Value} (h : kT1 C n N L A U U.heap) : kT1 C n N L A (U.calling g mk a) (U.calling g mk a).heap := by
  obtain ⟨t, h1, h2⟩ := h
  exact ⟨t, va_Z.moved (u := U) (U := U.calling g mk a) (Vm.Alike.refl U.vm) h1, va_T.moved (u := U) (U := U.calling g mk a) (Vm.Alike.refl U.vm) h2⟩
def kT (A : Nat → Prop) (U : State) (H : Heap) : Prop := kT1 RX2 "BANDS" 16 tl_BANDS A U H ∧ kT1 RX2 "LEAST" 6 tl_LEAST A U H ∧ kT1 RX2 "EXTRA_FROM" 7 tl_EXTRA_FROM A U H ∧ kT1 RX2 "EXTRA" 26 tl_EXTRA A U H ∧ kT1 RX6 "PLACES" 16 tl_PLACES A U H
theorem kT.at {A B : Nat → Prop} {s U : State} {H : Heap} {locs : List Loc} (h : kT A s s.heap) (hS : va_S A s.heap H locs) (hF : ∀ q, B q → A q) (hW : s.WarmedH U.vm) : kT B U H := ⟨h.1.at hS hF hW, h.2.1.at hS hF hW, h.2.2.1.at hS hF hW, h.2.2.2.1.at hS hF hW, h.2.2.2.2.at hS hF hW⟩
theorem kT.call {A : Nat → Prop} {U : State} {g : JFrame} {mk : MethodId} {a : Array Value} (h : kT A U U.heap) : kT A (U.calling g mk a) (U.calling g mk a).heap := ⟨h.1.call, h.2.1.call, h.2.2.1.call, h.2.2.2.1.call, h.2.2.2.2.call⟩
theorem kT_BANDS {A : Nat → Prop} {U : State} {H : Heap} (h : kT A U H) : kT1 RX2 "BANDS" 16 tl_BANDS A U H := h.1
theorem kT_LEAST {A : Nat → Prop} {U : State} {H : Heap} (h : kT A U H) : kT1 RX2 "LEAST" 6 tl_LEAST A U H := h.2.1
theorem kT_EXTRA_FROM {A : Nat → Prop} {U : State} {H : Heap} (h : kT A U H) : kT1 RX2 "EXTRA_FROM" 7 tl_EXTRA_FROM A U H := h.2.2.1
theorem kT_EXTRA {A : Nat → Prop} {U : State} {H : Heap} (h : kT A U H) : kT1 RX2 "EXTRA" 26 tl_EXTRA A U H := h.2.2.2.1
theorem kT_PLACES {A : Nat → Prop} {U : State} {H : Heap} (h : kT A U H) : kT1 RX6 "PLACES" 16 tl_PLACES A U H := h.2.2.2.2
/-- the block above -/
theorem kctx {row cols col v5 v7 v43 : Int32} (hr : kB row 1 3) (hc : kB cols 1 4) (hl : kB col 0 3) (e5 : v5 = row * cols) (e7 : v7 = v5 + col) (e43 : v43 = v7 - cols) : kB v43 0 15 := by
  obtain ⟨r1, r2⟩ := hr; obtain ⟨c1, c2⟩ := hc; obtain ⟨l1, l2⟩ := hl
  have m1 : 1 * cols.toInt ≤ row.toInt * cols.toInt := Int.mul_le_mul_of_nonneg_right r1 (by omega)
  have m2 : row.toInt * cols.toInt ≤ 3 * cols.toInt := Int.mul_le_mul_of_nonneg_right r2 (by omega)
  have t5 : v5.toInt = row.toInt * cols.toInt := by rw [e5, kI_mul (by omega) (by omega)]
  have t7 : v7.toInt = v5.toInt + col.toInt := by rw [e7, kI_add (by omega) (by omega)]
  have t43 : v43.toInt = v7.toInt - cols.toInt := by rw [e43, kI_sub (by omega) (by omega)]
  exact ⟨by omega, by omega⟩
theorem kn_w {r m : Int32} {k hi : Int} (h : 0 ≤ r.toInt ∧ r.toInt < pw2 m.toInt) (e : pw2 m.toInt = k) (hk : k - 1 ≤ hi) : kB r 0 hi := ⟨h.1, by omega⟩
