/-! the words of the tables that every method of ours goes by -/
def kW : List Cond := lw_tbl.filter goodWord
theorem kW_good : ∀ w ∈ kW, (w.onTables && w.keeps) = true ∨ ∃ ty, w = .arrayClass ty := fun w h => good_of_word (List.mem_filter.mp h).2
theorem kW_mem {w : Cond} (h : w ∈ lw_tbl) (g : goodWord w = true) : w ∈ kW := List.mem_filter.mpr ⟨h, g⟩
theorem kg_N {w : Cond} (h : w ∈ kW) : GoodIn kW (w :: kW) := fun x hx => (List.mem_cons.mp hx).elim (fun e => e ▸ ⟨h, kW_good _ h⟩) (fun hx => ⟨hx, kW_good _ hx⟩)
theorem kg_V {own C : String} {idx : Nat} {y : MethodName} {w : Cond} (h1 : Cond.methodLink own idx y ∈ kW) (h2 : Cond.instanceMethod y ∈ kW) (h3 : Cond.selects C y y ∈ kW) (h4 : Cond.initialized C ∈ kW) (h5 : w ∈ kW) : GoodIn kW (wsV own idx C y (w :: kW)) := by
  have key : ∀ x ∈ wsV own idx C y (w :: kW), x ∈ kW := by
    intro x hx
    simp only [wsV, List.mem_append, List.mem_cons, List.not_mem_nil, or_false] at hx
    rcases hx with (h | h | h | h) | h | h
    all_goals first | exact h | (subst h; assumption)
  exact fun x hx => ⟨key x hx, kW_good _ (key x hx)⟩
theorem kg_S {own : String} {idx : Nat} {y : MethodName} {w : Cond} (h1 : Cond.methodLink own idx y ∈ kW) (h2 : Cond.static y ∈ kW) (h4 : Cond.initialized own ∈ kW) (h5 : w ∈ kW) : GoodIn kW (wsS own idx y (w :: kW)) := by
  have key : ∀ x ∈ wsS own idx y (w :: kW), x ∈ kW := by
    intro x hx
    simp only [wsS, List.mem_append, List.mem_cons, List.not_mem_nil, or_false] at hx
    rcases hx with (h | h | h) | h | h
    all_goals first | exact h | (subst h; assumption)
  exact fun x hx => ⟨key x hx, kW_good _ (key x hx)⟩
/-! what stays the same through every method: the classes, the arrays' classes, the links between nest mates -/
def kNs : List Cond := [.methodLinkNest RX7 9 yX3_init "KeyFrames", .methodLinkNest RX7 34 yX4_init "KeyFrames", .methodLinkNest RX4 11 yX2_init "KeyFrames", .methodLinkNest RX4 20 yX6_init "KeyFrames", .methodLinkNest RX4 27 yX5_init "KeyFrames", .methodLinkNest RX0 32 yX7_splitOf "KeyFrames", .methodLinkNest RX1 23 yX7_splitOf "KeyFrames", .methodLinkNest RX5 31 yX7_within "KeyFrames"]
def kNf : List Cond := [.fieldLinkNest RX4 114 "KeyFrames$Transform" "grid" "[J" "KeyFrames", .fieldLinkNest RX7 112 "KeyFrames$Picture" "columns" "I" "KeyFrames", .fieldLinkNest RX7 115 "KeyFrames$Picture" "rows" "I" "KeyFrames", .fieldLinkNest RX7 118 "KeyFrames$Picture" "q" "I" "KeyFrames", .fieldLinkNest RX7 121 "KeyFrames$Picture" "level" "I" "KeyFrames", .fieldLinkNest RX7 124 "KeyFrames$Picture" "toldAnew" "I" "KeyFrames", .fieldLinkNest RX7 127 "KeyFrames$Picture" "octetsBeyond" "I" "KeyFrames", .fieldLinkNest RX7 130 "KeyFrames$Picture" "foursChanged" "I" "KeyFrames"]
def kN (U : State) : Prop := ∀ w ∈ kNs ++ kNf, va_Nw w U
def kK (D : va_G) (cI cJ cZ : ClassId) (U : State) : Prop := va_K D vwCl [(cI, .int), (cJ, .long), (cZ, .boolean)] U ∧ kN U
theorem kN_tab : ∀ w ∈ kNs ++ kNf, w.onTables = true := by
  intro w hw
  simp only [kNs, kNf, List.cons_append, List.nil_append, List.mem_cons, List.not_mem_nil, or_false] at hw
  rcases hw with h | h | h | h | h | h | h | h | h | h | h | h | h | h | h | h <;> (subst h; rfl)
theorem kN_kind : ∀ w ∈ kNs ++ kNf, (∃ a i x h, w = .methodLinkNest a i x h) ∨ (∃ a i b n d h, w = .fieldLinkNest a i b n d h) := by
  intro w hw
  simp only [kNs, kNf, List.cons_append, List.nil_append, List.mem_cons, List.not_mem_nil, or_false] at hw
  rcases hw with h | h | h | h | h | h | h | h | h | h | h | h | h | h | h | h
  all_goals first | exact Or.inl ⟨_, _, _, _, h⟩ | exact Or.inr ⟨_, _, _, _, _, _, h⟩
theorem kN_warm {s U : State} (hW : s.WarmedH U.vm) (h : kN s) : kN U := by
  intro w hw
  rcases kN_kind w hw with ⟨a, i, x, hh, e⟩ | ⟨a, i, b, n, d, hh, e⟩
  · have := h w hw
    rw [e] at this ⊢
    exact va_Nw.warmM hW this
  · have := h w hw
    rw [e] at this ⊢
    exact va_Nw.warmF hW this
theorem kK.call {D : va_G} {cI cJ cZ : ClassId} {U : State} {g : JFrame} {mk : MethodId} {a : Array Value} (h : kK D cI cJ cZ U) : kK D cI cJ cZ (U.calling g mk a) :=
  ⟨va_K.moved (u := U) (U := U.calling g mk a) (Vm.Alike.refl U.vm) h.1, fun w hw => va_Nw.same (u := U) (U := U.calling g mk a) (kN_tab w hw) rfl (h.2 w hw)⟩
theorem kK.warm {D : va_G} {cI cJ cZ : ClassId} {s U : State} (hW : s.WarmedH U.vm) (h : kK D cI cJ cZ s) : kK D cI cJ cZ U := ⟨va_K.moved hW.alike h.1, kN_warm hW h.2⟩
/-! numbers of the coder -/
def pw2 (n : Int) : Int := 2 ^ n.toNat
theorem pw2_0 : pw2 0 = 1 := by decide
theorem pw2_s {i : Int} (h : 0 ≤ i) : pw2 (i + 1) = 2 * pw2 i := by
  unfold pw2
  rw [show (i + 1).toNat = i.toNat + 1 by omega, Int.pow_succ, Int.mul_comm]
theorem pw2_pos (i : Int) : 0 < pw2 i := Int.pow_pos (by decide)
theorem pw2_mono {i j : Int} (h : i ≤ j) : pw2 i ≤ pw2 j := by
  unfold pw2
  have h2 : i.toNat ≤ j.toNat := by omega
  have := Nat.pow_le_pow_right (n := 2) (by decide) h2
  exact_mod_cast this
theorem ksp_toInt {rg p : Int32} (h : kB rg 128 255) (hp : kB p 0 255) : (1 + (((rg - 1) * p) >>> ((8 : Int32) &&& 31))).toInt = 1 + (rg.toInt - 1) * p.toInt / 256 := by
  obtain ⟨h1, h2⟩ := h; obtain ⟨p1, p2⟩ := hp
  have c1 : (1 : Int32).toInt = 1 := by decide
  have e1 : (rg - 1).toInt = rg.toInt - 1 := by rw [kI_sub (by rw [c1]; omega) (by rw [c1]; omega), c1]
  have m1 : 0 ≤ (rg.toInt - 1) * p.toInt := Int.mul_nonneg (by omega) p1
  have m2 : (rg.toInt - 1) * p.toInt ≤ 254 * 255 := Int.mul_le_mul (by omega) p2 p1 (by omega)
  have e2 : ((rg - 1) * p).toInt = (rg.toInt - 1) * p.toInt := by rw [kI_mul (by rw [e1]; omega) (by rw [e1]; omega), e1]
  have e3 : (((rg - 1) * p) >>> ((8 : Int32) &&& 31)).toInt = (rg.toInt - 1) * p.toInt / 256 := by
    rw [pk_shr _ _ 8 (by decide), e2, Int.shiftRight_eq_div_pow]; rfl
  rw [kI_add (by rw [c1, e3]; omega) (by rw [c1, e3]; omega), c1, e3]
theorem ksp_lt {a p : Int} (h1 : 128 ≤ a) (h2 : a ≤ 255) (p1 : 0 ≤ p) (p2 : p ≤ 255) : 1 ≤ 1 + (a - 1) * p / 256 ∧ 1 + (a - 1) * p / 256 < a := by
  have m1 : 0 ≤ (a - 1) * p := Int.mul_nonneg (by omega) p1
  have m2 : (a - 1) * p ≤ (a - 1) * 255 := Int.mul_le_mul_of_nonneg_left p2 (by omega)
  omega
theorem kor1 {n b : Int32} (hn : kB n 0 1073741823) (hb : kB b 0 1) : ((n <<< ((1 : Int32) &&& 31)) ||| b).toInt = 2 * n.toInt + b.toInt := by
  obtain ⟨h1, h2⟩ := hn
  obtain ⟨j, hj, rfl⟩ := nI_of (x := n) (by rw [Int32.lt_iff_toInt_lt, show (0 : Int32).toInt = 0 from by decide]; omega)
  rw [nI_toInt hj] at h1 h2 ⊢
  rw [pk_shlN _ 1 (by decide) (by omega)]
  rcases kB_01 hb with q | q
  · rw [q, show (0 : Int32).toInt = 0 from by decide]
    have : nI (j * 2 ^ 1) ||| 0 = nI (j * 2 ^ 1) := by
      apply Int32.toBitVec_inj.mp
      rw [Int32.toBitVec_or]
      simp
    rw [this, nI_toInt (by omega)]; omega
  · rw [q, show (1 : Int32).toInt = 1 from by decide]
    have : nI (j * 2 ^ 1) ||| 1 = nI (j * 2 + 1) := by
      apply Int32.toBitVec_inj.mp
      apply BitVec.eq_of_toNat_eq
      rw [Int32.toBitVec_or, BitVec.toNat_or, pk_tn (by omega), pk_tn (by omega)]
      have := Nat.two_pow_add_eq_or_of_lt (b := 1) (i := 1) (by decide) j
      rw [Nat.mul_comm j (2 ^ 1), show ((1 : Int32).toBitVec).toNat = 1 from by decide, ← this]
    rw [this, nI_toInt (by omega)]; omega
theorem kinc {x : Int32} (h : kB x (-2147483648) 2147483646) : (x + 1).toInt = x.toInt + 1 := by
  have c1 : (1 : Int32).toInt = 1 := by decide
  rw [kI_add (by rw [c1]; have := h.1; omega) (by rw [c1]; have := h.2; omega), c1]
theorem kdbl {x : Int32} (h : kB x 0 1000000000) : (x <<< ((1 : Int32) &&& 31)).toInt = 2 * x.toInt := by
  obtain ⟨h1, h2⟩ := h
  obtain ⟨j, hj, rfl⟩ := nI_of (x := x) (by rw [Int32.lt_iff_toInt_lt, show (0 : Int32).toInt = 0 from by decide]; omega)
  rw [nI_toInt hj] at h1 h2 ⊢
  rw [pk_shlN _ 1 (by decide) (by omega), nI_toInt (by omega)]; omega
theorem kdec {x : Int32} (h : kB x (-2147483647) 2147483647) : (x + (-1)).toInt = x.toInt + (-1) := by
  have c1 : (-1 : Int32).toInt = -1 := by decide
  rw [kI_add (by rw [c1]; have := h.1; omega) (by rw [c1]; have := h.2; omega), c1]
theorem kinc6 {x : Int32} (h : kB x (-2147483648) 2147483641) : (x + 6).toInt = x.toInt + 6 := by
  have c1 : (6 : Int32).toInt = 6 := by decide
  rw [kI_add (by rw [c1]; have := h.1; omega) (by rw [c1]; have := h.2; omega), c1]
/-! the static tables -/
abbrev tl_BANDS : List Int32 := [0, 1, 2, 3, 6, 4, 5, 6, 6, 6, 6, 6, 6, 6, 6, 7]
abbrev tl_LEAST : List Int32 := [5, 7, 11, 19, 35, 67]
abbrev tl_EXTRA_FROM : List Int32 := [0, 1, 3, 6, 10, 15, 26]
abbrev tl_EXTRA : List Int32 := [159, 165, 145, 173, 148, 140, 176, 155, 140, 135, 180, 157, 141, 134, 130, 254, 254, 243, 230, 196, 177, 153, 140, 133, 130, 129]
abbrev tl_PLACES : List Int32 := [0, 1, 4, 8, 5, 2, 3, 6, 9, 12, 13, 10, 7, 11, 14, 15]
theorem kt_of {L : List Int32} {lo hi : Int} (h0 : lo ≤ 0 ∧ 0 ≤ hi) (h : (L.all (fun x => decide (lo ≤ x.toInt) && decide (x.toInt ≤ hi))) = true) (j : Nat) : kB (L.getD j 0) lo hi := by
  rcases Nat.lt_or_ge j L.length with q | q
  · have h1 := List.all_eq_true.mp h (L[j]) (List.getElem_mem q)
    simp only [Bool.and_eq_true, decide_eq_true_eq] at h1
    rw [List.getD_eq_getElem?_getD, List.getElem?_eq_getElem q]
    exact h1
  · rw [List.getD_eq_getElem?_getD, List.getElem?_eq_none q]
    exact ⟨by show lo ≤ (0 : Int32).toInt; rw [show (0 : Int32).toInt = 0 from by decide]; exact h0.1, by show (0 : Int32).toInt ≤ hi; rw [show (0 : Int32).toInt = 0 from by decide]; exact h0.2⟩
theorem kt_BANDS (j : Nat) : kB (tl_BANDS.getD j 0) 0 7 := kt_of (by decide) (by decide) j
theorem kt_LEAST (j : Nat) : kB (tl_LEAST.getD j 0) 0 67 := kt_of (by decide) (by decide) j
theorem kt_EXTRA_FROM (j : Nat) : kB (tl_EXTRA_FROM.getD j 0) 0 26 := kt_of (by decide) (by decide) j
theorem kt_EXTRA (j : Nat) : kB (tl_EXTRA.getD j 0) 0 254 := kt_of (by decide) (by decide) j
theorem kt_PLACES (j : Nat) : kB (tl_PLACES.getD j 0) 0 15 := kt_of (by decide) (by decide) j
def kT1 (C n : String) (N : Nat) (L : List Int32) (A : Nat → Prop) (U : State) (H : Heap) : Prop := ∃ t : Nat, va_Z C n "[I" (.ref t) A U H ∧ va_T .int t N (fun j => .int (L.getD j 0)) A U H
theorem kT1.at {C n : String} {N : Nat} {L : List Int32} {A B : Nat → Prop} {s U : State} {H : Heap} {locs : List Loc} (h : kT1 C n N L A s s.heap) (hS : va_S A s.heap H locs) (hF : ∀ q, B q → A q) (hW : s.WarmedH U.vm) : kT1 C n N L B U H := by
  obtain ⟨t, h1, h2⟩ := h
  exact ⟨t, ((h1.kept hS.2.1).narrow hF).moved hW.alike, ((h2.kept hS.2.1).narrow hF).moved hW.alike⟩
theorem kT1.call {C n : String} {N : Nat} {L : List Int32} {A : Nat → Prop} {U : State} {g : JFrame} {mk : MethodId} {a : Array Value} (h : kT1 C n N L A U U.heap) : kT1 C n N L A (U.calling g mk a) (U.calling g mk a).heap := by
  obtain ⟨t, h1, h2⟩ := h
  exact ⟨t, va_Z.moved (u := U) (U := U.calling g mk a) (Vm.Alike.refl U.vm) h1, va_T.moved (u := U) (U := U.calling g mk a) (Vm.Alike.refl U.vm) h2⟩
def kT (A : Nat → Prop) (U : State) (H : Heap) : Prop := kT1 RX2 "BANDS" 16 tl_BANDS A U H ∧ kT1 RX2 "LEAST" 6 tl_LEAST A U H ∧ kT1 RX2 "EXTRA_FROM" 7 tl_EXTRA_FROM A U H ∧ kT1 RX2 "EXTRA" 26 tl_EXTRA A U H ∧ kT1 RX6 "PLACES" 16 tl_PLACES A U H
theorem kT.at {A B : Nat → Prop} {s U : State} {H : Heap} {locs : List Loc} (h : kT A s s.heap) (hS : va_S A s.heap H locs) (hF : ∀ q, B q → A q) (hW : s.WarmedH U.vm) : kT B U H := ⟨h.1.at hS hF hW, h.2.1.at hS hF hW, h.2.2.1.at hS hF hW, h.2.2.2.1.at hS hF hW, h.2.2.2.2.at hS hF hW⟩
theorem kT.call {A : Nat → Prop} {U : State} {g : JFrame} {mk : MethodId} {a : Array Value} (h : kT A U U.heap) : kT A (U.calling g mk a) (U.calling g mk a).heap := ⟨h.1.call, h.2.1.call, h.2.2.1.call, h.2.2.2.1.call, h.2.2.2.2.call⟩
theorem kT_BANDS {A : Nat → Prop} {U : State} {H : Heap} (h : kT A U H) : kT1 RX2 "BANDS" 16 tl_BANDS A U H := h.1
theorem kT_LEAST {A : Nat → Prop} {U : State} {H : Heap} (h : kT A U H) : kT1 RX2 "LEAST" 6 tl_LEAST A U H := h.2.1
theorem kT_EXTRA_FROM {A : Nat → Prop} {U : State} {H : Heap} (h : kT A U H) : kT1 RX2 "EXTRA_FROM" 7 tl_EXTRA_FROM A U H := h.2.2.1
theorem kT_EXTRA {A : Nat → Prop} {U : State} {H : Heap} (h : kT A U H) : kT1 RX2 "EXTRA" 26 tl_EXTRA A U H := h.2.2.2.1
theorem kT_PLACES {A : Nat → Prop} {U : State} {H : Heap} (h : kT A U H) : kT1 RX6 "PLACES" 16 tl_PLACES A U H := h.2.2.2.2
/-- the block above -/
theorem kctx {row cols col v5 v7 v43 : Int32} (hr : kB row 1 3) (hc : kB cols 1 4) (hl : kB col 0 3) (e5 : v5 = row * cols) (e7 : v7 = v5 + col) (e43 : v43 = v7 - cols) : kB v43 0 15 := by
  obtain ⟨r1, r2⟩ := hr; obtain ⟨c1, c2⟩ := hc; obtain ⟨l1, l2⟩ := hl
  have m1 : 1 * cols.toInt ≤ row.toInt * cols.toInt := Int.mul_le_mul_of_nonneg_right r1 (by omega)
  have m2 : row.toInt * cols.toInt ≤ 3 * cols.toInt := Int.mul_le_mul_of_nonneg_right r2 (by omega)
  have t5 : v5.toInt = row.toInt * cols.toInt := by rw [e5, kI_mul (by omega) (by omega)]
  have t7 : v7.toInt = v5.toInt + col.toInt := by rw [e7, kI_add (by omega) (by omega)]
  have t43 : v43.toInt = v7.toInt - cols.toInt := by rw [e43, kI_sub (by omega) (by omega)]
  exact ⟨by omega, by omega⟩
theorem kn_w {r m : Int32} {k hi : Int} (h : 0 ≤ r.toInt ∧ r.toInt < pw2 m.toInt) (e : pw2 m.toInt = k) (hk : k - 1 ≤ hi) : kB r 0 hi := ⟨h.1, by omega⟩
/-! for the reference -/
theorem kspM_toInt {rg p : Int32} (h : kB rg 128 255) (hp : kB p 0 255) : (1 + ((rg - 1) * p) / 256).toInt = 1 + (rg.toInt - 1) * p.toInt / 256 := by
  obtain ⟨h1, h2⟩ := h; obtain ⟨p1, p2⟩ := hp
  have c1 : (1 : Int32).toInt = 1 := by decide
  have c2 : (256 : Int32).toInt = 256 := by decide
  have e1 : (rg - 1).toInt = rg.toInt - 1 := by rw [kI_sub (by rw [c1]; omega) (by rw [c1]; omega), c1]
  have m1 : 0 ≤ (rg.toInt - 1) * p.toInt := Int.mul_nonneg (by omega) p1
  have m2 : (rg.toInt - 1) * p.toInt ≤ 254 * 255 := Int.mul_le_mul (by omega) p2 p1 (by omega)
  have e2 : ((rg - 1) * p).toInt = (rg.toInt - 1) * p.toInt := by rw [kI_mul (by rw [e1]; omega) (by rw [e1]; omega), e1]
  have e3 : (((rg - 1) * p) / 256).toInt = (rg.toInt - 1) * p.toInt / 256 := by rw [lg_idiv_nonneg (by rw [e2]; exact m1) (by rw [c2]; decide), e2, c2]
  rw [kI_add (by rw [c1, e3]; omega) (by rw [c1, e3]; omega), c1, e3]
/-- how many doublings are left -/
def kdl (r : Int) : Int := if 128 ≤ r then 0 else if 64 ≤ r then 1 else if 32 ≤ r then 2 else if 16 ≤ r then 3 else if 8 ≤ r then 4 else if 4 ≤ r then 5 else if 2 ≤ r then 6 else 7
theorem kdl_le (r : Int) : 0 ≤ kdl r ∧ kdl r ≤ 7 := by unfold kdl; repeat' split <;> omega
theorem kdl_0 {r : Int} (h : 128 ≤ r) : kdl r = 0 := by unfold kdl; rw [if_pos h]
theorem kdl_dbl {r : Int} (h1 : 1 ≤ r) (h2 : r < 128) : kdl (2 * r) + 1 = kdl r := by unfold kdl; repeat' split <;> omega
theorem kdbl2 {x : Int32} (h : kB x 0 1000000000) : ((2 : Int32) * x).toInt = 2 * x.toInt := by
  have c1 : (2 : Int32).toInt = 2 := by decide
  rw [kI_mul (by rw [c1]; omega) (by rw [c1]; omega), c1]
theorem kl255 {x : Int64} : kB (x &&& 255).toInt32 0 255 := by
  have h : (x &&& 255).toInt32 = x.toInt32 &&& 255 := by
    apply Int32.toBitVec_inj.mp
    simp [Int64.toBitVec_and, Int32.toBitVec_and]
  rw [h]
  exact kB_and 8 (by decide) (by decide)
theorem kdivc {b c v : Int32} {R : Int} (hb : kB b 0 15) (hc : kB c 1 4) (h : b.toInt < c.toInt * R) (hR : R ≤ 4) (ev : v = b / c) : kB v 0 3 := by
  obtain ⟨b1, b2⟩ := hb; obtain ⟨c1, c2⟩ := hc
  have e : v.toInt = b.toInt / c.toInt := by rw [ev, lg_idiv_nonneg (by omega) (by omega)]
  have m1 : 0 ≤ b.toInt / c.toInt := Int.ediv_nonneg (by omega) (by omega)
  have m2 : b.toInt / c.toInt < R := Int.ediv_lt_of_lt_mul (by omega) (by rw [Int.mul_comm]; exact h)
  exact ⟨by omega, by omega⟩
theorem kremp {b c v : Int32} (hb : kB b 0 15) (hc : kB c 1 4) (ev : v = b - b / c * c) (h : 0 < v) : kB b 1 15 := by
  refine ⟨?_, hb.2⟩
  rcases Int.lt_or_le 0 b.toInt with q | q
  · omega
  · have e0 : b.toInt = 0 := by have := hb.1; omega
    have h2 := Int32.lt_iff_toInt_lt.mp h
    rw [ev, rem_toInt, e0, show (0 : Int32).toInt = 0 from by decide, Int.zero_tmod] at h2
    omega
theorem kmulI {a b : Int32} (ha : kB a 0 4) (hb : kB b 0 4) : (a * b).toInt = a.toInt * b.toInt := by
  have m1 : 0 ≤ a.toInt * b.toInt := Int.mul_nonneg ha.1 hb.1
  have m2 : a.toInt * b.toInt ≤ 4 * 4 := Int.mul_le_mul ha.2 hb.2 hb.1 (by decide)
  exact kI_mul (by omega) (by omega)
/-! writing: the range, how many shifts, how many bytes -/
abbrev kNF (sl sz : Int) : Prop := (sz = 0 ∧ 1 ≤ sl ∧ sl ≤ 24) ∨ (1 ≤ sz ∧ 1 ≤ sl ∧ sl ≤ 8)
def krn (r : Int) : Int := if 128 ≤ r then r else if 64 ≤ r then 2 * r else if 32 ≤ r then 4 * r else if 16 ≤ r then 8 * r else if 8 ≤ r then 16 * r else if 4 ≤ r then 32 * r else if 2 ≤ r then 64 * r else 128 * r
theorem krn_0 {r : Int} (h : 128 ≤ r) : krn r = r := by unfold krn; rw [if_pos h]
theorem krn_dbl {r : Int} (h1 : 1 ≤ r) (h2 : r < 128) : krn (2 * r) = krn r := by unfold krn; repeat' split <;> omega
theorem kdl_z {r : Int} (h : kdl r = 0) : 128 ≤ r := by
  rcases Int.lt_or_le r 128 with q | q
  · exfalso; revert h; unfold kdl; repeat' split <;> omega
  · exact q
def kr1 (p b r : Int) : Int := if b = 0 then 1 + (r - 1) * p / 256 else r - (1 + (r - 1) * p / 256)
theorem kr1_in {p b r : Int} (h1 : 128 ≤ r) (h2 : r ≤ 255) (p1 : 0 ≤ p) (p2 : p ≤ 255) : 1 ≤ kr1 p b r ∧ kr1 p b r ≤ 254 := by
  have := ksp_lt h1 h2 p1 p2
  unfold kr1; split <;> omega
def kput (p : Int) (bt : Nat → Int) : Nat → Int × Int → Int × Int
  | 0, s => s
  | n + 1, s => kput p bt n (krn (kr1 p (bt n) s.1), s.2 + kdl (kr1 p (bt n) s.1))
theorem kdec1 {x : Int32} (h : kB x (-2147483647) 2147483647) : (x - 1).toInt = x.toInt - 1 := by
  have c1 : (1 : Int32).toInt = 1 := by decide
  rw [kI_sub (by rw [c1]; have := h.1; omega) (by rw [c1]; have := h.2; omega), c1]
theorem k0 {x : Int32} (h : x = 0) : x.toInt = 0 := by rw [h]; decide
theorem kn0 {x : Int32} (h : ¬ x = 0) : ¬ x.toInt = 0 := fun q => h (Int32.toInt_inj.mp (by rw [q]; decide))
/-! the bits of a number -/
def kbt (b : Int32) (i : Nat) : Int := b.toInt / 2 ^ i % 2
theorem k31 : ∀ j, j < 32 → (((nI j &&& 31).toBitVec).smod 32).toNat = j := by decide
theorem k31u : ∀ j, j < 32 → (((nI j).toUInt32 &&& Int32.toUInt32 31).toBitVec % 32).toNat = j := by decide
theorem kbt_01 (b : Int32) (i : Nat) : 0 ≤ kbt b i ∧ kbt b i ≤ 1 := by unfold kbt; omega
theorem kbtM {b x : Int32} (hx : kB x 0 31) : ((b >>> (x &&& 31)) &&& 1).toInt = kbt b x.toInt.toNat := by
  obtain ⟨h1, h2⟩ := hx
  obtain ⟨j, hj, rfl⟩ := nI_of (x := x) (by rw [Int32.lt_iff_toInt_lt, show (0 : Int32).toInt = 0 from by decide]; omega)
  rw [nI_toInt hj] at h1 h2 ⊢
  have hj2 : j < 32 := by omega
  rw [pk_and _ 1 (by decide), nI_toInt (by omega)]
  have e := pk_shr b (nI j &&& 31) j (k31 j hj2)
  rw [Int.shiftRight_eq_div_pow] at e
  have e2 : ((b >>> (nI j &&& 31)).toInt) = if 2 * (b >>> (nI j &&& 31)).toBitVec.toNat < 2 ^ 32 then ((b >>> (nI j &&& 31)).toBitVec.toNat : Int) else ((b >>> (nI j &&& 31)).toBitVec.toNat : Int) - (2 ^ 32 : Nat) := BitVec.toInt_eq_toNat_cond _
  unfold kbt
  rw [Int.toNat_natCast, show (b.toInt / 2 ^ j : Int) = (b >>> (nI j &&& 31)).toInt by rw [e]; simp]
  split at e2 <;> omega
theorem kbt_cases {N t : Int} (h : t = N ∨ t = N - 4294967296) (j : Nat) (hj : j < 32) : N / 2 ^ j % 2 = t / 2 ^ j % 2 := by
  rcases h with h | h
  · rw [h]
  · have hc : j = 0 ∨ j = 1 ∨ j = 2 ∨ j = 3 ∨ j = 4 ∨ j = 5 ∨ j = 6 ∨ j = 7 ∨ j = 8 ∨ j = 9 ∨ j = 10 ∨ j = 11 ∨ j = 12 ∨ j = 13 ∨ j = 14 ∨ j = 15 ∨ j = 16 ∨ j = 17 ∨ j = 18 ∨ j = 19 ∨ j = 20 ∨ j = 21 ∨ j = 22 ∨ j = 23 ∨ j = 24 ∨ j = 25 ∨ j = 26 ∨ j = 27 ∨ j = 28 ∨ j = 29 ∨ j = 30 ∨ j = 31 := by omega
    rcases hc with q | q | q | q | q | q | q | q | q | q | q | q | q | q | q | q | q | q | q | q | q | q | q | q | q | q | q | q | q | q | q | q
    all_goals (subst q; rw [h]; omega)
theorem kbtC {b x : Int32} (hx : kB x 0 31) : ((b.toUInt32 >>> (x.toUInt32 &&& Int32.toUInt32 31)).toInt32 &&& 1).toInt = kbt b x.toInt.toNat := by
  obtain ⟨h1, h2⟩ := hx
  obtain ⟨j, hj, rfl⟩ := nI_of (x := x) (by rw [Int32.lt_iff_toInt_lt, show (0 : Int32).toInt = 0 from by decide]; omega)
  rw [nI_toInt hj] at h1 h2 ⊢
  have hj2 : j < 32 := by omega
  rw [pk_and _ 1 (by decide), nI_toInt (by omega), pk_ushr b (nI j) j (k31u j hj2), Int.toNat_natCast]
  have e2 : b.toInt = if 2 * b.toBitVec.toNat < 2 ^ 32 then (b.toBitVec.toNat : Int) else (b.toBitVec.toNat : Int) - (2 ^ 32 : Nat) := BitVec.toInt_eq_toNat_cond _
  have e3 := kbt_cases (N := (b.toBitVec.toNat : Int)) (t := b.toInt) (by split at e2 <;> omega) j hj2
  unfold kbt
  rw [← e3]
  simp
theorem kput_s (p : Int) (bt : Nat → Int) (n : Nat) (s : Int × Int) : kput p bt (n + 1) s = kput p bt n (krn (kr1 p (bt n) s.1), s.2 + kdl (kr1 p (bt n) s.1)) := rfl
/-! writing, to the byte: the bottom as a number B, the bytes as a function -/
theorem pf_lI {a : Nat} (h : a < 2 ^ 63) : (lN a).toInt = (a : Int) := lg_ofNat_toInt h
theorem pf_shr {a d : Nat} {D : Int64} (hD : (D.toBitVec.smod 64).toNat = d) (h : a < 2 ^ 62) : lN a >>> D = lN (a / 2 ^ d) := by
  have hd : a / 2 ^ d ≤ a := Nat.div_le_self _ _
  apply Int64.toInt_inj.mp
  have e : (lN a >>> D).toInt = (lN a).toInt >>> d := by
    rw [← hD]
    exact BitVec.toInt_sshiftRight ..
  rw [e, Int.shiftRight_eq_div_pow, pf_lI (by omega), pf_lI (by omega)]
  rfl
def wCar : Nat → (Nat → Int32) → (Nat → Int32)
  | 0, f => f
  | n + 1, f => if f n = 255 then wCar n (upd f n 0) else upd f n (f n + 1)
def wF (z B : Nat) (f : Nat → Int32) : Nat → Int32 := if 2147483648 ≤ B then wCar z f else f
def wSh (s : Int × Int × Nat × (Nat → Int32)) : Int × Int × Nat × (Nat → Int32) :=
  if s.1 = 1 then (8, s.2.1 + 1, 2 * s.2.2.1 % 4294967296 % 16777216, upd (wF s.2.1.toNat s.2.2.1 s.2.2.2) s.2.1.toNat (nI (2 * s.2.2.1 % 4294967296 / 16777216)))
  else (s.1 - 1, s.2.1, 2 * s.2.2.1 % 4294967296, wF s.2.1.toNat s.2.2.1 s.2.2.2)
def wIt : Nat → Int × Int × Nat × (Nat → Int32) → Int × Int × Nat × (Nat → Int32)
  | 0, s => s
  | n + 1, s => wIt n (wSh s)
def wB1 (p b r : Int) (B : Nat) : Nat := if b = 0 then B else (B + (1 + (r - 1) * p / 256).toNat) % 4294967296
def wPut (p : Int) (bt : Nat → Int) : Nat → Int × Int × Int × Nat × (Nat → Int32) → Int × Int × Int × Nat × (Nat → Int32)
  | 0, s => s
  | n + 1, s => wPut p bt n (krn (kr1 p (bt n) s.1), wIt (kdl (kr1 p (bt n) s.1)).toNat (s.2.1, s.2.2.1, wB1 p (bt n) s.1 s.2.2.2.1, s.2.2.2.2))
theorem wPut_s (p : Int) (bt : Nat → Int) (n : Nat) (s : Int × Int × Int × Nat × (Nat → Int32)) : wPut p bt (n + 1) s = wPut p bt n (krn (kr1 p (bt n) s.1), wIt (kdl (kr1 p (bt n) s.1)).toNat (s.2.1, s.2.2.1, wB1 p (bt n) s.1 s.2.2.2.1, s.2.2.2.2)) := rfl
theorem wSh_lt {s : Int × Int × Nat × (Nat → Int32)} (h : s.2.2.1 < 4294967296) : (wSh s).2.2.1 < 4294967296 := by
  unfold wSh; split
  · show 2 * s.2.2.1 % 4294967296 % 16777216 < 4294967296; omega
  · show 2 * s.2.2.1 % 4294967296 < 4294967296; omega
theorem wIt_lt : ∀ (n : Nat) (s : Int × Int × Nat × (Nat → Int32)), s.2.2.1 < 4294967296 → (wIt n s).2.2.1 < 4294967296
  | 0, _, h => h
  | n + 1, s, h => wIt_lt n (wSh s) (wSh_lt h)
theorem kcl {x : Int32} : x.toNatClampNeg = x.toInt.toNat := rfl
theorem wCar_255 {x : Int32} {f : Nat → Int32} (hx : 0 ≤ x.toInt) (h : f x.toNatClampNeg = 255) : wCar (x.toInt + 1).toNat f = wCar x.toInt.toNat (upd f x.toNatClampNeg 0) := by
  rw [show (x.toInt + 1).toNat = x.toInt.toNat + 1 by omega]
  show (if f x.toInt.toNat = 255 then wCar x.toInt.toNat (upd f x.toInt.toNat 0) else _) = _
  rw [if_pos (by rw [← kcl]; exact h), kcl]
theorem wCar_n {x : Int32} {f : Nat → Int32} (hx : 0 ≤ x.toInt) (h : ¬ f x.toNatClampNeg = 255) : wCar (x.toInt + 1).toNat f = upd f x.toNatClampNeg (f x.toNatClampNeg + 1) := by
  rw [show (x.toInt + 1).toNat = x.toInt.toNat + 1 by omega]
  show (if f x.toInt.toNat = 255 then _ else upd f x.toInt.toNat (f x.toInt.toNat + 1)) = _
  rw [if_neg (by rw [← kcl]; exact h), kcl]
theorem wCar_0 {x : Int} {f : Nat → Int32} (hx : x < 0) : wCar (x + 1).toNat f = f := by
  rw [show (x + 1).toNat = 0 by omega]; rfl
/-! the class: an int is nI B -/
theorem nI_tn {B : Nat} (h : B < 4294967296) : (nI B).toBitVec.toNat = B := pk_tn (by omega)
theorem nI_neg {B : Nat} (h : B < 4294967296) : (nI B).toInt < 0 ↔ 2147483648 ≤ B := by
  have e : (nI B).toInt = if 2 * (nI B).toBitVec.toNat < 2 ^ 32 then ((nI B).toBitVec.toNat : Int) else ((nI B).toBitVec.toNat : Int) - (2 ^ 32 : Nat) := BitVec.toInt_eq_toNat_cond _
  rw [nI_tn h] at e
  split at e <;> omega
theorem nI_mod (n : Nat) : nI n = nI (n % 4294967296) := by
  apply Int32.toBitVec_inj.mp
  apply BitVec.eq_of_toNat_eq
  show n % 2 ^ 32 = n % 4294967296 % 2 ^ 32
  omega
theorem nI_shlm {B k : Nat} (hB : B < 4294967296) {s : Int32} (hs : (s.toBitVec.smod 32).toNat = k) : nI B <<< s = nI (B * 2 ^ k % 4294967296) := by
  apply Int32.toBitVec_inj.mp
  apply BitVec.eq_of_toNat_eq
  rw [pk_shl (nI B) s k hs, nI_tn hB, nI_tn (Nat.mod_lt _ (by decide))]
theorem nI_ush {B k : Nat} (hB : B < 4294967296) {s : Int32} (hs : ((s.toUInt32 &&& Int32.toUInt32 31).toBitVec % 32).toNat = k) : ((nI B).toUInt32 >>> (s.toUInt32 &&& Int32.toUInt32 31)).toInt32 = nI (B / 2 ^ k) := pk_ushrN (by omega) s k hs
theorem nI_msk {B k : Nat} (hB : B < 4294967296) {m : Int32} (hm : m.toBitVec.toNat = 2 ^ k - 1) : nI B &&& m = nI (B % 2 ^ k) := pk_andN (by omega) k hm
theorem nI_of_toInt {x : Int32} (h : 0 ≤ x.toInt) : x = nI x.toInt.toNat := by
  obtain ⟨j, hj, e⟩ := nI_of (x := x) (by rw [Int32.lt_iff_toInt_lt, show (0 : Int32).toInt = 0 from by decide]; omega)
  rw [e, nI_toInt hj, Int.toNat_natCast]
theorem wSh_1 {c z : Int} {B : Nat} {f : Nat → Int32} (h : c = 1) : wSh (c, z, B, f) = (8, z + 1, 2 * B % 4294967296 % 16777216, upd (wF z.toNat B f) z.toNat (nI (2 * B % 4294967296 / 16777216))) := by
  unfold wSh; exact if_pos h
theorem wSh_n {c z : Int} {B : Nat} {f : Nat → Int32} (h : ¬ c = 1) : wSh (c, z, B, f) = (c - 1, z, 2 * B % 4294967296, wF z.toNat B f) := by
  unfold wSh; exact if_neg h
theorem wF_n {z B : Nat} {f : Nat → Int32} (h : ¬ 2147483648 ≤ B) : f = wF z B f := by unfold wF; rw [if_neg h]
theorem wF_y {z B : Nat} {f : Nat → Int32} (h : 2147483648 ≤ B) : wCar z f = wF z B f := by unfold wF; rw [if_pos h]
theorem wIt_dbl {r : Int} (h1 : 1 ≤ r) (h2 : r < 128) (s : Int × Int × Nat × (Nat → Int32)) : wIt (kdl r).toNat s = wIt (kdl (2 * r)).toNat (wSh s) := by
  have e := kdl_dbl h1 h2
  have := (kdl_le (2 * r)).1
  rw [show (kdl r).toNat = (kdl (2 * r)).toNat + 1 by omega]; rfl
theorem wIt_0 {r : Int} (h : 128 ≤ r) (s : Int × Int × Nat × (Nat → Int32)) : wIt (kdl r).toNat s = s := by rw [kdl_0 h]; rfl
theorem wB1_lt {p b r : Int} {B : Nat} (h : B < 4294967296) : wB1 p b r B < 4294967296 := by
  unfold wB1; split
  · exact h
  · exact Nat.mod_lt _ (by decide)
/-! the reference: a long is lN B -/
theorem lM_and {a k p : Nat} {m : Int64} (hm : m = lN (p - 1)) (hp : 2 ^ k = p) (hk : k < 64) (ha : a < 2 ^ 64) : lN a &&& m = lN (a % p) := by
  subst hm; subst hp
  apply Int64.toBitVec_inj.mp
  apply BitVec.eq_of_toNat_eq
  have h1 : (lN a).toBitVec.toNat = a := Nat.mod_eq_of_lt ha
  have hlt : 2 ^ k < 2 ^ 64 := Nat.pow_lt_pow_right (by decide) hk
  have h0 : 0 < 2 ^ k := Nat.two_pow_pos k
  have h2 : (lN (2 ^ k - 1)).toBitVec.toNat = 2 ^ k - 1 := Nat.mod_eq_of_lt (by omega)
  have h3 : a % 2 ^ k < 2 ^ 64 := Nat.lt_of_lt_of_le (Nat.mod_lt _ h0) (Nat.le_of_lt hlt)
  have h4 : (lN (a % 2 ^ k)).toBitVec.toNat = a % 2 ^ k := Nat.mod_eq_of_lt h3
  rw [Int64.toBitVec_and, BitVec.toNat_and, h1, h2, h4, Nat.and_two_pow_sub_one_eq_mod]
theorem lM_lt {a : Nat} (h : a < 2 ^ 62) (b : Nat) (hb : b < 2 ^ 62) : lg_cmp (lN a) (lN b) < 0 ↔ a < b := by
  unfold lg_cmp
  have e1 : lN a > lN b ↔ b < a := pk_lLT (by omega) (by omega)
  have e2 : lN a = lN b ↔ a = b := pk_lEQ (by omega) (by omega)
  by_cases q : b < a
  · rw [if_pos (e1.mpr q)]; exact ⟨fun h => absurd h (by decide), fun h => by omega⟩
  · rw [if_neg (fun h => q (e1.mp h))]
    by_cases q2 : a = b
    · rw [if_pos (e2.mpr q2)]; exact ⟨fun h => absurd h (by decide), fun h => by omega⟩
    · rw [if_neg (fun h => q2 (e2.mp h))]; exact ⟨fun _ => by omega, fun _ => by decide⟩
theorem lM_i {n : Nat} {x : Int32} (h : x = nI n) (hn : n < 2 ^ 31) : x.toInt64 = lN n := by rw [h]; exact nI_l hn
/-! the end of writing, and feeding, to the byte -/
theorem wb_tb (n : Nat) : (lN n).toBitVec = BitVec.ofNat 64 n := rfl
theorem wb_inj {a b : Int64} (h : a.toBitVec = b.toBitVec) : a = b := Int64.toBitVec_inj.mp h
theorem wb_c : ∀ k, k < 64 → ((nI k).toInt64 &&& 63) = lN k := by decide +kernel
theorem wb_sm : ∀ k, k < 64 → (BitVec.ofNat 64 k).smod 64 = BitVec.ofNat 64 k := by decide +kernel
theorem wb_shl (n : Nat) {k : Nat} (hk : k < 64) : lN n <<< ((nI k).toInt64 &&& 63) = lN (n * 2 ^ k) := by
  rw [wb_c k hk]
  apply wb_inj
  rw [Int64.toBitVec_shiftLeft, wb_tb, wb_tb, wb_tb, wb_sm k hk]
  apply BitVec.eq_of_toNat_eq
  rw [BitVec.shiftLeft_eq', BitVec.toNat_shiftLeft, BitVec.toNat_ofNat, BitVec.toNat_ofNat, BitVec.toNat_ofNat, Nat.mod_eq_of_lt (show k < 2 ^ 64 by omega), Nat.shiftLeft_eq, Nat.mul_mod, Nat.mod_mod, ← Nat.mul_mod]
def wEb (c : Int) (B : Nat) : Nat := B * 2 ^ c.toNat % 4294967296
def wEf (c : Int) (z B : Nat) (f : Nat → Int32) : Nat → Int32 := if B / 2 ^ (32 - c).toNat % 2 = 1 then wCar z f else f
def wAp : Nat → Int × Nat × (Nat → Int32) → Int × Nat × (Nat → Int32)
  | 0, s => s
  | n + 1, s => wAp n (s.1 + 1, 256 * s.2.1 % 4294967296, upd s.2.2 s.1.toNat (nI (s.2.1 / 16777216)))
theorem wAp_s (n : Nat) (z : Int) (V : Nat) (f : Nat → Int32) : wAp (n + 1) (z, V, f) = wAp n (z + 1, 256 * V % 4294967296, upd f z.toNat (nI (V / 16777216))) := rfl
theorem wEb_lt (c : Int) (B : Nat) : wEb c B < 4294967296 := Nat.mod_lt _ (by decide)
theorem wEf_n {c : Int} {z B : Nat} {f : Nat → Int32} (h : ¬ B / 2 ^ (32 - c).toNat % 2 = 1) : f = wEf c z B f := by unfold wEf; rw [if_neg h]
theorem wEf_y {c : Int} {z B : Nat} {f : Nat → Int32} (h : B / 2 ^ (32 - c).toNat % 2 = 1) : wCar z f = wEf c z B f := by unfold wEf; rw [if_pos h]
theorem wDv {c : Int} {B : Nat} (hB : B < 4294967296) : B / 2 ^ (32 - c).toNat < 4294967296 := Nat.lt_of_le_of_lt (Nat.div_le_self _ _) hB
theorem nI_bit0 {n : Nat} {v : Int32} (hv : v = nI (n % 2)) (h : v = 0) : ¬ n % 2 = 1 := fun h9 => absurd (h.symm.trans hv) (by rw [h9]; decide)
theorem nI_bit1 {n : Nat} {v : Int32} (hv : v = nI (n % 2)) (h : ¬ v = 0) : n % 2 = 1 := by
  rcases Nat.mod_two_eq_zero_or_one n with h9 | h9
  · exact absurd (hv.trans (by rw [h9]; decide)) h
  · exact h9
theorem k32 {c x : Int32} (hc : kB c 1 24) (hx : x = 32 - c) : x = nI (32 - c.toInt).toNat ∧ (32 - c.toInt).toNat < 32 := by
  have h32 : (32 : Int32).toInt = 32 := by decide
  have e : x.toInt = 32 - c.toInt := by rw [hx, kI_sub (by rw [h32]; have := hc.2; omega) (by rw [h32]; have := hc.1; omega), h32]
  refine ⟨?_, by have := hc.1; omega⟩
  rw [← e]; exact nI_of_toInt (by have := hc.2; omega)
theorem nI_ushx {B : Nat} {c x : Int32} (hB : B < 4294967296) (hc : kB c 1 24) (hx : x = 32 - c) : ((nI B).toUInt32 >>> (x.toUInt32 &&& Int32.toUInt32 31)).toInt32 = nI (B / 2 ^ (32 - c.toInt).toNat) := by
  obtain ⟨e, h⟩ := k32 hc hx
  rw [e]; exact nI_ush hB (k31u _ h)
theorem nI_shlx {B : Nat} {c : Int32} (hB : B < 4294967296) (hc : kB c 1 24) : nI B <<< (c &&& 31) = nI (wEb c.toInt B) := by
  have e : c = nI c.toInt.toNat := nI_of_toInt (by have := hc.1; omega)
  have h := nI_shlm hB (s := nI c.toInt.toNat &&& 31) (k31 c.toInt.toNat (by have := hc.2; omega))
  rw [← e] at h; exact h
theorem lM_eq {a b : Nat} (h : a < 2 ^ 62) (hb : b < 2 ^ 62) : lg_cmp (lN a) (lN b) = 0 ↔ a = b := by
  unfold lg_cmp
  have e1 : lN a > lN b ↔ b < a := pk_lLT (by omega) (by omega)
  have e2 : lN a = lN b ↔ a = b := pk_lEQ (by omega) (by omega)
  by_cases q : b < a
  · rw [if_pos (e1.mpr q)]; exact ⟨fun h => absurd h (by decide), fun h => by omega⟩
  · rw [if_neg (fun h => q (e1.mp h))]
    by_cases q2 : a = b
    · rw [if_pos (e2.mpr q2)]; exact ⟨fun _ => q2, fun _ => rfl⟩
    · rw [if_neg (fun h => q2 (e2.mp h))]; exact ⟨fun h => absurd h (by decide), fun h => absurd h q2⟩
theorem lM_shr {B : Nat} {c x : Int32} (hB : B < 4294967296) (hc : kB c 1 24) (hx : x = 32 - c) : lN B >>> (x.toInt64 &&& 63) = lN (B / 2 ^ (32 - c.toInt).toNat) := by
  obtain ⟨e, h⟩ := k32 hc hx
  rw [e, wb_c _ (by omega)]
  exact pf_shr (by rw [wb_tb, wb_sm _ (by omega), BitVec.toNat_ofNat, Nat.mod_eq_of_lt (by omega)]) (by omega)
theorem lM_shl {V k : Nat} {x : Int32} (hV : V < 4294967296) (hx : x = nI k) (hk : k < 32) : (lN V <<< (x.toInt64 &&& 63)) &&& 4294967295 = lN (V * 2 ^ k % 4294967296) := by
  rw [hx, wb_shl V (by omega)]
  have h1 : 2 ^ k ≤ 2 ^ 31 := Nat.pow_le_pow_right (by decide) (by omega)
  have h2 : V * 2 ^ k ≤ 4294967296 * 2 ^ 31 := Nat.mul_le_mul (by omega) h1
  exact lM_and (k := 32) (p := 4294967296) (by decide) (by decide) (by decide) (by omega)
theorem k8r {c : Int32} (hc : kB c 1 24) : c - c / 8 * 8 = nI (c.toInt % 8).toNat ∧ (c.toInt % 8).toNat < 32 := by
  obtain ⟨h1, h2⟩ := hc
  obtain ⟨j, hj, rfl⟩ := nI_of (x := c) (by rw [Int32.lt_iff_toInt_lt, show (0 : Int32).toInt = 0 from by decide]; omega)
  rw [nI_toInt hj] at h1 h2 ⊢
  have key : ∀ j, j < 25 → (nI j - nI j / 8 * 8) = nI (j % 8) := by decide
  refine ⟨?_, by omega⟩
  rw [key j (by omega)]; exact congrArg nI (by omega)
theorem k8d {c x : Int32} (hc : kB c 1 24) (hx : x = c / 8) : x.toInt = c.toInt / 8 := by
  rw [hx, lg_idiv_nonneg (by have := hc.1; omega) (by decide)]; rfl
/-- how the reference comes by its last bottom: first the rest, then by bytes -/
def wEs (c x : Int) (V : Nat) : Nat := V * 2 ^ (8 * (c / 8 - x)).toNat % 4294967296
theorem wEs_0 {c : Int} {B : Nat} (h1 : 1 ≤ c) (h2 : c ≤ 24) : wEs c 0 (B * 2 ^ (c % 8).toNat % 4294967296) = wEb c B := by
  unfold wEs wEb
  rw [Nat.mod_mul_mod, Nat.mul_assoc, ← Nat.pow_add, show (c % 8).toNat + (8 * (c / 8 - 0)).toNat = c.toNat by omega]
theorem wEs_s {c x : Int} {V : Nat} (hx : x < c / 8) : wEs c (x + 1) (V * 2 ^ 8 % 4294967296) = wEs c x V := by
  unfold wEs
  rw [Nat.mod_mul_mod, Nat.mul_assoc, ← Nat.pow_add, show 8 + (8 * (c / 8 - (x + 1))).toNat = (8 * (c / 8 - x)).toNat by omega]
theorem wEs_e {c x : Int} {V : Nat} (hx : c / 8 ≤ x) (hV : V < 4294967296) : wEs c x V = V := by
  unfold wEs
  rw [show (8 * (c / 8 - x)).toNat = 0 by omega]; omega
/-! feeding -/
def kby (w : Int32) (i : Nat) : Int32 := nI (w.toBitVec.toNat / 2 ^ (24 - 8 * (i % 4)) % 256)
def wFk (fa fb fc fd : Int32) (i : Nat) : Int32 := kby (if i < 4 then fa else if i < 8 then fb else if i < 12 then fc else fd) i
def wFe (k : Nat → Int32) (z : Nat) : Nat → (Nat → Int32) → (Nat → Int32)
  | 0, f => f
  | n + 1, f => upd (wFe k z n f) (z + n) (k n)
theorem wFe_u {k : Nat → Int32} {f g : Nat → Int32} {s x s2 : Int} {v : Int32} {i : Nat} (hs : 0 ≤ s) (hx : 0 ≤ x) (hz : s2 = s + x) (hi : i = s2.toNat) (hg : g = wFe k s.toNat x.toNat f) (hv : v = k x.toNat) : upd g i v = wFe k s.toNat (x + 1).toNat f := by
  rw [show (x + 1).toNat = x.toNat + 1 by omega]
  show _ = upd (wFe k s.toNat x.toNat f) (s.toNat + x.toNat) (k x.toNat)
  rw [hi, hz, hg, hv, show (s + x).toNat = s.toNat + x.toNat by omega]
theorem wFk_1 {fa fb fc fd : Int32} {x : Int} (h : x < 4) : kby fa x.toNat = wFk fa fb fc fd x.toNat := by unfold wFk; rw [if_pos (by omega)]
theorem wFk_2 {fa fb fc fd : Int32} {x : Int} (h0 : 4 ≤ x) (h : x < 8) : kby fb x.toNat = wFk fa fb fc fd x.toNat := by unfold wFk; rw [if_neg (by omega), if_pos (by omega)]
theorem wFk_3 {fa fb fc fd : Int32} {x : Int} (h0 : 8 ≤ x) (h : x < 12) : kby fc x.toNat = wFk fa fb fc fd x.toNat := by unfold wFk; rw [if_neg (by omega), if_neg (by omega), if_pos (by omega)]
theorem wFk_4 {fa fb fc fd : Int32} {x : Int} (h0 : 12 ≤ x) : kby fd x.toNat = wFk fa fb fc fd x.toNat := by unfold wFk; rw [if_neg (by omega), if_neg (by omega), if_neg (by omega)]
theorem kby_amt : ∀ j, j < 16 → (24 : Int32) - 8 * (nI j - nI j / 4 * 4) = nI (24 - 8 * (j % 4)) := by decide
theorem kbyC {w x v : Int32} (hx : kB x 0 15) (hv : v = 24 - 8 * (x - x / 4 * 4)) : (w.toUInt32 >>> (v.toUInt32 &&& Int32.toUInt32 31)).toInt32 &&& 255 = kby w x.toInt.toNat := by
  obtain ⟨h1, h2⟩ := hx
  obtain ⟨j, hj, rfl⟩ := nI_of (x := x) (by rw [Int32.lt_iff_toInt_lt, show (0 : Int32).toInt = 0 from by decide]; omega)
  rw [nI_toInt hj] at h1 h2 ⊢
  have hj2 : j < 16 := by omega
  rw [hv, kby_amt j hj2, pk_and _ 8 (by decide), pk_ushr w _ _ (k31u _ (by omega)), Int.toNat_natCast]
  rfl
theorem kby_h {w y : Int32} {k : Nat} (hk : k = 0 ∨ k = 8 ∨ k = 16 ∨ k = 24) (e : y.toInt = w.toInt / ((2 ^ k : Nat) : Int)) : y.toBitVec.toNat % 256 = w.toBitVec.toNat / 2 ^ k % 256 := by
  have e1 : y.toInt = if 2 * y.toBitVec.toNat < 2 ^ 32 then (y.toBitVec.toNat : Int) else (y.toBitVec.toNat : Int) - (2 ^ 32 : Nat) := BitVec.toInt_eq_toNat_cond _
  have e2 : w.toInt = if 2 * w.toBitVec.toNat < 2 ^ 32 then (w.toBitVec.toNat : Int) else (w.toBitVec.toNat : Int) - (2 ^ 32 : Nat) := BitVec.toInt_eq_toNat_cond _
  rcases hk with rfl | rfl | rfl | rfl
  · have e3 : y.toInt = w.toInt / 1 := e
    split at e1 <;> split at e2 <;> omega
  · have e3 : y.toInt = w.toInt / 256 := e
    split at e1 <;> split at e2 <;> omega
  · have e3 : y.toInt = w.toInt / 65536 := e
    split at e1 <;> split at e2 <;> omega
  · have e3 : y.toInt = w.toInt / 16777216 := e
    split at e1 <;> split at e2 <;> omega
theorem kbyM {w x v : Int32} (hx : kB x 0 15) (hv : v = 24 - 8 * (x - x / 4 * 4)) : (w >>> (v &&& 31)) &&& 255 = kby w x.toInt.toNat := by
  obtain ⟨h1, h2⟩ := hx
  obtain ⟨j, hj, rfl⟩ := nI_of (x := x) (by rw [Int32.lt_iff_toInt_lt, show (0 : Int32).toInt = 0 from by decide]; omega)
  rw [nI_toInt hj] at h1 h2 ⊢
  have hj2 : j < 16 := by omega
  rw [hv, kby_amt j hj2, pk_and _ 8 (by decide), Int.toNat_natCast]
  have e := pk_shr w (nI (24 - 8 * (j % 4)) &&& 31) (24 - 8 * (j % 4)) (k31 _ (by omega))
  rw [Int.shiftRight_eq_div_pow] at e
  unfold kby
  exact congrArg nI (kby_h (by omega) e)
theorem wPut_lt (p : Int) (bt : Nat → Int) : ∀ (n : Nat) (s : Int × Int × Int × Nat × (Nat → Int32)), s.2.2.2.1 < 4294967296 → (wPut p bt n s).2.2.2.1 < 4294967296
  | 0, _, h => h
  | n + 1, s, h => wPut_lt p bt n _ (wIt_lt _ _ (wB1_lt h))
/-! bytes are bytes -/
/-- C, then P; not seen by arithmetic -/
def kIf (C P : Prop) : Prop := C → P
theorem kA_wCar : ∀ (n : Nat) (f : Nat → Int32), kA f 0 255 → kA (wCar n f) 0 255
  | 0, _, h => h
  | n + 1, f, h => by
    show kA (if f n = 255 then wCar n (upd f n 0) else upd f n (f n + 1)) 0 255
    by_cases q : f n = 255
    · rw [if_pos q]; exact kA_wCar n _ (kA_up h ⟨by decide, by decide⟩)
    · rw [if_neg q]
      have h1 := (h n).1
      have h2 := (h n).2
      have h3 : ¬ (f n).toInt = 255 := fun e => q (Int32.toInt_inj.mp (by rw [e]; decide))
      have e := kinc (x := f n) ⟨by omega, by omega⟩
      exact kA_up h ⟨by rw [e]; omega, by rw [e]; omega⟩
theorem kB_nI {n : Nat} (h : n < 256) : kB (nI n) 0 255 := ⟨by rw [nI_toInt (by omega)]; omega, by rw [nI_toInt (by omega)]; omega⟩
theorem kA_wF {z B : Nat} {f : Nat → Int32} (h : kA f 0 255) : kA (wF z B f) 0 255 := by
  unfold wF; split
  · exact kA_wCar _ _ h
  · exact h
theorem kA_wSh {s : Int × Int × Nat × (Nat → Int32)} (h : kA s.2.2.2 0 255) : kA (wSh s).2.2.2 0 255 := by
  unfold wSh; split
  · exact kA_up (kA_wF h) (kB_nI (by have : 2 * s.2.2.1 % 4294967296 < 4294967296 := Nat.mod_lt _ (by decide); omega))
  · exact kA_wF h
theorem kA_wIt : ∀ (n : Nat) (s : Int × Int × Nat × (Nat → Int32)), kA s.2.2.2 0 255 → kA (wIt n s).2.2.2 0 255
  | 0, _, h => h
  | n + 1, s, h => kA_wIt n (wSh s) (kA_wSh h)
theorem kA_wPut (p : Int) (bt : Nat → Int) : ∀ (n : Nat) (s : Int × Int × Int × Nat × (Nat → Int32)), kA s.2.2.2.2 0 255 → kA (wPut p bt n s).2.2.2.2 0 255
  | 0, _, h => h
  | n + 1, s, h => kA_wPut p bt n _ (kA_wIt _ _ h)
theorem kA_wAp : ∀ (n : Nat) (s : Int × Nat × (Nat → Int32)), s.2.1 < 4294967296 → kA s.2.2 0 255 → kA (wAp n s).2.2 0 255
  | 0, _, _, h => h
  | n + 1, s, hs, h => kA_wAp n _ (Nat.mod_lt _ (by decide)) (kA_up h (kB_nI (by omega)))
theorem kA_wEf {c : Int} {z B : Nat} {f : Nat → Int32} (h : kA f 0 255) : kA (wEf c z B f) 0 255 := by
  unfold wEf; split
  · exact kA_wCar _ _ h
  · exact h
theorem kA_wFe {fa fb fc fd : Int32} {z : Nat} {f : Nat → Int32} (h : kA f 0 255) : ∀ n : Nat, kA (wFe (wFk fa fb fc fd) z n f) 0 255
  | 0 => h
  | n + 1 => kA_up (kA_wFe h n) (kB_nI (Nat.mod_lt _ (by decide)))
theorem afX {f f2 X : Nat → Int32} {r : Int32} (h : kA f 0 255) (hx : kA X 0 255) (w : (r = 0 → f2 = X) ∧ (¬ r = 0 → f2 = f)) : kA f2 0 255 := by
  by_cases q : r = 0
  · rw [w.1 q]; exact hx
  · rw [w.2 q]; exact h
theorem afP {f f2 X : Nat → Int32} {r : Int32} {P Q : Prop} (h : kA f 0 255) (hx : kA X 0 255) (w : (r = 0 → P ∧ f2 = X) ∧ (¬ r = 0 → Q ∧ f2 = f)) : kA f2 0 255 := by
  by_cases q : r = 0
  · rw [(w.1 q).2]; exact hx
  · rw [(w.2 q).2]; exact h
/-! reading with probability 128, few bits, to the bit: value v, range r, doublings c -/
def rSp (r : Int) : Int := 1 + (r - 1) * 128 / 256
def rBt (v r : Int) : Int := if 256 * rSp r ≤ v then 1 else 0
def rV1 (v r : Int) : Int := if 256 * rSp r ≤ v then v - 256 * rSp r else v
def rR1 (v r : Int) : Int := if 256 * rSp r ≤ v then r - rSp r else rSp r
def rNx (v r c : Int) : Int × Int × Int := if rR1 v r < 128 then (2 * rV1 v r, 2 * rR1 v r, c + 1) else (rV1 v r, rR1 v r, c)
theorem rR1_in {v r : Int} (h1 : 128 ≤ r) (h2 : r ≤ 255) : 64 ≤ rR1 v r ∧ rR1 v r ≤ 128 := by unfold rR1 rSp; split <;> omega
theorem rV1_in {v r : Int} (h1 : 128 ≤ r) (h0 : 0 ≤ v) : 0 ≤ rV1 v r ∧ rV1 v r ≤ v := by unfold rV1 rSp; split <;> omega
theorem rNx_s {v r c : Int} (h : rR1 v r < 128) : rNx v r c = (2 * rV1 v r, 2 * rR1 v r, c + 1) := by unfold rNx; rw [if_pos h]
theorem rNx_n {v r c : Int} (h : 128 ≤ rR1 v r) : rNx v r c = (rV1 v r, rR1 v r, c) := by unfold rNx; rw [if_neg (by omega)]
theorem rNx_in {v r c : Int} (h0 : 0 ≤ v) (h1 : 128 ≤ r) : 0 ≤ (rNx v r c).1 ∧ (rNx v r c).1 ≤ 2 * v ∧ (rNx v r c).2.2 ≤ c + 1 := by
  have a := rV1_in (v := v) h1 h0
  unfold rNx; split
  · exact ⟨show 0 ≤ 2 * rV1 v r by omega, show 2 * rV1 v r ≤ 2 * v by omega, Int.le_refl _⟩
  · exact ⟨a.1, show rV1 v r ≤ 2 * v by omega, show c ≤ c + 1 by omega⟩
/-- what the loop of one bit holds: i rounds, the bit x, then value, range, doublings -/
def rL (v r c i x v2 r2 c2 : Int) : Prop := x = rBt v r ∧ ((i = 0 ∧ v2 = rV1 v r ∧ r2 = rR1 v r ∧ c2 = c) ∨ (128 ≤ r2 ∧ (v2, r2, c2) = rNx v r c))
theorem rL_0 {v r c s : Int} (h : v < 256 * s) (e : s = rSp r) : rL v r c 0 0 v s c := by
  subst e
  have q : ¬ 256 * rSp r ≤ v := by omega
  exact ⟨by unfold rBt; rw [if_neg q], Or.inl ⟨rfl, by unfold rV1; rw [if_neg q], by unfold rR1; rw [if_neg q], rfl⟩⟩
theorem rL_1 {v r c s v2 r2 : Int} (q : 256 * s ≤ v) (e : s = rSp r) (hv : v2 = v - 256 * s) (hr : r2 = r - s) : rL v r c 0 1 v2 r2 c := by
  subst e
  exact ⟨by unfold rBt; rw [if_pos q], Or.inl ⟨rfl, by unfold rV1; rw [if_pos q, hv], by unfold rR1; rw [if_pos q, hr], rfl⟩⟩
theorem rL_v {v r c i x v2 r2 c2 : Int} (h : rL v r c i x v2 r2 c2) (hr : r2 < 128) (h1 : 128 ≤ r) (h0 : 0 ≤ v) : 0 ≤ v2 ∧ v2 ≤ v ∧ c2 = c := by
  rcases h.2 with ⟨a, b, d, e⟩ | ⟨a, b⟩
  · have := rV1_in (v := v) h1 h0; exact ⟨by omega, by omega, e⟩
  · omega
theorem rL_s {v r c i x v2 r2 c2 i3 v3 r3 c3 : Int} (h : rL v r c i x v2 r2 c2) (hr : r2 < 128) (h1 : 128 ≤ r) (h2 : r ≤ 255) (e1 : v3 = 2 * v2) (e2 : r3 = 2 * r2) (e3 : c3 = c2 + 1) : rL v r c i3 x v3 r3 c3 := by
  rcases h with ⟨hx, ⟨a, b, d, e⟩ | ⟨a, b⟩⟩
  · have := rR1_in (v := v) h1 h2
    refine ⟨hx, Or.inr ⟨by omega, ?_⟩⟩
    rw [rNx_s (by omega), e1, e2, e3, b, d, e]
  · omega
theorem rL_e {v r c i x v2 r2 c2 : Int} (h : rL v r c i x v2 r2 c2) (hr : 128 ≤ r2 ∨ ¬ i = 0) : (v2, r2, c2) = rNx v r c := by
  rcases h with ⟨hx, ⟨a, b, d, e⟩ | ⟨a, b⟩⟩
  · rcases hr with hr | hr
    · rw [rNx_n (by omega), b, d, e]
    · exact absurd a hr
  · exact b
def rI : Nat → Int × Int × Int × Int → Int × Int × Int × Int
  | 0, s => s
  | n + 1, s => rI n (2 * s.1 + rBt s.2.1 s.2.2.1, rNx s.2.1 s.2.2.1 s.2.2.2)
theorem rI_s (n : Nat) (x v r c : Int) : rI (n + 1) (x, v, r, c) = rI n (2 * x + rBt v r, rNx v r c) := rfl
/-- the loop of two bits -/
def rM (v r c i x v2 r2 c2 : Int) : Prop := rI (2 - i).toNat (x, v2, r2, c2) = rI 2 (0, v, r, c) ∧ (i ≤ 1 → 0 ≤ v2 ∧ v2 ≤ 500000 + 500000 * i ∧ c2 ≤ 4 + i ∧ 0 ≤ x ∧ x ≤ i)
theorem rBt_in (v r : Int) : 0 ≤ rBt v r ∧ rBt v r ≤ 1 := by unfold rBt; split <;> omega
theorem rM_0 {v r c : Int} (h0 : 0 ≤ v) (h1 : v ≤ 500000) (h2 : c ≤ 4) : rM v r c 0 0 v r c := ⟨rfl, fun _ => ⟨h0, by omega, by omega, by omega, by omega⟩⟩
theorem rM_s {v r c i x v2 r2 c2 i3 x3 v3 r3 c3 b : Int} (h : rM v r c i x v2 r2 c2) (hi0 : 0 ≤ i) (hi : i ≤ 1) (hr : 128 ≤ r2) (hb : b = rBt v2 r2) (e : (v3, r3, c3) = rNx v2 r2 c2) (ei : i3 = i + 1) (ex : x3 = 2 * x + b) : rM v r c i3 x3 v3 r3 c3 := by
  obtain ⟨a, k⟩ := h
  obtain ⟨k1, k2, k3, k4, k5⟩ := k hi
  have hB := rBt_in v2 r2
  have hN := rNx_in (c := c2) k1 hr
  rw [← e] at hN
  obtain ⟨n1, n2, n3⟩ := hN
  have n1 : 0 ≤ v3 := n1
  have n2 : v3 ≤ 2 * v2 := n2
  have n3 : c3 ≤ c2 + 1 := n3
  refine ⟨?_, fun h3 => ⟨n1, by omega, by omega, by omega, by omega⟩⟩
  rw [show (2 - i).toNat = (2 - i3).toNat + 1 by omega, rI_s, ← e, ← hb, ← ex] at a
  exact a
theorem rM_e {v r c i x v2 r2 c2 : Int} (h : rM v r c i x v2 r2 c2) (hi : i = 2) : (x, v2, r2, c2) = rI 2 (0, v, r, c) := by
  have a := h.1
  rw [hi] at a; exact a
theorem kshl8 {x : Int32} (h : kB x 0 1000) : (x <<< ((8 : Int32) &&& 31)).toInt = 256 * x.toInt := by
  obtain ⟨h1, h2⟩ := h
  obtain ⟨j, hj, rfl⟩ := nI_of (x := x) (by rw [Int32.lt_iff_toInt_lt, show (0 : Int32).toInt = 0 from by decide]; omega)
  rw [nI_toInt hj] at h1 h2 ⊢
  rw [pk_shlN _ 8 (by decide) (by omega), nI_toInt (by omega)]; omega
theorem kmul256 {x : Int32} (h : kB x 0 1000) : ((256 : Int32) * x).toInt = 256 * x.toInt := by
  have c1 : (256 : Int32).toInt = 256 := by decide
  rw [kI_mul (by rw [c1]; have := h.1; omega) (by rw [c1]; have := h.2; omega), c1]
theorem kmin_r {x y : Int32} (h : x.toInt ≤ y.toInt) : (if y < x then y else x) = x := by
  rw [if_neg (fun q => by have := Int32.lt_iff_toInt_lt.mp q; omega)]
/-- the value when reading begins -/
def rA0 (sz : Int32) (f : Nat → Int32) (k : Nat) : Int := if (k : Int) < sz.toInt then (f k).toInt else 0
def rV0 (sz : Int32) (f : Nat → Int32) : Int := 256 * rA0 sz f 0 + rA0 sz f 1
theorem rA0_in {sz : Int32} {f : Nat → Int32} (h : kA f 0 255) (k : Nat) : 0 ≤ rA0 sz f k ∧ rA0 sz f k ≤ 255 := by
  unfold rA0; split
  · exact h k
  · omega
theorem rA0_e {sz k : Int32} {f : Nat → Int32} (hk : 0 ≤ k.toInt) : (if 0 ≤ k.toInt ∧ k.toInt < sz.toInt then f k.toNatClampNeg else 0).toInt = rA0 sz f k.toInt.toNat := by
  unfold rA0
  by_cases q : k.toInt < sz.toInt
  · rw [if_pos ⟨hk, q⟩, if_pos (by omega)]; rfl
  · rw [if_neg (fun h => q h.2), if_neg (by omega)]; rfl
theorem rV0_in {sz : Int32} {f : Nat → Int32} (h : kA f 0 255) : 0 ≤ rV0 sz f ∧ rV0 sz f ≤ 65535 := by
  have a := rA0_in (sz := sz) h 0
  have b := rA0_in (sz := sz) h 1
  unfold rV0; omega
theorem rV0_x {sz a b v : Int32} {f : Nat → Int32} (h : kA f 0 255) (ha : a.toInt = rA0 sz f 0) (hb : b.toInt = rA0 sz f 1) (hv : v.toInt = 256 * a.toInt) : (v + b).toInt = rV0 sz f := by
  have p := rA0_in (sz := sz) h 0
  have q := rA0_in (sz := sz) h 1
  rw [kI_add (by omega) (by omega)]; unfold rV0; omega
theorem rV0_C {sz va : Int32} {f : Nat → Int32} (h : kA f 0 255) (e : va = ((if 0 ≤ (0 : Int32).toInt ∧ (0 : Int32).toInt < sz.toInt then f (0 : Int32).toNatClampNeg else 0) <<< ((8 : Int32) &&& 31)) + (if 0 ≤ (1 : Int32).toInt ∧ (1 : Int32).toInt < sz.toInt then f (1 : Int32).toNatClampNeg else 0)) : va.toInt = rV0 sz f := by
  have a := rA0_e (sz := sz) (k := 0) (f := f) (by decide)
  have b := rA0_e (sz := sz) (k := 1) (f := f) (by decide)
  have p := rA0_in (sz := sz) h 0
  rw [e]
  exact rV0_x h a b (kshl8 ⟨by rw [a]; exact p.1, by rw [a]; have : rA0 sz f (0 : Int32).toInt.toNat ≤ 255 := p.2; omega⟩)
theorem rV0_M {sz va : Int32} {f : Nat → Int32} (h : kA f 0 255) (e : va = (256 : Int32) * (if 0 ≤ (0 : Int32).toInt ∧ (0 : Int32).toInt < sz.toInt then f (0 : Int32).toNatClampNeg else 0) + (if 0 ≤ (1 : Int32).toInt ∧ (1 : Int32).toInt < sz.toInt then f (1 : Int32).toNatClampNeg else 0)) : va.toInt = rV0 sz f := by
  have a := rA0_e (sz := sz) (k := 0) (f := f) (by decide)
  have b := rA0_e (sz := sz) (k := 1) (f := f) (by decide)
  have p := rA0_in (sz := sz) h 0
  rw [e]
  exact rV0_x h a b (kmul256 ⟨by rw [a]; exact p.1, by rw [a]; have : rA0 sz f (0 : Int32).toInt.toNat ≤ 255 := p.2; omega⟩)
/-- columns and rows out of the first four bits -/
def rCol (v : Int) : Int := 1 + (rI 2 (0, v, 255, 0)).1
def rRow (v : Int) : Int := 1 + (rI 2 (0, (rI 2 (0, v, 255, 0)).2)).1
theorem rI2_in {v r c : Int} (h0 : 0 ≤ v) (h1 : 128 ≤ r) (h2 : r ≤ 255) : 0 ≤ (rI 2 (0, v, r, c)).2.1 ∧ (rI 2 (0, v, r, c)).2.1 ≤ 4 * v ∧ (rI 2 (0, v, r, c)).2.2.2 ≤ c + 2 := by
  have a := rNx_in (c := c) h0 h1
  have hr := rR1_in (v := v) h1 h2
  have b : 128 ≤ (rNx v r c).2.1 := by
    unfold rNx; split
    · show 128 ≤ 2 * rR1 v r; omega
    · show 128 ≤ rR1 v r; omega
  have d := rNx_in (c := (rNx v r c).2.2) a.1 b
  refine ⟨d.1, Int.le_trans d.2.1 (by omega), Int.le_trans d.2.2 (by omega)⟩
