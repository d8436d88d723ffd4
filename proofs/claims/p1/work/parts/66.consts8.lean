/-! class and reference side by side -/
def kTW (bg wg sl sz mrg mct : Int32) : Prop := bg = 1 → kB wg 128 255 ∧ kB sl 1 24 ∧ kNF sl.toInt sz.toInt ∧ kB sz 0 595 ∧ mrg = wg ∧ mct = sl
def kTR (bg mrg mct mpl : Int32) (j : Nat) : Prop := bg = 2 → kB mrg 128 255 ∧ kB mct 0 7 ∧ 0 ≤ mpl.toInt ∧ mpl.toInt ≤ 2 + 224 * (j : Int)
theorem kTW_no {bg wg sl sz mrg mct : Int32} (h : ¬ bg = 1) : kTW bg wg sl sz mrg mct := fun q => absurd q h
theorem kTR_no {bg mrg mct mpl : Int32} {j : Nat} (h : ¬ bg = 2) : kTR bg mrg mct mpl j := fun q => absurd q h
theorem kTR_up {bg mrg mct mpl : Int32} {j : Nat} (h : kTR bg mrg mct mpl j) : kTR bg mrg mct mpl (j + 1) := fun q => by
  obtain ⟨a, b, c, d⟩ := h q
  exact ⟨a, b, c, by omega⟩
theorem kTW_w : kTW 1 255 24 0 255 24 := fun _ => ⟨⟨by decide, by decide⟩, ⟨by decide, by decide⟩, Or.inl ⟨by decide, by decide, by decide⟩, ⟨by decide, by decide⟩, rfl, rfl⟩
theorem kTR_r {j : Nat} : kTR 2 255 0 2 j := fun _ => ⟨⟨by decide, by decide⟩, ⟨by decide, by decide⟩, by decide, by rw [show (2 : Int32).toInt = 2 from by decide]; omega⟩
theorem ki {x y : Int32} (h : x.toInt = y.toInt) : x = y := Int32.toInt_inj.mp h
theorem tie_feed {bg sz wg sl mrg mct mpl bg2 sz2 r msz mbg mrf2 msz2 mbg2 r' fn : Int32} {f f2 mby mby2 : Nat → Int32} {g2 : Nat → Int64} {j : Nat} (tsz : msz = sz) (tbg : mbg = bg) (tw : kTW bg wg sl sz mrg mct) (tr : kTR bg mrg mct mpl j)
    (h1 : (r = 1 ∧ ¬ (0 ≤ fn.toInt ∧ fn.toInt ≤ 16) ∧ bg2 = bg ∧ sz2 = sz ∧ f2 = f) ∨ (r = 2 ∧ (0 ≤ fn.toInt ∧ fn.toInt ≤ 16) ∧ 600 < sz.toInt + fn.toInt ∧ bg2 = bg ∧ sz2 = sz ∧ f2 = f) ∨ (r = 0 ∧ (0 ≤ fn.toInt ∧ fn.toInt ≤ 16) ∧ sz.toInt + fn.toInt ≤ 600 ∧ bg2 = 0 ∧ sz2.toInt = sz.toInt + fn.toInt ∧ g2 0 = sz2.toInt64))
    (h2 : (¬ (0 ≤ fn.toInt ∧ fn.toInt ≤ 16) ∧ mrf2 = 1 ∧ r' = 0 ∧ msz2 = msz ∧ mbg2 = mbg ∧ mby2 = mby) ∨ ((0 ≤ fn.toInt ∧ fn.toInt ≤ 16) ∧ 600 < msz.toInt + fn.toInt ∧ mrf2 = 2 ∧ r' = 0 ∧ msz2 = msz ∧ mbg2 = mbg ∧ mby2 = mby) ∨ ((0 ≤ fn.toInt ∧ fn.toInt ≤ 16) ∧ msz.toInt + fn.toInt ≤ 600 ∧ mrf2 = 0 ∧ r' = msz2 ∧ msz2.toInt = msz.toInt + fn.toInt ∧ mbg2 = 0)) :
    msz2 = sz2 ∧ mbg2 = bg2 ∧ kTW bg2 wg sl sz2 mrg mct ∧ kTR bg2 mrg mct mpl (j + 1) ∧ mrf2 = r ∧ (r = 0 → g2 0 = r'.toInt64) := by
  subst tsz tbg
  rcases h1 with ⟨a1, a2, a3, a4, a5⟩ | ⟨a1, a2, a3, a4, a5, a6⟩ | ⟨a1, a2, a3, a4, a5, a6⟩ <;> rcases h2 with ⟨b1, b2, b3, b4, b5, b6⟩ | ⟨b1, b2, b3, b4, b5, b6, b7⟩ | ⟨b1, b2, b3, b4, b5, b6⟩
  all_goals first
    | exact absurd b1 a2
    | exact absurd a2 b1
    | (exfalso; omega)
    | (subst a1 a3 a4 b2 b3 b4 b5; exact ⟨rfl, rfl, tw, kTR_up tr, rfl, fun h => absurd h (by decide)⟩)
    | (subst a1 a4 a5 b3 b4 b5 b6; exact ⟨rfl, rfl, tw, kTR_up tr, rfl, fun h => absurd h (by decide)⟩)
    | (have e : msz2 = sz2 := ki (by omega)
       subst a1 a4 b3 b4 b6 e
       exact ⟨rfl, rfl, kTW_no (by decide), kTR_no (by decide), rfl, fun _ => a6⟩)
theorem tie_put {bg sz wg sl sz2 wg2 sl2 r msz mbg mrg mct mpl mrf2 msz2 mrg2 mct2 r' pp bi mn : Int32} {g2 : Nat → Int64} {j : Nat} (tsz : msz = sz) (tbg : mbg = bg) (tw : kTW bg wg sl sz mrg mct) (tr : kTR bg mrg mct mpl j)
    (h1 : (r = 1 ∧ ¬ ((1 ≤ pp.toInt ∧ pp.toInt ≤ 255) ∧ (0 ≤ mn.toInt ∧ mn.toInt ≤ 32)) ∧ sz2 = sz ∧ wg2 = wg ∧ sl2 = sl) ∨ (r = 2 ∧ ((1 ≤ pp.toInt ∧ pp.toInt ≤ 255) ∧ (0 ≤ mn.toInt ∧ mn.toInt ≤ 32)) ∧ ¬ (bg = 1 ∧ sz.toInt ≤ 560) ∧ sz2 = sz ∧ wg2 = wg ∧ sl2 = sl) ∨ (r = 0 ∧ ((1 ≤ pp.toInt ∧ pp.toInt ≤ 255) ∧ (0 ≤ mn.toInt ∧ mn.toInt ≤ 32)) ∧ bg = 1 ∧ sz.toInt ≤ 560 ∧ kB wg2 128 255 ∧ kB sl2 1 24 ∧ kNF sl2.toInt sz2.toInt ∧ kB sz2 0 595 ∧ (wg2.toInt, 8 * sz2.toInt - sl2.toInt) = (kput pp.toInt (kbt bi) mn.toInt.toNat (wg.toInt, 8 * sz.toInt - sl.toInt)) ∧ g2 0 = sz2.toInt64))
    (h2 : (¬ ((1 ≤ pp.toInt ∧ pp.toInt ≤ 255) ∧ (0 ≤ mn.toInt ∧ mn.toInt ≤ 32)) ∧ mrf2 = 1 ∧ r' = 0 ∧ msz2 = msz ∧ mrg2 = mrg ∧ mct2 = mct) ∨ (((1 ≤ pp.toInt ∧ pp.toInt ≤ 255) ∧ (0 ≤ mn.toInt ∧ mn.toInt ≤ 32)) ∧ ¬ (mbg = 1 ∧ msz.toInt ≤ 560) ∧ mrf2 = 2 ∧ r' = 0 ∧ msz2 = msz ∧ mrg2 = mrg ∧ mct2 = mct) ∨ (((1 ≤ pp.toInt ∧ pp.toInt ≤ 255) ∧ (0 ≤ mn.toInt ∧ mn.toInt ≤ 32)) ∧ mbg = 1 ∧ msz.toInt ≤ 560 ∧ mrf2 = 0 ∧ r' = msz2 ∧ kB mrg2 128 255 ∧ kB mct2 1 24 ∧ kNF mct2.toInt msz2.toInt ∧ kB msz2 0 595 ∧ (mrg2.toInt, 8 * msz2.toInt - mct2.toInt) = (kput pp.toInt (kbt bi) mn.toInt.toNat (mrg.toInt, 8 * msz.toInt - mct.toInt)))) :
    msz2 = sz2 ∧ kTW bg wg2 sl2 sz2 mrg2 mct2 ∧ kTR bg mrg2 mct2 mpl (j + 1) ∧ mrf2 = r ∧ (r = 0 → g2 0 = r'.toInt64) := by
  subst tsz tbg
  rcases h1 with ⟨a1, a2, a3, a4, a5⟩ | ⟨a1, a2, a3, a4, a5, a6⟩ | ⟨a1, a2, a3, a4, a5, a6, a7, a8, a9, a10⟩
  · rcases h2 with ⟨b1, b2, b3, b4, b5, b6⟩ | ⟨b1, b2, b3, b4, b5, b6, b7⟩ | ⟨b1, b2, b3, b4, b5, b6, b7, b8, b9, b10⟩
    · subst a1 a3 a4 a5 b2 b3 b4 b5 b6
      exact ⟨rfl, tw, kTR_up tr, rfl, fun h => absurd h (by decide)⟩
    · exact absurd b1 a2
    · exact absurd b1 a2
  · rcases h2 with ⟨b1, b2, b3, b4, b5, b6⟩ | ⟨b1, b2, b3, b4, b5, b6, b7⟩ | ⟨b1, b2, b3, b4, b5, b6, b7, b8, b9, b10⟩
    · exact absurd a2 b1
    · subst a1 a4 a5 a6 b3 b4 b5 b6 b7
      exact ⟨rfl, tw, kTR_up tr, rfl, fun h => absurd h (by decide)⟩
    · exact absurd ⟨b2, b3⟩ a3
  · rcases h2 with ⟨b1, b2, b3, b4, b5, b6⟩ | ⟨b1, b2, b3, b4, b5, b6, b7⟩ | ⟨b1, b2, b3, b4, b5, b6, b7, b8, b9, b10⟩
    · exact absurd a2 b1
    · exact absurd ⟨a3, a4⟩ b2
    · obtain ⟨t1, t2, t3, t4, t5, t6⟩ := tw a3
      rw [t5, t6, ← a9] at b10
      have e1 : mrg2.toInt = wg2.toInt := congrArg Prod.fst b10
      have e2 : 8 * msz2.toInt - mct2.toInt = 8 * sz2.toInt - sl2.toInt := congrArg Prod.snd b10
      have f1 : mrg2 = wg2 := ki e1
      have f2 : msz2 = sz2 := ki (by omega)
      have f3 : mct2 = sl2 := ki (by subst f2; omega)
      subst f1 f2 f3 a1 b4 b5
      exact ⟨rfl, fun _ => ⟨a5, a6, a7, a8, rfl, rfl⟩, kTR_no (fun h => absurd (a3.symm.trans h) (by decide)), rfl, fun _ => a10⟩
theorem tie_end {bg sz wg sl bg2 sz2 r msz mbg mrg mct mpl mrf2 msz2 mbg2 r' : Int32} {f f2 mby mby2 : Nat → Int32} {g2 : Nat → Int64} {j : Nat} (tsz : msz = sz) (tbg : mbg = bg) (tw : kTW bg wg sl sz mrg mct) (tr : kTR bg mrg mct mpl j)
    (h1 : (r = 1 ∧ ¬ bg = 1 ∧ bg2 = bg ∧ sz2 = sz ∧ f2 = f) ∨ (r = 0 ∧ bg = 1 ∧ bg2 = 0 ∧ sz2.toInt = sz.toInt + 4 ∧ g2 0 = sz2.toInt64))
    (h2 : (¬ mbg = 1 ∧ mrf2 = 1 ∧ r' = 0 ∧ msz2 = msz ∧ mbg2 = mbg ∧ mby2 = mby) ∨ (mbg = 1 ∧ mrf2 = 0 ∧ r' = msz2 ∧ msz2.toInt = msz.toInt + 4 ∧ mbg2 = 0)) :
    msz2 = sz2 ∧ mbg2 = bg2 ∧ kTW bg2 wg sl sz2 mrg mct ∧ kTR bg2 mrg mct mpl (j + 1) ∧ mrf2 = r ∧ (r = 0 → g2 0 = r'.toInt64) := by
  subst tsz tbg
  rcases h1 with ⟨a1, a2, a3, a4, a5⟩ | ⟨a1, a2, a3, a4, a5⟩ <;> rcases h2 with ⟨b1, b2, b3, b4, b5, b6⟩ | ⟨b1, b2, b3, b4, b5⟩
  · subst a1 a3 a4 b2 b3 b4 b5
    exact ⟨rfl, rfl, tw, kTR_up tr, rfl, fun h => absurd h (by decide)⟩
  · exact absurd b1 a2
  · exact absurd a2 b1
  · have e : msz2 = sz2 := ki (by omega)
    subst a1 a3 b2 b3 b5 e
    exact ⟨rfl, rfl, kTW_no (by decide), kTR_no (by decide), rfl, fun _ => a5⟩
theorem tie_get {bg sz wg sl mbg mrg mct mpl mrg2 mct2 mpl2 : Int32} {j : Nat} (tbg : mbg = bg) (tw : kTW bg wg sl sz mrg mct)
    (h1 : mbg = 2 → kB mrg2 128 255 ∧ kB mct2 0 7 ∧ 0 ≤ mpl2.toInt ∧ mpl2.toInt ≤ mpl.toInt + 224) (h2 : ¬ mbg = 2 → mrg2 = mrg ∧ mct2 = mct) (tr : kTR bg mrg mct mpl j) :
    kTW bg wg sl sz mrg2 mct2 ∧ kTR bg mrg2 mct2 mpl2 (j + 1) := by
  subst tbg
  refine ⟨fun q => ?_, fun q => ?_⟩
  · obtain ⟨e1, e2⟩ := h2 (fun h => absurd (q.symm.trans h) (by decide))
    rw [e1, e2]; exact tw q
  · obtain ⟨a, b, c, d⟩ := h1 q
    obtain ⟨-, -, -, t⟩ := tr q
    exact ⟨a, b, c, by omega⟩
theorem tie_rd {bg mbg mrg mct mpl : Int32} {j : Nat} (tbg : mbg = bg) (tr : kTR bg mrg mct mpl j) (hj : j ≤ 512) : mbg = 2 → kB mrg 128 255 ∧ kB mct 0 7 ∧ 0 ≤ mpl.toInt ∧ mpl.toInt ≤ 998000000 := fun q => by
  obtain ⟨a, b, c, d⟩ := tr (tbg ▸ q)
  exact ⟨a, b, c, by omega⟩
theorem tie_wt {bg wg sl sz mrg mct : Int32} (tw : kTW bg wg sl sz mrg mct) : bg = 1 → kB wg 128 255 ∧ kB sl 1 24 ∧ kNF sl.toInt sz.toInt := fun q => by
  obtain ⟨a, b, c, -⟩ := tw q; exact ⟨a, b, c⟩
theorem tie_wtM {bg wg sl sz mrg mct msz mbg : Int32} (tsz : msz = sz) (tbg : mbg = bg) (tw : kTW bg wg sl sz mrg mct) : mbg = 1 → kB mrg 128 255 ∧ kB mct 1 24 ∧ kNF mct.toInt msz.toInt := fun q => by
  obtain ⟨a, b, c, d, e, f⟩ := tw (tbg ▸ q); rw [e, f, tsz]; exact ⟨a, b, c⟩
theorem tie_we {bg wg sl sz mrg mct : Int32} (tw : kTW bg wg sl sz mrg mct) : bg = 1 → kB sl 1 24 ∧ kB sz 0 596 := fun q => by
  obtain ⟨a, b, c, d, -⟩ := tw q; exact ⟨b, kB_w d (by decide) (by decide)⟩
theorem tie_weM {bg wg sl sz mrg mct msz mbg : Int32} (tsz : msz = sz) (tbg : mbg = bg) (tw : kTW bg wg sl sz mrg mct) : mbg = 1 → kB mct 1 24 ∧ kB msz 0 596 := fun q => by
  obtain ⟨a, b, c, d, e, f⟩ := tw (tbg ▸ q); rw [f, tsz]; exact ⟨b, kB_w d (by decide) (by decide)⟩
theorem klc {g : Nat → Int64} {y : Int64} (h : g 0 = y) : lg_cmp (g (0 : Int32).toNatClampNeg) y = 0 := by
  rw [show (0 : Int32).toNatClampNeg = 0 from by decide, h]; simp [lg_cmp]
/-! bottoms and bytes alike -/
def kTB (bg bo : Int32) (mbt : Int64) : Prop := ∃ B : Nat, bg = 1 → bo = nI B ∧ mbt = lN B ∧ B < 4294967296
theorem kTB_no {bg bo : Int32} {mbt : Int64} (h : ¬ bg = 1) : kTB bg bo mbt := ⟨0, fun q => absurd q h⟩
theorem kTB_w : kTB 1 0 0 := ⟨0, fun _ => ⟨by decide, by decide, by decide⟩⟩
theorem kTB_or {bg bg2 bo : Int32} {mbt : Int64} (t : kTB bg bo mbt) (h : bg2 = bg ∨ bg2 = 0) : kTB bg2 bo mbt := by
  rcases h with h | h
  · rw [h]; exact t
  · exact kTB_no (by rw [h]; decide)
theorem tieX_f {f f2 mby mby2 X Y : Nat → Int32} {r mrf2 : Int32} (tf : mby = f) (hXY : r = 0 → Y = X) (hr : mrf2 = r) (h1 : (r = 0 → f2 = X) ∧ (¬ r = 0 → f2 = f)) (h2 : (mrf2 = 0 → mby2 = Y) ∧ (¬ mrf2 = 0 → mby2 = mby)) : mby2 = f2 := by
  subst hr
  by_cases q : mrf2 = 0
  · rw [h1.1 q, h2.1 q, hXY q]
  · rw [h1.2 q, h2.2 q, tf]
theorem tieX_put {bg sz wg sl msz mrg mct bo bo2 r mrf2 : Int32} {mbt mbt2 : Int64} {f f2 mby mby2 : Nat → Int32} {B n : Nat} {p : Int} {bt : Nat → Int} (tf : mby = f) (tsz : msz = sz) (hB : bg = 1 → bo = nI B ∧ mbt = lN B ∧ B < 4294967296) (tw : kTW bg wg sl sz mrg mct) (hr : mrf2 = r) (h0 : r = 0 → bg = 1)
    (h1 : (r = 0 → bo2 = nI (wPut p bt n (wg.toInt, sl.toInt, sz.toInt, B, f)).2.2.2.1 ∧ f2 = (wPut p bt n (wg.toInt, sl.toInt, sz.toInt, B, f)).2.2.2.2) ∧ (¬ r = 0 → bo2 = bo ∧ f2 = f))
    (h2 : (mrf2 = 0 → mbt2 = lN (wPut p bt n (mrg.toInt, mct.toInt, msz.toInt, B, mby)).2.2.2.1 ∧ mby2 = (wPut p bt n (mrg.toInt, mct.toInt, msz.toInt, B, mby)).2.2.2.2) ∧ (¬ mrf2 = 0 → mbt2 = mbt ∧ mby2 = mby)) : mby2 = f2 ∧ kTB bg bo2 mbt2 := by
  subst hr tsz tf
  by_cases q : mrf2 = 0
  · obtain ⟨t1, t2, t3, t4, t5, t6⟩ := tw (h0 q)
    obtain ⟨a1, a2⟩ := h1.1 q
    obtain ⟨b1, b2⟩ := h2.1 q
    rw [t5, t6] at b1 b2
    exact ⟨b2.trans a2.symm, _, fun _ => ⟨a1, b1, wPut_lt _ _ _ _ (hB (h0 q)).2.2⟩⟩
  · obtain ⟨a1, a2⟩ := h1.2 q
    obtain ⟨b1, b2⟩ := h2.2 q
    rw [a1, a2, b1, b2]
    exact ⟨rfl, B, hB⟩
theorem tieX_end {bg sz wg sl msz mrg mct r mrf2 : Int32} {f f2 mby mby2 : Nat → Int32} {B : Nat} (tf : mby = f) (tsz : msz = sz) (tw : kTW bg wg sl sz mrg mct) (hr : mrf2 = r) (h0 : r = 0 → bg = 1)
    (h1 : (r = 0 → f2 = (wAp 4 (sz.toInt, wEb sl.toInt B, wEf sl.toInt sz.toInt.toNat B f)).2.2) ∧ (¬ r = 0 → f2 = f))
    (h2 : (mrf2 = 0 → mby2 = (wAp 4 (msz.toInt, wEb mct.toInt B, wEf mct.toInt msz.toInt.toNat B mby)).2.2) ∧ (¬ mrf2 = 0 → mby2 = mby)) : mby2 = f2 := by
  refine tieX_f tf (fun q => ?_) hr h1 h2
  obtain ⟨t1, t2, t3, t4, t5, t6⟩ := tw (h0 q)
  rw [tf, tsz, t6]
/-! the answers of a fresh object -/
theorem tie_fr {P : Prop} {k m r z : Int32} {g : Int64} (h1 : (k = 1 ∧ ¬ P) ∨ (k = 0 ∧ P)) (h2 : (m = 1 ∧ ¬ P) ∨ (m = 0 ∧ P)) (h3 : k = 0 → g = z.toInt64) (h4 : m = 0 → r = z) : m = k ∧ (k = 0 → g = r.toInt64) := by
  rcases h1 with ⟨a1, a2⟩ | ⟨a1, a2⟩ <;> rcases h2 with ⟨b1, b2⟩ | ⟨b1, b2⟩
  · exact ⟨b1.trans a1.symm, fun h => absurd (a1.symm.trans h) (by decide)⟩
  · exact absurd b2 a2
  · exact absurd a2 b2
  · exact ⟨b1.trans a1.symm, fun h => by rw [h3 h, h4 b1]⟩
theorem tie_frg {P : Prop} {k m bg mbg : Int32} (h1 : (k = 1 ∧ ¬ P) ∨ (k = 2 ∧ P ∧ ¬ bg = 2) ∨ (k = 0 ∧ bg = 2)) (h2 : (m = 1 ∧ ¬ P) ∨ (m = 2 ∧ P ∧ ¬ mbg = 2) ∨ (m = 0 ∧ mbg = 2)) (hb : bg = 0) (hm : mbg = bg) : m = k ∧ (∀ {Q : Prop}, k = 0 → Q) := by
  have n1 : ¬ bg = 2 := fun h => absurd (hb.symm.trans h) (by decide)
  have n2 : ¬ mbg = 2 := fun h => n1 (hm.symm.trans h)
  rcases h1 with ⟨a1, a2⟩ | ⟨a1, a2, a3⟩ | ⟨a1, a2⟩ <;> rcases h2 with ⟨b1, b2⟩ | ⟨b1, b2, b3⟩ | ⟨b1, b2⟩
  all_goals first
    | exact absurd b2 n2
    | exact absurd a2 n1
    | exact absurd b2 a2
    | exact absurd a2 b2
    | exact ⟨b1.trans a1.symm, fun {_} h => absurd (a1.symm.trans h) (by decide)⟩
theorem kN_in : ∀ w ∈ kNs ++ kNf, w ∈ lw_tbl := by decide +kernel
theorem karrI {args : Array Value} {s : State} (h : (Cond.arrayClass .int).before args s = true) : ∃ cA : ClassId, ArrOfT s cA .int ∧ va_RA s cA .int := by
  obtain ⟨cA, kA, comp, h1, h2, h3⟩ := Cond.arrayClass_spec h
  exact ⟨cA, fun n z => ⟨fun k h => (by cases h), kA, h2, comp, h3⟩, h1⟩
theorem karrJ {args : Array Value} {s : State} (h : (Cond.arrayClass .long).before args s = true) : ∃ cA : ClassId, ArrOfT s cA .long ∧ va_RA s cA .long := by
  obtain ⟨cA, kA, comp, h1, h2, h3⟩ := Cond.arrayClass_spec h
  exact ⟨cA, fun n z => ⟨fun k h => (by cases h), kA, h2, comp, h3⟩, h1⟩
theorem karrZ {args : Array Value} {s : State} (h : (Cond.arrayClass .boolean).before args s = true) : ∃ cA : ClassId, ArrOfT s cA .boolean ∧ va_RA s cA .boolean := by
  obtain ⟨cA, kA, comp, h1, h2, h3⟩ := Cond.arrayClass_spec h
  exact ⟨cA, fun n z => ⟨fun k h => (by cases h), kA, h2, comp, h3⟩, h1⟩
set_option maxRecDepth 100000 in
theorem law_kK {b : Nat} {s : State} (hts : ∀ w ∈ kW, w.before #[Value.ref b] s = true) (hts0 : ∀ w ∈ lw_tbl, w.before #[Value.ref b] s = true) : ∃ (D : va_G) (cI cJ cZ : ClassId), kK D cI cJ cZ s := by
  obtain ⟨c0, i0, k0⟩ := u_known (C := RX0) (T := TX0) (N := 5) (n := 5) hts in_X0 (hts0 (.instantiable RX0 5) (by decide +kernel))
  obtain ⟨c1, i1, k1⟩ := u_known (C := RX1) (T := TX1) (N := 4) (n := 4) hts in_X1 (hts0 (.instantiable RX1 4) (by decide +kernel))
  obtain ⟨c2, i2, k2⟩ := u_known (C := RX2) (T := TX2) (N := 1) (n := 1) hts in_X2 (hts0 (.instantiable RX2 1) (by decide +kernel))
  obtain ⟨c3, i3, k3⟩ := u_known (C := RX3) (T := TX3) (N := 2) (n := 2) hts in_X3 (hts0 (.instantiable RX3 2) (by decide +kernel))
  obtain ⟨c4, i4, k4⟩ := u_known (C := RX4) (T := TX4) (N := 14) (n := 14) hts in_X4 (hts0 (.instantiable RX4 14) (by decide +kernel))
  obtain ⟨c5, i5, k5⟩ := u_known (C := RX5) (T := TX5) (N := 1) (n := 1) hts in_X5 (hts0 (.instantiable RX5 1) (by decide +kernel))
  obtain ⟨c6, i6, k6⟩ := u_known (C := RX6) (T := TX6) (N := 1) (n := 1) hts in_X6 (hts0 (.instantiable RX6 1) (by decide +kernel))
  obtain ⟨c7, i7, k7⟩ := u_known (C := RX7) (T := TX7) (N := 5) (n := 5) hts in_X7 (hts0 (.instantiable RX7 5) (by decide +kernel))
  obtain ⟨c8, i8, k8⟩ := u_known (C := RX8) (T := TX8) (N := 22) (n := 22) hts in_X8 (hts0 (.instantiable RX8 22) (by decide +kernel))
  obtain ⟨cI, hI⟩ := karrI (hts0 (.arrayClass .int) (by decide +kernel))
  obtain ⟨cJ, hJ⟩ := karrJ (hts0 (.arrayClass .long) (by decide +kernel))
  obtain ⟨cZ, hZ⟩ := karrZ (hts0 (.arrayClass .boolean) (by decide +kernel))
  refine ⟨(fun k => if k = 0 then c0 else if k = 1 then c1 else if k = 2 then c2 else if k = 3 then c3 else if k = 4 then c4 else if k = 5 then c5 else if k = 6 then c6 else if k = 7 then c7 else c8, fun k => if k = 0 then i0 else if k = 1 then i1 else if k = 2 then i2 else if k = 3 then i3 else if k = 4 then i4 else if k = 5 then i5 else if k = 6 then i6 else if k = 7 then i7 else i8), cI, cJ, cZ, ⟨⟨?_, ?_⟩, fun w hw => va_Nw.of (kN_tab w hw) (hts0 w (kN_in w hw))⟩⟩
  · intro k q hq
    match k, hq with
    | 0, hq => cases hq; exact k0
    | 1, hq => cases hq; exact k1
    | 2, hq => cases hq; exact k2
    | 3, hq => cases hq; exact k3
    | 4, hq => cases hq; exact k4
    | 5, hq => cases hq; exact k5
    | 6, hq => cases hq; exact k6
    | 7, hq => cases hq; exact k7
    | 8, hq => cases hq; exact k8
    | k + 9, hq => simp [vwCl] at hq
  · intro k q hq
    match k, hq with
    | 0, hq => cases hq; exact hI
    | 1, hq => cases hq; exact hJ
    | 2, hq => cases hq; exact hZ
    | k + 3, hq => simp at hq
set_option maxRecDepth 100000 in
theorem law_BANDS {b : Nat} {s : State} {A : Nat → Prop} (hgv : (Jvm.Cond.and given_1 narrow_1).before #[Value.ref b] s = true) (hts0 : ∀ w ∈ lw_tbl, w.before #[Value.ref b] s = true) (hA0 : ∀ a : Nat, a < s.heap.size → ¬ A a) : kT1 RX2 "BANDS" 16 tl_BANDS A s s.heap := by
  have hs := flat_of_before _ hgv
  obtain ⟨t, ht, hT⟩ := va_Tof (tm := (.static RX2 "BANDS" "[I")) (ty := .int) (N := 16) (f := fun j => .int (tl_BANDS.getD j 0)) (by decide) (hs (.arrayOf (.static RX2 "BANDS" "[I") .int) (by decide +kernel)) (va_eqt (hs (.eq (.length (.static RX2 "BANDS" "[I")) (.int 16)) (by decide +kernel))) (fun j hj => by
    rcases (show j = 0 ∨ j = 1 ∨ j = 2 ∨ j = 3 ∨ j = 4 ∨ j = 5 ∨ j = 6 ∨ j = 7 ∨ j = 8 ∨ j = 9 ∨ j = 10 ∨ j = 11 ∨ j = 12 ∨ j = 13 ∨ j = 14 ∨ j = 15 by omega) with rfl | rfl | rfl | rfl | rfl | rfl | rfl | rfl | rfl | rfl | rfl | rfl | rfl | rfl | rfl | rfl
    · exact va_eqt (hs (.eq (.elem (.static RX2 "BANDS" "[I") (.int 0)) (.int 0)) (by decide +kernel))
    · exact va_eqt (hs (.eq (.elem (.static RX2 "BANDS" "[I") (.int 1)) (.int 1)) (by decide +kernel))
    · exact va_eqt (hs (.eq (.elem (.static RX2 "BANDS" "[I") (.int 2)) (.int 2)) (by decide +kernel))
    · exact va_eqt (hs (.eq (.elem (.static RX2 "BANDS" "[I") (.int 3)) (.int 3)) (by decide +kernel))
    · exact va_eqt (hs (.eq (.elem (.static RX2 "BANDS" "[I") (.int 4)) (.int 6)) (by decide +kernel))
    · exact va_eqt (hs (.eq (.elem (.static RX2 "BANDS" "[I") (.int 5)) (.int 4)) (by decide +kernel))
    · exact va_eqt (hs (.eq (.elem (.static RX2 "BANDS" "[I") (.int 6)) (.int 5)) (by decide +kernel))
    · exact va_eqt (hs (.eq (.elem (.static RX2 "BANDS" "[I") (.int 7)) (.int 6)) (by decide +kernel))
    · exact va_eqt (hs (.eq (.elem (.static RX2 "BANDS" "[I") (.int 8)) (.int 6)) (by decide +kernel))
    · exact va_eqt (hs (.eq (.elem (.static RX2 "BANDS" "[I") (.int 9)) (.int 6)) (by decide +kernel))
    · exact va_eqt (hs (.eq (.elem (.static RX2 "BANDS" "[I") (.int 10)) (.int 6)) (by decide +kernel))
    · exact va_eqt (hs (.eq (.elem (.static RX2 "BANDS" "[I") (.int 11)) (.int 6)) (by decide +kernel))
    · exact va_eqt (hs (.eq (.elem (.static RX2 "BANDS" "[I") (.int 12)) (.int 6)) (by decide +kernel))
    · exact va_eqt (hs (.eq (.elem (.static RX2 "BANDS" "[I") (.int 13)) (.int 6)) (by decide +kernel))
    · exact va_eqt (hs (.eq (.elem (.static RX2 "BANDS" "[I") (.int 14)) (.int 6)) (by decide +kernel))
    · exact va_eqt (hs (.eq (.elem (.static RX2 "BANDS" "[I") (.int 15)) (.int 7)) (by decide +kernel))
    ) hA0
  exact ⟨t, va_Zref (hts0 (.laysStatic RX2 "BANDS" "[I") (by decide +kernel)) (hts0 (.initialized RX2) (by decide +kernel)) ht hA0, hT⟩
set_option maxRecDepth 100000 in
theorem law_LEAST {b : Nat} {s : State} {A : Nat → Prop} (hgv : (Jvm.Cond.and given_1 narrow_1).before #[Value.ref b] s = true) (hts0 : ∀ w ∈ lw_tbl, w.before #[Value.ref b] s = true) (hA0 : ∀ a : Nat, a < s.heap.size → ¬ A a) : kT1 RX2 "LEAST" 6 tl_LEAST A s s.heap := by
  have hs := flat_of_before _ hgv
  obtain ⟨t, ht, hT⟩ := va_Tof (tm := (.static RX2 "LEAST" "[I")) (ty := .int) (N := 6) (f := fun j => .int (tl_LEAST.getD j 0)) (by decide) (hs (.arrayOf (.static RX2 "LEAST" "[I") .int) (by decide +kernel)) (va_eqt (hs (.eq (.length (.static RX2 "LEAST" "[I")) (.int 6)) (by decide +kernel))) (fun j hj => by
    rcases (show j = 0 ∨ j = 1 ∨ j = 2 ∨ j = 3 ∨ j = 4 ∨ j = 5 by omega) with rfl | rfl | rfl | rfl | rfl | rfl
    · exact va_eqt (hs (.eq (.elem (.static RX2 "LEAST" "[I") (.int 0)) (.int 5)) (by decide +kernel))
    · exact va_eqt (hs (.eq (.elem (.static RX2 "LEAST" "[I") (.int 1)) (.int 7)) (by decide +kernel))
    · exact va_eqt (hs (.eq (.elem (.static RX2 "LEAST" "[I") (.int 2)) (.int 11)) (by decide +kernel))
    · exact va_eqt (hs (.eq (.elem (.static RX2 "LEAST" "[I") (.int 3)) (.int 19)) (by decide +kernel))
    · exact va_eqt (hs (.eq (.elem (.static RX2 "LEAST" "[I") (.int 4)) (.int 35)) (by decide +kernel))
    · exact va_eqt (hs (.eq (.elem (.static RX2 "LEAST" "[I") (.int 5)) (.int 67)) (by decide +kernel))
    ) hA0
  exact ⟨t, va_Zref (hts0 (.laysStatic RX2 "LEAST" "[I") (by decide +kernel)) (hts0 (.initialized RX2) (by decide +kernel)) ht hA0, hT⟩
set_option maxRecDepth 100000 in
theorem law_EXTRA_FROM {b : Nat} {s : State} {A : Nat → Prop} (hgv : (Jvm.Cond.and given_1 narrow_1).before #[Value.ref b] s = true) (hts0 : ∀ w ∈ lw_tbl, w.before #[Value.ref b] s = true) (hA0 : ∀ a : Nat, a < s.heap.size → ¬ A a) : kT1 RX2 "EXTRA_FROM" 7 tl_EXTRA_FROM A s s.heap := by
  have hs := flat_of_before _ hgv
  obtain ⟨t, ht, hT⟩ := va_Tof (tm := (.static RX2 "EXTRA_FROM" "[I")) (ty := .int) (N := 7) (f := fun j => .int (tl_EXTRA_FROM.getD j 0)) (by decide) (hs (.arrayOf (.static RX2 "EXTRA_FROM" "[I") .int) (by decide +kernel)) (va_eqt (hs (.eq (.length (.static RX2 "EXTRA_FROM" "[I")) (.int 7)) (by decide +kernel))) (fun j hj => by
    rcases (show j = 0 ∨ j = 1 ∨ j = 2 ∨ j = 3 ∨ j = 4 ∨ j = 5 ∨ j = 6 by omega) with rfl | rfl | rfl | rfl | rfl | rfl | rfl
    · exact va_eqt (hs (.eq (.elem (.static RX2 "EXTRA_FROM" "[I") (.int 0)) (.int 0)) (by decide +kernel))
    · exact va_eqt (hs (.eq (.elem (.static RX2 "EXTRA_FROM" "[I") (.int 1)) (.int 1)) (by decide +kernel))
    · exact va_eqt (hs (.eq (.elem (.static RX2 "EXTRA_FROM" "[I") (.int 2)) (.int 3)) (by decide +kernel))
    · exact va_eqt (hs (.eq (.elem (.static RX2 "EXTRA_FROM" "[I") (.int 3)) (.int 6)) (by decide +kernel))
    · exact va_eqt (hs (.eq (.elem (.static RX2 "EXTRA_FROM" "[I") (.int 4)) (.int 10)) (by decide +kernel))
    · exact va_eqt (hs (.eq (.elem (.static RX2 "EXTRA_FROM" "[I") (.int 5)) (.int 15)) (by decide +kernel))
    · exact va_eqt (hs (.eq (.elem (.static RX2 "EXTRA_FROM" "[I") (.int 6)) (.int 26)) (by decide +kernel))
    ) hA0
  exact ⟨t, va_Zref (hts0 (.laysStatic RX2 "EXTRA_FROM" "[I") (by decide +kernel)) (hts0 (.initialized RX2) (by decide +kernel)) ht hA0, hT⟩
set_option maxRecDepth 100000 in
theorem law_EXTRA {b : Nat} {s : State} {A : Nat → Prop} (hgv : (Jvm.Cond.and given_1 narrow_1).before #[Value.ref b] s = true) (hts0 : ∀ w ∈ lw_tbl, w.before #[Value.ref b] s = true) (hA0 : ∀ a : Nat, a < s.heap.size → ¬ A a) : kT1 RX2 "EXTRA" 26 tl_EXTRA A s s.heap := by
  have hs := flat_of_before _ hgv
  obtain ⟨t, ht, hT⟩ := va_Tof (tm := (.static RX2 "EXTRA" "[I")) (ty := .int) (N := 26) (f := fun j => .int (tl_EXTRA.getD j 0)) (by decide) (hs (.arrayOf (.static RX2 "EXTRA" "[I") .int) (by decide +kernel)) (va_eqt (hs (.eq (.length (.static RX2 "EXTRA" "[I")) (.int 26)) (by decide +kernel))) (fun j hj => by
    rcases (show j = 0 ∨ j = 1 ∨ j = 2 ∨ j = 3 ∨ j = 4 ∨ j = 5 ∨ j = 6 ∨ j = 7 ∨ j = 8 ∨ j = 9 ∨ j = 10 ∨ j = 11 ∨ j = 12 ∨ j = 13 ∨ j = 14 ∨ j = 15 ∨ j = 16 ∨ j = 17 ∨ j = 18 ∨ j = 19 ∨ j = 20 ∨ j = 21 ∨ j = 22 ∨ j = 23 ∨ j = 24 ∨ j = 25 by omega) with rfl | rfl | rfl | rfl | rfl | rfl | rfl | rfl | rfl | rfl | rfl | rfl | rfl | rfl | rfl | rfl | rfl | rfl | rfl | rfl | rfl | rfl | rfl | rfl | rfl | rfl
    · exact va_eqt (hs (.eq (.elem (.static RX2 "EXTRA" "[I") (.int 0)) (.int 159)) (by decide +kernel))
    · exact va_eqt (hs (.eq (.elem (.static RX2 "EXTRA" "[I") (.int 1)) (.int 165)) (by decide +kernel))
    · exact va_eqt (hs (.eq (.elem (.static RX2 "EXTRA" "[I") (.int 2)) (.int 145)) (by decide +kernel))
    · exact va_eqt (hs (.eq (.elem (.static RX2 "EXTRA" "[I") (.int 3)) (.int 173)) (by decide +kernel))
    · exact va_eqt (hs (.eq (.elem (.static RX2 "EXTRA" "[I") (.int 4)) (.int 148)) (by decide +kernel))
    · exact va_eqt (hs (.eq (.elem (.static RX2 "EXTRA" "[I") (.int 5)) (.int 140)) (by decide +kernel))
    · exact va_eqt (hs (.eq (.elem (.static RX2 "EXTRA" "[I") (.int 6)) (.int 176)) (by decide +kernel))
    · exact va_eqt (hs (.eq (.elem (.static RX2 "EXTRA" "[I") (.int 7)) (.int 155)) (by decide +kernel))
    · exact va_eqt (hs (.eq (.elem (.static RX2 "EXTRA" "[I") (.int 8)) (.int 140)) (by decide +kernel))
    · exact va_eqt (hs (.eq (.elem (.static RX2 "EXTRA" "[I") (.int 9)) (.int 135)) (by decide +kernel))
    · exact va_eqt (hs (.eq (.elem (.static RX2 "EXTRA" "[I") (.int 10)) (.int 180)) (by decide +kernel))
    · exact va_eqt (hs (.eq (.elem (.static RX2 "EXTRA" "[I") (.int 11)) (.int 157)) (by decide +kernel))
    · exact va_eqt (hs (.eq (.elem (.static RX2 "EXTRA" "[I") (.int 12)) (.int 141)) (by decide +kernel))
    · exact va_eqt (hs (.eq (.elem (.static RX2 "EXTRA" "[I") (.int 13)) (.int 134)) (by decide +kernel))
    · exact va_eqt (hs (.eq (.elem (.static RX2 "EXTRA" "[I") (.int 14)) (.int 130)) (by decide +kernel))
    · exact va_eqt (hs (.eq (.elem (.static RX2 "EXTRA" "[I") (.int 15)) (.int 254)) (by decide +kernel))
    · exact va_eqt (hs (.eq (.elem (.static RX2 "EXTRA" "[I") (.int 16)) (.int 254)) (by decide +kernel))
    · exact va_eqt (hs (.eq (.elem (.static RX2 "EXTRA" "[I") (.int 17)) (.int 243)) (by decide +kernel))
    · exact va_eqt (hs (.eq (.elem (.static RX2 "EXTRA" "[I") (.int 18)) (.int 230)) (by decide +kernel))
    · exact va_eqt (hs (.eq (.elem (.static RX2 "EXTRA" "[I") (.int 19)) (.int 196)) (by decide +kernel))
    · exact va_eqt (hs (.eq (.elem (.static RX2 "EXTRA" "[I") (.int 20)) (.int 177)) (by decide +kernel))
    · exact va_eqt (hs (.eq (.elem (.static RX2 "EXTRA" "[I") (.int 21)) (.int 153)) (by decide +kernel))
    · exact va_eqt (hs (.eq (.elem (.static RX2 "EXTRA" "[I") (.int 22)) (.int 140)) (by decide +kernel))
    · exact va_eqt (hs (.eq (.elem (.static RX2 "EXTRA" "[I") (.int 23)) (.int 133)) (by decide +kernel))
    · exact va_eqt (hs (.eq (.elem (.static RX2 "EXTRA" "[I") (.int 24)) (.int 130)) (by decide +kernel))
    · exact va_eqt (hs (.eq (.elem (.static RX2 "EXTRA" "[I") (.int 25)) (.int 129)) (by decide +kernel))
    ) hA0
  exact ⟨t, va_Zref (hts0 (.laysStatic RX2 "EXTRA" "[I") (by decide +kernel)) (hts0 (.initialized RX2) (by decide +kernel)) ht hA0, hT⟩
set_option maxRecDepth 100000 in
theorem law_PLACES {b : Nat} {s : State} {A : Nat → Prop} (hgv : (Jvm.Cond.and given_1 narrow_1).before #[Value.ref b] s = true) (hts0 : ∀ w ∈ lw_tbl, w.before #[Value.ref b] s = true) (hA0 : ∀ a : Nat, a < s.heap.size → ¬ A a) : kT1 RX6 "PLACES" 16 tl_PLACES A s s.heap := by
  have hs := flat_of_before _ hgv
  obtain ⟨t, ht, hT⟩ := va_Tof (tm := (.static RX6 "PLACES" "[I")) (ty := .int) (N := 16) (f := fun j => .int (tl_PLACES.getD j 0)) (by decide) (hs (.arrayOf (.static RX6 "PLACES" "[I") .int) (by decide +kernel)) (va_eqt (hs (.eq (.length (.static RX6 "PLACES" "[I")) (.int 16)) (by decide +kernel))) (fun j hj => by
    rcases (show j = 0 ∨ j = 1 ∨ j = 2 ∨ j = 3 ∨ j = 4 ∨ j = 5 ∨ j = 6 ∨ j = 7 ∨ j = 8 ∨ j = 9 ∨ j = 10 ∨ j = 11 ∨ j = 12 ∨ j = 13 ∨ j = 14 ∨ j = 15 by omega) with rfl | rfl | rfl | rfl | rfl | rfl | rfl | rfl | rfl | rfl | rfl | rfl | rfl | rfl | rfl | rfl
    · exact va_eqt (hs (.eq (.elem (.static RX6 "PLACES" "[I") (.int 0)) (.int 0)) (by decide +kernel))
    · exact va_eqt (hs (.eq (.elem (.static RX6 "PLACES" "[I") (.int 1)) (.int 1)) (by decide +kernel))
    · exact va_eqt (hs (.eq (.elem (.static RX6 "PLACES" "[I") (.int 2)) (.int 4)) (by decide +kernel))
    · exact va_eqt (hs (.eq (.elem (.static RX6 "PLACES" "[I") (.int 3)) (.int 8)) (by decide +kernel))
    · exact va_eqt (hs (.eq (.elem (.static RX6 "PLACES" "[I") (.int 4)) (.int 5)) (by decide +kernel))
    · exact va_eqt (hs (.eq (.elem (.static RX6 "PLACES" "[I") (.int 5)) (.int 2)) (by decide +kernel))
    · exact va_eqt (hs (.eq (.elem (.static RX6 "PLACES" "[I") (.int 6)) (.int 3)) (by decide +kernel))
    · exact va_eqt (hs (.eq (.elem (.static RX6 "PLACES" "[I") (.int 7)) (.int 6)) (by decide +kernel))
    · exact va_eqt (hs (.eq (.elem (.static RX6 "PLACES" "[I") (.int 8)) (.int 9)) (by decide +kernel))
    · exact va_eqt (hs (.eq (.elem (.static RX6 "PLACES" "[I") (.int 9)) (.int 12)) (by decide +kernel))
    · exact va_eqt (hs (.eq (.elem (.static RX6 "PLACES" "[I") (.int 10)) (.int 13)) (by decide +kernel))
    · exact va_eqt (hs (.eq (.elem (.static RX6 "PLACES" "[I") (.int 11)) (.int 10)) (by decide +kernel))
    · exact va_eqt (hs (.eq (.elem (.static RX6 "PLACES" "[I") (.int 12)) (.int 7)) (by decide +kernel))
    · exact va_eqt (hs (.eq (.elem (.static RX6 "PLACES" "[I") (.int 13)) (.int 11)) (by decide +kernel))
    · exact va_eqt (hs (.eq (.elem (.static RX6 "PLACES" "[I") (.int 14)) (.int 14)) (by decide +kernel))
    · exact va_eqt (hs (.eq (.elem (.static RX6 "PLACES" "[I") (.int 15)) (.int 15)) (by decide +kernel))
    ) hA0
  exact ⟨t, va_Zref (hts0 (.laysStatic RX6 "PLACES" "[I") (by decide +kernel)) (hts0 (.initialized RX6) (by decide +kernel)) ht hA0, hT⟩
theorem law_kT {b : Nat} {s : State} {A : Nat → Prop} (hgv : (Jvm.Cond.and given_1 narrow_1).before #[Value.ref b] s = true) (hts0 : ∀ w ∈ lw_tbl, w.before #[Value.ref b] s = true) (hA0 : ∀ a : Nat, a < s.heap.size → ¬ A a) : kT A s s.heap := ⟨law_BANDS hgv hts0 hA0, law_LEAST hgv hts0 hA0, law_EXTRA_FROM hgv hts0 hA0, law_EXTRA hgv hts0 hA0, law_PLACES hgv hts0 hA0⟩
theorem law_kY {b : Nat} {s : State} (hgv : (Jvm.Cond.and given_1 narrow_1).before #[Value.ref b] s = true) : kY s := va_Nc.of (flat_of_before _ hgv (.not (.castable "java/lang/IllegalStateException" "java/lang/IllegalArgumentException")) (by decide +kernel))
theorem kxB_in : ∀ w ∈ kxB, w ∈ lw_tbl := by decide +kernel
theorem law_str {b k : Nat} {tx : String} {s : State} (h1 : (Cond.stringRef RX7 k tx).before #[Value.ref b] s = true) (h2 : (Cond.exactly (.string RX7 k) "java/lang/String").before #[Value.ref b] s = true) : ∃ a : Nat, vk_R RX7 k tx a s := by
  obtain ⟨a, c, cA, kA, q1, q2, q3, q4, q5, q6, -⟩ := Cond.exactly_spec (args := #[Value.ref b]) (first := s) (o := none) (s := s) (idx := []) (t := .string RX7 k) (cls := "java/lang/String") h2
  exact ⟨a, vk_R.of h1 q1⟩
set_option maxRecDepth 100000 in
theorem law_kX {b : Nat} {s : State} {A : Nat → Prop} (hgv : (Jvm.Cond.and given_1 narrow_1).before #[Value.ref b] s = true) (hts0 : ∀ w ∈ lw_tbl, w.before #[Value.ref b] s = true) (hA0 : ∀ a : Nat, a < s.heap.size → ¬ A a) : kX A s s.heap := by
  have hs := flat_of_before _ hgv
  refine ⟨vx_Zqof (hts0 (.laysStatic Bundle.tN "UNASSIGNED_STACK" Bundle.steD) (by decide +kernel)) (hts0 (.initialized Bundle.tN) (by decide +kernel)) (hs (.isRef (.static Bundle.tN "UNASSIGNED_STACK" Bundle.steD)) (by decide +kernel)) hA0, vx_Zqof (hts0 (.laysStatic Bundle.tN "SUPPRESSED_SENTINEL" Bundle.listD) (by decide +kernel)) (hts0 (.initialized Bundle.tN) (by decide +kernel)) (hs (.isRef (.static Bundle.tN "SUPPRESSED_SENTINEL" Bundle.listD)) (by decide +kernel)) hA0, fun w hw => va_Nw.of (kxB_tab w hw) (hts0 w (kxB_in w hw)), ?_⟩
  intro q hq
  simp only [kXs, List.mem_cons, List.not_mem_nil, or_false] at hq
  rcases hq with rfl | rfl | rfl | rfl | rfl | rfl | rfl | rfl | rfl
  · exact law_str (hts0 (.stringRef RX7 45 "many is not 0 .. 16") (by decide +kernel)) (hs (.exactly (.string RX7 45) "java/lang/String") (by decide +kernel))
  · exact law_str (hts0 (.stringRef RX7 56 "there would be more than 600 bytes") (by decide +kernel)) (hs (.exactly (.string RX7 56) "java/lang/String") (by decide +kernel))
  · exact law_str (hts0 (.stringRef RX7 73 "writing is not begun") (by decide +kernel)) (hs (.exactly (.string RX7 73) "java/lang/String") (by decide +kernel))
  · exact law_str (hts0 (.stringRef RX7 75 "there are more than 560 bytes") (by decide +kernel)) (hs (.exactly (.string RX7 75) "java/lang/String") (by decide +kernel))
  · exact law_str (hts0 (.stringRef RX7 84 "reading is not begun") (by decide +kernel)) (hs (.exactly (.string RX7 84) "java/lang/String") (by decide +kernel))
  · exact law_str (hts0 (.stringRef RX7 100 "what is not 0 .. 17") (by decide +kernel)) (hs (.exactly (.string RX7 100) "java/lang/String") (by decide +kernel))
  · exact law_str (hts0 (.stringRef RX7 133 "what is not 0 .. 6") (by decide +kernel)) (hs (.exactly (.string RX7 133) "java/lang/String") (by decide +kernel))
  · exact law_str (hts0 (.stringRef RX7 138 "p is not 1 .. 255") (by decide +kernel)) (hs (.exactly (.string RX7 138) "java/lang/String") (by decide +kernel))
  · exact law_str (hts0 (.stringRef RX7 140 "many is not 0 .. 32") (by decide +kernel)) (hs (.exactly (.string RX7 140) "java/lang/String") (by decide +kernel))
/-! THE CLAIM OUT OF ONE WALK OF THE LAW'S BODY. Your part is whole_start (and what it stands on); all else here is the same for every law, but numbers. -/
def R_law : String := "KeyFramesLaw"
def lw_P (b : Addr) (xs : List Int32) (args : Array Value) (s : State) : Prop := args = #[.ref b] ∧ s.IntsAt b xs ∧ xs.length ≤ 6 ∧ (Jvm.Cond.and given_1 narrow_1).before args s = true
def lw_Q (_ : Array Value) (s : State) (o : Outcome) (t : State) : Prop := o = .returned (some (.int 1)) ∧ Framed s o t [] 37 2996
def lw_Z (below : List Frame) (a : Array Value) (s : State) : State → Prop := fun t => ∃ o, t.status = .running ∧ Ended t below o ∧ lw_Q a s o t
/-- the law's own end, with 1 on the stack, nothing written that was there before, its room as the claim has it -/
theorem lw_ret {p : Program} {l : Launch} {e : Env} {s : State} {m : MethodId} {below : List Frame} {meth : Method} {c : Code} {b : Nat} (hx : p.tables.exec = Jvm.exec) (hb : c.code = code) (hr : meth.sig.returnType = ret) (hlocks : meth.locks = false) {pc : Nat} {H : Heap} {ls : Array Slot} (hdg : decode code pc = .ok (.ireturn, 1)) : W p l e room_1 s m #[Value.ref b] below meth c H [] 37 2996 (lw_Z below #[Value.ref b] s) (F0 m pc ls [.int 1]) := by
  intro T hT X
  obtain ⟨fs, hret, hrun, hended, hW, hframe⟩ := X.leave (v := some (.int 1)) (hlocks := hlocks) (fun h => by rw [hr] at h; cases h)
  have hmeth' : T.vm.method? m = some meth := X.method'
  refine ⟨T.setFrames fs, ?_, .returned (some (.int 1)), hrun, hended, rfl, ⟨_, rfl⟩, hW, hframe⟩
  jvm_step X.here [X.here.top, hx, hb, hdg, hmeth', hr, ret, narrow_b1]
  (try refine ⟨rfl, ?_⟩); (try refine ⟨rfl, ?_⟩)
  first | (intro acts; rw [hret _ acts rfl rfl rfl]) | rw [hret _ _ rfl rfl rfl]
  exact Steps.refl _
/-- what holds at the law's entry: the machine, the code, the tables' words (any of lw_tbl by 'hts w (by decide +kernel)'), the script of L ints xs at the cell b, what the Statement gives of the start (any of its parts by flat_of_before) -/
def lw_At (p : Program) (s : State) (m : MethodId) (meth : Method) (c : Code) (b L : Nat) (xs : Nat → Int32) : Prop :=
  p.tables.exec = Jvm.exec ∧ c.code = code ∧ meth.sig.returnType = ret ∧ c.maxLocals = 7 ∧ s.vm.findClass R_law = some m.cls ∧ (∀ w ∈ lw_tbl, w.before #[Value.ref b] s = true) ∧ va_X b L xs s s.heap ∧ b < s.heap.size ∧ meth.locks = false ∧ (Jvm.Cond.and given_1 narrow_1).before #[Value.ref b] s = true
theorem mk_479 : Cond.methodLink RL 40 yL_feed ∈ kW := kW_mem (by decide +kernel) (by decide +kernel)
theorem mk_480 : Cond.static yL_feed ∈ kW := kW_mem (by decide +kernel) (by decide +kernel)
theorem mk_481 : Cond.initialized RL ∈ kW := kW_mem (by decide +kernel) (by decide +kernel)
theorem mk_482 : Cond.codeWith yL_feed cL_feed 8 (some .int) [(0, 16, 19, 13), (0, 16, 23, 15)] ∈ kW := kW_mem (by decide +kernel) (by decide +kernel)
theorem mk_483 : Cond.methodLink RL 45 yX8_feed ∈ kW := kW_mem (by decide +kernel) (by decide +kernel)
theorem mk_484 : Cond.instanceMethod yX8_feed ∈ kW := kW_mem (by decide +kernel) (by decide +kernel)
theorem mk_485 : Cond.selects RX8 yX8_feed yX8_feed ∈ kW := kW_mem (by decide +kernel) (by decide +kernel)
theorem mk_486 : Cond.code yX8_feed cX8_feed 8 (some .int) ∈ kW := kW_mem (by decide +kernel) (by decide +kernel)
theorem mk_487 : Cond.methodLink RL 46 yX8_thrown ∈ kW := kW_mem (by decide +kernel) (by decide +kernel)
theorem mk_488 : Cond.instanceMethod yX8_thrown ∈ kW := kW_mem (by decide +kernel) (by decide +kernel)
theorem mk_489 : Cond.selects RX8 yX8_thrown yX8_thrown ∈ kW := kW_mem (by decide +kernel) (by decide +kernel)
theorem mk_490 : Cond.code yX8_thrown cX8_thrown 1 (some .int) ∈ kW := kW_mem (by decide +kernel) (by decide +kernel)
theorem mk_491 : Cond.methodLink RL 49 yX7_erase ∈ kW := kW_mem (by decide +kernel) (by decide +kernel)
theorem mk_492 : Cond.instanceMethod yX7_erase ∈ kW := kW_mem (by decide +kernel) (by decide +kernel)
theorem mk_493 : Cond.selects RX7 yX7_erase yX7_erase ∈ kW := kW_mem (by decide +kernel) (by decide +kernel)
theorem mk_494 : Cond.code yX7_erase cX7_erase 2 (some .int) ∈ kW := kW_mem (by decide +kernel) (by decide +kernel)
theorem mk_495 : Cond.methodLink RL 52 yX8_erase ∈ kW := kW_mem (by decide +kernel) (by decide +kernel)
theorem mk_496 : Cond.instanceMethod yX8_erase ∈ kW := kW_mem (by decide +kernel) (by decide +kernel)
theorem mk_497 : Cond.selects RX8 yX8_erase yX8_erase ∈ kW := kW_mem (by decide +kernel) (by decide +kernel)
theorem mk_498 : Cond.code yX8_erase cX8_erase 2 (some .int) ∈ kW := kW_mem (by decide +kernel) (by decide +kernel)
theorem mk_499 : Cond.methodLink RL 53 yX7_write ∈ kW := kW_mem (by decide +kernel) (by decide +kernel)
theorem mk_500 : Cond.instanceMethod yX7_write ∈ kW := kW_mem (by decide +kernel) (by decide +kernel)
theorem mk_501 : Cond.selects RX7 yX7_write yX7_write ∈ kW := kW_mem (by decide +kernel) (by decide +kernel)
theorem mk_502 : Cond.code yX7_write cX7_write 1 none ∈ kW := kW_mem (by decide +kernel) (by decide +kernel)
theorem mk_503 : Cond.methodLink RL 56 yX8_write ∈ kW := kW_mem (by decide +kernel) (by decide +kernel)
theorem mk_504 : Cond.instanceMethod yX8_write ∈ kW := kW_mem (by decide +kernel) (by decide +kernel)
theorem mk_505 : Cond.selects RX8 yX8_write yX8_write ∈ kW := kW_mem (by decide +kernel) (by decide +kernel)
theorem mk_506 : Cond.code yX8_write cX8_write 1 none ∈ kW := kW_mem (by decide +kernel) (by decide +kernel)
theorem mk_507 : Cond.methodLink RL 57 yL_put ∈ kW := kW_mem (by decide +kernel) (by decide +kernel)
theorem mk_508 : Cond.static yL_put ∈ kW := kW_mem (by decide +kernel) (by decide +kernel)
theorem mk_509 : Cond.codeWith yL_put cL_put 6 (some .int) [(0, 12, 15, 13), (0, 12, 19, 15)] ∈ kW := kW_mem (by decide +kernel) (by decide +kernel)
theorem mk_510 : Cond.methodLink RL 60 yX8_put ∈ kW := kW_mem (by decide +kernel) (by decide +kernel)
theorem mk_511 : Cond.instanceMethod yX8_put ∈ kW := kW_mem (by decide +kernel) (by decide +kernel)
theorem mk_512 : Cond.selects RX8 yX8_put yX8_put ∈ kW := kW_mem (by decide +kernel) (by decide +kernel)
theorem mk_513 : Cond.code yX8_put cX8_put 6 (some .int) ∈ kW := kW_mem (by decide +kernel) (by decide +kernel)
theorem mk_514 : Cond.methodLink RL 61 yL_end ∈ kW := kW_mem (by decide +kernel) (by decide +kernel)
theorem mk_515 : Cond.static yL_end ∈ kW := kW_mem (by decide +kernel) (by decide +kernel)
theorem mk_516 : Cond.codeWith yL_end cL_end 3 (some .int) [(0, 8, 11, 15)] ∈ kW := kW_mem (by decide +kernel) (by decide +kernel)
theorem mk_517 : Cond.methodLink RL 64 yX8_end ∈ kW := kW_mem (by decide +kernel) (by decide +kernel)
theorem mk_518 : Cond.instanceMethod yX8_end ∈ kW := kW_mem (by decide +kernel) (by decide +kernel)
theorem mk_519 : Cond.selects RX8 yX8_end yX8_end ∈ kW := kW_mem (by decide +kernel) (by decide +kernel)
theorem mk_520 : Cond.code yX8_end cX8_end 4 (some .int) ∈ kW := kW_mem (by decide +kernel) (by decide +kernel)
theorem mk_521 : Cond.methodLink RL 65 yX7_read ∈ kW := kW_mem (by decide +kernel) (by decide +kernel)
theorem mk_522 : Cond.instanceMethod yX7_read ∈ kW := kW_mem (by decide +kernel) (by decide +kernel)
theorem mk_523 : Cond.selects RX7 yX7_read yX7_read ∈ kW := kW_mem (by decide +kernel) (by decide +kernel)
theorem mk_524 : Cond.code yX7_read cX7_read 1 none ∈ kW := kW_mem (by decide +kernel) (by decide +kernel)
theorem mk_525 : Cond.methodLink RL 68 yX8_read ∈ kW := kW_mem (by decide +kernel) (by decide +kernel)
theorem mk_526 : Cond.instanceMethod yX8_read ∈ kW := kW_mem (by decide +kernel) (by decide +kernel)
theorem mk_527 : Cond.selects RX8 yX8_read yX8_read ∈ kW := kW_mem (by decide +kernel) (by decide +kernel)
theorem mk_528 : Cond.code yX8_read cX8_read 1 none ∈ kW := kW_mem (by decide +kernel) (by decide +kernel)
theorem mk_529 : Cond.methodLink RL 69 yL_get ∈ kW := kW_mem (by decide +kernel) (by decide +kernel)
theorem mk_530 : Cond.static yL_get ∈ kW := kW_mem (by decide +kernel) (by decide +kernel)
theorem mk_531 : Cond.codeWith yL_get cL_get 5 (some .int) [(0, 10, 13, 13), (0, 10, 17, 15)] ∈ kW := kW_mem (by decide +kernel) (by decide +kernel)
theorem mk_532 : Cond.methodLink RL 72 yX8_get ∈ kW := kW_mem (by decide +kernel) (by decide +kernel)
theorem mk_533 : Cond.instanceMethod yX8_get ∈ kW := kW_mem (by decide +kernel) (by decide +kernel)
theorem mk_534 : Cond.selects RX8 yX8_get yX8_get ∈ kW := kW_mem (by decide +kernel) (by decide +kernel)
theorem mk_535 : Cond.code yX8_get cX8_get 4 (some .int) ∈ kW := kW_mem (by decide +kernel) (by decide +kernel)
theorem mk_536 : Cond.methodLink RL 73 yX7_decode ∈ kW := kW_mem (by decide +kernel) (by decide +kernel)
theorem mk_537 : Cond.instanceMethod yX7_decode ∈ kW := kW_mem (by decide +kernel) (by decide +kernel)
theorem mk_538 : Cond.selects RX7 yX7_decode yX7_decode ∈ kW := kW_mem (by decide +kernel) (by decide +kernel)
theorem mk_539 : Cond.code yX7_decode cX7_decode 1 (some .int) ∈ kW := kW_mem (by decide +kernel) (by decide +kernel)
theorem mk_540 : Cond.methodLink RL 76 yX8_decode ∈ kW := kW_mem (by decide +kernel) (by decide +kernel)
theorem mk_541 : Cond.instanceMethod yX8_decode ∈ kW := kW_mem (by decide +kernel) (by decide +kernel)
theorem mk_542 : Cond.selects RX8 yX8_decode yX8_decode ∈ kW := kW_mem (by decide +kernel) (by decide +kernel)
theorem mk_543 : Cond.code yX8_decode cX8_decode 3 (some .int) ∈ kW := kW_mem (by decide +kernel) (by decide +kernel)
theorem mk_544 : Cond.methodLink RL 77 yX7_sample ∈ kW := kW_mem (by decide +kernel) (by decide +kernel)
theorem mk_545 : Cond.instanceMethod yX7_sample ∈ kW := kW_mem (by decide +kernel) (by decide +kernel)
theorem mk_546 : Cond.selects RX7 yX7_sample yX7_sample ∈ kW := kW_mem (by decide +kernel) (by decide +kernel)
theorem mk_547 : Cond.code yX7_sample cX7_sample 3 (some .int) ∈ kW := kW_mem (by decide +kernel) (by decide +kernel)
theorem mk_548 : Cond.methodLink RL 80 yX8_sample ∈ kW := kW_mem (by decide +kernel) (by decide +kernel)
theorem mk_549 : Cond.instanceMethod yX8_sample ∈ kW := kW_mem (by decide +kernel) (by decide +kernel)
theorem mk_550 : Cond.selects RX8 yX8_sample yX8_sample ∈ kW := kW_mem (by decide +kernel) (by decide +kernel)
theorem mk_551 : Cond.code yX8_sample cX8_sample 3 (some .int) ∈ kW := kW_mem (by decide +kernel) (by decide +kernel)
theorem mk_552 : Cond.methodLink RL 81 yL_block ∈ kW := kW_mem (by decide +kernel) (by decide +kernel)
theorem mk_553 : Cond.static yL_block ∈ kW := kW_mem (by decide +kernel) (by decide +kernel)
theorem mk_554 : Cond.codeWith yL_block cL_block 5 (some .int) [(0, 10, 13, 13)] ∈ kW := kW_mem (by decide +kernel) (by decide +kernel)
theorem mk_555 : Cond.methodLink RL 83 yX8_block ∈ kW := kW_mem (by decide +kernel) (by decide +kernel)
theorem mk_556 : Cond.instanceMethod yX8_block ∈ kW := kW_mem (by decide +kernel) (by decide +kernel)
theorem mk_557 : Cond.selects RX8 yX8_block yX8_block ∈ kW := kW_mem (by decide +kernel) (by decide +kernel)
theorem mk_558 : Cond.code yX8_block cX8_block 3 (some .int) ∈ kW := kW_mem (by decide +kernel) (by decide +kernel)
theorem mk_559 : Cond.methodLink RL 84 yL_count ∈ kW := kW_mem (by decide +kernel) (by decide +kernel)
theorem mk_560 : Cond.static yL_count ∈ kW := kW_mem (by decide +kernel) (by decide +kernel)
theorem mk_561 : Cond.codeWith yL_count cL_count 4 (some .int) [(0, 9, 12, 13)] ∈ kW := kW_mem (by decide +kernel) (by decide +kernel)
theorem mk_562 : Cond.methodLink RL 87 yX8_count ∈ kW := kW_mem (by decide +kernel) (by decide +kernel)
theorem mk_563 : Cond.instanceMethod yX8_count ∈ kW := kW_mem (by decide +kernel) (by decide +kernel)
theorem mk_564 : Cond.selects RX8 yX8_count yX8_count ∈ kW := kW_mem (by decide +kernel) (by decide +kernel)
theorem mk_565 : Cond.code yX8_count cX8_count 2 (some .int) ∈ kW := kW_mem (by decide +kernel) (by decide +kernel)
theorem mk_566 : Cond.methodLink RL 88 yX7_octet ∈ kW := kW_mem (by decide +kernel) (by decide +kernel)
theorem mk_567 : Cond.instanceMethod yX7_octet ∈ kW := kW_mem (by decide +kernel) (by decide +kernel)
theorem mk_568 : Cond.selects RX7 yX7_octet yX7_octet ∈ kW := kW_mem (by decide +kernel) (by decide +kernel)
theorem mk_569 : Cond.code yX7_octet cX7_octet 2 (some .int) ∈ kW := kW_mem (by decide +kernel) (by decide +kernel)
theorem mk_570 : Cond.methodLink RL 91 yX8_octet ∈ kW := kW_mem (by decide +kernel) (by decide +kernel)
theorem mk_571 : Cond.instanceMethod yX8_octet ∈ kW := kW_mem (by decide +kernel) (by decide +kernel)
theorem mk_572 : Cond.selects RX8 yX8_octet yX8_octet ∈ kW := kW_mem (by decide +kernel) (by decide +kernel)
theorem mk_573 : Cond.code yX8_octet cX8_octet 2 (some .int) ∈ kW := kW_mem (by decide +kernel) (by decide +kernel)
theorem mk_574 : Cond.classLink RL 8 RX7 ∈ kW := kW_mem (by decide +kernel) (by decide +kernel)
theorem mk_575 : Cond.instantiable RX7 5 ∈ kW := kW_mem (by decide +kernel) (by decide +kernel)
theorem mk_576 : Cond.code yX7_init cX7_init 1 none ∈ kW := kW_mem (by decide +kernel) (by decide +kernel)
theorem mk_577 : Cond.methodLink RL 36 yX7_init ∈ kW := kW_mem (by decide +kernel) (by decide +kernel)
theorem mk_578 : Cond.instanceMethod yX7_init ∈ kW := kW_mem (by decide +kernel) (by decide +kernel)
theorem mk_579 : Cond.classLink RL 37 RX8 ∈ kW := kW_mem (by decide +kernel) (by decide +kernel)
theorem mk_580 : Cond.instantiable RX8 22 ∈ kW := kW_mem (by decide +kernel) (by decide +kernel)
theorem mk_581 : Cond.code yX8_init cX8_init 1 none ∈ kW := kW_mem (by decide +kernel) (by decide +kernel)
theorem mk_582 : Cond.methodLink RL 39 yX8_init ∈ kW := kW_mem (by decide +kernel) (by decide +kernel)
theorem mk_583 : Cond.instanceMethod yX8_init ∈ kW := kW_mem (by decide +kernel) (by decide +kernel)
