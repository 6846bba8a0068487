/-! the state laid, in the game and in the reference -/
theorem zAll_c {sT sE : Nat} {L T E R R' : zS_t} (h : zAll sT sE L T E R) (hs : ∀ c : Nat, 5 < c → c < 18 → R' c = R c) : zAll sT sE L T E R' := by
  unfold zAll zQT zQE zQe at *
  rw [hs 6 (by omega) (by omega), hs 7 (by omega) (by omega), hs 8 (by omega) (by omega), hs 9 (by omega) (by omega), hs 10 (by omega) (by omega), hs 11 (by omega) (by omega), hs 12 (by omega) (by omega), hs 13 (by omega) (by omega), hs 14 (by omega) (by omega), hs 15 (by omega) (by omega), hs 16 (by omega) (by omega), hs 17 (by omega) (by omega)]
  exact h
theorem zplace0 {sT : Nat} {N M : Int} {T R : zS_t} (hT : zQT sT N M T R) : mX2_placeOf (-1) T = -1 := by
  obtain ⟨⟨a1, a2, a3⟩, -, -, dT1, -, -⟩ := hT
  rcases zplT (idn := -1) a1 a2 with ⟨j, hj, h, -⟩ | ⟨-, h⟩
  · have := dT1.2 j hj
    rw [h, zm1v] at this
    omega
  · exact h
/-- a thing's target by now -/
theorem zthing {sT : Nat} {N M : Int} {T R : zS_t} {k : Int32} {j : Nat} (hT : zQT sT N M T R) (hk : k.toInt = j) (hj : j < sT) : mX5_laysState_S51 k R = mX2_placeOf (T 2 j) T ∧ ((mX2_placeOf (T 2 j) T).toInt = -1 ∨ (0 ≤ (mX2_placeOf (T 2 j) T).toInt ∧ (mX2_placeOf (T 2 j) T).toInt < sT)) := by
  obtain ⟨-, b1, -, -, -, f1⟩ := id hT
  obtain ⟨g1, g2, g3⟩ := f1 j hj
  obtain ⟨p1, p2⟩ := zplaces hT g2
  refine ⟨?_, p2.range⟩
  unfold mX5_laysState_S51
  simp only [zbe]
  rw [zncl hk, (b1 j hj).1]
  by_cases h7 : T 0 j = 7
  · rw [if_pos h7]; exact p1.symm
  · rw [if_neg h7, g3 h7]; exact (zplace0 hT).symm
/-- an entry's target by now -/
theorem zentry {sT sE : Nat} {L T E R : zS_t} {k : Int32} {j : Nat} (hA : zAll sT sE L T E R) (hk : k.toInt = j) (hj : j < sE) : mX5_targetOf k R = mX4_targetPlace k T E ∧ -1 ≤ (mX4_targetPlace k T E).toInt ∧ (mX4_targetPlace k T E).toInt < 12 := by
  obtain ⟨hT, hE⟩ := id hA
  obtain ⟨⟨a1, a2, a3⟩, b1, -, dE1, dE2, f1⟩ := id hE
  obtain ⟨⟨t1, t2, t3⟩, -⟩ := id hT
  obtain ⟨q1, q2, q3, q4, q5, q6, q7⟩ := f1 j hj
  obtain ⟨h13, h14, h15⟩ := b1 j hj
  have k0 : Int32.toInt 0 = 0 := by decide
  unfold mX5_targetOf mX4_targetPlace
  simp only [zbe]
  have hk0 : ¬ k < 0 := fun h => by have := zt_lt h; omega
  have hk1 : k < E 5 0 := Int32.lt_iff_toInt_lt.mpr (by omega)
  rw [if_neg hk0, if_pos hk1, zncl hk, h13, h14]
  by_cases e13 : E 0 j = 13
  · have h1 := zplE (idn := E 3 j) a1 a2
    have h2 := zenR (x := R 17 j) (R := R) (s := sE) (by rw [a3]; exact a1) a2
    have p1 := (h1.same (q7 e13)).uniq dE2.1 h2
    have n0 : E 1 j = 0 := by
      rcases q2 with q2 | q2
      · exact q2
      · obtain ⟨x1, -⟩ := q3 q2
        rw [e13] at x1
        exact absurd x1 (by decide)
    have hr := h1.range
    rw [if_pos e13, if_pos e13, if_pos n0, if_neg (by rw [e13]; decide), if_neg (by rw [e13]; decide), ← p1]
    exact ⟨rfl, by omega, by omega⟩
  · obtain ⟨p1, p2⟩ := zplaces hT (q6 e13)
    have hr := p2.range
    rw [if_neg e13, if_neg e13]
    by_cases n0 : E 1 j = 0
    · rw [if_pos n0]
      by_cases e7 : E 0 j = 7
      · rw [if_pos e7, ← p1]
        exact ⟨rfl, by omega, by omega⟩
      · rw [if_neg e7]
        by_cases e12 : E 0 j = 12
        · rw [if_pos e12, ← p1]
          exact ⟨rfl, by omega, by omega⟩
        · rw [if_neg e12, q5 e7 e12 e13, zplace0 hT, zm1v]
          exact ⟨rfl, by omega, by omega⟩
    · have e1 : E 1 j = 1 := by
        rcases q2 with q2 | q2
        · exact absurd q2 n0
        · exact q2
      rw [if_neg n0, (q3 e1).2, zplace0 hT, zm1v]
      exact ⟨rfl, by omega, by omega⟩
theorem zwr {c b p pl : Int32} {M : zS_t} {n : Nat} (hn : (M 2 0).toInt = n) (h24 : n < 24) : mX1_write c b p pl M = zsI (zsF M 0 (upd (M 0) n (zpk c b p pl))) 2 ((M 2 0) + 1) := by
  have k24 : Int32.toInt 24 = 24 := by decide
  unfold mX1_write zpk
  rw [if_neg (fun h => by have := zt_le h; omega), zncl hn]
  by_cases hb : b = 0
  · rw [if_pos hb, if_pos hb]
  · rw [if_neg hb, if_neg hb]
def zpT (T : zS_t) (j : Nat) : Int32 := zpk (T 0 j) 0 (T 1 j) (mX2_placeOf (T 2 j) T)
def zpE (T E : zS_t) (j : Nat) : Int32 := zpk (E 0 j) (E 1 j) (E 2 j) (mX4_targetPlace (Int32.ofNat j) T E)
theorem zwT {sT : Nat} {T : zS_t} (hs : (T 4 0).toInt = sT) (h10 : sT ≤ 10) : ∀ (fuel : Nat) (k : Int32) (j : Nat) (M : zS_t), k.toInt = j → sT + 1 ≤ j + fuel → j ≤ sT → (M 2 0).toInt = ((2 + j : Nat) : Int) → ∀ Z, mX4_breakLoop_L23 T fuel k M = Z → (∀ i : Nat, Z.2 0 i = if 2 + j ≤ i ∧ i < 2 + sT then zpT T (i - 2) else M 0 i) ∧ (Z.2 2 0).toInt = ((2 + sT : Nat) : Int) ∧ Z.2 3 = M 3 ∧ Z.2 4 = M 4 := by
  intro fuel
  induction fuel with
  | zero => intro k j M hk hf hj; omega
  | succ fuel ih =>
    intro k j M hk hf hj hM Z hZ
    rw [mX4_breakLoop_L23.eq_2] at hZ
    by_cases h1 : j = sT
    · rw [if_pos (Int32.le_iff_toInt_le.mpr (by omega))] at hZ
      subst hZ
      subst h1
      exact ⟨fun i => by rw [if_neg (by omega)], hM, rfl, rfl⟩
    · rw [if_neg (fun h => by have := zt_le h; omega)] at hZ
      simp only [zbe] at hZ
      rw [zncl hk, zwr hM (by omega)] at hZ
      obtain ⟨q1, q2, q3, q4⟩ := ih (k + 1) (j + 1) _ (zinc hk (by omega)) (by omega) (by omega) (zinc (j := 2 + j) hM (by omega)) Z hZ
      refine ⟨fun i => ?_, q2, q3, q4⟩
      rw [q1 i]
      show (if 2 + (j + 1) ≤ i ∧ i < 2 + sT then zpT T (i - 2) else upd (M 0) (2 + j) (zpT T j) i) = _
      by_cases h2 : i = 2 + j
      · subst h2
        rw [if_neg (by omega), if_pos (by omega), upd, if_pos rfl, show 2 + j - 2 = j by omega]
      · rw [upd, if_neg h2]
        by_cases h3 : 2 + (j + 1) ≤ i ∧ i < 2 + sT
        · rw [if_pos h3, if_pos (by omega)]
        · rw [if_neg h3, if_neg (by omega)]
theorem zwE {sT sE : Nat} {T E : zS_t} (h10 : sT ≤ 10) (hs : (E 5 0).toInt = sE) (h12 : sE ≤ 12) : ∀ (fuel : Nat) (k : Int32) (j : Nat) (M : zS_t), k.toInt = j → sE + 1 ≤ j + fuel → j ≤ sE → (M 2 0).toInt = ((2 + sT + j : Nat) : Int) → ∀ Z, mX4_breakLoop_L84 T E fuel k M = Z → (∀ i : Nat, Z.2 0 i = if 2 + sT + j ≤ i ∧ i < 2 + sT + sE then zpE T E (i - (2 + sT)) else M 0 i) ∧ (Z.2 2 0).toInt = ((2 + sT + sE : Nat) : Int) ∧ Z.2 3 = M 3 ∧ Z.2 4 = M 4 := by
  intro fuel
  induction fuel with
  | zero => intro k j M hk hf hj; omega
  | succ fuel ih =>
    intro k j M hk hf hj hM Z hZ
    rw [mX4_breakLoop_L84.eq_2] at hZ
    by_cases h1 : j = sE
    · rw [if_pos (Int32.le_iff_toInt_le.mpr (by omega))] at hZ
      subst hZ
      subst h1
      exact ⟨fun i => by rw [if_neg (by omega)], hM, rfl, rfl⟩
    · rw [if_neg (fun h => by have := zt_le h; omega)] at hZ
      simp only [zbe] at hZ
      rw [zwr hM (by omega), zncl hk] at hZ
      obtain ⟨q1, q2, q3, q4⟩ := ih (k + 1) (j + 1) _ (zinc hk (by omega)) (by omega) (by omega) (zinc (j := 2 + sT + j) hM (by omega)) Z hZ
      refine ⟨fun i => ?_, q2, q3, q4⟩
      rw [q1 i]
      have ek : k = Int32.ofNat j := zofn hk (by omega)
      have ev : zpk (E 0 j) (E 1 j) (E 2 j) (mX4_targetPlace k T E) = zpE T E j := by rw [ek]; rfl
      show (if 2 + sT + (j + 1) ≤ i ∧ i < 2 + sT + sE then zpE T E (i - (2 + sT)) else upd (M 0) (2 + sT + j) (zpk (E 0 j) (E 1 j) (E 2 j) (mX4_targetPlace k T E)) i) = _
      rw [ev]
      by_cases h2 : i = 2 + sT + j
      · subst h2
        rw [if_neg (by omega), if_pos (by omega), upd, if_pos rfl, show 2 + sT + j - (2 + sT) = j by omega]
      · rw [upd, if_neg h2]
        by_cases h3 : 2 + sT + (j + 1) ≤ i ∧ i < 2 + sT + sE
        · rw [if_pos h3, if_pos (by omega)]
        · rw [if_neg h3, if_neg (by omega)]
def zrT (T : zS_t) (j : Nat) : Int32 := (((100 * T 0 j) + (20 * T 1 j)) + mX2_placeOf (T 2 j) T) + 1
def zrE (T E : zS_t) (j : Nat) : Int32 := ((((1000 * E 0 j) + (if E 1 j = 0 then 0 else 500)) + (20 * E 2 j)) + mX4_targetPlace (Int32.ofNat j) T E) + 1
theorem zl2 : ∀ (fuel : Nat) (k : Int32) (j : Nat) (R : zS_t), k.toInt = j → 25 ≤ j + fuel → j ≤ 24 → (∀ i : Nat, i < j → R 25 i = 0) → ∀ Z, mX5_laysState_L2 fuel k R = Z → (∀ i : Nat, i < 24 → Z.2 25 i = 0) ∧ ∀ c : Nat, c ≠ 25 → Z.2 c = R c := by
  have k24 : Int32.toInt 24 = 24 := by decide
  intro fuel
  induction fuel with
  | zero => intro k j R hk hf hj; omega
  | succ fuel ih =>
    intro k j R hk hf hj hR Z hZ
    rw [mX5_laysState_L2.eq_2] at hZ
    by_cases h1 : j = 24
    · rw [if_pos (Int32.le_iff_toInt_le.mpr (by omega))] at hZ
      subst hZ
      subst h1
      exact ⟨hR, fun _ _ => rfl⟩
    · rw [if_neg (fun h => by have := zt_le h; omega)] at hZ
      simp only [zbe] at hZ
      rw [zncl hk] at hZ
      obtain ⟨q1, q2⟩ := ih (k + 1) (j + 1) _ (zinc hk (by omega)) (by omega) (by omega) (fun i hi => by
        show upd (R 25) j 0 i = 0
        by_cases e : i = j
        · rw [upd, if_pos e]
        · rw [upd, if_neg e]; exact hR i (by omega)) Z hZ
      exact ⟨q1, fun c hc => (q2 c hc).trans (zsF_n R _ hc)⟩
theorem zl43 {sT : Nat} {N M : Int} {T : zS_t} (h10 : sT ≤ 10) : ∀ (fuel : Nat) (k : Int32) (j : Nat) (R : zS_t), k.toInt = j → sT + 1 ≤ j + fuel → j ≤ sT → zQT sT N M T R → ∀ Z, mX5_laysState_L43 fuel k R = Z → (∀ i : Nat, Z.2 25 i = if 2 + j ≤ i ∧ i < 2 + sT then zrT T (i - 2) else R 25 i) ∧ ∀ c : Nat, c ≠ 25 → Z.2 c = R c := by
  have k2 : Int32.toInt 2 = 2 := by decide
  intro fuel
  induction fuel with
  | zero => intro k j R hk hf hj; omega
  | succ fuel ih =>
    intro k j R hk hf hj hT Z hZ
    rw [mX5_laysState_L43.eq_2] at hZ
    obtain ⟨⟨a1, a2, a3⟩, b1, -⟩ := id hT
    by_cases h1 : j = sT
    · rw [if_pos (Int32.le_iff_toInt_le.mpr (by rw [a3]; omega))] at hZ
      subst hZ
      subst h1
      exact ⟨fun i => by rw [if_neg (by omega)], fun _ _ => rfl⟩
    · rw [if_neg (fun h => by have := zt_le h; rw [a3] at this; omega)] at hZ
      have e2 : (2 + k).toInt = ((2 + j : Nat) : Int) := by rw [zt_add (by omega) (by omega)]; omega
      simp only [zbe] at hZ
      rw [(zthing hT hk (by omega)).1, zncl hk, zncl e2, (b1 j (by omega)).1, (b1 j (by omega)).2] at hZ
      have hT1 : zQT sT N M T (zsF R 25 (upd (R 25) (2 + j) (zrT T j))) := hT
      obtain ⟨q1, q2⟩ := ih (k + 1) (j + 1) _ (zinc hk (by omega)) (by omega) (by omega) hT1 Z hZ
      refine ⟨fun i => ?_, fun c hc => (q2 c hc).trans (zsF_n R _ hc)⟩
      rw [q1 i]
      show (if 2 + (j + 1) ≤ i ∧ i < 2 + sT then zrT T (i - 2) else upd (R 25) (2 + j) (zrT T j) i) = _
      by_cases h2 : i = 2 + j
      · subst h2
        rw [if_neg (by omega), if_pos (by omega), upd, if_pos rfl, show 2 + j - 2 = j by omega]
      · rw [upd, if_neg h2]
        by_cases h3 : 2 + (j + 1) ≤ i ∧ i < 2 + sT
        · rw [if_pos h3, if_pos (by omega)]
        · rw [if_neg h3, if_neg (by omega)]
theorem zl116 {sT sE : Nat} {L T E : zS_t} (h12 : sE ≤ 12) : ∀ (fuel : Nat) (k : Int32) (j : Nat) (R : zS_t), k.toInt = j → sE + 1 ≤ j + fuel → j ≤ sE → zAll sT sE L T E R → ∀ Z, mX5_laysState_L116 fuel k R = Z → (∀ i : Nat, Z.2 25 i = if 12 + j ≤ i ∧ i < 12 + sE then zrE T E (i - 12) else R 25 i) ∧ ∀ c : Nat, c ≠ 25 → Z.2 c = R c := by
  have k12 : Int32.toInt 12 = 12 := by decide
  intro fuel
  induction fuel with
  | zero => intro k j R hk hf hj; omega
  | succ fuel ih =>
    intro k j R hk hf hj hA Z hZ
    rw [mX5_laysState_L116.eq_2] at hZ
    obtain ⟨⟨a1, a2, a3⟩, b1, -⟩ := id hA.2
    by_cases h1 : j = sE
    · rw [if_pos (Int32.le_iff_toInt_le.mpr (by rw [a3]; omega))] at hZ
      subst hZ
      subst h1
      exact ⟨fun i => by rw [if_neg (by omega)], fun _ _ => rfl⟩
    · rw [if_neg (fun h => by have := zt_le h; rw [a3] at this; omega)] at hZ
      have e2 : (12 + k).toInt = ((12 + j : Nat) : Int) := by rw [zt_add (by omega) (by omega)]; omega
      obtain ⟨h13, h14, h15⟩ := b1 j (by omega)
      have e142 : mX5_laysState_S142 k R = (if E 1 j = 0 then 0 else 500) := by
        unfold mX5_laysState_S142
        rw [zncl hk, h14]
      simp only [zbe] at hZ
      rw [(zentry hA hk (by omega)).1, e142, zncl hk, zncl e2, h13, h15] at hZ
      have ev : (((((1000 * E 0 j) + (if E 1 j = 0 then 0 else 500)) + (20 * E 2 j)) + mX4_targetPlace k T E) + 1) = zrE T E j := by rw [zofn hk (by omega)]; rfl
      rw [ev] at hZ
      have hA1 : zAll sT sE L T E (zsF R 25 (upd (R 25) (12 + j) (zrE T E j))) := hA
      obtain ⟨q1, q2⟩ := ih (k + 1) (j + 1) _ (zinc hk (by omega)) (by omega) (by omega) hA1 Z hZ
      refine ⟨fun i => ?_, fun c hc => (q2 c hc).trans (zsF_n R _ hc)⟩
      rw [q1 i]
      show (if 12 + (j + 1) ≤ i ∧ i < 12 + sE then zrE T E (i - 12) else upd (R 25) (12 + j) (zrE T E j) i) = _
      by_cases h2 : i = 12 + j
      · subst h2
        rw [if_neg (by omega), if_pos (by omega), upd, if_pos rfl, show 12 + j - 12 = j by omega]
      · rw [upd, if_neg h2]
        by_cases h3 : 12 + (j + 1) ≤ i ∧ i < 12 + sE
        · rw [if_pos h3, if_pos (by omega)]
        · rw [if_neg h3, if_neg (by omega)]
theorem zcellT {sT : Nat} {N M : Int} {T R : zS_t} {j : Nat} (hT : zQT sT N M T R) (hj : j < sT) : zcT (zpT T j) (zrT T j) := by
  obtain ⟨⟨a1, a2, a3⟩, b1, c1, -⟩ := id hT
  obtain ⟨⟨c0, c12⟩, p0, p3⟩ := c1 j hj
  have hr := (zthing (k := Int32.ofNat j) hT (by rw [Int32.toInt_ofNat_of_lt (by omega)]) hj).2
  obtain ⟨c, hc⟩ : ∃ c : Nat, (T 0 j).toInt = c := ⟨(T 0 j).toInt.toNat, by omega⟩
  obtain ⟨p, hp⟩ : ∃ p : Nat, (T 1 j).toInt = p := ⟨(T 1 j).toInt.toNat, by omega⟩
  obtain ⟨q, hq⟩ : ∃ q : Nat, (mX2_placeOf (T 2 j) T).toInt = (q : Int) - 1 := ⟨((mX2_placeOf (T 2 j) T).toInt + 1).toNat, by omega⟩
  refine ⟨c, p, q, ⟨by omega, by omega, by omega⟩, ?_, ?_⟩
  · unfold zpT
    rw [zpk_v hc (by omega) hp (by omega) hq (by omega), if_pos rfl]
    omega
  · have k1 : Int32.toInt 1 = 1 := by decide
    have m1 := zt_mulc (a := 100) (b := T 0 j) (c := 100) (by decide) (by omega) (by omega)
    have m2 := zt_mulc (a := 20) (b := T 1 j) (c := 20) (by decide) (by omega) (by omega)
    unfold zrT
    have s1 := zt_add (a := 100 * T 0 j) (b := 20 * T 1 j) (by omega) (by omega)
    have s2 := zt_add (a := 100 * T 0 j + 20 * T 1 j) (b := mX2_placeOf (T 2 j) T) (by omega) (by omega)
    rw [zt_add (by omega) (by omega)]
    omega
theorem zcellE {sT sE : Nat} {L T E R : zS_t} {j : Nat} (hA : zAll sT sE L T E R) (hj : j < sE) : zcE (zpE T E j) (zrE T E j) := by
  obtain ⟨⟨a1, a2, a3⟩, b1, c1, -, -, f1⟩ := id hA.2
  obtain ⟨p0, p3⟩ := c1 j hj
  obtain ⟨-, q2, -, ⟨c0, c14⟩, -⟩ := f1 j hj
  obtain ⟨-, hr0, hr1⟩ := zentry (k := Int32.ofNat j) hA (by rw [Int32.toInt_ofNat_of_lt (by omega)]) hj
  obtain ⟨c, hc⟩ : ∃ c : Nat, (E 0 j).toInt = c := ⟨(E 0 j).toInt.toNat, by omega⟩
  obtain ⟨p, hp⟩ : ∃ p : Nat, (E 2 j).toInt = p := ⟨(E 2 j).toInt.toNat, by omega⟩
  obtain ⟨q, hq⟩ : ∃ q : Nat, (mX4_targetPlace (Int32.ofNat j) T E).toInt = (q : Int) - 1 := ⟨((mX4_targetPlace (Int32.ofNat j) T E).toInt + 1).toNat, by omega⟩
  have k1 : Int32.toInt 1 = 1 := by decide
  have k0 : Int32.toInt 0 = 0 := by decide
  have k5 : Int32.toInt 500 = 500 := by decide
  have m1 := zt_mulc (a := 1000) (b := E 0 j) (c := 1000) (by decide) (by omega) (by omega)
  have m2 := zt_mulc (a := 20) (b := E 2 j) (c := 20) (by decide) (by omega) (by omega)
  rcases q2 with q2 | q2
  · refine ⟨c, 0, p, q, ⟨by omega, by omega, by omega, by omega⟩, ?_, ?_⟩
    · unfold zpE
      rw [zpk_v hc (by omega) hp (by omega) hq (by omega), if_pos q2]
      omega
    · unfold zrE
      rw [if_pos q2]
      have s0 := zt_add (a := 1000 * E 0 j) (b := 0) (by omega) (by omega)
      have s1 := zt_add (a := 1000 * E 0 j + 0) (b := 20 * E 2 j) (by omega) (by omega)
      have s2 := zt_add (a := 1000 * E 0 j + 0 + 20 * E 2 j) (b := mX4_targetPlace (Int32.ofNat j) T E) (by omega) (by omega)
      rw [zt_add (by omega) (by omega)]
      omega
  · have hn : ¬ E 1 j = 0 := by rw [q2]; decide
    refine ⟨c, 1, p, q, ⟨by omega, by omega, by omega, by omega⟩, ?_, ?_⟩
    · unfold zpE
      rw [zpk_v hc (by omega) hp (by omega) hq (by omega), if_neg hn]
      omega
    · unfold zrE
      rw [if_neg hn]
      have s0 := zt_add (a := 1000 * E 0 j) (b := 500) (by omega) (by omega)
      have s1 := zt_add (a := 1000 * E 0 j + 500) (b := 20 * E 2 j) (by omega) (by omega)
      have s2 := zt_add (a := 1000 * E 0 j + 500 + 20 * E 2 j) (b := mX4_targetPlace (Int32.ofNat j) T E) (by omega) (by omega)
      rw [zt_add (by omega) (by omega)]
      omega
/-- both states laid -/
theorem zstate {sT sE : Nat} {L T E M R : zS_t} (hA : zAll sT sE L T E R) : ∀ Z1 Z2 W, mX4_breakLoop_L23 T 11 0 (mX1_start (T 4 0) (E 5 0) M) = Z1 → mX4_breakLoop_L84 T E 13 0 Z1.2 = Z2 → mX5_laysState R = W → zRa sT sE (Z2.2 0) (W 25) ∧ (Z2.2 2 0).toInt = ((2 + sT + sE : Nat) : Int) ∧ Z2.2 3 = M 3 ∧ Z2.2 4 = M 4 ∧ ∀ c : Nat, c ≠ 25 → W c = R c := by
  intro Z1 Z2 W hZ1 hZ2 hW
  obtain ⟨⟨t1, t2, t3⟩, -⟩ := id hA.1
  obtain ⟨⟨a1, a2, a3⟩, -⟩ := id hA.2
  have n0 : (0 : Int32).toNatClampNeg = 0 := by decide
  have n1 : (1 : Int32).toNatClampNeg = 1 := by decide
  obtain ⟨u1, u2, u3, u4⟩ := zwT t1 t2 11 0 0 (mX1_start (T 4 0) (E 5 0) M) (by decide) (by omega) (by omega) (by show Int32.toInt 2 = _; decide) Z1 hZ1
  obtain ⟨w1, w2, w3, w4⟩ := zwE (T := T) t2 a1 a2 13 0 0 Z1.2 (by decide) (by omega) (by omega) u2 Z2 hZ2
  have s0 : (mX1_start (T 4 0) (E 5 0) M) 0 0 = T 4 0 := by
    show upd (upd (M 0) (0 : Int32).toNatClampNeg (T 4 0)) (1 : Int32).toNatClampNeg (E 5 0) 0 = _
    rw [n0, n1, upd, if_neg (by omega), upd, if_pos rfl]
  have s1 : (mX1_start (T 4 0) (E 5 0) M) 0 1 = E 5 0 := by
    show upd (upd (M 0) (0 : Int32).toNatClampNeg (T 4 0)) (1 : Int32).toNatClampNeg (E 5 0) 1 = _
    rw [n1, upd, if_pos rfl]
  unfold mX5_laysState at hW
  simp only [zbe, zbe2] at hW
  obtain ⟨X1, hX1⟩ : ∃ z, mX5_laysState_L2 25 0 R = z := ⟨_, rfl⟩
  rw [hX1] at hW
  obtain ⟨x1, x2⟩ := zl2 25 0 0 R (by decide) (by omega) (by omega) (fun i hi => absurd hi (by omega)) X1 hX1
  rw [n0, n1] at hW
  obtain ⟨X2, hX2⟩ : ∃ z, (zsF X1.2 25 (upd (upd (X1.2 25) 0 (X1.2 6 0)) 1 (X1.2 12 0))) = z := ⟨_, rfl⟩
  rw [hX2] at hW
  have y2 : ∀ c : Nat, c ≠ 25 → X2 c = R c := fun c hc => by rw [← hX2, zsF_n _ _ hc]; exact x2 c hc
  have y0 : X2 25 0 = T 4 0 := by
    rw [← hX2, zsF_s, upd, if_neg (by omega), upd, if_pos rfl, x2 6 (by omega)]; exact t3
  have y1 : X2 25 1 = E 5 0 := by
    rw [← hX2, zsF_s, upd, if_pos rfl, x2 12 (by omega)]; exact a3
  have yz : ∀ i : Nat, 2 ≤ i → i < 24 → X2 25 i = 0 := fun i h2 h24 => by
    rw [← hX2, zsF_s, upd, if_neg (by omega), upd, if_neg (by omega)]; exact x1 i h24
  obtain ⟨X3, hX3⟩ : ∃ z, mX5_laysState_L43 11 0 X2 = z := ⟨_, rfl⟩
  rw [hX3] at hW
  have hA2 : zAll sT sE L T E X2 := zAll_c hA (fun c _ h => y2 c (by omega))
  obtain ⟨v1, v2⟩ := zl43 t2 11 0 0 X2 (by decide) (by omega) (by omega) hA2.1 X3 hX3
  have hA3 : zAll sT sE L T E X3.2 := zAll_c hA2 (fun c _ h => v2 c (by omega))
  obtain ⟨X4, hX4⟩ : ∃ z, mX5_laysState_L116 13 0 X3.2 = z := ⟨_, rfl⟩
  rw [hX4] at hW
  obtain ⟨z1, z2⟩ := zl116 a2 13 0 0 X3.2 (by decide) (by omega) (by omega) hA3 X4 hX4
  subst hW
  refine ⟨⟨⟨t2, a2⟩, ⟨?_, ?_, ?_, ?_⟩, fun j hj => ?_, fun j hj hj2 => ?_, fun j hj => ?_, fun j hj hj2 => ?_⟩, w2, w3.trans u3, w4.trans u4, fun c hc => (z2 c hc).trans ((v2 c hc).trans (y2 c hc))⟩
  · rw [w1, if_neg (by omega), u1, if_neg (by omega), s0]; exact t1
  · rw [w1, if_neg (by omega), u1, if_neg (by omega), s1]; exact a1
  · rw [z1, if_neg (by omega), v1, if_neg (by omega), y0]; exact t1
  · rw [z1, if_neg (by omega), v1, if_neg (by omega), y1]; exact a1
  · rw [w1, if_neg (by omega), u1, if_pos (by omega), z1, if_neg (by omega), v1, if_pos (by omega), show 2 + j - 2 = j by omega]
    exact zcellT hA.1 hj
  · rw [z1, if_neg (by omega), v1, if_neg (by omega)]
    exact yz _ (by omega) (by omega)
  · rw [w1, if_pos (by omega), z1, if_pos (by omega), show 2 + sT + j - (2 + sT) = j by omega, show 12 + j - 12 = j by omega]
    exact zcellE hA hj
  · rw [z1, if_neg (by omega), v1, if_neg (by omega)]
    exact yz _ (by omega) (by omega)
