/-! the crown -/
theorem zcS_crown {T V : zS_t} {q k : Int32} {src j : Nat} (hq : q.toInt = src) (hk : k.toInt = j) (hc : T 0 src = 7) : zcS q k T V = if T 3 j = T 2 src then zsF V 0 (upd (V 0) j (T 1 src)) else V := by
  have e1 : ¬ (1 : Int32) = 0 := by decide
  have n2 : ¬ (7 : Int32) = 2 := by decide
  have n3 : ¬ (7 : Int32) = 3 := by decide
  have n4 : ¬ (7 : Int32) = 4 := by decide
  have n5 : ¬ (7 : Int32) = 5 := by decide
  have n6 : ¬ (7 : Int32) = 6 := by decide
  by_cases h : T 3 j = T 2 src <;> by_cases h2 : (V 3 j &&& 1) = 0 <;> simp only [zcS, mX3_takes, mX3_change, zncl hk, zncl hq, hc, n2, n3, n4, n5, n6, h, h2, e1, if_true, if_false]
theorem zcrown_L {s : Nat} {T : zS_t} {q : Int32} {src : Nat} (hq : q.toInt = src) (hc : T 0 src = 7) (hs1 : (T 4 0).toInt = s) (h10 : s ≤ 10) : ∀ (fuel : Nat) (k : Int32) (j : Nat) (V : zS_t), k.toInt = j → s + 1 ≤ j + fuel → j ≤ s → ∀ Z, mX3_goThrough_L73 q 1 T fuel k V = Z → (∀ i : Nat, i < s → Z.2 0 i = if j ≤ i ∧ T 3 i = T 2 src then T 1 src else V 0 i) ∧ ∀ c : Nat, c ≠ 0 → Z.2 c = V c := by
  intro fuel
  induction fuel with
  | zero => intro k j V hk hf hj; omega
  | succ fuel ih =>
    intro k j V hk hf hj Z hZ
    by_cases h1 : j = s
    · have g1 : (T 4 0) ≤ k := Int32.le_iff_toInt_le.mpr (by omega)
      rw [mX3_goThrough_L73.eq_2, if_neg (by decide), if_pos g1] at hZ
      subst hZ
      refine ⟨fun i hi => ?_, fun c _ => rfl⟩
      rw [if_neg (by omega)]
    · have g1 : ¬ (T 4 0) ≤ k := fun h => by have := zt_le h; omega
      rw [zcS_eq g1, zcS_crown hq hk hc] at hZ
      by_cases h2 : T 3 j = T 2 src
      · rw [if_pos h2] at hZ
        obtain ⟨a1, a2⟩ := ih (k + 1) (j + 1) _ (zinc hk (by omega)) (by omega) (by omega) Z hZ
        refine ⟨fun i hi => ?_, fun c hc9 => (a2 c hc9).trans (zsF_n V _ hc9)⟩
        rw [a1 i hi]
        show (if j + 1 ≤ i ∧ T 3 i = T 2 src then T 1 src else upd (V 0) j (T 1 src) i) = _
        by_cases e : i = j
        · subst e
          rw [if_neg (by omega), zup_s, if_pos ⟨Nat.le_refl _, h2⟩]
        · have e9 : upd (V 0) j (T 1 src) i = V 0 i := by unfold upd; rw [if_neg e]
          rw [e9]
          by_cases h3 : T 3 i = T 2 src
          · by_cases h4 : j ≤ i
            · rw [if_pos ⟨by omega, h3⟩, if_pos ⟨h4, h3⟩]
            · rw [if_neg (fun z => h4 (by omega)), if_neg (fun z => h4 z.1)]
          · rw [if_neg (fun z => h3 z.2), if_neg (fun z => h3 z.2)]
      · rw [if_neg h2] at hZ
        obtain ⟨a1, a2⟩ := ih (k + 1) (j + 1) _ (zinc hk (by omega)) (by omega) (by omega) Z hZ
        refine ⟨fun i hi => ?_, a2⟩
        rw [a1 i hi]
        by_cases e : i = j
        · subst e
          rw [if_neg (by omega), if_neg (fun z => h2 z.2)]
        · by_cases h3 : T 3 i = T 2 src
          · by_cases h4 : j ≤ i
            · rw [if_pos ⟨by omega, h3⟩, if_pos ⟨h4, h3⟩]
            · rw [if_neg (fun z => h4 (by omega)), if_neg (fun z => h4 z.1)]
          · rw [if_neg (fun z => h3 z.2), if_neg (fun z => h3 z.2)]
/-- the crown's layer at one source: the reference names its aim once -/
theorem zcrown {s : Nat} {T V R : zS_t} {q : Int32} {src : Nat} (hr : zRows s T R) (hv : zV5 s V R) (hq : q.toInt = src) (hsrc : src < s) (hc : T 0 src = 7) (hi : zInj s (R 9)) (ht : zTg s (T 3) (R 9) (T 2 src) (R 10 src)) : ∀ Z W, mX3_goThrough_L73 q 1 T 11 0 V = Z → mX5_layer 1 q R = W → zV5 s Z.2 W ∧ zSameR R W := by
  intro Z W hZ hW
  obtain ⟨hs1, hs2, h10, hrow⟩ := id hr
  obtain ⟨a1, a2⟩ := zcrown_L hq hc hs1 h10 11 0 0 V (by decide) (by omega) (by omega) Z hZ
  have r7 : R 7 src = 7 := (hrow src hsrc).1.trans hc
  have r8 := (hrow src hsrc).2
  obtain ⟨w, hw⟩ : ∃ z, mX5_thingOf (R 10 src) R = z := ⟨_, rfl⟩
  have hat := zthR (x := R 10 src) hs2 h10
  rw [hw] at hat
  have hS7 : mX5_layer_S7 1 q 7 R = w := by
    unfold mX5_layer_S7 zbnd
    rw [zncl hq, hw]
    rfl
  have hW1 : (mX5_layer_L55 1 q 7 11 0 (mX5_layer_S34 q w R)).2 = W := by
    rw [← hW]
    unfold mX5_layer
    simp only [zbnd, zbnd2]
    rw [zncl hq, r7, hS7]
  have hS34 : mX5_layer_S34 q w R = if w < 0 then R else zsF R 18 (upd (R 18) w.toNatClampNeg (R 8 src)) := by
    unfold mX5_layer_S34
    rw [zncl hq]
  have hid : ∀ R1 : zS_t, (R1 6 0).toInt = s → (mX5_layer_L55 1 q 7 11 0 R1).2 = R1 := fun R1 h1 => zidle (fun k R => zid_7_1 q k R) h1 h10 11 0 0 (by decide) (by omega) (by omega)
  have k0 : Int32.toInt 0 = 0 := by decide
  rcases hat with ⟨j, hj, hf, hwj⟩ | ⟨hn, hwn⟩
  · have g : ¬ w < 0 := fun h => by have := zt_lt h; omega
    rw [hS34, if_neg g, zncl hwj, r8] at hW1
    rw [hid (zsF R 18 (upd (R 18) j (T 1 src))) hs2] at hW1
    subst hW1
    refine ⟨fun k hk => ?_, zSameR.set (by omega) (by omega)⟩
    obtain ⟨⟨v1, v2, v3, v4⟩, v5, v6, v7⟩ := hv k hk
    rw [a2 1 (by decide), a2 2 (by decide), a2 3 (by decide), a2 4 (by decide), a1 k hk]
    refine ⟨⟨?_, v2, v3, v4⟩, v5, v6, v7⟩
    show upd (R 18) j (T 1 src) k = _
    by_cases e : k = j
    · subst e
      rw [zup_s, if_pos ⟨Nat.zero_le _, (ht k hk).mpr hf⟩]
    · have e9 : upd (R 18) j (T 1 src) k = R 18 k := by unfold upd; rw [if_neg e]
      rw [e9, if_neg (fun z => e (hi k j hk hj (((ht k hk).mp z.2).trans hf.symm)))]
      exact v1
  · have g : w < 0 := Int32.lt_iff_toInt_lt.mpr (by rw [hwn, zm1v, k0]; decide)
    rw [hS34, if_pos g, hid _ hs2] at hW1
    subst hW1
    refine ⟨fun k hk => ?_, zSameR.refl R⟩
    obtain ⟨⟨v1, v2, v3, v4⟩, v5, v6, v7⟩ := hv k hk
    rw [a2 1 (by decide), a2 2 (by decide), a2 3 (by decide), a2 4 (by decide), a1 k hk, if_neg (fun z => hn k hk ((ht k hk).mp z.2))]
    exact ⟨⟨v1, v2, v3, v4⟩, v5, v6, v7⟩
