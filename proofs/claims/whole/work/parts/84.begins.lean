/-! triggers raised: a turn begins -/
theorem zht3 (c p : Int32) (L : zS_t) : mX4_hasTrigger c 3 p L = if c = 1 then (if p = L 5 0 then 1 else 0) else 0 := by
  unfold mX4_hasTrigger
  rw [if_neg (by decide), if_neg (by decide), if_pos rfl]
theorem zround3 {sT : Nat} {T V : zS_t} {w9 p : Int32} (hw : w9.toInt = (sT : Int)) (hp : 0 ≤ p.toInt ∧ p.toInt < 3) : ∀ (fuel : Nat) (k : Int32) (j : Nat) (L E R : zS_t) (sE : Nat) (B : Int), k.toInt = j → sT + 1 ≤ j + fuel → j ≤ sT → zAll sT sE L T E R → zNb B L R → B + sT - j ≤ 50000000 → L 5 0 = p → R 0 0 = p → (∀ i : Nat, i < sT → R 18 i = V 0 i) → ∀ Z W9, mX4_raiseTriggers_L59 3 w9 p T V fuel k L E = Z → mX5_begins_L55 fuel k R = W9 → ∃ sE1 : Nat, zAll sT sE1 Z.2.1 T Z.2.2 W9.2 ∧ zNb (B + sT - j) Z.2.1 W9.2 ∧ zFrL L Z.2.1 ∧ zFrR R W9.2 := by
  intro fuel
  induction fuel with
  | zero => intro k j L E R sE B hk hf hj; omega
  | succ fuel ih =>
    intro k j L E R sE B hk hf hj hA hb hB hL hR hV Z W9 hZ hW9
    obtain ⟨⟨a1, a2, a3⟩, arow, acard, -, -, -⟩ := id hA.1
    have hs : (R 6 0).toInt = sT := by rw [a3]; exact a1
    rw [mX4_raiseTriggers_L59.eq_2] at hZ
    rw [mX5_begins_L55.eq_2] at hW9
    by_cases h1 : j = sT
    · have g1 : w9 ≤ k := Int32.le_iff_toInt_le.mpr (by omega)
      have g2 : (R 6 0) ≤ k := Int32.le_iff_toInt_le.mpr (by omega)
      rw [if_pos g1] at hZ
      rw [if_pos g2] at hW9
      subst hZ
      subst hW9
      exact ⟨sE, hA, hb.mono (by omega), zFrL.refl L, zFrR.refl R⟩
    · have g1 : ¬ w9 ≤ k := fun h => by have := zt_le h; omega
      have g2 : ¬ (R 6 0) ≤ k := fun h => by have := zt_le h; omega
      have hk1 := zinc hk (by omega)
      rw [if_neg g1] at hZ
      rw [if_neg g2] at hW9
      have hj9 : j < sT := by omega
      have hidle : mX4_raiseTriggers_L59 3 w9 p T V fuel (k + 1) L E = Z → mX5_begins_L55 fuel (k + 1) R = W9 → ∃ sE1 : Nat, zAll sT sE1 Z.2.1 T Z.2.2 W9.2 ∧ zNb (B + sT - j) Z.2.1 W9.2 ∧ zFrL L Z.2.1 ∧ zFrR R W9.2 := by
        intro hZ hW9
        obtain ⟨sE1, q1, q2, q6, q7⟩ := ih (k + 1) (j + 1) L E R sE B hk1 (by omega) (by omega) hA hb (by omega) hL hR hV Z W9 hZ hW9
        exact ⟨sE1, q1, q2.mono (by omega), q6, q7⟩
      simp only [zbnd, zbnd2, mX4_newId, zncl hk, zht3] at hZ hW9
      rw [(arow j hj9).1, hV j hj9, hR] at hW9
      by_cases h3 : V 0 j = p
      · rw [if_pos h3] at hZ
        by_cases h4 : T 0 j = 1
        · rw [if_pos h4, if_pos h3] at hW9
          rw [if_pos h4, if_pos hL.symm, if_neg (by decide), h4] at hZ
          obtain ⟨sE2, r1, r2, r3⟩ := ztrig hA hb (by omega) (Or.inl rfl : (1 : Int32) = 1 ∨ (1 : Int32) = 9 ∨ (1 : Int32) = 10 ∨ (1 : Int32) = 11) hp
          have hV2 : ∀ i : Nat, i < sT → (mX5_triggers 1 p R) 18 i = V 0 i := fun i hi => by rw [r3 18 (by omega)]; exact hV i hi
          have hfr : zFrL L (zsI L 10 (L 10 0 + 1)) := fun c9 h9 => zsF_n L _ h9
          obtain ⟨sE1, q1, q2, q6, q7⟩ := ih (k + 1) (j + 1) _ _ _ sE2 (B + 1) hk1 (by omega) (by omega) r1 r2 (by omega) (by rw [hfr 5 (by omega)]; exact hL) (by rw [r3 0 (by omega)]; exact hR) hV2 Z W9 hZ hW9
          exact ⟨sE1, q1, q2.mono (by omega), hfr.trans q6, r3.trans q7⟩
        · rw [if_neg h4] at hW9
          rw [if_neg h4, if_pos rfl] at hZ
          exact hidle hZ hW9
      · rw [if_neg h3] at hZ
        by_cases h4 : T 0 j = 1
        · rw [if_pos h4, if_neg h3] at hW9
          exact hidle hZ hW9
        · rw [if_neg h4] at hW9
          exact hidle hZ hW9
theorem zidle3 {sT : Nat} {T V : zS_t} {w9 p : Int32} {L E : zS_t} (hw : w9.toInt = (sT : Int)) (h10 : sT ≤ 10) (hL : ¬ p = L 5 0) : ∀ (fuel : Nat) (k : Int32) (j : Nat), k.toInt = j → sT + 1 ≤ j + fuel → j ≤ sT → (mX4_raiseTriggers_L59 3 w9 p T V fuel k L E).2 = (L, E) := by
  intro fuel
  induction fuel with
  | zero => intro k j hk hf hj; omega
  | succ fuel ih =>
    intro k j hk hf hj
    rw [mX4_raiseTriggers_L59.eq_2]
    by_cases h1 : j = sT
    · have g1 : w9 ≤ k := Int32.le_iff_toInt_le.mpr (by omega)
      rw [if_pos g1]
    · have g1 : ¬ w9 ≤ k := fun h => by have := zt_le h; omega
      rw [if_neg g1]
      have hn := ih (k + 1) (j + 1) (zinc hk (by omega)) (by omega) (by omega)
      simp only [zbnd, zbnd2, zht3, if_neg hL]
      by_cases h3 : V 0 k.toNatClampNeg = p
      · rw [if_pos h3]
        by_cases h4 : T 0 k.toNatClampNeg = 1
        · rw [if_pos h4, if_pos rfl]; exact hn
        · rw [if_neg h4, if_pos rfl]; exact hn
      · rw [if_neg h3]; exact hn
theorem zL50_go {w9 p k : Int32} {T V L E : zS_t} {n : Nat} (h : ¬ 3 ≤ k) : mX4_raiseTriggers_L50 3 w9 T V (n + 1) p k L E = mX4_raiseTriggers_L50 3 w9 T V n (mX4_nextPlayer p) (k + 1) (mX4_raiseTriggers_L59 3 w9 p T V 11 0 L E).2.1 (mX4_raiseTriggers_L59 3 w9 p T V 11 0 L E).2.2 := by
  rw [mX4_raiseTriggers_L50.eq_2, if_neg h]
  simp only [zbnd, zbnd3]
theorem zL50_end {w9 p k : Int32} {T V L E : zS_t} {n : Nat} (h : 3 ≤ k) : (mX4_raiseTriggers_L50 3 w9 T V (n + 1) p k L E).2.2 = (L, E) := by
  rw [mX4_raiseTriggers_L50.eq_2, if_pos h]
theorem zL50_4 {w9 p : Int32} {T V L E L1 E1 : zS_t} (h1 : (mX4_raiseTriggers_L59 3 w9 p T V 11 0 L E).2 = (L1, E1)) (h2 : (mX4_raiseTriggers_L59 3 w9 (mX4_nextPlayer p) T V 11 0 L1 E1).2 = (L1, E1)) (h3 : (mX4_raiseTriggers_L59 3 w9 (mX4_nextPlayer (mX4_nextPlayer p)) T V 11 0 L1 E1).2 = (L1, E1)) : ∀ (n : Nat) (k : Int32), k = 0 → (mX4_raiseTriggers_L50 3 w9 T V (n + 1 + 1 + 1 + 1) p k L E).2.2 = (L1, E1) := by
  intro n k hk
  have g0 : ¬ 3 ≤ k := by rw [hk]; decide
  have g1 : ¬ 3 ≤ k + 1 := by rw [hk]; decide
  have g2 : ¬ 3 ≤ k + 1 + 1 := by rw [hk]; decide
  have g3 : 3 ≤ k + 1 + 1 + 1 := by rw [hk]; decide
  rw [zL50_go g0, h1]
  dsimp only
  rw [zL50_go g1, h2]
  dsimp only
  rw [zL50_go g2, h3]
  dsimp only
  exact zL50_end g3
theorem zraise3 {sT sE t : Nat} {L T E R V : zS_t} {B : Int} (ht : t < 3) (hR0 : (R 0 0).toInt = t) (hL5 : L 5 0 = R 0 0) (hA : zAll sT sE L T E R) (hb : zNb B L R) (hB : B + 30 ≤ 50000000) : ∀ Z W9, mX4_raiseTriggers 3 L T E V = Z → (mX5_begins_L55 11 0 (mX5_lays 5 R)).2 = W9 → ∃ sE1 : Nat, zAll sT sE1 Z.1 T Z.2.1 W9 ∧ zNb (B + 30) Z.1 W9 ∧ zFrL L Z.1 ∧ zFr2 R W9 := by
  intro Z W9 hZ hW9
  obtain ⟨⟨a1, a2, a3⟩, -⟩ := id hA.1
  have e17 : mX4_raiseTriggers_S17 3 T = T 4 0 := by unfold mX4_raiseTriggers_S17; rw [if_neg (by decide)]
  unfold mX4_raiseTriggers at hZ
  rw [if_neg (by decide)] at hZ
  simp only [zbnd, zbnd4] at hZ
  rw [e17] at hZ
  obtain ⟨v1, v2⟩ := zfind (ls := 5) (m := 5) (V := V) (by decide) (by omega) hA.1.cards hA.1.rows hA.1.cr _ _ rfl rfl
  have hA1 := zAll_same hA v2
  have hb9 : zNb B L (mX5_lays 5 R) := by
    unfold zNb
    rw [v2 11 (by omega)]
    exact hb
  obtain ⟨V3, hV3⟩ : ∃ z, mX3_find 5 T V = z := ⟨_, rfl⟩
  rw [hV3] at hZ v1
  have hp : (L 5 0).toInt = ((t + 0) % 3 : Nat) := by rw [hL5, hR0]; omega
  obtain ⟨Z1, hZ1⟩ : ∃ z, mX4_raiseTriggers_L59 3 (T 4 0) (L 5 0) T V3 11 0 L E = z := ⟨_, rfl⟩
  obtain ⟨sE1, q1, q2, q3, q4⟩ := zround3 (V := V3) a1 (p := L 5 0) (by omega) 11 0 0 L E (mX5_lays 5 R) sE B (by decide) (by omega) (by omega) hA1 hb9 (by omega) rfl (by rw [v2 0 (by omega)]; exact hL5.symm) (fun i hi => (v1 i hi).1) _ _ hZ1 rfl
  rw [hW9] at q1 q2 q4
  have n1 := znext hp
  have n2 := znext n1
  have d1 : ¬ mX4_nextPlayer (L 5 0) = Z1.2.1 5 0 := fun e => by rw [q3 5 (by omega)] at e; rw [e] at n1; omega
  have d2 : ¬ mX4_nextPlayer (mX4_nextPlayer (L 5 0)) = Z1.2.1 5 0 := fun e => by rw [q3 5 (by omega)] at e; rw [e] at n2; omega
  have i1 := zidle3 (V := V3) (T := T) (E := Z1.2.2) a1 a2 d1 11 0 0 (by decide) (by omega) (by omega)
  have i2 := zidle3 (V := V3) (T := T) (E := Z1.2.2) a1 a2 d2 11 0 0 (by decide) (by omega) (by omega)
  have hend : (mX4_raiseTriggers_L50 3 (T 4 0) T V3 4 (L 5 0) 0 L E).2.2 = (Z1.2.1, Z1.2.2) := zL50_4 (by rw [hZ1]) i1 i2 0 0 rfl
  have e1 : Z.1 = Z1.2.1 := by rw [← hZ, hend]
  have e2 : Z.2.1 = Z1.2.2 := by rw [← hZ, hend]
  rw [e1, e2]
  exact ⟨sE1, q1, q2.mono (by omega), q3, zFr2.of v2 q4⟩
