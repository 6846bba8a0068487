/-! triggers raised: one player's round -/
theorem zrefTail {sT : Nat} {W : Nat} {R : zS_t} {one other but p : Int32} (hs : (R 6 0).toInt = sT) (h10 : sT ≤ 10) (hbut : ∀ (k : Int32) (j : Nat), k.toInt = j → j < sT → W ≤ j → k = but) : ∀ (fuel : Nat) (k : Int32) (j : Nat), k.toInt = j → sT + 1 ≤ j + fuel → j ≤ sT → W ≤ j → (mX5_triggersOf_L28 one other but p fuel k R).2 = R := by
  intro fuel
  induction fuel with
  | zero => intro k j hk hf hj; omega
  | succ fuel ih =>
    intro k j hk hf hj hW
    rw [mX5_triggersOf_L28.eq_2]
    by_cases h1 : j = sT
    · have g2 : (R 6 0) ≤ k := Int32.le_iff_toInt_le.mpr (by omega)
      rw [if_pos g2]
    · have g2 : ¬ (R 6 0) ≤ k := fun h => by have := zt_le h; omega
      rw [if_neg g2, if_pos (hbut k j hk (by omega) hW)]
      exact ih (k + 1) (j + 1) (zinc hk (by omega)) (by omega) (by omega) (by omega)
theorem zround1 {sT W : Nat} {T V : zS_t} {event w9 p one other but : Int32} (hw : w9.toInt = (W : Int)) (hW : W ≤ sT) (hht : ∀ (c : Int32) (L : zS_t), mX4_hasTrigger c event p L = if c = one then 1 else if c = other then 1 else 0) (hb1 : ∀ (k : Int32) (j : Nat), k.toInt = j → j < sT → W ≤ j → k = but) (hb2 : ∀ (k : Int32) (j : Nat), k.toInt = j → j < W → ¬ k = but) (ho1 : one = 1 ∨ one = 9 ∨ one = 10 ∨ one = 11) (ho2 : other = 1 ∨ other = 9 ∨ other = 10 ∨ other = 11) (hp : 0 ≤ p.toInt ∧ p.toInt < 3) : ∀ (fuel : Nat) (k : Int32) (j : Nat) (L E R : zS_t) (sE : Nat) (B : Int), k.toInt = j → sT + 1 ≤ j + fuel → j ≤ sT → zAll sT sE L T E R → zNb B L R → B + sT - j ≤ 50000000 → (∀ i : Nat, i < sT → R 18 i = V 0 i) → ∀ Z W9, mX4_raiseTriggers_L59 event w9 p T V fuel k L E = Z → mX5_triggersOf_L28 one other but p fuel k R = W9 → ∃ sE1 : Nat, zAll sT sE1 Z.2.1 T Z.2.2 W9.2 ∧ zNb (B + sT - j) Z.2.1 W9.2 ∧ zFrL L Z.2.1 ∧ zFrR R W9.2 := by
  intro fuel
  induction fuel with
  | zero => intro k j L E R sE B hk hf hj; omega
  | succ fuel ih =>
    intro k j L E R sE B hk hf hj hA hb hB hV Z W9 hZ hW9
    obtain ⟨⟨a1, a2, a3⟩, arow, acard, -, -, -⟩ := id hA.1
    have hs : (R 6 0).toInt = sT := by rw [a3]; exact a1
    rw [mX4_raiseTriggers_L59.eq_2] at hZ
    by_cases h1 : W ≤ j
    · have g1 : w9 ≤ k := Int32.le_iff_toInt_le.mpr (by omega)
      rw [if_pos g1] at hZ
      have e9 := zrefTail (one := one) (other := other) (p := p) hs a2 hb1 (fuel + 1) k j hk (by omega) hj h1
      rw [hW9] at e9
      subst hZ
      rw [e9]
      obtain ⟨⟨x1, x2⟩, x3, x4⟩ := hb
      exact ⟨sE, hA, ⟨⟨x1, by show (L 10 0).toInt ≤ _; omega⟩, x3, by omega⟩, zFrL.refl L, zFrR.refl R⟩
    · have g1 : ¬ w9 ≤ k := fun h => by have := zt_le h; omega
      have g2 : ¬ (R 6 0) ≤ k := fun h => by have := zt_le h; omega
      have hk1 := zinc hk (by omega)
      rw [mX5_triggersOf_L28.eq_2] at hW9
      rw [if_neg g1] at hZ
      rw [if_neg g2, if_neg (hb2 k j hk (by omega))] at hW9
      have hj9 : j < sT := by omega
      have hidle : mX4_raiseTriggers_L59 event w9 p T V fuel (k + 1) L E = Z → mX5_triggersOf_L28 one other but p fuel (k + 1) R = W9 → ∃ sE1 : Nat, zAll sT sE1 Z.2.1 T Z.2.2 W9.2 ∧ zNb (B + sT - j) Z.2.1 W9.2 ∧ zFrL L Z.2.1 ∧ zFrR R W9.2 := by
        intro hZ hW9
        obtain ⟨sE1, q1, ⟨⟨q2, q3⟩, q4, q5⟩, q6, q7⟩ := ih (k + 1) (j + 1) L E R sE B hk1 (by omega) (by omega) hA hb (by omega) hV Z W9 hZ hW9
        exact ⟨sE1, q1, ⟨⟨q2, by omega⟩, q4, by omega⟩, q6, q7⟩
      have hpush : ∀ c : Int32, (c = 1 ∨ c = 9 ∨ c = 10 ∨ c = 11) → mX4_raiseTriggers_L59 event w9 p T V fuel (k + 1) (zsI L 10 (L 10 0 + 1)) (mX0_push c 1 p (-1) (L 10 0) E) = Z → mX5_triggersOf_L28 one other but p fuel (k + 1) (mX5_triggers c p R) = W9 → ∃ sE1 : Nat, zAll sT sE1 Z.2.1 T Z.2.2 W9.2 ∧ zNb (B + sT - j) Z.2.1 W9.2 ∧ zFrL L Z.2.1 ∧ zFrR R W9.2 := by
        intro c hc hZ hW9
        obtain ⟨sE2, r1, r2, r3⟩ := ztrig hA hb (by omega) hc hp
        have hV2 : ∀ i : Nat, i < sT → (mX5_triggers c p R) 18 i = V 0 i := fun i hi => by rw [r3 18 (by omega)]; exact hV i hi
        obtain ⟨sE1, q1, ⟨⟨q2, q3⟩, q4, q5⟩, q6, q7⟩ := ih (k + 1) (j + 1) _ _ _ sE2 (B + 1) hk1 (by omega) (by omega) r1 r2 (by omega) hV2 Z W9 hZ hW9
        have hfr : zFrL L (zsI L 10 (L 10 0 + 1)) := fun c9 h9 => zsF_n L _ h9
        exact ⟨sE1, q1, ⟨⟨q2, by omega⟩, q4, by omega⟩, hfr.trans q6, r3.trans q7⟩
      simp only [zbnd, zbnd2, mX4_newId, zncl hk, hht] at hZ hW9
      rw [(arow j hj9).1, hV j hj9] at hW9
      by_cases h3 : V 0 j = p
      · rw [if_pos h3] at hZ hW9
        by_cases h4 : T 0 j = one
        · rw [if_pos h4] at hW9
          rw [if_pos h4, if_neg (by decide)] at hZ
          exact hpush (T 0 j) (by rw [h4]; exact ho1) hZ hW9
        · rw [if_neg h4] at hW9 hZ
          by_cases h5 : T 0 j = other
          · rw [if_pos h5] at hW9
            rw [if_pos h5, if_neg (by decide)] at hZ
            exact hpush (T 0 j) (by rw [h5]; exact ho2) hZ hW9
          · rw [if_neg h5] at hW9
            rw [if_neg h5, if_pos rfl] at hZ
            exact hidle hZ hW9
      · rw [if_neg h3] at hZ hW9
        exact hidle hZ hW9
