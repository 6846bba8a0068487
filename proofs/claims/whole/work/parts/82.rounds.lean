/-! triggers raised: all players, by the turn -/
theorem zNb.mono {B B' : Int} {L R : zS_t} (h : zNb B L R) (hB : B ≤ B') : zNb B' L R := by
  obtain ⟨⟨x1, x2⟩, x3, x4⟩ := h
  exact ⟨⟨x1, by omega⟩, x3, by omega⟩
theorem zAll_same {sT sE : Nat} {L T E R R' : zS_t} (h : zAll sT sE L T E R) (hs : zSameR R R') : zAll sT sE L T E R' := by
  unfold zAll zQT zQE zQe at *
  rw [hs 6 (by omega), hs 7 (by omega), hs 8 (by omega), hs 9 (by omega), hs 10 (by omega), hs 11 (by omega), hs 12 (by omega), hs 13 (by omega), hs 14 (by omega), hs 15 (by omega), hs 16 (by omega), hs 17 (by omega)]
  exact h
theorem zQT.rows {sT : Nat} {N M : Int} {T R : zS_t} (h : zQT sT N M T R) : zRows sT T R := by
  obtain ⟨⟨a1, a2, a3⟩, b1, -⟩ := h
  exact ⟨a1, by rw [a3]; exact a1, a2, b1⟩
theorem zQT.cr {sT : Nat} {N M : Int} {T R : zS_t} (h : zQT sT N M T R) : zCr sT T R := by
  obtain ⟨-, -, -, -, d2, f1⟩ := h
  exact ⟨d2.1, fun i hi => (f1 i hi).2.1⟩
theorem zQT.cards {sT : Nat} {N M : Int} {T R : zS_t} (h : zQT sT N M T R) : ∀ i : Nat, i < sT → 0 ≤ (T 0 i).toInt ∧ (T 0 i).toInt < 12 := fun i hi => (h.2.2.1 i hi).1
theorem znext {p : Int32} {t j : Nat} (hp : p.toInt = ((t + j) % 3 : Nat)) : (mX4_nextPlayer p).toInt = ((t + (j + 1)) % 3 : Nat) := by
  have k3 : Int32.toInt 3 = 3 := by decide
  have k0 : Int32.toInt 0 = 0 := by decide
  have e1 := zi1 (x := p) (by omega) (by omega)
  unfold mX4_nextPlayer
  by_cases h : 3 ≤ p + 1
  · rw [if_pos h]
    have := zt_le h
    omega
  · rw [if_neg h]
    have := zt_nle h
    omega
theorem zrem3 {a b : Int32} {t j : Nat} (ha : a.toInt = t) (hb : b.toInt = j) (ht : t < 3) (hj : j < 3) : ((a + b) - (a + b) / 3 * 3).toInt = ((t + j) % 3 : Nat) := by
  have e1 : (a + b).toInt = a.toInt + b.toInt := zt_add (by omega) (by omega)
  rw [zt_rem (c := 3) (by decide) (by omega) (by omega), e1]
  omega
theorem zrounds {sT W : Nat} {T V : zS_t} {event w9 one other but : Int32} {t : Nat} (ht : t < 3) (hw : w9.toInt = (W : Int)) (hW : W ≤ sT) (hht : ∀ (c p : Int32) (L : zS_t), mX4_hasTrigger c event p L = if c = one then 1 else if c = other then 1 else 0) (hb1 : ∀ (k : Int32) (j : Nat), k.toInt = j → j < sT → W ≤ j → k = but) (hb2 : ∀ (k : Int32) (j : Nat), k.toInt = j → j < W → ¬ k = but) (ho1 : one = 1 ∨ one = 9 ∨ one = 10 ∨ one = 11) (ho2 : other = 1 ∨ other = 9 ∨ other = 10 ∨ other = 11) : ∀ (fuel : Nat) (p k : Int32) (j : Nat) (L E R : zS_t) (sE : Nat) (B : Int), k.toInt = j → 4 ≤ j + fuel → j ≤ 3 → p.toInt = ((t + j) % 3 : Nat) → (R 0 0).toInt = t → zAll sT sE L T E R → zNb B L R → B + 10 * (3 - j) ≤ 50000000 → (∀ i : Nat, i < sT → R 18 i = V 0 i) → ∀ Z W9, mX4_raiseTriggers_L50 event w9 T V fuel p k L E = Z → mX5_triggersOf_L8 one other but fuel k R = W9 → ∃ sE1 : Nat, zAll sT sE1 Z.2.2.1 T Z.2.2.2 W9.2 ∧ zNb (B + 10 * (3 - j)) Z.2.2.1 W9.2 ∧ zFrL L Z.2.2.1 ∧ zFrR R W9.2 := by
  intro fuel
  have k3 : Int32.toInt 3 = 3 := by decide
  induction fuel with
  | zero => intro p k j L E R sE B hk hf hj; omega
  | succ fuel ih =>
    intro p k j L E R sE B hk hf hj hp hR0 hA hb hB hV Z W9 hZ hW9
    rw [mX4_raiseTriggers_L50.eq_2] at hZ
    rw [mX5_triggersOf_L8.eq_2] at hW9
    by_cases h1 : j = 3
    · have g1 : 3 ≤ k := Int32.le_iff_toInt_le.mpr (by omega)
      rw [if_pos g1] at hZ hW9
      subst hZ
      subst hW9
      exact ⟨sE, hA, hb.mono (by omega), zFrL.refl L, zFrR.refl R⟩
    · have g1 : ¬ 3 ≤ k := fun h => by have := zt_le h; omega
      rw [if_neg g1] at hZ hW9
      have h10 : sT ≤ 10 := hA.1.1.2.1
      have hpl : ((R 0 0) + k) - ((R 0 0) + k) / 3 * 3 = p := Int32.toInt_inj.mp (by rw [zrem3 hR0 hk ht (by omega), hp])
      simp only [zbnd, zbnd2, zbnd3] at hZ hW9
      rw [hpl] at hW9
      obtain ⟨sE2, q1, q2, q3, q4⟩ := zround1 hw hW (fun c L => hht c p L) hb1 hb2 ho1 ho2 (p := p) (by omega) 11 0 0 L E R sE B (by decide) (by omega) (by omega) hA hb (by omega) hV _ _ rfl rfl
      obtain ⟨sE1, r1, r2, r3, r4⟩ := ih (mX4_nextPlayer p) (k + 1) (j + 1) _ _ _ sE2 (B + 10) (zinc hk (by omega)) (by omega) (by omega) (znext hp) (by rw [q4 0 (by omega)]; exact hR0) q1 (q2.mono (by omega)) (by omega) (fun i hi => by rw [q4 18 (by omega)]; exact hV i hi) Z W9 hZ hW9
      exact ⟨sE1, r1, r2.mono (by omega), q3.trans r3, q4.trans r4⟩
