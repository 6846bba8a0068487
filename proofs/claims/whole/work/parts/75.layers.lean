/-! one layer: the copies, then source by source -/
def zV5 (s : Nat) (V R : zS_t) : Prop := ∀ k : Nat, k < s → (R 18 k = V 0 k ∧ R 19 k = V 1 k ∧ R 20 k = V 2 k ∧ zK8 (V 1 k)) ∧ R 21 k = V 3 k ∧ R 22 k = V 4 k ∧ zK8 (V 3 k)
theorem zV5.v3 {s : Nat} {V R : zS_t} (h : zV5 s V R) : zV3 s V R := fun k hk => (h k hk).1
theorem zv_copy {s : Nat} {T : zS_t} : ∀ (fuel : Nat) (k : Int32) (j : Nat) (V R : zS_t), k.toInt = j → s + 1 ≤ j + fuel → zRows s T R → zV3 s V R → (∀ i : Nat, i < j → R 21 i = V 3 i ∧ R 22 i = V 4 i ∧ zK8 (V 3 i)) → j ≤ s → ∀ Z W, mX3_goThrough_L2 T fuel k V = Z → mX5_lays_L105 fuel k R = W → zV5 s Z.2 W.2 ∧ zSameR R W.2 := by
  intro fuel
  induction fuel with
  | zero => intro k j V R hk hf hr hv hc hj; omega
  | succ fuel ih =>
    intro k j V R hk hf hr hv hc hj Z W hZ hW
    obtain ⟨hs1, hs2, h10, hrow⟩ := id hr
    rw [mX3_goThrough_L2.eq_2] at hZ
    rw [mX5_lays_L105.eq_2] at hW
    by_cases h1 : j = s
    · have g1 : (T 4 0) ≤ k := Int32.le_iff_toInt_le.mpr (by omega)
      have g2 : (R 6 0) ≤ k := Int32.le_iff_toInt_le.mpr (by omega)
      rw [if_pos g1] at hZ
      rw [if_pos g2] at hW
      subst hZ
      subst hW
      subst h1
      exact ⟨fun i hi => ⟨hv i hi, hc i hi⟩, zSameR.refl R⟩
    · have g1 : ¬ (T 4 0) ≤ k := fun h => by have := zt_le h; omega
      have g2 : ¬ (R 6 0) ≤ k := fun h => by have := zt_le h; omega
      have hk1 := zinc hk (by omega)
      rw [if_neg g1] at hZ
      rw [if_neg g2] at hW
      simp only [zbnd, zncl hk] at hZ hW
      have hS : zSameR R (zsF (zsF R 21 (upd (R 21) j (R 19 j))) 22 (upd (R 22) j (R 20 j))) := (zSameR.set (by omega) (by omega)).trans (zSameR.set (by omega) (by omega))
      have hcc : ∀ i : Nat, i < j + 1 → (zsF (zsF R 21 (upd (R 21) j (R 19 j))) 22 (upd (R 22) j (R 20 j))) 21 i = (zsF (zsF V 3 (upd (V 3) j (V 1 j))) 4 (upd (V 4) j (V 2 j))) 3 i ∧ (zsF (zsF R 21 (upd (R 21) j (R 19 j))) 22 (upd (R 22) j (R 20 j))) 22 i = (zsF (zsF V 3 (upd (V 3) j (V 1 j))) 4 (upd (V 4) j (V 2 j))) 4 i ∧ zK8 ((zsF (zsF V 3 (upd (V 3) j (V 1 j))) 4 (upd (V 4) j (V 2 j))) 3 i) := by
        intro i hi
        show upd (R 21) j (R 19 j) i = upd (V 3) j (V 1 j) i ∧ upd (R 22) j (R 20 j) i = upd (V 4) j (V 2 j) i ∧ zK8 (upd (V 3) j (V 1 j) i)
        by_cases e : i = j
        · subst e
          simp only [zup_s]
          obtain ⟨v1, v2, v3, v4⟩ := hv i (by omega)
          exact ⟨v2, v3, v4⟩
        · rw [zup_o (by omega), zup_o (by omega), zup_o (by omega), zup_o (by omega)]
          exact hc i (by omega)
      obtain ⟨q1, q2⟩ := ih (k + 1) (j + 1) _ _ hk1 (by omega) (hr.same hS) (show zV3 s (zsF (zsF V 3 (upd (V 3) j (V 1 j))) 4 (upd (V 4) j (V 2 j))) _ from hv) hcc (by omega) Z W hZ hW
      exact ⟨q1, hS.trans q2⟩
/-- a step at one place, of a card that is no crown: strengths or kinds -/
theorem zV5_str {s j : Nat} {V R : zS_t} {x : Int32} (h : zV5 s V R) : zV5 s (zsF V 2 (upd (V 2) j x)) (zsF R 20 (upd (R 20) j x)) := by
  intro k hk
  obtain ⟨⟨v1, v2, v3, v4⟩, v5, v6, v7⟩ := h k hk
  refine ⟨⟨v1, v2, ?_, v4⟩, v5, v6, v7⟩
  show upd (R 20) j x k = upd (V 2) j x k
  by_cases e : k = j
  · subst e; simp only [zup_s]
  · unfold upd; rw [if_neg e, if_neg e]; exact v3
theorem zV5_kin {s j : Nat} {V R : zS_t} {x : Int32} (h : zV5 s V R) (hx : zK8 x) : zV5 s (zsF V 1 (upd (V 1) j x)) (zsF R 19 (upd (R 19) j x)) := by
  intro k hk
  obtain ⟨⟨v1, v2, v3, v4⟩, v5, v6, v7⟩ := h k hk
  refine ⟨⟨v1, ?_, v3, ?_⟩, v5, v6, v7⟩
  · show upd (R 19) j x k = upd (V 1) j x k
    by_cases e : k = j
    · subst e; simp only [zup_s]
    · unfold upd; rw [if_neg e, if_neg e]; exact v2
  · show zK8 (upd (V 1) j x k)
    by_cases e : k = j
    · subst e; rw [zup_s]; exact hx
    · unfold upd; rw [if_neg e]; exact v4
