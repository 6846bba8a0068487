/-! gaps closed -/
def zsh (s j : Nat) (f : Nat → Int32) : Nat → Int32 := fun i => if j ≤ i ∧ i < s then f (i + 1) else f i
theorem zsh_end {s j : Nat} {f : Nat → Int32} (h : s ≤ j) : zsh s j f = f := by
  funext i
  unfold zsh
  rw [if_neg (by omega)]
theorem zsh_step {s j : Nat} {f : Nat → Int32} (h : j < s) : zsh s (j + 1) (upd f j (f (j + 1))) = zsh s j f := by
  funext i
  unfold zsh upd
  by_cases h1 : i = j
  · subst h1
    rw [if_neg (by omega), if_pos rfl, if_pos (by omega)]
  · by_cases h2 : j + 1 ≤ i ∧ i < s
    · rw [if_pos h2, if_neg (by omega), if_pos (by omega)]
    · rw [if_neg h2, if_neg h1, if_neg (by omega)]
theorem zrm_T {s : Nat} : ∀ (fuel : Nat) (k : Int32) (j : Nat) (T : zS_t), (T 4 0).toInt = s → s ≤ 10 → k.toInt = j → s + 1 ≤ j + fuel → j ≤ s → ∀ Z, mX2_remove_L22 fuel k T = Z → Z.2 0 = zsh s j (T 0) ∧ Z.2 1 = zsh s j (T 1) ∧ Z.2 2 = zsh s j (T 2) ∧ Z.2 3 = zsh s j (T 3) ∧ Z.2 4 = T 4 := by
  intro fuel
  induction fuel with
  | zero => intro k j T hs h10 hk hf hj; omega
  | succ fuel ih =>
    intro k j T hs h10 hk hf hj Z hZ
    rw [mX2_remove_L22.eq_2] at hZ
    by_cases h1 : (T 4 0) ≤ k
    · rw [if_pos h1] at hZ
      have := zt_le h1
      subst hZ
      exact ⟨(zsh_end (by omega)).symm, (zsh_end (by omega)).symm, (zsh_end (by omega)).symm, (zsh_end (by omega)).symm, rfl⟩
    · rw [if_neg h1] at hZ
      have := zt_nle h1
      have hk1 := zinc hk (by omega)
      have e0 := zncl hk
      have e1 := zncl hk1
      obtain ⟨y, hy⟩ : ∃ z, k + 1 = z := ⟨_, rfl⟩
      rw [e0, e1] at hZ
      rw [hy] at hk1
      have hZ := zbnd_cut hZ hy
      obtain ⟨S1, hS1⟩ : ∃ z, (zsF (zsF (zsF (zsF T 0 (upd (T 0) j (T 0 (j + 1)))) 1 (upd (T 1) j (T 1 (j + 1)))) 2 (upd (T 2) j (T 2 (j + 1)))) 3 (upd (T 3) j (T 3 (j + 1)))) = z := ⟨_, rfl⟩
      rw [hS1] at hZ
      have f0 : S1 0 = upd (T 0) j (T 0 (j + 1)) := by rw [← hS1]; rfl
      have f1 : S1 1 = upd (T 1) j (T 1 (j + 1)) := by rw [← hS1]; rfl
      have f2 : S1 2 = upd (T 2) j (T 2 (j + 1)) := by rw [← hS1]; rfl
      have f3 : S1 3 = upd (T 3) j (T 3 (j + 1)) := by rw [← hS1]; rfl
      have g4 : S1 4 = T 4 := by rw [← hS1]; rfl
      have := ih y (j + 1) S1 (by rw [g4]; exact hs) h10 hk1 (by omega) (by omega) Z hZ
      obtain ⟨a0, a1, a2, a3, b4⟩ := this
      exact ⟨by rw [a0, f0]; exact zsh_step (by omega), by rw [a1, f1]; exact zsh_step (by omega), by rw [a2, f2]; exact zsh_step (by omega), by rw [a3, f3]; exact zsh_step (by omega), b4.trans g4⟩
theorem zrm_E {s : Nat} : ∀ (fuel : Nat) (k : Int32) (j : Nat) (E : zS_t), (E 5 0).toInt = s → s ≤ 12 → k.toInt = j → s + 1 ≤ j + fuel → j ≤ s → (∀ i : Nat, vp_nar .boolean (E 1 i) = E 1 i) → ∀ Z, mX0_remove_L25 fuel k E = Z → Z.2 0 = zsh s j (E 0) ∧ Z.2 1 = zsh s j (E 1) ∧ Z.2 2 = zsh s j (E 2) ∧ Z.2 3 = zsh s j (E 3) ∧ Z.2 4 = zsh s j (E 4) ∧ Z.2 5 = E 5 := by
  intro fuel
  induction fuel with
  | zero => intro k j E hs h10 hk hf hj hb; omega
  | succ fuel ih =>
    intro k j E hs h10 hk hf hj hb Z hZ
    rw [mX0_remove_L25.eq_2] at hZ
    by_cases h1 : (E 5 0) ≤ k
    · rw [if_pos h1] at hZ
      have := zt_le h1
      subst hZ
      exact ⟨(zsh_end (by omega)).symm, (zsh_end (by omega)).symm, (zsh_end (by omega)).symm, (zsh_end (by omega)).symm, (zsh_end (by omega)).symm, rfl⟩
    · rw [if_neg h1] at hZ
      have := zt_nle h1
      have hk1 := zinc hk (by omega)
      have e0 := zncl hk
      have e1 := zncl hk1
      obtain ⟨y, hy⟩ : ∃ z, k + 1 = z := ⟨_, rfl⟩
      rw [e0, e1] at hZ
      rw [hy] at hk1
      have hZ := zbnd_cut hZ hy
      obtain ⟨S1, hS1⟩ : ∃ z, (zsF (zsF (zsF (zsF (zsF E 0 (upd (E 0) j (E 0 (j + 1)))) 1 (upd (E 1) j (vp_nar .boolean (E 1 (j + 1))))) 2 (upd (E 2) j (E 2 (j + 1)))) 3 (upd (E 3) j (E 3 (j + 1)))) 4 (upd (E 4) j (E 4 (j + 1)))) = z := ⟨_, rfl⟩
      rw [hS1] at hZ
      have f0 : S1 0 = upd (E 0) j (E 0 (j + 1)) := by rw [← hS1]; rfl
      have f1 : S1 1 = upd (E 1) j (E 1 (j + 1)) := by rw [← hS1]; show upd (E 1) j (vp_nar .boolean (E 1 (j + 1))) = _; rw [hb]
      have f2 : S1 2 = upd (E 2) j (E 2 (j + 1)) := by rw [← hS1]; rfl
      have f3 : S1 3 = upd (E 3) j (E 3 (j + 1)) := by rw [← hS1]; rfl
      have f4 : S1 4 = upd (E 4) j (E 4 (j + 1)) := by rw [← hS1]; rfl
      have g5 : S1 5 = E 5 := by rw [← hS1]; rfl
      have hb1 : ∀ i : Nat, vp_nar .boolean (S1 1 i) = S1 1 i := by rw [f1]; exact zib_upd hb (hb _)
      have := ih y (j + 1) S1 (by rw [g5]; exact hs) h10 hk1 (by omega) (by omega) hb1 Z hZ
      obtain ⟨a0, a1, a2, a3, a4, b5⟩ := this
      exact ⟨by rw [a0, f0]; exact zsh_step (by omega), by rw [a1, f1]; exact zsh_step (by omega), by rw [a2, f2]; exact zsh_step (by omega), by rw [a3, f3]; exact zsh_step (by omega), by rw [a4, f4]; exact zsh_step (by omega), b5.trans g5⟩
theorem zrm_RT {s : Nat} : ∀ (fuel : Nat) (k : Int32) (j : Nat) (R : zS_t), (R 6 0).toInt = s → s ≤ 10 → k.toInt = j → s + 1 ≤ j + fuel → j ≤ s → ∀ Z, mX5_leaves_L12 fuel k R = Z → Z.2 7 = zsh s j (R 7) ∧ Z.2 8 = zsh s j (R 8) ∧ Z.2 9 = zsh s j (R 9) ∧ Z.2 10 = zsh s j (R 10) ∧ Z.2 0 = R 0 ∧ Z.2 1 = R 1 ∧ Z.2 2 = R 2 ∧ Z.2 3 = R 3 ∧ Z.2 4 = R 4 ∧ Z.2 5 = R 5 ∧ Z.2 6 = R 6 ∧ Z.2 11 = R 11 ∧ Z.2 12 = R 12 ∧ Z.2 13 = R 13 ∧ Z.2 14 = R 14 ∧ Z.2 15 = R 15 ∧ Z.2 16 = R 16 ∧ Z.2 17 = R 17 ∧ Z.2 18 = R 18 ∧ Z.2 19 = R 19 ∧ Z.2 20 = R 20 ∧ Z.2 21 = R 21 ∧ Z.2 22 = R 22 ∧ Z.2 23 = R 23 ∧ Z.2 24 = R 24 ∧ Z.2 25 = R 25 ∧ Z.2 26 = R 26 := by
  intro fuel
  induction fuel with
  | zero => intro k j R hs h10 hk hf hj; omega
  | succ fuel ih =>
    intro k j R hs h10 hk hf hj Z hZ
    rw [mX5_leaves_L12.eq_2] at hZ
    by_cases h1 : (R 6 0) ≤ k
    · rw [if_pos h1] at hZ
      have := zt_le h1
      subst hZ
      exact ⟨(zsh_end (by omega)).symm, (zsh_end (by omega)).symm, (zsh_end (by omega)).symm, (zsh_end (by omega)).symm, rfl, rfl, rfl, rfl, rfl, rfl, rfl, rfl, rfl, rfl, rfl, rfl, rfl, rfl, rfl, rfl, rfl, rfl, rfl, rfl, rfl, rfl, rfl⟩
    · rw [if_neg h1] at hZ
      have := zt_nle h1
      have hk1 := zinc hk (by omega)
      have e0 := zncl hk
      have e1 := zncl hk1
      obtain ⟨y, hy⟩ : ∃ z, k + 1 = z := ⟨_, rfl⟩
      rw [e0, e1] at hZ
      rw [hy] at hk1
      have hZ := zbnd_cut hZ hy
      obtain ⟨S1, hS1⟩ : ∃ z, (zsF (zsF (zsF (zsF R 7 (upd (R 7) j (R 7 (j + 1)))) 8 (upd (R 8) j (R 8 (j + 1)))) 9 (upd (R 9) j (R 9 (j + 1)))) 10 (upd (R 10) j (R 10 (j + 1)))) = z := ⟨_, rfl⟩
      rw [hS1] at hZ
      have f7 : S1 7 = upd (R 7) j (R 7 (j + 1)) := by rw [← hS1]; rfl
      have f8 : S1 8 = upd (R 8) j (R 8 (j + 1)) := by rw [← hS1]; rfl
      have f9 : S1 9 = upd (R 9) j (R 9 (j + 1)) := by rw [← hS1]; rfl
      have f10 : S1 10 = upd (R 10) j (R 10 (j + 1)) := by rw [← hS1]; rfl
      have g0 : S1 0 = R 0 := by rw [← hS1]; rfl
      have g1 : S1 1 = R 1 := by rw [← hS1]; rfl
      have g2 : S1 2 = R 2 := by rw [← hS1]; rfl
      have g3 : S1 3 = R 3 := by rw [← hS1]; rfl
      have g4 : S1 4 = R 4 := by rw [← hS1]; rfl
      have g5 : S1 5 = R 5 := by rw [← hS1]; rfl
      have g6 : S1 6 = R 6 := by rw [← hS1]; rfl
      have g11 : S1 11 = R 11 := by rw [← hS1]; rfl
      have g12 : S1 12 = R 12 := by rw [← hS1]; rfl
      have g13 : S1 13 = R 13 := by rw [← hS1]; rfl
      have g14 : S1 14 = R 14 := by rw [← hS1]; rfl
      have g15 : S1 15 = R 15 := by rw [← hS1]; rfl
      have g16 : S1 16 = R 16 := by rw [← hS1]; rfl
      have g17 : S1 17 = R 17 := by rw [← hS1]; rfl
      have g18 : S1 18 = R 18 := by rw [← hS1]; rfl
      have g19 : S1 19 = R 19 := by rw [← hS1]; rfl
      have g20 : S1 20 = R 20 := by rw [← hS1]; rfl
      have g21 : S1 21 = R 21 := by rw [← hS1]; rfl
      have g22 : S1 22 = R 22 := by rw [← hS1]; rfl
      have g23 : S1 23 = R 23 := by rw [← hS1]; rfl
      have g24 : S1 24 = R 24 := by rw [← hS1]; rfl
      have g25 : S1 25 = R 25 := by rw [← hS1]; rfl
      have g26 : S1 26 = R 26 := by rw [← hS1]; rfl
      have := ih y (j + 1) S1 (by rw [g6]; exact hs) h10 hk1 (by omega) (by omega) Z hZ
      obtain ⟨a7, a8, a9, a10, b0, b1, b2, b3, b4, b5, b6, b11, b12, b13, b14, b15, b16, b17, b18, b19, b20, b21, b22, b23, b24, b25, b26⟩ := this
      exact ⟨by rw [a7, f7]; exact zsh_step (by omega), by rw [a8, f8]; exact zsh_step (by omega), by rw [a9, f9]; exact zsh_step (by omega), by rw [a10, f10]; exact zsh_step (by omega), b0.trans g0, b1.trans g1, b2.trans g2, b3.trans g3, b4.trans g4, b5.trans g5, b6.trans g6, b11.trans g11, b12.trans g12, b13.trans g13, b14.trans g14, b15.trans g15, b16.trans g16, b17.trans g17, b18.trans g18, b19.trans g19, b20.trans g20, b21.trans g21, b22.trans g22, b23.trans g23, b24.trans g24, b25.trans g25, b26.trans g26⟩
theorem zrm_RE {s : Nat} : ∀ (fuel : Nat) (k : Int32) (j : Nat) (R : zS_t), (R 12 0).toInt = s → s ≤ 12 → k.toInt = j → s + 1 ≤ j + fuel → j ≤ s → (∀ i : Nat, vp_nar .boolean (R 14 i) = R 14 i) → ∀ Z, mX5_removes_L12 fuel k R = Z → Z.2 13 = zsh s j (R 13) ∧ Z.2 14 = zsh s j (R 14) ∧ Z.2 15 = zsh s j (R 15) ∧ Z.2 16 = zsh s j (R 16) ∧ Z.2 17 = zsh s j (R 17) ∧ Z.2 0 = R 0 ∧ Z.2 1 = R 1 ∧ Z.2 2 = R 2 ∧ Z.2 3 = R 3 ∧ Z.2 4 = R 4 ∧ Z.2 5 = R 5 ∧ Z.2 6 = R 6 ∧ Z.2 7 = R 7 ∧ Z.2 8 = R 8 ∧ Z.2 9 = R 9 ∧ Z.2 10 = R 10 ∧ Z.2 11 = R 11 ∧ Z.2 12 = R 12 ∧ Z.2 18 = R 18 ∧ Z.2 19 = R 19 ∧ Z.2 20 = R 20 ∧ Z.2 21 = R 21 ∧ Z.2 22 = R 22 ∧ Z.2 23 = R 23 ∧ Z.2 24 = R 24 ∧ Z.2 25 = R 25 ∧ Z.2 26 = R 26 := by
  intro fuel
  induction fuel with
  | zero => intro k j R hs h10 hk hf hj hb; omega
  | succ fuel ih =>
    intro k j R hs h10 hk hf hj hb Z hZ
    rw [mX5_removes_L12.eq_2] at hZ
    by_cases h1 : (R 12 0) ≤ k
    · rw [if_pos h1] at hZ
      have := zt_le h1
      subst hZ
      exact ⟨(zsh_end (by omega)).symm, (zsh_end (by omega)).symm, (zsh_end (by omega)).symm, (zsh_end (by omega)).symm, (zsh_end (by omega)).symm, rfl, rfl, rfl, rfl, rfl, rfl, rfl, rfl, rfl, rfl, rfl, rfl, rfl, rfl, rfl, rfl, rfl, rfl, rfl, rfl, rfl, rfl⟩
    · rw [if_neg h1] at hZ
      have := zt_nle h1
      have hk1 := zinc hk (by omega)
      have e0 := zncl hk
      have e1 := zncl hk1
      obtain ⟨y, hy⟩ : ∃ z, k + 1 = z := ⟨_, rfl⟩
      rw [e0, e1] at hZ
      rw [hy] at hk1
      have hZ := zbnd_cut hZ hy
      obtain ⟨S1, hS1⟩ : ∃ z, (zsF (zsF (zsF (zsF (zsF R 13 (upd (R 13) j (R 13 (j + 1)))) 14 (upd (R 14) j (vp_nar .boolean (R 14 (j + 1))))) 15 (upd (R 15) j (R 15 (j + 1)))) 16 (upd (R 16) j (R 16 (j + 1)))) 17 (upd (R 17) j (R 17 (j + 1)))) = z := ⟨_, rfl⟩
      rw [hS1] at hZ
      have f13 : S1 13 = upd (R 13) j (R 13 (j + 1)) := by rw [← hS1]; rfl
      have f14 : S1 14 = upd (R 14) j (R 14 (j + 1)) := by rw [← hS1]; show upd (R 14) j (vp_nar .boolean (R 14 (j + 1))) = _; rw [hb]
      have f15 : S1 15 = upd (R 15) j (R 15 (j + 1)) := by rw [← hS1]; rfl
      have f16 : S1 16 = upd (R 16) j (R 16 (j + 1)) := by rw [← hS1]; rfl
      have f17 : S1 17 = upd (R 17) j (R 17 (j + 1)) := by rw [← hS1]; rfl
      have g0 : S1 0 = R 0 := by rw [← hS1]; rfl
      have g1 : S1 1 = R 1 := by rw [← hS1]; rfl
      have g2 : S1 2 = R 2 := by rw [← hS1]; rfl
      have g3 : S1 3 = R 3 := by rw [← hS1]; rfl
      have g4 : S1 4 = R 4 := by rw [← hS1]; rfl
      have g5 : S1 5 = R 5 := by rw [← hS1]; rfl
      have g6 : S1 6 = R 6 := by rw [← hS1]; rfl
      have g7 : S1 7 = R 7 := by rw [← hS1]; rfl
      have g8 : S1 8 = R 8 := by rw [← hS1]; rfl
      have g9 : S1 9 = R 9 := by rw [← hS1]; rfl
      have g10 : S1 10 = R 10 := by rw [← hS1]; rfl
      have g11 : S1 11 = R 11 := by rw [← hS1]; rfl
      have g12 : S1 12 = R 12 := by rw [← hS1]; rfl
      have g18 : S1 18 = R 18 := by rw [← hS1]; rfl
      have g19 : S1 19 = R 19 := by rw [← hS1]; rfl
      have g20 : S1 20 = R 20 := by rw [← hS1]; rfl
      have g21 : S1 21 = R 21 := by rw [← hS1]; rfl
      have g22 : S1 22 = R 22 := by rw [← hS1]; rfl
      have g23 : S1 23 = R 23 := by rw [← hS1]; rfl
      have g24 : S1 24 = R 24 := by rw [← hS1]; rfl
      have g25 : S1 25 = R 25 := by rw [← hS1]; rfl
      have g26 : S1 26 = R 26 := by rw [← hS1]; rfl
      have hb1 : ∀ i : Nat, vp_nar .boolean (S1 14 i) = S1 14 i := by rw [f14]; exact zib_upd hb (hb _)
      have := ih y (j + 1) S1 (by rw [g12]; exact hs) h10 hk1 (by omega) (by omega) hb1 Z hZ
      obtain ⟨a13, a14, a15, a16, a17, b0, b1, b2, b3, b4, b5, b6, b7, b8, b9, b10, b11, b12, b18, b19, b20, b21, b22, b23, b24, b25, b26⟩ := this
      exact ⟨by rw [a13, f13]; exact zsh_step (by omega), by rw [a14, f14]; exact zsh_step (by omega), by rw [a15, f15]; exact zsh_step (by omega), by rw [a16, f16]; exact zsh_step (by omega), by rw [a17, f17]; exact zsh_step (by omega), b0.trans g0, b1.trans g1, b2.trans g2, b3.trans g3, b4.trans g4, b5.trans g5, b6.trans g6, b7.trans g7, b8.trans g8, b9.trans g9, b10.trans g10, b11.trans g11, b12.trans g12, b18.trans g18, b19.trans g19, b20.trans g20, b21.trans g21, b22.trans g22, b23.trans g23, b24.trans g24, b25.trans g25, b26.trans g26⟩
