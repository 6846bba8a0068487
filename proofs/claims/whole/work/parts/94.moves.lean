/-! passes, settlements -/
theorem zag_pass : zAg_pass zRl := by
  intro n L T E V M K R hn h X Y hX hY
  have h4 := pp_X4_pass L T E V M K h.2.2.1 h.2.2.2.1 h.2.2.2.2.1
  have h5 := pp_X5_pass R h.ir
  rw [hX] at h4
  rw [hY] at h5
  obtain ⟨hC, ⟨h1, h2, h3, h3'⟩, iT, iE, iM, iR⟩ := h
  have k0 : Int32.toInt 0 = 0 := by decide
  have k1 : Int32.toInt 1 = 1 := by decide
  have k3 : Int32.toInt 3 = 3 := by decide
  have e1 : (L 7 0 + 1).toInt = (L 7 0).toInt + 1 := by rw [zt_add (by omega) (by omega)]; omega
  unfold mX4_pass at hX
  unfold mX5_pass at hY
  rw [h2] at hY
  have a3 : R 12 0 = E 5 0 := by
    obtain ⟨⟨sT, sE, n9, x, hA, hM⟩, -⟩ := hC
    exact hA.2.1.2.2
  have hR2 : ∀ c : Nat, c < 18 ∧ c ≠ 1 ∧ c ≠ 2 ∨ c = 23 ∨ c = 24 → (zsI (zsI R 2 0) 26 0) c = R c := fun c hc => by
    unfold zsI
    rw [zsF_n _ _ (by omega), zsF_n _ _ (by omega)]
  have hL7 : ∀ c : Nat, c ≠ 6 → c ≠ 7 → (zsI L 7 (L 7 0 + 1)) c = L c := fun c _ hc => zsF_n L _ hc
  by_cases g1 : 3 ≤ L 7 0 + 1
  · rw [if_pos g1] at hX hY
    by_cases g2 : E 5 0 ≤ 0
    · rw [if_pos g2] at hX
      rw [if_pos (by rw [a3]; exact g2)] at hY
      simp only [zbe, zbe4] at hX hY
      have iR1 : zIR (zsI (zsI R 2 0) 26 0) := iR
      obtain ⟨Z1, hZ1⟩ : ∃ z, mX4_beginTurn (zsI L 7 (L 7 0 + 1)) T E V M = z := ⟨_, rfl⟩
      obtain ⟨W1, hW1⟩ : ∃ z, mX5_begins (zsI (zsI R 2 0) 26 0) = z := ⟨_, rfl⟩
      rw [hZ1] at hX
      rw [hW1] at hY
      obtain ⟨q1, q2, q3, q4⟩ := zbegin (V := V) (hC.cong hL7 hR2) iR1 (by omega) Z1 W1 hZ1 hW1
      subst hX
      subst hY
      refine ⟨rfl, q1.mono (by omega), ⟨q2, ?_, ?_, ?_⟩, h4.1, h4.2.1, h4.2.2, h5⟩
      · show W1 2 0 = Z1.1 7 0
        rw [q3, q4]
        rfl
      · show 0 ≤ (Z1.1 7 0).toInt
        rw [q4]
        omega
      · show (Z1.1 7 0).toInt ≤ 2
        rw [q4]
        omega
    · rw [if_neg g2] at hX
      rw [if_neg (by rw [a3]; exact g2)] at hY
      simp only [zbe, zbe6] at hX hY
      have iR1 : zIR (zsI (zsI R 2 0) 26 0) := iR
      obtain ⟨Z1, hZ1⟩ : ∃ z, mX4_resolveTop (zsI L 7 (L 7 0 + 1)) T E V M K = z := ⟨_, rfl⟩
      obtain ⟨W1, hW1⟩ : ∃ z, mX5_resolves (zsI (zsI R 2 0) 26 0) = z := ⟨_, rfl⟩
      rw [hZ1] at hX
      rw [hW1] at hY
      obtain ⟨q1, q2, ⟨q3, q4⟩, -⟩ := zresolve (V := V) (hC.cong hL7 hR2) iE iR1 (by omega) g2 Z1 W1 hZ1 hW1
      subst hX
      subst hY
      refine ⟨rfl, q1.mono (by omega), ⟨q2, ?_, ?_, ?_⟩, h4.1, h4.2.1, h4.2.2, h5⟩
      · show W1 2 0 = Z1.1 7 0
        rw [q3, q4]
      · show 0 ≤ (Z1.1 7 0).toInt
        rw [q4]
        omega
      · show (Z1.1 7 0).toInt ≤ 2
        rw [q4]
        omega
  · rw [if_neg g1] at hX hY
    have := zt_nle g1
    simp only [zbe] at hX
    obtain ⟨-, -, -, -, ⟨r0, r2⟩, -, -⟩ := id iR
    obtain ⟨t, ht⟩ : ∃ t : Nat, (R 1 0).toInt = t := ⟨(R 1 0).toInt.toNat, by omega⟩
    have e2 := znext (p := L 6 0) (t := t) (j := 0) (by rw [← h1, ht]; omega)
    have e3 := zrem3 (a := R 1 0) (b := 1) (t := t) (j := 1) ht k1 (by omega) (by omega)
    have e4 : ((R 1 0) + 1) - ((R 1 0) + 1) / 3 * 3 = mX4_nextPlayer (L 6 0) := Int32.toInt_inj.mp (e3.trans e2.symm)
    subst hX
    subst hY
    refine ⟨rfl, (hC.cong (fun c h6 h7 => ?_) (fun c hc => ?_)).mono (by omega), ⟨e4, rfl, ?_, ?_⟩, h4.1, h4.2.1, h4.2.2, h5⟩
    · show zsI (zsI L 6 (mX4_nextPlayer (L 6 0))) 7 (L 7 0 + 1) c = L c
      unfold zsI
      rw [zsF_n _ _ (by omega), zsF_n _ _ (by omega)]
    · show zsI (zsI (zsI R 1 _) 2 (L 7 0 + 1)) 26 0 c = R c
      unfold zsI
      rw [zsF_n _ _ (by omega), zsF_n _ _ (by omega), zsF_n _ _ (by omega)]
    · show 0 ≤ (L 7 0 + 1).toInt
      omega
    · show (L 7 0 + 1).toInt ≤ 2
      omega
/-- what a settlement keeps -/
def zRs (B : Int) (L T E M K R : zS_t) : Prop := zCo B L T E M K R ∧ (R 1 0 = L 6 0 ∧ R 2 0 = L 7 0 ∧ 0 ≤ (L 7 0).toInt ∧ (L 7 0).toInt ≤ 2) ∧ zIT T ∧ zIE E ∧ zIM M ∧ zIR R
theorem zsettle {entries : Int32} {en : Nat} (he : entries.toInt = en) (h60 : en ≤ 60) : ∀ (fuel : Nat) (k : Int32) (j : Nat) (B : Int) (L T E V M K R : zS_t), k.toInt = j → en + 1 ≤ j + fuel → j ≤ en → zRs B L T E M K R → R 26 0 = 0 → B + 31 * ((en : Int) - j) ≤ 50000000 → ∀ X Y, mX4_settle_L23 entries fuel k L T E V M K = X → mX5_settle_L21 entries fuel k R = Y → Y.1 = X.1 ∧ zRs (B + 31 * ((en : Int) - j)) X.2.1 X.2.2.1 X.2.2.2.1 X.2.2.2.2.2.1 X.2.2.2.2.2.2 Y.2 ∧ Y.2 26 0 = 0 := by
  have k0 : Int32.toInt 0 = 0 := by decide
  intro fuel
  induction fuel with
  | zero => intro k j B L T E V M K R hk hf hj; omega
  | succ fuel ih =>
    intro k j B L T E V M K R hk hf hj h h26 hB X Y hX hY
    rw [mX4_settle_L23.eq_2] at hX
    rw [mX5_settle_L21.eq_2, if_pos h26] at hY
    obtain ⟨hC, h1, iT, iE, iM, iR⟩ := h
    by_cases g1 : j = en
    · have g2 : entries ≤ k := Int32.le_iff_toInt_le.mpr (by omega)
      rw [if_pos g2] at hX hY
      subst hX
      subst hY
      exact ⟨rfl, ⟨hC.mono (by omega), h1, iT, iE, iM, iR⟩, h26⟩
    · have g2 : ¬ entries ≤ k := fun h => by have := zt_le h; omega
      rw [if_neg g2] at hX hY
      have a3 : R 12 0 = E 5 0 := by
        obtain ⟨⟨sT, sE, n9, x, hA, hM⟩, -⟩ := hC
        exact hA.2.1.2.2
      rw [a3] at hY
      by_cases g3 : E 5 0 ≤ 0
      · rw [if_pos g3] at hX hY
        subst hX
        subst hY
        exact ⟨rfl, ⟨hC.mono (by omega), h1, iT, iE, iM, iR⟩, h26⟩
      · rw [if_neg g3] at hX hY
        simp only [zbe, zbe6] at hX hY
        have p4 := pp_X4_resolveTop L T E V M K iT iE iM
        have p5 := pp_X5_resolves R iR (by rw [a3]; have := zt_nle g3; omega)
        obtain ⟨Z1, hZ1⟩ : ∃ z, mX4_resolveTop L T E V M K = z := ⟨_, rfl⟩
        obtain ⟨W1, hW1⟩ : ∃ z, mX5_resolves R = z := ⟨_, rfl⟩
        rw [hZ1] at hX p4
        rw [hW1] at hY p5
        obtain ⟨q1, q2, ⟨q3, q4⟩, q5⟩ := zresolve (V := V) hC iE iR (by omega) g3 Z1 W1 hZ1 hW1
        have hs : zRs (B + 31) Z1.1 Z1.2.1 Z1.2.2.1 Z1.2.2.2.2.1 Z1.2.2.2.2.2 W1 := by
          refine ⟨q1, ⟨q2, ?_, ?_, ?_⟩, p4.1, p4.2.1, p4.2.2, p5⟩
          · rw [q3, q4]
          · rw [q4]; omega
          · rw [q4]; omega
        obtain ⟨r1, r2, r3⟩ := ih (k + 1) (j + 1) (B + 31) _ _ _ _ _ _ _ (zinc hk (by omega)) (by omega) (by omega) hs (by rw [q5]; exact h26) (by omega) X Y hX hY
        refine ⟨r1, ?_, r3⟩
        rw [show B + 31 * ((en : Int) - j) = B + 31 + 31 * ((en : Int) - ((j + 1 : Nat) : Int)) by omega]
        exact r2
theorem zisin1 {x hi : Int32} (h0 : 0 ≤ x.toInt) (h1 : x.toInt ≤ hi.toInt) : mX5_isIn x 0 hi = 1 := by
  have k0 : Int32.toInt 0 = 0 := by decide
  unfold mX5_isIn
  rw [if_neg (fun h => by have := zt_lt h; omega), if_neg (fun h => by have := zt_lt h; omega)]
theorem zisin0 {x hi : Int32} (h : x.toInt < 0 ∨ hi.toInt < x.toInt) : mX5_isIn x 0 hi = 0 := by
  have k0 : Int32.toInt 0 = 0 := by decide
  unfold mX5_isIn
  by_cases h1 : x < 0
  · rw [if_pos h1]
  · rw [if_neg h1, if_pos (Int32.lt_iff_toInt_lt.mpr (by have := zt_nlt h1; omega))]
theorem zag_settle : zAg_settle zRl := by
  intro n entries L T E V M K R hn h X Y hX hY
  have h4 := pp_X4_settle entries L T E V M K h.2.2.1 h.2.2.2.1 h.2.2.2.2.1
  have h5 := pp_X5_settle entries R h.ir
  rw [hX] at h4
  rw [hY] at h5
  have k0 : Int32.toInt 0 = 0 := by decide
  have k1 : Int32.toInt 1 = 1 := by decide
  have k60 : Int32.toInt 60 = 60 := by decide
  have hstop : ∀ R9 : zS_t, R9 26 0 = 1 → mX5_settle_L21 entries 61 0 R9 = (0, R9) := fun R9 h9 => by
    rw [mX5_settle_L21.eq_2, if_neg (by rw [h9]; decide)]
  unfold mX4_settle at hX
  unfold mX5_settle mX5_isIn at hY
  simp only [zbe, zbe2, zbe7] at hX hY
  by_cases g1 : entries < 1
  · rw [if_pos g1] at hX hY
    rw [if_pos rfl, hstop _ rfl] at hY
    subst hX
    subst hY
    exact ⟨rfl, fun e => (by cases e), h.t h5⟩
  · rw [if_neg g1] at hX hY
    have := zt_nlt g1
    by_cases g2 : entries ≤ 60
    · have := zt_le g2
      rw [if_pos g2] at hX
      have g3 : ¬ 60 < entries := fun h => by have := zt_lt h; omega
      rw [if_neg g3, if_neg (by decide)] at hY
      obtain ⟨en, hen⟩ : ∃ en : Nat, entries.toInt = en := ⟨entries.toInt.toNat, by omega⟩
      have hs : zRs (2000 * (n : Int)) L T E M K (zsI R 26 0) := by
        obtain ⟨hC, q2, q3, q4, q5, q6⟩ := h
        exact ⟨hC.cong (fun _ _ _ => rfl) (fun c hc => zsF_n R _ (by omega)), q2, q3, q4, q5, q6⟩
      obtain ⟨r1, r2, r3⟩ := zsettle hen (by omega) 61 0 0 (2000 * (n : Int)) L T E V M K (zsI R 26 0) (by decide) (by omega) (by omega) hs rfl (by omega) _ _ rfl rfl
      subst hX
      subst hY
      refine ⟨r3, fun _ => r1, r2.1.mono (by omega), r2.2⟩
    · have := zt_nle g2
      rw [if_neg g2] at hX
      rw [if_pos (Int32.lt_iff_toInt_lt.mpr (by omega)), if_pos rfl, hstop _ rfl] at hY
      subst hX
      subst hY
      exact ⟨rfl, fun e => (by cases e), h.t h5⟩
