/-! what an effect does -/
def zFL (L L' : zS_t) : Prop := ∀ c : Nat, c ≠ 10 → c ≠ 0 → L' c = L c
def zFR (R R' : zS_t) : Prop := ∀ c : Nat, c < 5 ∨ (22 < c ∧ c < 27) → R' c = R c
theorem zFrL.fl {L L' : zS_t} (h : zFrL L L') : zFL L L' := fun c hc _ => h c hc
theorem zFr3.fr {R R' : zS_t} (h : zFr3 R R') : zFR R R' := fun c hc => h c (by omega)
theorem zSameR.fr3 {R R' : zS_t} (h : zSameR R R') : zFr3 R R' := fun c hc => h c (by omega)
theorem zFL.trans {L L1 L2 : zS_t} (h : zFL L L1) (h' : zFL L1 L2) : zFL L L2 := fun c hc h0 => (h' c hc h0).trans (h c hc h0)
theorem zFR.trans {R R1 R2 : zS_t} (h : zFR R R1) (h' : zFR R1 R2) : zFR R R2 := fun c hc => (h' c hc).trans (h c hc)
theorem zraise0 {L T E V : zS_t} : mX4_raiseTriggers 0 L T E V = (L, E, V) := by
  unfold mX4_raiseTriggers
  rw [if_pos rfl]
theorem zplaces {sT : Nat} {N M : Int} {T R : zS_t} {tg a : Int32} (hT : zQT sT N M T R) (hg : zTg sT (T 3) (R 9) tg a) : mX2_placeOf tg T = mX5_thingOf a R ∧ zAt sT (T 3) tg (mX2_placeOf tg T) := by
  obtain ⟨⟨a1, a2, a3⟩, -, -, dT1, dT2, -⟩ := hT
  have h1 := zplT (idn := tg) a1 a2
  have h2 := zthR (x := a) (R := R) (s := sT) (by rw [a3]; exact a1) a2
  exact ⟨(h1.same hg).uniq dT2.1 h2, h1⟩
theorem zstrike {sT sE t : Nat} {L T E R V : zS_t} {B : Int} {tg a : Int32} (ht : t < 3) (hR0 : (R 0 0).toInt = t) (hL5 : L 5 0 = R 0 0) (hA : zAll sT sE L T E R) (hb : zNb B L R) (hB : B + 30 ≤ 50000000) (hg : zTg sT (T 3) (R 9) tg a) : ∀ Z Y W, mX4_strike (mX2_placeOf tg T) T V = Z → mX4_raiseTriggers Z.1 L Z.2.1 E Z.2.2 = Y → mX5_strikes a R = W → ∃ sT1 sE1 : Nat, zAll sT1 sE1 Y.1 Z.2.1 Y.2.1 W ∧ zNb (B + 30) Y.1 W ∧ zFrL L Y.1 ∧ zFr3 R W := by
  intro Z Y W hZ hY hW
  obtain ⟨⟨a1, a2, a3⟩, -⟩ := id hA.1
  obtain ⟨p1, p2⟩ := zplaces hA.1 hg
  have k0 : Int32.toInt 0 = 0 := by decide
  unfold mX4_strike at hZ
  unfold mX5_strikes at hW
  simp only [zbe, zbe2] at hZ hW
  rw [← p1] at hW
  obtain ⟨pl, hpl⟩ : ∃ z, mX2_placeOf tg T = z := ⟨_, rfl⟩
  rw [hpl] at hZ hW p2
  obtain ⟨v1, v2⟩ := zfind (ls := 5) (m := 5) (V := V) (by decide) (by omega) hA.1.cards hA.1.rows hA.1.cr _ _ rfl rfl
  have hA1 := zAll_same hA v2
  have hb1 : zNb B L (mX5_lays 5 R) := by unfold zNb; rw [v2 11 (by omega)]; exact hb
  have hr := p2.range
  rcases hr with hr | ⟨hr0, hr1⟩
  · rw [zhas0 (Or.inl (by omega)), if_pos rfl] at hZ
    rw [if_pos (Int32.lt_iff_toInt_lt.mpr (by omega))] at hW
    subst hZ
    simp only [zraise0] at hY
    subst hY
    subst hW
    exact ⟨sT, sE, hA1, hb1.mono (by omega), zFrL.refl L, v2.fr3⟩
  · obtain ⟨i, hi⟩ : ∃ i : Nat, pl.toInt = i := ⟨pl.toInt.toNat, by omega⟩
    have n1 := zncl hi
    rw [zhas1 (by omega) (by omega), if_neg (by decide)] at hZ
    rw [if_neg (fun h => by have := zt_lt h; omega)] at hW
    rw [n1] at hZ hW
    rw [(v1 i (by omega)).2.2.1] at hW
    by_cases h4 : 4 < (mX3_find 5 T V) 2 i
    · rw [if_pos h4] at hZ hW
      subst hZ
      simp only [zraise0] at hY
      subst hY
      subst hW
      exact ⟨sT, sE, hA1, hb1.mono (by omega), zFrL.refl L, v2.fr3⟩
    · rw [if_neg h4] at hZ hW
      subst hZ
      obtain ⟨s, hs⟩ : ∃ s : Nat, sT = s + 1 := ⟨sT - 1, by omega⟩
      subst hs
      obtain ⟨sE1, q1, q2, q3, q4⟩ := zleave (V := mX3_find 5 T V) ht (by rw [v2 0 (by omega)]; exact hR0) (by rw [v2 0 (by omega)]; exact hL5) hA1 hb1 hB hi (by omega) _ Y W rfl hY hW
      exact ⟨s, sE1, q1, q2, q3, (v2.fr3).trans q4⟩
/-! what is denied -/
theorem zehas1 {pl : Int32} {E : zS_t} (h0 : 0 ≤ pl.toInt) (h1 : pl.toInt < (E 5 0).toInt) : mX0_has pl E = 1 := by
  have k0 : Int32.toInt 0 = 0 := by decide
  unfold mX0_has
  rw [if_neg (fun h => by have := zt_lt h; omega), if_neg (fun h => by have := zt_le h; omega)]
theorem zehas0 {pl : Int32} {E : zS_t} (h : pl.toInt < 0 ∨ (E 5 0).toInt ≤ pl.toInt) : mX0_has pl E = 0 := by
  have k0 : Int32.toInt 0 = 0 := by decide
  unfold mX0_has
  by_cases g : pl < 0
  · rw [if_pos g]
  · rw [if_neg g, if_pos (Int32.le_iff_toInt_le.mpr (by have := zt_nlt g; omega))]
theorem zind {sE : Nat} {E : zS_t} {pl : Int32} (h1 : (E 5 0).toInt = sE) (h12 : sE ≤ 12) : ((pl.toInt < 0 ∨ (sE : Int) ≤ pl.toInt) → mX0_indexOf pl E = -1) ∧ (0 ≤ pl.toInt → pl.toInt < sE → (mX0_indexOf pl E).toInt = (sE : Int) - 1 - pl.toInt) := by
  have k1 : Int32.toInt 1 = 1 := by decide
  unfold mX0_indexOf
  simp only [zbe]
  refine ⟨fun h => ?_, fun h0 h2 => ?_⟩
  · rw [zehas0 (by omega), if_pos rfl]
  · rw [zehas1 h0 (by omega), if_neg (by decide)]
    have e1 := zt_sub (a := E 5 0) (b := 1) (by omega) (by omega)
    rw [zt_sub (by omega) (by omega)]
    omega
theorem zdeny {sT sE : Nat} {L T E R : zS_t} {B : Int} {tg a : Int32} (hA : zAll sT sE L T E R) (hb : zNb B L R) (hg : zTg sE (E 4) (R 16) tg a) (hIE : ∀ i : Nat, vp_nar .boolean (E 1 i) = E 1 i) (hIR : ∀ i : Nat, vp_nar .boolean (R 14 i) = R 14 i) : ∀ Z W, mX0_remove (mX0_indexOf (mX0_placeOf tg E) E) E = Z → (if mX5_entryOf a R < 0 then R else mX5_removes (((R 12 0) - 1) - (mX5_entryOf a R)) R) = W → ∃ sE1 : Nat, zAll sT sE1 L T Z W ∧ zNb B L W ∧ zFr3 R W := by
  intro Z W hZ hW
  obtain ⟨hT, hE⟩ := id hA
  obtain ⟨⟨a1, a2, a3⟩, -, -, dE1, dE2, -⟩ := id hE
  have k0 : Int32.toInt 0 = 0 := by decide
  have k1 : Int32.toInt 1 = 1 := by decide
  have h1 := zplE (idn := tg) a1 a2
  have h2 := zenR (x := a) (R := R) (s := sE) (by rw [a3]; exact a1) a2
  have p1 := (h1.same hg).uniq dE2.1 h2
  rw [← p1] at hW
  have hr := h1.range
  obtain ⟨pl, hpl⟩ : ∃ z, mX0_placeOf tg E = z := ⟨_, rfl⟩
  rw [hpl] at hZ hW hr
  obtain ⟨i1, i2⟩ := zind (pl := pl) a1 a2
  rcases hr with hr | ⟨hr0, hr1⟩
  · rw [i1 (Or.inl (by omega))] at hZ
    rw [if_pos (Int32.lt_iff_toInt_lt.mpr (by omega))] at hW
    unfold mX0_remove at hZ
    rw [if_pos (by decide)] at hZ
    subst hZ
    subst hW
    exact ⟨sE, hA, hb, fun _ _ => rfl⟩
  · obtain ⟨s, hs⟩ : ∃ s : Nat, sE = s + 1 := ⟨sE - 1, by omega⟩
    subst hs
    have i3 := i2 hr0 hr1
    obtain ⟨ix, hix⟩ : ∃ z, mX0_indexOf pl E = z := ⟨_, rfl⟩
    rw [hix] at hZ i3
    have e1 := zt_sub (a := E 5 0) (b := 1) (by omega) (by omega)
    have e2 : (R 12 0 - 1 - pl) = ix := by
      rw [← hix, ← Int32.toInt_inj, hix, i3, a3, zt_sub (by omega) (by omega)]
      omega
    rw [if_neg (fun h => by have := zt_lt h; omega), e2] at hW
    obtain ⟨i, hi⟩ : ∃ i : Nat, ix.toInt = i := ⟨ix.toInt.toNat, by omega⟩
    unfold mX0_remove at hZ
    rw [if_neg (fun h => by have := zt_lt h; omega), if_pos (Int32.lt_iff_toInt_lt.mpr (by omega))] at hZ
    unfold mX5_removes at hW
    simp only [zbe, zbe2] at hZ hW
    have e5 : (E 5 0 - 1).toInt = (s : Int) := by omega
    have e12 : (R 12 0 - 1).toInt = (s : Int) := by rw [a3]; exact e5
    obtain ⟨Z1, hZ1⟩ : ∃ z, mX0_remove_L25 13 ix (zsI E 5 (E 5 0 - 1)) = z := ⟨_, rfl⟩
    obtain ⟨W1, hW1⟩ : ∃ z, mX5_removes_L12 13 ix (zsI R 12 (R 12 0 - 1)) = z := ⟨_, rfl⟩
    rw [hZ1] at hZ
    rw [hW1] at hW
    obtain ⟨f0, f1, f2, f3, f4, f5⟩ := zrm_E (s := s) 13 ix i (zsI E 5 (E 5 0 - 1)) e5 (by omega) hi (by omega) (by omega) hIE Z1 hZ1
    obtain ⟨g13, g14, g15, g16, g17, g0, g1, g2, g3, g4, g5, g6, g7, g8, g9, g10, g11, g12, g18, g19, g20, g21, g22, g23, g24, g25, g26⟩ := zrm_RE (s := s) 13 ix i (zsI R 12 (R 12 0 - 1)) e12 (by omega) hi (by omega) (by omega) hIR W1 hW1
    subst hZ
    subst hW
    have m11 : W1.2 11 = R 11 := g11
    refine ⟨s, ⟨?_, ?_⟩, ?_, ?_⟩
    · rw [m11]
      exact hT.wide (Int.le_refl _) (Int.le_refl _) g6 g7 g8 g9 g10
    · rw [m11]
      refine zQE_cut (i := i) hE f0 f1 f2 f3 f4 (by rw [f5]; exact e5) ?_ g13 g14 g15 g16 g17 g9
      rw [g12, f5]
      show R 12 0 - 1 = E 5 0 - 1
      rw [a3]
    · unfold zNb; rw [m11]; exact hb
    · intro c9 h9
      rcases h9 with h9 | h9
      · have hc : c9 = 0 ∨ c9 = 1 ∨ c9 = 2 ∨ c9 = 3 ∨ c9 = 4 ∨ c9 = 5 := by omega
        rcases hc with rfl | rfl | rfl | rfl | rfl | rfl
        · exact g0
        · exact g1
        · exact g2
        · exact g3
        · exact g4
        · exact g5
      · have hc : c9 = 23 ∨ c9 = 24 ∨ c9 = 25 ∨ c9 = 26 := by omega
        rcases hc with rfl | rfl | rfl | rfl
        · exact g23
        · exact g24
        · exact g25
        · exact g26
/-! the first beast -/
theorem zfoT_L {T : zS_t} {s : Nat} (hs : (T 4 0).toInt = s) (h10 : s ≤ 10) : ∀ (fuel : Nat) (k : Int32) (j : Nat), k.toInt = j → j ≤ s → s + 1 ≤ j + fuel → (∀ i : Nat, i < j → T 0 i ≠ 0) → ∀ r, mX2_firstOf_L2 0 T fuel k = r → (∃ j : Nat, j < s ∧ T 0 j = 0 ∧ r.toInt = j ∧ ∀ i : Nat, i < j → T 0 i ≠ 0) ∨ ((∀ j : Nat, j < s → T 0 j ≠ 0) ∧ r = -1) := by
  intro fuel
  induction fuel with
  | zero => intro k j hk hj hf hn; omega
  | succ fuel ih =>
    intro k j hk hj hf hn r hr
    rw [mX2_firstOf_L2.eq_2] at hr
    by_cases h1 : (T 4 0) ≤ k
    · rw [if_pos h1] at hr
      have := zt_le h1
      exact Or.inr ⟨fun i hi => hn i (by omega), hr.symm⟩
    · rw [if_neg h1, zncl hk] at hr
      have := zt_nle h1
      by_cases h2 : T 0 j = 0
      · rw [if_pos h2] at hr
        subst hr
        exact Or.inl ⟨j, by omega, h2, hk, hn⟩
      · rw [if_neg h2] at hr
        refine ih (k + 1) (j + 1) (zinc hk (by omega)) (by omega) (by omega) (fun i hi => ?_) r hr
        by_cases e : i = j
        · rw [e]; exact h2
        · exact hn i (by omega)
theorem zfbR_L {R : zS_t} {s : Nat} (h10 : s ≤ 10) : ∀ (fuel : Nat) (at_ k : Int32) (j : Nat), k.toInt = (j : Int) - 1 → j ≤ s → j + 1 ≤ fuel → ((∃ i : Nat, i < s ∧ R 7 i = 0 ∧ at_.toInt = i ∧ j ≤ i ∧ ∀ i' : Nat, j ≤ i' → i' < i → R 7 i' ≠ 0) ∨ ((∀ i : Nat, j ≤ i → i < s → R 7 i ≠ 0) ∧ at_ = -1)) → ∀ r, (mX5_firstBeast_L9 R fuel at_ k).1 = r → (∃ i : Nat, i < s ∧ R 7 i = 0 ∧ r.toInt = i ∧ ∀ i' : Nat, i' < i → R 7 i' ≠ 0) ∨ ((∀ i : Nat, i < s → R 7 i ≠ 0) ∧ r = -1) := by
  intro fuel
  induction fuel with
  | zero => intro a k j hk hj hf hn; omega
  | succ fuel ih =>
    intro a k j hk hj hf hn r hr
    rw [mX5_firstBeast_L9.eq_2] at hr
    have k0 : Int32.toInt 0 = 0 := by decide
    by_cases h1 : k < 0
    · rw [if_pos h1] at hr
      have := zt_lt h1
      subst hr
      have hj0 : j = 0 := by omega
      subst hj0
      rcases hn with ⟨i, hi, h7, hr, -, hb⟩ | ⟨hn, hr⟩
      · exact Or.inl ⟨i, hi, h7, hr, fun i' hi' => hb i' (by omega) hi'⟩
      · exact Or.inr ⟨fun i hi => hn i (by omega) hi, hr⟩
    · have := zt_nlt h1
      obtain ⟨j1, hj1⟩ : ∃ j1 : Nat, j = j1 + 1 := ⟨j - 1, by omega⟩
      subst hj1
      have hk1 : k.toInt = j1 := by omega
      have hk2 : (k + (-1)).toInt = (j1 : Int) - 1 := by rw [zt_add (by rw [zm1v]; omega) (by rw [zm1v]; omega), zm1v]; omega
      rw [if_neg h1, zncl hk1] at hr
      by_cases h2 : R 7 j1 = 0
      · rw [if_pos h2] at hr
        exact ih k (k + (-1)) j1 hk2 (by omega) (by omega) (Or.inl ⟨j1, by omega, h2, hk1, Nat.le_refl _, fun i' h3 h4 => by omega⟩) r hr
      · rw [if_neg h2] at hr
        refine ih a (k + (-1)) j1 hk2 (by omega) (by omega) ?_ r hr
        rcases hn with ⟨i, hi, h7, hr, hji, hb⟩ | ⟨hn, hr⟩
        · refine Or.inl ⟨i, hi, h7, hr, by omega, fun i' h3 h4 => ?_⟩
          by_cases e : i' = j1
          · rw [e]; exact h2
          · exact hb i' (by omega) h4
        · refine Or.inr ⟨fun i h3 h4 => ?_, hr⟩
          by_cases e : i = j1
          · rw [e]; exact h2
          · exact hn i (by omega) h4
theorem zfirst {s : Nat} {T R : zS_t} (hs : (T 4 0).toInt = s) (h10 : s ≤ 10) (h6 : R 6 0 = T 4 0) (h7 : ∀ j : Nat, j < s → R 7 j = T 0 j) : mX2_firstOf 0 T = mX5_firstBeast R ∧ (mX5_firstBeast R = -1 ∨ ∃ i : Nat, i < s ∧ (mX5_firstBeast R).toInt = i) := by
  have k1 : Int32.toInt 1 = 1 := by decide
  have h1 := zfoT_L hs h10 11 0 0 (by decide) (by omega) (by omega) (fun i hi => absurd hi (by omega)) _ rfl
  have h2 := zfbR_L (R := R) h10 12 (-1) ((R 6 0) - 1) s (by rw [h6, zt_sub (by omega) (by omega)]; omega) (Nat.le_refl _) (by omega) (Or.inr ⟨fun i h3 h4 => by omega, rfl⟩) _ rfl
  have e1 : mX2_firstOf 0 T = mX2_firstOf_L2 0 T 11 0 := rfl
  have e2 : mX5_firstBeast R = (mX5_firstBeast_L9 R 12 (-1) ((R 6 0) - 1)).1 := rfl
  rw [e1, e2]
  rcases h1 with ⟨i, hi, g1, g2, g3⟩ | ⟨g1, g2⟩ <;> rcases h2 with ⟨i', hi', g1', g2', g3'⟩ | ⟨g1', g2'⟩
  · have e : i = i' := by
      rcases Nat.lt_trichotomy i i' with h | h | h
      · exact absurd ((h7 i hi).trans g1) (g3' i h)
      · exact h
      · exact absurd ((h7 i' hi').symm.trans g1') (g3 i' h)
    subst e
    exact ⟨Int32.toInt_inj.mp (g2.trans g2'.symm), Or.inr ⟨i, hi, g2'⟩⟩
  · exact absurd ((h7 i hi).trans g1) (g1' i hi)
  · exact absurd ((h7 i' hi').symm.trans g1') (g1 i' hi')
  · exact ⟨g2.trans g2'.symm, Or.inl g2'⟩
