/-! the effect of a card, of a trigger -/
theorem zcard {sT sE t : Nat} {L T E R V : zS_t} {B : Int} {c p tg a : Int32} (ht : t < 3) (hR0 : (R 0 0).toInt = t) (hL5 : L 5 0 = R 0 0) (hA : zAll sT sE L T E R) (hb : zNb B L R) (hB : B + 31 ≤ 50000000) (hq : zQe sT sE T E R (L 10 0).toInt ((R 11 0).toInt + 1) c 0 tg a) (hp : 0 ≤ p.toInt ∧ p.toInt < 3) (hIE : ∀ i : Nat, vp_nar .boolean (E 1 i) = E 1 i) (hIR : ∀ i : Nat, vp_nar .boolean (R 14 i) = R 14 i) : ∀ Z Y W, mX4_cardEffect c p tg L T E V = Z → mX4_raiseTriggers Z.1 Z.2.1 Z.2.2.1 Z.2.2.2.1 Z.2.2.2.2 = Y → (if 12 ≤ c then (if c = 12 then mX5_strikes a R else (if mX5_entryOf a R < 0 then R else mX5_removes (((R 12 0) - 1) - (mX5_entryOf a R)) R)) else mX5_enters c p a R) = W → ∃ sT1 sE1 : Nat, zAll sT1 sE1 Y.1 Z.2.2.1 Y.2.1 W ∧ zNb (B + 31) Y.1 W ∧ zFrL L Y.1 ∧ zFr3 R W := by
  intro Z Y W hZ hY hW
  obtain ⟨q1, q2, q3, q4, q5, q6, q7⟩ := hq
  have k12 : Int32.toInt 12 = 12 := by decide
  have k13 : Int32.toInt 13 = 13 := by decide
  unfold mX4_cardEffect mX4_isThing at hZ
  simp only [zbe, zbe3] at hZ
  by_cases h12 : 12 ≤ c
  · have t12 := zt_le h12
    rw [if_pos h12, if_pos rfl] at hZ
    rw [if_pos h12] at hW
    by_cases e12 : c = 12
    · rw [if_pos e12] at hZ hW
      obtain ⟨Z1, hZ1⟩ : ∃ z, mX4_strike (mX2_placeOf tg T) T V = z := ⟨_, rfl⟩
      rw [hZ1] at hZ
      subst hZ
      obtain ⟨sT1, sE1, r1, r2, r3, r4⟩ := zstrike ht hR0 hL5 hA hb (by omega) (q6 (by rw [e12]; decide)) Z1 Y W hZ1 hY hW
      exact ⟨sT1, sE1, r1, r2.mono (by omega), r3, r4⟩
    · rw [if_neg e12] at hZ hW
      have e13 : c = 13 := by
        have := zt_ne e12
        exact Int32.toInt_inj.mp (by omega)
      subst hZ
      obtain ⟨sE1, r1, r2, r3⟩ := zdeny hA hb (q7 e13) hIE hIR _ W rfl hW
      simp only [zraise0] at hY
      subst hY
      exact ⟨sT, sE1, r1, r2.mono (by omega), zFrL.refl L, r3⟩
  · have t12 := zt_nle h12
    rw [if_neg h12, if_neg (by decide)] at hZ
    rw [if_neg h12] at hW
    obtain ⟨Z1, hZ1⟩ : ∃ z, mX4_enter c p tg L T = z := ⟨_, rfl⟩
    rw [hZ1] at hZ
    subst hZ
    exact zenter ht hR0 hL5 hA hb hB q1 (q6 (fun e => by rw [e] at t12; omega)) (fun h7 => q5 h7 (fun e => by rw [e] at t12; omega) (fun e => by rw [e] at t12; omega)) ⟨q4.1, by omega⟩ hp Z1 Y W hZ1 hY hW
theorem zpay {p v : Int32} {L : zS_t} (hp : 0 ≤ p.toInt ∧ p.toInt < 3) : mX4_pay p v L = zsF L 0 (upd (L 0) p.toNatClampNeg ((L 0 p.toNatClampNeg) + v)) := by
  have k0 : Int32.toInt 0 = 0 := by decide
  have k3 : Int32.toInt 3 = 3 := by decide
  unfold mX4_pay
  rw [if_neg (fun h => by have := zt_lt h; omega), if_neg (fun h => by have := zt_le h; omega)]
theorem ztrg {sT sE t : Nat} {L T E R V : zS_t} {B : Int} {c p : Int32} (ht : t < 3) (hR0 : (R 0 0).toInt = t) (hL5 : L 5 0 = R 0 0) (hA : zAll sT sE L T E R) (hb : zNb B L R) (hB : B + 31 ≤ 50000000) (hc : c = 1 ∨ c = 9 ∨ c = 10 ∨ c = 11) (hp : 0 ≤ p.toInt ∧ p.toInt < 3) : ∀ Z Y W, mX4_triggerEffect c p L T = Z → mX4_raiseTriggers Z.1 Z.2.1 Z.2.2 E V = Y → mX5_trigger c p R = W → ∃ sT1 sE1 : Nat, zAll sT1 sE1 Y.1 Z.2.2 Y.2.1 W ∧ zNb (B + 31) Y.1 W ∧ zFL L Y.1 ∧ zFR R W ∧ (R 5 = L 0 → W 5 = Y.1 0) := by
  intro Z Y W hZ hY hW
  have k0 : Int32.toInt 0 = 0 := by decide
  unfold mX4_triggerEffect at hZ
  unfold mX5_trigger at hW
  simp only [zbe, zbe2, zbe3] at hZ hW
  rcases hc with rfl | rfl | rfl | rfl
  · rw [if_pos rfl, zpay hp] at hZ
    rw [if_pos rfl, if_pos rfl] at hW
    subst hZ
    simp only [zraise0] at hY
    subst hY
    subst hW
    refine ⟨sT, sE, hA, hb.mono (by omega), fun c9 h9 h0 => zsF_n L _ h0, fun c9 h9 => zsF_n R _ (by omega), fun h5 => ?_⟩
    show upd (R 5) p.toNatClampNeg _ = upd (L 0) p.toNatClampNeg _
    rw [h5]
  · rw [if_neg (by decide), if_pos rfl, zpay hp] at hZ
    rw [if_neg (by decide), if_pos rfl, if_neg (by decide)] at hW
    subst hZ
    simp only [zraise0] at hY
    subst hY
    subst hW
    refine ⟨sT, sE, hA, hb.mono (by omega), fun c9 h9 h0 => zsF_n L _ h0, fun c9 h9 => zsF_n R _ (by omega), fun h5 => ?_⟩
    show upd (R 5) p.toNatClampNeg _ = upd (L 0) p.toNatClampNeg _
    rw [h5]
  · rw [if_neg (by decide), if_neg (by decide), if_pos rfl] at hZ
    rw [if_neg (by decide), if_neg (by decide), if_pos rfl] at hW
    obtain ⟨Z1, hZ1⟩ : ∃ z, mX4_enter 0 p (-1) L T = z := ⟨_, rfl⟩
    rw [hZ1] at hZ
    subst hZ
    obtain ⟨-, -, -, dT1, dT2, -⟩ := id hA.1
    have hbd : zBd (-1) 0 (L 10 0).toInt ((R 11 0).toInt + 1) := by
      unfold zNb at hb
      unfold zBd
      rw [zm1v]
      omega
    obtain ⟨sT1, sE1, r1, r2, r3, r4⟩ := zenter (c := 0) (V := V) ht hR0 hL5 hA hb hB hbd (zTg.none dT1 dT2) (fun _ => rfl) (by decide) hp Z1 Y W hZ1 hY hW
    exact ⟨sT1, sE1, r1, r2, r3.fl, r4.fr, fun h5 => by rw [r4 5 (by omega), r3 0 (by omega)]; exact h5⟩
  · rw [if_neg (by decide), if_neg (by decide), if_neg (by decide), if_pos rfl] at hZ
    rw [if_neg (by decide), if_neg (by decide), if_neg (by decide)] at hW
    obtain ⟨⟨a1, a2, a3⟩, b1, -⟩ := id hA.1
    obtain ⟨f1, f2⟩ := zfirst a1 a2 a3 (fun j hj => (b1 j hj).1)
    rw [f1] at hZ
    obtain ⟨r, hr⟩ : ∃ z, mX5_firstBeast R = z := ⟨_, rfl⟩
    rw [hr] at hZ hW f2
    rcases f2 with f2 | ⟨i, hi, f2⟩
    · subst f2
      rw [if_pos (by decide)] at hW
      have hl : mX4_leave (-1) T = (0, T) := zlv0 (zhas0 (Or.inl (by rw [zm1v]; omega)))
      rw [hl] at hZ
      subst hZ
      simp only [zraise0] at hY
      subst hY
      subst hW
      exact ⟨sT, sE, hA, hb.mono (by omega), (zFrL.refl L).fl, fun _ _ => rfl, fun h5 => h5⟩
    · rw [if_neg (fun h => by have := zt_lt h; omega)] at hW
      subst hZ
      obtain ⟨s, hs⟩ : ∃ s : Nat, sT = s + 1 := ⟨sT - 1, by omega⟩
      subst hs
      obtain ⟨sE1, q1, q2, q3, q4⟩ := zleave (V := V) ht hR0 hL5 hA hb (by omega) f2 hi _ Y W rfl hY hW
      exact ⟨s, sE1, q1, q2.mono (by omega), q3.fl, q4.fr, fun h5 => by rw [q4 5 (by omega), q3 0 (by omega)]; exact h5⟩
/-! the top of the stack resolved, but for the memory -/
theorem ztop {sT s t : Nat} {L T E R V : zS_t} {B : Int} (ht : t < 3) (hR0 : (R 0 0).toInt = t) (hL5 : L 5 0 = R 0 0) (hA : zAll sT (s + 1) L T E R) (hb : zNb B L R) (hB : B + 31 ≤ 50000000) (hIE : ∀ i : Nat, vp_nar .boolean (E 1 i) = E 1 i) (hIR : ∀ i : Nat, vp_nar .boolean (R 14 i) = R 14 i) : ∀ E9 Z Y W, mX0_remove (E 5 0 - 1) E = E9 → mX4_resolveTop_S66 (E 0 s) (E 1 s) (E 2 s) (E 3 s) L T E9 V = Z → mX4_raiseTriggers Z.1 Z.2.1 Z.2.2.1 Z.2.2.2.1 Z.2.2.2.2 = Y → mX5_resolves_S40 (R 13 s) (R 15 s) (R 17 s) (zsI R 12 (R 12 0 - 1)) = W → ∃ sT1 sE1 : Nat, zAll sT1 sE1 Y.1 Z.2.2.1 Y.2.1 W ∧ zNb (B + 31) Y.1 W ∧ zFL L Y.1 ∧ zFR R W ∧ (R 5 = L 0 → W 5 = Y.1 0) := by
  intro E9 Z Y W hE9 hZ hY hW
  obtain ⟨hT, hE⟩ := id hA
  obtain ⟨⟨a1, a2, a3⟩, b1, c1, dE1, dE2, f1⟩ := id hE
  have k0 : Int32.toInt 0 = 0 := by decide
  have k1 : Int32.toInt 1 = 1 := by decide
  have e5 : (E 5 0 - 1).toInt = (s : Int) := by rw [zt_sub (by omega) (by omega)]; omega
  have e12 : (R 12 0 - 1).toInt = (s : Int) := by rw [a3]; exact e5
  unfold mX0_remove at hE9
  rw [if_neg (fun h => by have := zt_lt h; omega), if_pos (Int32.lt_iff_toInt_lt.mpr (by omega))] at hE9
  simp only [zbe, zbe2] at hE9
  obtain ⟨Z1, hZ1⟩ : ∃ z, mX0_remove_L25 13 (E 5 0 - 1) (zsI E 5 (E 5 0 - 1)) = z := ⟨_, rfl⟩
  rw [hZ1] at hE9
  subst hE9
  obtain ⟨g0, g1, g2, g3, g4, g5⟩ := zrm_E (s := s) 13 (E 5 0 - 1) s (zsI E 5 (E 5 0 - 1)) e5 (by omega) e5 (by omega) (by omega) hIE Z1 hZ1
  have z1 : Z1.2 1 = E 1 := g1.trans (zsh_end (Nat.le_refl _))
  have z4 : Z1.2 4 = E 4 := g4.trans (zsh_end (Nat.le_refl _))
  have zz : ∀ f : Nat → Int32, f = zsh s s f := fun f => (zsh_end (Nat.le_refl _)).symm
  obtain ⟨R5, hR5⟩ : ∃ z, zsI R 12 (R 12 0 - 1) = z := ⟨_, rfl⟩
  rw [hR5] at hW
  have rn : ∀ c : Nat, c ≠ 12 → R5 c = R c := fun c hc => by rw [← hR5]; exact zsF_n _ _ hc
  have r12 : R5 12 0 = R 12 0 - 1 := by rw [← hR5]; rfl
  have hA1 : zAll sT s L T Z1.2 R5 := by
    unfold zAll
    rw [rn 11 (by omega)]
    refine ⟨hT.wide (Int.le_refl _) (Int.le_refl _) (rn 6 (by omega)) (rn 7 (by omega)) (rn 8 (by omega)) (rn 9 (by omega)) (rn 10 (by omega)), zQE_cut (i := s) hE g0 g1 g2 g3 g4 (by rw [g5]; exact e5) ?_ ?_ ?_ ?_ ?_ ?_ (rn 9 (by omega))⟩
    · rw [g5, r12, a3]
      rfl
    · rw [rn 13 (by omega)]; exact zz _
    · rw [rn 14 (by omega)]; exact zz _
    · rw [rn 15 (by omega)]; exact zz _
    · rw [rn 16 (by omega)]; exact zz _
    · rw [rn 17 (by omega)]; exact zz _
  have hb1 : zNb B L R5 := by unfold zNb; rw [rn 11 (by omega)]; exact hb
  have hR05 : (R5 0 0).toInt = t := by rw [rn 0 (by omega)]; exact hR0
  have hL55 : L 5 0 = R5 0 0 := by rw [rn 0 (by omega)]; exact hL5
  have hIR5 : ∀ i : Nat, vp_nar .boolean (R5 14 i) = R5 14 i := by rw [rn 14 (by omega)]; exact hIR
  have h55 : R5 5 = R 5 := rn 5 (by omega)
  obtain ⟨h13, h14, h15⟩ := b1 s (by omega)
  obtain ⟨q1, q2, q3, q4, q5, q6, q7⟩ := f1 s (by omega)
  have hp := c1 s (by omega)
  rw [h13, h15] at hW
  have e14 : R5 14 (R5 12 0).toNatClampNeg = E 1 s := by
    rw [rn 14 (by omega), r12, zncl e12]
    exact h14
  unfold mX5_resolves_S40 at hW
  simp only [zbe] at hW
  rw [e14] at hW
  unfold mX4_resolveTop_S66 at hZ
  simp only [zbe3, zbe5] at hZ
  have fR : zFR R R5 := fun c9 h9 => rn c9 (by omega)
  rcases q2 with q2 | q2
  · rw [if_pos q2] at hZ hW
    have hq : zQe sT s T Z1.2 R5 (L 10 0).toInt ((R5 11 0).toInt + 1) (E 0 s) 0 (E 3 s) (R 17 s) := by
      unfold zQe
      rw [rn 11 (by omega), rn 9 (by omega), rn 16 (by omega), z4]
      exact ⟨q1, Or.inl rfl, fun h => absurd h (by decide), q4, q5, q6, fun hc => (q7 hc).drop (by omega)⟩
    obtain ⟨Z2, hZ2⟩ : ∃ z, mX4_cardEffect (E 0 s) (E 2 s) (E 3 s) L T Z1.2 V = z := ⟨_, rfl⟩
    rw [hZ2] at hZ
    subst hZ
    have hIE5 : ∀ i : Nat, vp_nar .boolean (Z1.2 1 i) = Z1.2 1 i := by rw [z1]; exact hIE
    obtain ⟨sT1, sE1, r1, r2, r3, r4⟩ := zcard (V := V) ht hR05 hL55 hA1 hb1 hB hq hp hIE5 hIR5 Z2 Y W hZ2 hY hW
    exact ⟨sT1, sE1, r1, r2, r3.fl, fR.trans r4.fr, fun h5 => by rw [r4 5 (by omega), r3 0 (by omega), h55]; exact h5⟩
  · have hn : ¬ E 1 s = 0 := by rw [q2]; decide
    rw [if_neg hn] at hZ hW
    obtain ⟨Z2, hZ2⟩ : ∃ z, mX4_triggerEffect (E 0 s) (E 2 s) L T = z := ⟨_, rfl⟩
    rw [hZ2] at hZ
    subst hZ
    obtain ⟨sT1, sE1, r1, r2, r3, r4, r5⟩ := ztrg (V := V) ht hR05 hL55 hA1 hb1 hB (q3 q2).1 hp Z2 Y W hZ2 hY hW
    exact ⟨sT1, sE1, r1, r2, r3, fR.trans r4, fun h5 => r5 (by rw [h55]; exact h5)⟩
