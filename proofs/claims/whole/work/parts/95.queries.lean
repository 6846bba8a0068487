/-! the calls that ask -/
theorem zag_turn : zAg_turn zRl := by
  intro n L T E V M K R hn h X Y hX hY
  have h5 := pp_X5_turn R h.ir
  rw [hY] at h5
  subst hX
  subst hY
  exact ⟨h.1.2.2.1, h.t h5⟩
theorem zag_acting : zAg_acting zRl := by
  intro n L T E V M K R hn h X Y hX hY
  have h5 := pp_X5_acting R h.ir
  rw [hY] at h5
  subst hX
  subst hY
  exact ⟨h.2.1.1, h.t h5⟩
theorem zag_rounds : zAg_rounds zRl := by
  intro n L T E V M K R hn h X Y hX hY
  have h5 := pp_X5_rounds R h.ir
  rw [hY] at h5
  subst hX
  subst hY
  exact ⟨h.1.2.2.2.1, h.t h5⟩
theorem zag_loops : zAg_loops zRl := by
  intro n L T E V M K R hn h X Y hX hY
  have h5 := pp_X5_loops R h.ir
  rw [hY] at h5
  subst hX
  subst hY
  exact ⟨h.1.2.2.2.2.1, h.t h5⟩
theorem zRl.all {n : Nat} {L T E V M K R : zS_t} (h : zRl n L T E V M K R) : ∃ sT sE : Nat, zAll sT sE L T E R := by
  obtain ⟨⟨⟨sT, sE, n9, x, hA, hM⟩, -⟩, -⟩ := h
  exact ⟨sT, sE, hA⟩
theorem zag_things : zAg_things zRl := by
  intro n L T E V M K R hn h X Y hX hY
  have h5 := pp_X5_things R h.ir
  rw [hY] at h5
  obtain ⟨sT, sE, hA⟩ := h.all
  subst hX
  subst hY
  exact ⟨hA.1.1.2.2, h.t h5⟩
theorem zag_stack : zAg_stack zRl := by
  intro n L T E V M K R hn h X Y hX hY
  have h5 := pp_X5_stack R h.ir
  rw [hY] at h5
  obtain ⟨sT, sE, hA⟩ := h.all
  subst hX
  subst hY
  exact ⟨hA.2.1.2.2, h.t h5⟩
theorem zag_coins : zAg_coins zRl := by
  intro n player L T E V M K R hn h X Y hX hY
  have h5 := pp_X5_coins player R h.ir
  rw [hY] at h5
  have k0 : Int32.toInt 0 = 0 := by decide
  have k2 : Int32.toInt 2 = 2 := by decide
  have k3 : Int32.toInt 3 = 3 := by decide
  unfold mX4_coins at hX
  unfold mX5_coins at hY
  simp only [zbe] at hY
  by_cases g1 : player < 0
  · have := zt_lt g1
    rw [if_pos g1] at hX
    rw [zisin0 (Or.inl (by omega)), if_pos rfl] at hY
    subst hX
    subst hY
    exact ⟨rfl, fun e => (by cases e), h.t h5⟩
  · have := zt_nlt g1
    rw [if_neg g1] at hX
    by_cases g2 : player < 3
    · have := zt_lt g2
      rw [if_pos g2] at hX
      rw [zisin1 (by omega) (by omega), if_neg (by decide)] at hY
      subst hX
      subst hY
      refine ⟨rfl, fun _ => ?_, h.t h5⟩
      show R 5 _ = L 0 _
      rw [h.1.2.2.2.2.2]
    · have := zt_nlt g2
      rw [if_neg g2] at hX
      rw [zisin0 (Or.inr (by omega)), if_pos rfl] at hY
      subst hX
      subst hY
      exact ⟨rfl, fun e => (by cases e), h.t h5⟩
theorem zplin {s : Nat} {T R : zS_t} (hs : (T 4 0).toInt = s) (h10 : s ≤ 10) (h6 : R 6 0 = T 4 0) (place : Int32) : (mX2_has place T = 0 ∧ mX5_isIn place 0 ((R 6 0) - 1) = 0) ∨ (mX2_has place T = 1 ∧ mX5_isIn place 0 ((R 6 0) - 1) = 1 ∧ ∃ j : Nat, j < s ∧ place.toInt = j) := by
  have k1 : Int32.toInt 1 = 1 := by decide
  have e1 : (R 6 0 - 1).toInt = (s : Int) - 1 := by rw [h6, zt_sub (by omega) (by omega)]; omega
  by_cases g : 0 ≤ place.toInt ∧ place.toInt < s
  · exact Or.inr ⟨zhas1 (by omega) (by omega), zisin1 (by omega) (by omega), place.toInt.toNat, by omega, by omega⟩
  · exact Or.inl ⟨zhas0 (by omega), zisin0 (by omega)⟩
theorem zenin {s : Nat} {E R : zS_t} (hs : (E 5 0).toInt = s) (h12 : s ≤ 12) (h6 : R 12 0 = E 5 0) (place : Int32) : (mX0_has place E = 0 ∧ mX5_isIn place 0 ((R 12 0) - 1) = 0) ∨ (mX0_has place E = 1 ∧ mX5_isIn place 0 ((R 12 0) - 1) = 1 ∧ mX0_indexOf place E = ((R 12 0) - 1) - place ∧ ∃ j : Nat, j < s ∧ (mX0_indexOf place E).toInt = j) := by
  have k0 : Int32.toInt 0 = 0 := by decide
  have k1 : Int32.toInt 1 = 1 := by decide
  have e1 : (R 12 0 - 1).toInt = (s : Int) - 1 := by rw [h6, zt_sub (by omega) (by omega)]; omega
  by_cases g : 0 ≤ place.toInt ∧ place.toInt < s
  · have h1 : mX0_has place E = 1 := by
      unfold mX0_has
      rw [if_neg (fun h => by have := zt_lt h; omega), if_neg (fun h => by have := zt_le h; omega)]
    have h2 := (zind (pl := place) hs h12).2 g.1 g.2
    refine Or.inr ⟨h1, zisin1 (by omega) (by omega), ?_, (mX0_indexOf place E).toInt.toNat, by omega, by omega⟩
    rw [← Int32.toInt_inj, h2, zt_sub (by omega) (by omega)]
    omega
  · refine Or.inl ⟨?_, zisin0 (by omega)⟩
    unfold mX0_has
    by_cases g1 : place < 0
    · rw [if_pos g1]
    · have := zt_nlt g1
      rw [if_neg g1, if_pos (Int32.le_iff_toInt_le.mpr (by omega))]
theorem zag_cardOf : zAg_cardOf zRl := by
  intro n place L T E V M K R hn h X Y hX hY
  have h5 := pp_X5_cardOf place R h.ir
  rw [hY] at h5
  obtain ⟨sT, sE, hA⟩ := h.all
  obtain ⟨⟨a1, a2, a3⟩, b1, -⟩ := id hA.1
  unfold mX4_cardOf at hX
  unfold mX5_cardOf at hY
  simp only [zbe] at hX hY
  rcases zplin a1 a2 a3 place with ⟨g1, g2⟩ | ⟨g1, g2, j, hj, hp⟩
  · rw [g1, if_pos rfl] at hX
    rw [g2, if_pos rfl] at hY
    subst hX
    subst hY
    exact ⟨rfl, fun e => (by cases e), h.t h5⟩
  · rw [g1, if_neg (by decide)] at hX
    rw [g2, if_neg (by decide)] at hY
    subst hX
    subst hY
    refine ⟨rfl, fun _ => ?_, h.t h5⟩
    show R 7 place.toNatClampNeg = T 0 place.toNatClampNeg
    rw [zncl hp]
    exact (b1 j hj).1
/-- what things are behind a layer, asked -/
theorem zlaid {n : Nat} {L T E V M K R : zS_t} {place layer : Int32} (h : zRl n L T E V M K R) : (∃ x : Option String, mX4_requireThingAndLayer place layer T = x ∧ x ≠ none ∧ (mX5_isLaid place layer R).1 = 0 ∧ (mX5_isLaid place layer R).2 26 0 = zk2 x ∧ ∀ c : Nat, c < 18 ∨ c = 23 ∨ c = 24 → (mX5_isLaid place layer R).2 c = R c) ∨ (mX4_requireThingAndLayer place layer T = none ∧ (mX5_isLaid place layer R).1 = 1 ∧ (mX5_isLaid place layer R).2 26 0 = 0 ∧ (∀ c : Nat, c < 18 ∨ c = 23 ∨ c = 24 → (mX5_isLaid place layer R).2 c = R c) ∧ ∃ sT j : Nat, j < sT ∧ place.toInt = j ∧ zV3 sT (mX3_find layer T V) (mX5_isLaid place layer R).2) := by
  obtain ⟨sT, sE, hA⟩ := h.all
  obtain ⟨⟨a1, a2, a3⟩, b1, -⟩ := id hA.1
  have k0 : Int32.toInt 0 = 0 := by decide
  have k5 : Int32.toInt 5 = 5 := by decide
  have h10 : ¬ (1 : Int32) = 0 := by decide
  rcases zplin a1 a2 a3 place with ⟨g1, g2⟩ | ⟨g1, g2, j, hj, hp⟩
  · have hq : mX4_requireThingAndLayer place layer T = some "java/lang/IndexOutOfBoundsException" := by
      unfold mX4_requireThingAndLayer
      simp only [zbe]
      rw [g1, if_pos rfl]
    have hl : mX5_isLaid place layer R = (0, zsI R 26 1) := by
      unfold mX5_isLaid
      simp only [zbe]
      rw [g2, if_pos rfl]
    rw [hq, hl]
    exact Or.inl ⟨_, rfl, Option.some_ne_none _, rfl, rfl, fun c hc => zsF_n _ _ (by omega)⟩
  · by_cases q1 : layer < 0
    · have := zt_lt q1
      have hq : mX4_requireThingAndLayer place layer T = some "java/lang/IllegalArgumentException" := by
        unfold mX4_requireThingAndLayer
        simp only [zbe]
        rw [g1, if_neg h10, if_pos q1]
      have hl : mX5_isLaid place layer R = (0, zsI R 26 2) := by
        unfold mX5_isLaid
        simp only [zbe]
        rw [g2, if_neg h10, zisin0 (Or.inl (by omega)), if_pos rfl]
      rw [hq, hl]
      exact Or.inl ⟨_, rfl, Option.some_ne_none _, rfl, rfl, fun c hc => zsF_n _ _ (by omega)⟩
    · have := zt_nlt q1
      by_cases q2 : layer ≤ 5
      · have := zt_le q2
        obtain ⟨m, hm⟩ : ∃ m : Nat, layer.toInt = m := ⟨layer.toInt.toNat, by omega⟩
        have hA1 : zAll sT sE L T E (zsI R 26 0) := zAll_c hA (fun c _ hc => zsF_n _ _ (by omega))
        obtain ⟨W1, hW1⟩ : ∃ z, mX5_lays layer (zsI R 26 0) = z := ⟨_, rfl⟩
        obtain ⟨v1, v2⟩ := zfind (V := V) hm (by omega) hA1.1.cards hA1.1.rows hA1.1.cr _ W1 rfl hW1
        have h26 : W1 26 0 = 0 := by rw [v2 26 (by omega)]; rfl
        have hq : mX4_requireThingAndLayer place layer T = none := by
          unfold mX4_requireThingAndLayer
          simp only [zbe]
          rw [g1, if_neg h10, if_neg q1, if_pos q2]
        have hl : mX5_isLaid place layer R = (1, W1) := by
          unfold mX5_isLaid
          simp only [zbe]
          rw [g2, if_neg h10, zisin1 (by omega) (by omega), if_neg h10, hW1, if_pos h26]
        rw [hq, hl]
        exact Or.inr ⟨rfl, rfl, h26, fun c hc => (v2 c (by omega)).trans (zsF_n _ _ (by omega)), sT, j, hj, hp, v1⟩
      · have := zt_nle q2
        have hq : mX4_requireThingAndLayer place layer T = some "java/lang/IllegalArgumentException" := by
          unfold mX4_requireThingAndLayer
          simp only [zbe]
          rw [g1, if_neg h10, if_neg q1, if_neg q2]
        have hl : mX5_isLaid place layer R = (0, zsI R 26 2) := by
          unfold mX5_isLaid
          simp only [zbe]
          rw [g2, if_neg h10, zisin0 (Or.inr (by omega)), if_pos rfl]
        rw [hq, hl]
        exact Or.inl ⟨_, rfl, Option.some_ne_none _, rfl, rfl, fun c hc => zsF_n _ _ (by omega)⟩
theorem zag_controllerOf : zAg_controllerOf zRl := by
  intro n place layer L T E V M K R hn h X Y hX hY
  have h5 := pp_X5_controllerOf place layer R h.ir
  rw [hY] at h5
  unfold mX4_controllerOf at hX
  unfold mX5_controllerOf at hY
  simp only [zbe, zbe2] at hX hY
  rcases zlaid (V := V) (place := place) (layer := layer) h with ⟨x, g1, g2, g3, g4, g5⟩ | ⟨g1, g3, g4, g5, sT, j, hj, hp, g6⟩
  · rw [g1, if_neg g2] at hX
    rw [g3, if_pos rfl] at hY
    subst hX
    subst hY
    exact ⟨g4, fun h => absurd h g2, h.q g5 h5⟩
  · rw [g1, if_pos rfl] at hX
    rw [g3, if_neg (by decide)] at hY
    subst hX
    subst hY
    refine ⟨g4, fun _ => ?_, h.q g5 h5⟩
    show (mX5_isLaid place layer R).2 18 place.toNatClampNeg = (mX3_find layer T V) 0 place.toNatClampNeg
    rw [zncl hp]
    exact (g6 j hj).1
theorem zag_kindsOf : zAg_kindsOf zRl := by
  intro n place layer L T E V M K R hn h X Y hX hY
  have h5 := pp_X5_kindsOf place layer R h.ir
  rw [hY] at h5
  unfold mX4_kindsOf at hX
  unfold mX5_kindsOf at hY
  simp only [zbe, zbe2] at hX hY
  rcases zlaid (V := V) (place := place) (layer := layer) h with ⟨x, g1, g2, g3, g4, g5⟩ | ⟨g1, g3, g4, g5, sT, j, hj, hp, g6⟩
  · rw [g1, if_neg g2] at hX
    rw [g3, if_pos rfl] at hY
    subst hX
    subst hY
    exact ⟨g4, fun h => absurd h g2, h.q g5 h5⟩
  · rw [g1, if_pos rfl] at hX
    rw [g3, if_neg (by decide)] at hY
    subst hX
    subst hY
    refine ⟨g4, fun _ => ?_, h.q g5 h5⟩
    show (mX5_isLaid place layer R).2 19 place.toNatClampNeg = (mX3_find layer T V) 1 place.toNatClampNeg
    rw [zncl hp]
    exact (g6 j hj).2.1
theorem zag_strengthOf : zAg_strengthOf zRl := by
  intro n place layer L T E V M K R hn h X Y hX hY
  have h5 := pp_X5_strengthOf place layer R h.ir
  rw [hY] at h5
  unfold mX4_strengthOf at hX
  unfold mX5_strengthOf at hY
  simp only [zbe, zbe2] at hX hY
  rcases zlaid (V := V) (place := place) (layer := layer) h with ⟨x, g1, g2, g3, g4, g5⟩ | ⟨g1, g3, g4, g5, sT, j, hj, hp, g6⟩
  · rw [g1, if_neg g2] at hX
    rw [g3, if_pos rfl] at hY
    subst hX
    subst hY
    exact ⟨g4, fun h => absurd h g2, h.q g5 h5⟩
  · rw [g1, if_pos rfl] at hX
    rw [g3, if_neg (by decide)] at hY
    subst hX
    subst hY
    refine ⟨g4, fun _ => ?_, h.q g5 h5⟩
    show (mX5_isLaid place layer R).2 20 place.toNatClampNeg = (mX3_find layer T V) 2 place.toNatClampNeg
    rw [zncl hp]
    exact (g6 j hj).2.2.1
theorem zpow_L {s : Nat} {T V R : zS_t} {player : Int32} (hs : (T 4 0).toInt = s) (h10 : s ≤ 10) (h6 : R 6 0 = T 4 0) (hv : zV3 s V R) : ∀ (fuel : Nat) (a k : Int32) (j : Nat), k.toInt = j → s + 1 ≤ j + fuel → j ≤ s → (mX5_power_L36 player R fuel a k).1 = (mX4_power_L35 player T V fuel a k).1 := by
  intro fuel
  induction fuel with
  | zero => intro a k j hk hf hj; omega
  | succ fuel ih =>
    intro a k j hk hf hj
    rw [mX5_power_L36.eq_2, mX4_power_L35.eq_2, h6]
    by_cases h1 : j = s
    · rw [if_pos (Int32.le_iff_toInt_le.mpr (by omega)), if_pos (Int32.le_iff_toInt_le.mpr (by omega))]
    · have g : ¬ T 4 0 ≤ k := fun h => by have := zt_le h; omega
      rw [if_neg g, if_neg g]
      simp only [zbe]
      have hj9 : j < s := by omega
      obtain ⟨v0, v1, v2, v8⟩ := hv j hj9
      have hn := fun a : Int32 => ih a (k + 1) (j + 1) (zinc hk (by omega)) (by omega) (by omega)
      rw [zncl hk, v0, v1, v2]
      have e0 : a + 0 = a := Int32.add_zero a
      by_cases q1 : V 0 j = player
      · rw [if_pos q1, if_pos q1]
        rcases v8.and1 with ⟨b1, b2⟩ | ⟨b1, b2⟩
        · rw [if_neg b2, if_pos b1, e0]
          exact hn a
        · rw [if_pos b2, if_neg b1]
          exact hn _
      · rw [if_neg q1, if_neg q1, e0]
        exact hn a
theorem zag_power : zAg_power zRl := by
  intro n player L T E V M K R hn h X Y hX hY
  have h5 := pp_X5_power player R h.ir
  rw [hY] at h5
  obtain ⟨sT, sE, hA⟩ := h.all
  obtain ⟨⟨a1, a2, a3⟩, b1, -⟩ := id hA.1
  have k0 : Int32.toInt 0 = 0 := by decide
  have k2 : Int32.toInt 2 = 2 := by decide
  have k3 : Int32.toInt 3 = 3 := by decide
  unfold mX4_power at hX
  unfold mX5_power at hY
  simp only [zbe, zbe2] at hX hY
  by_cases g1 : player < 0
  · have := zt_lt g1
    rw [if_pos g1] at hX
    rw [zisin0 (Or.inl (by omega)), if_pos rfl] at hY
    subst hX
    subst hY
    exact ⟨rfl, fun e => (by cases e), h.t h5⟩
  · have := zt_nlt g1
    rw [if_neg g1] at hX
    by_cases g2 : player < 3
    · have := zt_lt g2
      rw [if_pos g2] at hX
      rw [zisin1 (by omega) (by omega), if_neg (by decide)] at hY
      have hA1 : zAll sT sE L T E (zsI R 26 0) := zAll_c hA (fun c _ hc => zsF_n _ _ (by omega))
      obtain ⟨W1, hW1⟩ : ∃ z, mX5_lays 5 (zsI R 26 0) = z := ⟨_, rfl⟩
      obtain ⟨V1, hV1⟩ : ∃ z, mX3_find 5 T V = z := ⟨_, rfl⟩
      obtain ⟨v1, v2⟩ := zfind (ls := 5) (m := 5) (V := V) (by decide) (by omega) hA1.1.cards hA1.1.rows hA1.1.cr V1 W1 hV1 hW1
      rw [hV1] at hX
      rw [hW1] at hY
      have h7 : (mX5_power_L36 player W1 11 0 0).1 = (mX4_power_L35 player T V1 11 0 0).1 := by
        refine zpow_L a1 a2 ?_ v1 11 0 0 0 (by decide) (by omega) (by omega)
        rw [v2 6 (by omega)]
        exact a3
      have h26 : W1 26 0 = 0 := by rw [v2 26 (by omega)]; rfl
      have hq : ∀ c : Nat, c < 18 ∨ c = 23 ∨ c = 24 → W1 c = R c := fun c hc => (v2 c (by omega)).trans (zsF_n _ _ (by omega))
      have hf : zRl (n + 1) L T E V1 M K W1 := h.q hq (by rw [← hY] at h5; exact h5)
      subst hX
      subst hY
      exact ⟨h26, fun _ => h7, hf⟩
    · have := zt_nlt g2
      rw [if_neg g2] at hX
      rw [zisin0 (Or.inr (by omega)), if_pos rfl] at hY
      subst hX
      subst hY
      exact ⟨rfl, fun e => (by cases e), h.t h5⟩
/-- an entry asked for -/
theorem zisE {place : Int32} {E R : zS_t} {s : Nat} (hs : (E 5 0).toInt = s) (h12 : s ≤ 12) (h6 : R 12 0 = E 5 0) : (mX0_has place E = 0 ∧ mX5_isEntry place R = (0, zsI R 26 1)) ∨ (mX0_has place E = 1 ∧ mX5_isEntry place R = (1, zsI R 26 0) ∧ mX0_indexOf place E = ((R 12 0) - 1) - place ∧ ∃ j : Nat, j < s ∧ (mX0_indexOf place E).toInt = j) := by
  unfold mX5_isEntry
  simp only [zbe]
  rcases zenin hs h12 h6 place with ⟨g1, g2⟩ | ⟨g1, g2, g3, g4⟩
  · rw [g2, if_pos rfl]
    exact Or.inl ⟨g1, rfl⟩
  · rw [g2, if_neg (by decide)]
    exact Or.inr ⟨g1, rfl, g3, g4⟩
theorem zag_entryCard : zAg_entryCard zRl := by
  intro n place L T E V M K R hn h X Y hX hY
  have h5 := pp_X5_entryCard place R h.ir
  rw [hY] at h5
  obtain ⟨sT, sE, hA⟩ := h.all
  obtain ⟨⟨a1, a2, a3⟩, b1, -⟩ := id hA.2
  unfold mX4_entryCard at hX
  unfold mX5_entryCard at hY
  simp only [zbe, zbe2] at hX hY
  rcases zisE (place := place) a1 a2 a3 with ⟨g1, g2⟩ | ⟨g1, g2, g3, j, hj, hp⟩
  · rw [g1, if_pos rfl] at hX
    rw [g2] at hY
    dsimp only at hY
    rw [if_pos rfl] at hY
    subst hX
    subst hY
    exact ⟨rfl, fun e => (by cases e), h.t h5⟩
  · rw [g1, if_neg (by decide), zncl hp] at hX
    rw [g2] at hY
    dsimp only at hY
    rw [if_neg (by decide)] at hY
    have e12 : (zsI R 26 0) 12 0 - 1 - place = mX0_indexOf place E := g3.symm
    rw [e12, zncl hp] at hY
    subst hX
    subst hY
    exact ⟨rfl, fun _ => (b1 j hj).1, h.t h5⟩
theorem zag_isTrigger : zAg_isTrigger zRl := by
  intro n place L T E V M K R hn h X Y hX hY
  have h5 := pp_X5_isTrigger place R h.ir
  rw [hY] at h5
  obtain ⟨sT, sE, hA⟩ := h.all
  obtain ⟨⟨a1, a2, a3⟩, b1, -, -, -, f1⟩ := id hA.2
  unfold mX4_isTrigger at hX
  unfold mX5_isTrigger at hY
  simp only [zbe, zbe2] at hX hY
  rcases zisE (place := place) a1 a2 a3 with ⟨g1, g2⟩ | ⟨g1, g2, g3, j, hj, hp⟩
  · rw [g1, if_pos rfl] at hX
    rw [g2] at hY
    dsimp only at hY
    rw [if_pos rfl] at hY
    subst hX
    subst hY
    exact ⟨rfl, fun e => (by cases e), h.t h5.2⟩
  · rw [g1, if_neg (by decide), zncl hp] at hX
    rw [g2] at hY
    dsimp only at hY
    rw [if_neg (by decide)] at hY
    have e12 : (zsI R 26 0) 12 0 - 1 - place = mX0_indexOf place E := g3.symm
    have e14 : (zsI R 26 0) 14 j = E 1 j := (b1 j hj).2.1
    rw [e12, zncl hp] at hY
    rcases (f1 j hj).2.1 with q | q
    · rw [if_pos (e14.trans q)] at hY
      rw [q] at hX
      subst hX
      subst hY
      exact ⟨rfl, fun _ => rfl, h.t h5.2⟩
    · rw [if_neg (by rw [e14, q]; decide)] at hY
      rw [q] at hX
      subst hX
      subst hY
      exact ⟨rfl, fun _ => rfl, h.t h5.2⟩
theorem zag_entryPlayer : zAg_entryPlayer zRl := by
  intro n place L T E V M K R hn h X Y hX hY
  have h5 := pp_X5_entryPlayer place R h.ir
  rw [hY] at h5
  obtain ⟨sT, sE, hA⟩ := h.all
  obtain ⟨⟨a1, a2, a3⟩, b1, -⟩ := id hA.2
  unfold mX4_entryPlayer at hX
  unfold mX5_entryPlayer at hY
  simp only [zbe, zbe2] at hX hY
  rcases zisE (place := place) a1 a2 a3 with ⟨g1, g2⟩ | ⟨g1, g2, g3, j, hj, hp⟩
  · rw [g1, if_pos rfl] at hX
    rw [g2] at hY
    dsimp only at hY
    rw [if_pos rfl] at hY
    subst hX
    subst hY
    exact ⟨rfl, fun e => (by cases e), h.t h5⟩
  · rw [g1, if_neg (by decide), zncl hp] at hX
    rw [g2] at hY
    dsimp only at hY
    rw [if_neg (by decide)] at hY
    have e12 : (zsI R 26 0) 12 0 - 1 - place = mX0_indexOf place E := g3.symm
    rw [e12, zncl hp] at hY
    subst hX
    subst hY
    exact ⟨rfl, fun _ => (b1 j hj).2.2, h.t h5⟩
theorem zag_entryTarget : zAg_entryTarget zRl := by
  intro n place L T E V M K R hn h X Y hX hY
  have h5 := pp_X5_entryTarget place R h.ir
  rw [hY] at h5
  obtain ⟨sT, sE, hA⟩ := h.all
  obtain ⟨⟨a1, a2, a3⟩, b1, -⟩ := id hA.2
  unfold mX4_entryTarget at hX
  unfold mX5_entryTarget at hY
  simp only [zbe, zbe2] at hX hY
  rcases zisE (place := place) a1 a2 a3 with ⟨g1, g2⟩ | ⟨g1, g2, g3, j, hj, hp⟩
  · rw [g1, if_pos rfl] at hX
    rw [g2] at hY
    dsimp only at hY
    rw [if_pos rfl] at hY
    subst hX
    subst hY
    exact ⟨rfl, fun e => (by cases e), h.t h5⟩
  · rw [g1, if_neg (by decide)] at hX
    rw [g2] at hY
    dsimp only at hY
    rw [if_neg (by decide)] at hY
    have e12 : (zsI R 26 0) 12 0 - 1 - place = mX0_indexOf place E := g3.symm
    have hA1 : zAll sT sE L T E (zsI R 26 0) := zAll_c hA (fun c _ hc => zsF_n _ _ (by omega))
    rw [e12, (zentry hA1 hp hj).1] at hY
    subst hX
    subst hY
    exact ⟨rfl, fun _ => rfl, h.t h5⟩
