/-! a state kept -/
theorem zkeep {n x : Nat} {M K : zS_t} (hn : (M 3 0).toInt = n) (h40 : n ≤ 40) (hx : (M 4 0).toInt = x) (hx40 : x < 40) : ∀ Z, mX1_keepState M K = Z → ((Z.1 3 0).toInt = ((if n = 40 then 40 else n + 1 : Nat) : Int)) ∧ (Z.1 4 0).toInt = ((if x + 1 = 40 then 0 else x + 1 : Nat) : Int) ∧ (∀ i : Nat, i < 24 → Z.2 x i = M 0 i) ∧ ∀ r : Nat, r ≠ x → Z.2 r = K r := by
  intro Z hZ
  have k0 : Int32.toInt 0 = 0 := by decide
  have k40 : Int32.toInt 40 = 40 := by decide
  have n0 : (0 : Int32).toNatClampNeg = 0 := by decide
  have n24 : (24 : Int32).toNatClampNeg = 24 := by decide
  unfold mX1_keepState at hZ
  rw [zncl hx, n0, n24] at hZ
  have ex : (M 4 0 + 1).toInt = ((x + 1 : Nat) : Int) := zinc hx (by omega)
  have en : (M 3 0 + 1).toInt = ((n + 1 : Nat) : Int) := zinc hn (by omega)
  have hc1 : ∀ i : Nat, i < 24 → (zsF K x (va_cpy (M 0) (K x) 0 0 24)) x i = M 0 i := fun i hi => by
    rw [zsF_s]
    unfold va_cpy
    rw [if_pos (by omega), Nat.zero_add, Nat.sub_zero]
  have hc2 : ∀ r : Nat, r ≠ x → (zsF K x (va_cpy (M 0) (K x) 0 0 24)) r = K r := fun r hr => zsF_n _ _ hr
  by_cases h1 : x + 1 = 40
  · rw [if_pos (Int32.le_iff_toInt_le.mpr (by omega))] at hZ
    by_cases h2 : n = 40
    · rw [if_pos (Int32.le_iff_toInt_le.mpr (by omega))] at hZ
      subst hZ
      rw [if_pos h1, if_pos h2]
      exact ⟨by show (M 3 0).toInt = _; omega, k0, hc1, hc2⟩
    · rw [if_neg (fun h => by have := zt_le h; omega)] at hZ
      subst hZ
      rw [if_pos h1, if_neg h2]
      exact ⟨en, k0, hc1, hc2⟩
  · rw [if_neg (fun h => by have := zt_le h; omega)] at hZ
    by_cases h2 : n = 40
    · rw [if_pos (Int32.le_iff_toInt_le.mpr (by omega))] at hZ
      subst hZ
      rw [if_neg h1, if_pos h2]
      exact ⟨by show (M 3 0).toInt = _; omega, ex, hc1, hc2⟩
    · rw [if_neg (fun h => by have := zt_le h; omega)] at hZ
      subst hZ
      rw [if_neg h1, if_neg h2]
      exact ⟨en, ex, hc1, hc2⟩
theorem zr120 : ∀ (fuel : Nat) (k : Int32) (j : Nat) (R : zS_t), k.toInt = j → 937 ≤ j + fuel → j ≤ 936 → (R 23 0).toInt = 39 → ∀ Z, mX5_remembers_L120 fuel k R = Z → (∀ i : Nat, Z.2 24 i = if j ≤ i ∧ i < 936 then R 24 (i + 24) else R 24 i) ∧ ∀ c : Nat, c ≠ 24 → Z.2 c = R c := by
  have k24 : Int32.toInt 24 = 24 := by decide
  intro fuel
  induction fuel with
  | zero => intro k j R hk hf hj; omega
  | succ fuel ih =>
    intro k j R hk hf hj h39 Z hZ
    rw [mX5_remembers_L120.eq_2] at hZ
    have e1 := zt_mulc (a := 24) (b := R 23 0) (c := 24) (by decide) (by omega) (by omega)
    by_cases h1 : j = 936
    · rw [if_pos (Int32.le_iff_toInt_le.mpr (by omega))] at hZ
      subst hZ
      subst h1
      exact ⟨fun i => by rw [if_neg (by omega)], fun _ _ => rfl⟩
    · rw [if_neg (fun h => by have := zt_le h; omega)] at hZ
      have e2 : (k + 24).toInt = ((j + 24 : Nat) : Int) := by rw [zt_add (by omega) (by omega)]; omega
      simp only [zbe] at hZ
      rw [zncl hk, zncl e2] at hZ
      obtain ⟨q1, q2⟩ := ih (k + 1) (j + 1) _ (zinc hk (by omega)) (by omega) (by omega) (by exact h39) Z hZ
      refine ⟨fun i => ?_, fun c hc => (q2 c hc).trans (zsF_n R _ hc)⟩
      rw [q1 i]
      show (if j + 1 ≤ i ∧ i < 936 then upd (R 24) j (R 24 (j + 24)) (i + 24) else upd (R 24) j (R 24 (j + 24)) i) = _
      by_cases h2 : i = j
      · subst h2
        rw [if_neg (by omega), if_pos (by omega), upd, if_pos rfl]
      · by_cases h3 : j + 1 ≤ i ∧ i < 936
        · rw [if_pos h3, if_pos (by omega), upd, if_neg (by omega)]
        · rw [if_neg h3, if_neg (by omega), upd, if_neg h2]
theorem zr154 {m : Nat} (hm : m < 40) : ∀ (fuel : Nat) (k : Int32) (j : Nat) (R : zS_t), k.toInt = j → 25 ≤ j + fuel → j ≤ 24 → (R 23 0).toInt = m → ∀ Z, mX5_remembers_L154 fuel k R = Z → (∀ i : Nat, Z.2 24 i = if 24 * m + j ≤ i ∧ i < 24 * m + 24 then R 25 (i - 24 * m) else R 24 i) ∧ ∀ c : Nat, c ≠ 24 → Z.2 c = R c := by
  have k24 : Int32.toInt 24 = 24 := by decide
  intro fuel
  induction fuel with
  | zero => intro k j R hk hf hj; omega
  | succ fuel ih =>
    intro k j R hk hf hj h23 Z hZ
    rw [mX5_remembers_L154.eq_2] at hZ
    have e1 := zt_mulc (a := 24) (b := R 23 0) (c := 24) (by decide) (by omega) (by omega)
    by_cases h1 : j = 24
    · rw [if_pos (Int32.le_iff_toInt_le.mpr (by omega))] at hZ
      subst hZ
      subst h1
      exact ⟨fun i => by rw [if_neg (by omega)], fun _ _ => rfl⟩
    · rw [if_neg (fun h => by have := zt_le h; omega)] at hZ
      have e2 : (24 * R 23 0 + k).toInt = ((24 * m + j : Nat) : Int) := by rw [zt_add (by omega) (by omega)]; omega
      simp only [zbe] at hZ
      rw [zncl hk, zncl e2] at hZ
      obtain ⟨q1, q2⟩ := ih (k + 1) (j + 1) _ (zinc hk (by omega)) (by omega) (by omega) (by exact h23) Z hZ
      refine ⟨fun i => ?_, fun c hc => (q2 c hc).trans (zsF_n R _ hc)⟩
      rw [q1 i]
      show (if 24 * m + (j + 1) ≤ i ∧ i < 24 * m + 24 then R 25 (i - 24 * m) else upd (R 24) (24 * m + j) (R 25 j) i) = _
      by_cases h2 : i = 24 * m + j
      · subst h2
        rw [if_neg (by omega), if_pos (by omega), upd, if_pos rfl, show 24 * m + j - 24 * m = j by omega]
      · rw [upd, if_neg h2]
        by_cases h3 : 24 * m + (j + 1) ≤ i ∧ i < 24 * m + 24
        · rw [if_pos h3, if_pos (by omega)]
        · rw [if_neg h3, if_neg (by omega)]
/-- the new state behind the old ones -/
theorem zkept {n x a e : Nat} {M K R f g : zS_t} (h : zMm n x M K R) (hs : zRa a e (f 0) (g 25)) (f3 : f 3 = M 3) (f4 : f 4 = M 4) (gc : ∀ c : Nat, c ≠ 25 → g c = R c) : ∀ Z X Y, mX1_keepState f K = Z → (mX5_remembers_S99 0 g).2 = X → (mX5_remembers_L154 25 0 X).2 = Y → ∃ n1 x1 : Nat, zMm n1 x1 Z.1 Z.2 (zsI Y 23 (Y 23 0 + 1)) ∧ ∀ c : Nat, c < 23 ∨ c = 26 → Y c = g c := by
  intro Z X Y hZ hX hY
  obtain ⟨⟨m3, m4, m23⟩, ⟨h40, hx, hxn⟩, hr⟩ := h
  obtain ⟨z3, z4, zr, zo⟩ := zkeep (M := f) (K := K) (by rw [f3]; exact m3) h40 (by rw [f4]; exact m4) hx Z hZ
  have k40 : Int32.toInt 40 = 40 := by decide
  have k1 : Int32.toInt 1 = 1 := by decide
  have g23 : (g 23 0).toInt = n := by rw [gc 23 (by omega)]; exact m23
  unfold mX5_remembers_S99 at hX
  by_cases hn : n = 40
  · subst hn
    rw [if_pos (Int32.toInt_inj.mp (by rw [g23, k40]; rfl))] at hX
    simp only [zbe, zbe2] at hX
    have e39 : (g 23 0 - 1).toInt = 39 := by rw [zt_sub (by omega) (by omega)]; omega
    obtain ⟨q1, q2⟩ := zr120 937 0 0 (zsI g 23 (g 23 0 - 1)) (by decide) (by omega) (by omega) e39 _ rfl
    rw [hX] at q1 q2
    have x23 : (X 23 0).toInt = ((39 : Nat) : Int) := by rw [q2 23 (by omega)]; exact e39
    obtain ⟨p1, p2⟩ := zr154 (m := 39) (by omega) 25 0 0 X (by decide) (by omega) (by omega) x23 _ rfl
    rw [hY] at p1 p2
    have y23 : (Y 23 0).toInt = ((39 : Nat) : Int) := by rw [p2 23 (by omega)]; exact x23
    refine ⟨40, if x + 1 = 40 then 0 else x + 1, ⟨⟨z3, z4, ?_⟩, ⟨by omega, by split <;> omega, fun h => absurd h (by omega)⟩, fun m hm => ?_⟩, fun c hc => ?_⟩
    · show (Y 23 0 + 1).toInt = _
      rw [zinc y23 (by omega)]
    · show ∃ a e : Nat, zRa a e (Z.2 (((if x + 1 = 40 then 0 else x + 1) + 40 - 40 + m) % 40)) (fun i => Y 24 (24 * m + i))
      by_cases h9 : m = 39
      · subst h9
        have er : (((if x + 1 = 40 then 0 else x + 1) + 40 - 40 + 39) % 40) = x := by split <;> omega
        rw [er]
        refine ⟨a, e, hs.cong zr (fun i hi => ?_)⟩
        rw [p1, if_pos (by omega), show 24 * 39 + i - 24 * 39 = i by omega, q2 25 (by omega)]
        rfl
      · obtain ⟨a1, e1, hra⟩ := hr (m + 1) (by omega)
        have er : (((if x + 1 = 40 then 0 else x + 1) + 40 - 40 + m) % 40) = (x + 40 - 40 + (m + 1)) % 40 := by split <;> omega
        rw [er, zo _ (by omega)]
        refine ⟨a1, e1, hra.cong (fun _ _ => rfl) (fun i hi => ?_)⟩
        show Y 24 (24 * m + i) = R 24 (24 * (m + 1) + i)
        rw [p1, if_neg (by omega), q1, if_pos (by omega)]
        show g 24 (24 * m + i + 24) = _
        rw [gc 24 (by omega), show 24 * m + i + 24 = 24 * (m + 1) + i by omega]
    · rw [p2 c (by omega), q2 c (by omega)]
      exact zsF_n _ _ (by omega)
  · rw [if_neg (fun h => hn (by rw [h, k40] at g23; omega))] at hX
    have hX' : g = X := hX
    subst hX'
    obtain ⟨p1, p2⟩ := zr154 (m := n) (by omega) 25 0 0 g (by decide) (by omega) (by omega) g23 _ rfl
    rw [hY] at p1 p2
    have hx1 := hxn (by omega)
    rw [if_neg hn] at z3
    refine ⟨n + 1, if x + 1 = 40 then 0 else x + 1, ⟨⟨z3, z4, ?_⟩, ⟨by omega, by split <;> omega, fun h => by rw [if_neg (by omega)]; omega⟩, fun m hm => ?_⟩, fun c hc => p2 c (by omega)⟩
    · show (Y 23 0 + 1).toInt = _
      rw [p2 23 (by omega)]
      exact zinc g23 (by omega)
    · show ∃ a e : Nat, zRa a e (Z.2 (((if x + 1 = 40 then 0 else x + 1) + 40 - (n + 1) + m) % 40)) (fun i => Y 24 (24 * m + i))
      by_cases h9 : m = n
      · subst h9
        have er : (((if x + 1 = 40 then 0 else x + 1) + 40 - (m + 1) + m) % 40) = x := by split <;> omega
        rw [er]
        refine ⟨a, e, hs.cong zr (fun i hi => ?_)⟩
        rw [p1, if_pos (by omega), show 24 * m + i - 24 * m = i by omega]
      · obtain ⟨a1, e1, hra⟩ := hr m (by omega)
        have er : (((if x + 1 = 40 then 0 else x + 1) + 40 - (n + 1) + m) % 40) = (x + 40 - n + m) % 40 := by split <;> omega
        rw [er, zo _ (by omega)]
        refine ⟨a1, e1, hra.cong (fun _ _ => rfl) (fun i hi => ?_)⟩
        show Y 24 (24 * m + i) = R 24 (24 * m + i)
        rw [p1, if_neg (by omega), gc 24 (by omega)]
/-- the loop broken, or the state kept -/
theorem zbreak {sT sE n x : Nat} {L T E M K R : zS_t} (hA : zAll sT sE L T E R) (hM : zMm n x M K R) (hl : R 4 0 = L 9 0) : ∀ Z W, mX4_breakLoop L T E M K = Z → mX5_remembers R = W → ∃ sE1 n1 x1 : Nat, zAll sT sE1 Z.1 T Z.2.1 W ∧ zMm n1 x1 Z.2.2.1 Z.2.2.2 W ∧ W 4 0 = Z.1 9 0 ∧ (∀ c : Nat, c ≠ 9 → Z.1 c = L c) ∧ ∀ c : Nat, c < 4 ∨ c = 5 ∨ c = 11 ∨ c = 26 → W c = R c := by
  intro Z W hZ hW
  obtain ⟨⟨m3, m4, m23⟩, ⟨h40, hx, hxn⟩, hr⟩ := id hM
  obtain ⟨Z1, hZ1⟩ : ∃ z, mX4_breakLoop_L23 T 11 0 (mX1_start (T 4 0) (E 5 0) M) = z := ⟨_, rfl⟩
  obtain ⟨Z2, hZ2⟩ : ∃ z, mX4_breakLoop_L84 T E 13 0 Z1.2 = z := ⟨_, rfl⟩
  obtain ⟨g, hg⟩ : ∃ z, mX5_laysState R = z := ⟨_, rfl⟩
  obtain ⟨s1, s2, s3, s4, s5⟩ := zstate (M := M) hA Z1 Z2 g hZ1 hZ2 hg
  obtain ⟨⟨t1, t2, t3⟩, -⟩ := id hA.1
  obtain ⟨⟨a1, a2, a3⟩, -, -, d1, d2, -⟩ := id hA.2
  unfold mX4_breakLoop at hZ
  unfold mX5_remembers at hW
  simp only [zbe, zbe2] at hZ hW
  rw [hZ1, hZ2] at hZ
  rw [hg] at hW
  have hk := zknS (n := n) (K := K) (M := Z2.2) s2 (by omega) (by rw [s3]; exact m3) h40 41 0 0 (by decide) (by omega) (by omega) (fun r' hr' => absurd hr' (by omega))
  have hk' : mX1_knowsState_L2 Z2.2 K 41 0 = mX1_knowsState Z2.2 K := rfl
  rw [hk'] at hk
  have h8 := zr8 (R := g) (n := n) (by rw [s5 23 (by omega)]; exact m23) h40 41 0 0 0 (by decide) (by omega) (by omega) (Or.inr ⟨rfl, fun m' hm' => absurd hm' (by omega)⟩)
  have hsm := zsame hM s1 (s5 24 (by omega))
  have fR : ∀ c : Nat, 5 < c → c < 18 → g c = R c := fun c _ h => s5 c (by omega)
  rcases hk with ⟨k1, k2⟩ | ⟨k1, k2⟩
  · have h81 : (mX5_remembers_L8 g 41 0 0).1 = 1 := by
      rcases h8 with ⟨h8, -⟩ | ⟨-, h9⟩
      · exact h8
      · obtain ⟨m, hm, hmm⟩ := hsm.mp k2
        obtain ⟨i, hi, hne⟩ := h9 m hm
        exact absurd (hmm i hi) hne
    rw [k1, if_neg (by decide)] at hZ
    rw [h81, if_neg (by decide)] at hW
    subst hZ
    subst hW
    have k0 : Int32.toInt 0 = 0 := by decide
    refine ⟨0, 0, 0, ⟨?_, ?_⟩, zMm.none rfl rfl rfl, ?_, fun c hc => zsF_n _ _ hc, fun c hc => ?_⟩
    · show zQT sT (L 10 0).toInt ((g 11 0).toInt + 1) T _
      rw [s5 11 (by omega)]
      exact hA.1.wide (Int.le_refl _) (Int.le_refl _) (fR 6 (by omega) (by omega)) (fR 7 (by omega) (by omega)) (fR 8 (by omega) (by omega)) (fR 9 (by omega) (by omega)) (fR 10 (by omega) (by omega))
    · show zQE sT 0 (L 10 0).toInt ((g 11 0).toInt + 1) T _ _
      rw [s5 11 (by omega)]
      refine ⟨⟨k0, by omega, rfl⟩, fun j hj => absurd hj (by omega), fun j hj => absurd hj (by omega), d1.drop (by omega), ?_, fun j hj => absurd hj (by omega)⟩
      show zNmd 0 (g 16) 1 _
      rw [s5 16 (by omega)]
      exact d2.drop (by omega)
    · show g 4 0 + 1 = L 9 0 + 1
      rw [s5 4 (by omega), hl]
    · unfold zsI
      rw [zsF_n _ _ (by omega), zsF_n _ _ (by omega), zsF_n _ _ (by omega)]
      exact s5 c (by omega)
  · have h80 : (mX5_remembers_L8 g 41 0 0).1 = 0 := by
      rcases h8 with ⟨-, h9⟩ | ⟨h8, -⟩
      · obtain ⟨r, hr1, hrr⟩ := hsm.mpr h9
        obtain ⟨i, hi, hne⟩ := k2 r hr1
        exact absurd (hrr i hi) hne
      · exact h8
    rw [k1, if_pos rfl] at hZ
    rw [h80, if_pos rfl] at hW
    have e99 : (mX5_remembers_S99 (mX5_remembers_L8 g 41 0 0).2 g).2 = (mX5_remembers_S99 0 g).2 := by
      unfold mX5_remembers_S99
      by_cases h : g 23 0 = 40
      · rw [if_pos h, if_pos h]
      · rw [if_neg h, if_neg h]
    rw [e99] at hW
    obtain ⟨n1, x1, r1, r2⟩ := zkept (f := Z2.2) (g := g) hM s1 s3 s4 s5 _ _ _ rfl rfl rfl
    subst hZ
    rw [hW] at r1
    have wc : ∀ c : Nat, c < 23 ∨ c = 26 → W c = g c := fun c hc => by
      rw [← hW]
      unfold zsI
      rw [zsF_n _ _ (by omega)]
      exact r2 c hc
    refine ⟨sE, n1, x1, zAll_c hA (fun c h5 h18 => (wc c (by omega)).trans (s5 c (by omega))), r1, ?_, fun _ _ => rfl, fun c hc => (wc c (by omega)).trans (s5 c (by omega))⟩
    rw [wc 4 (by omega), s5 4 (by omega)]
    exact hl
