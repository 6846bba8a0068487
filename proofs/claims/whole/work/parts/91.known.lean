/-! is the state known -/
theorem zisS {j len : Nat} {M K : zS_t} (hl : (M 2 0).toInt = len) (h24 : len ≤ 24) : ∀ (fuel : Nat) (k : Int32) (i : Nat), k.toInt = i → len + 1 ≤ i + fuel → i ≤ len → (∀ i' : Nat, i' < i → K j i' = M 0 i') → (mX1_isState_L2 j M K fuel k = 1 ∧ ∀ i : Nat, i < len → K j i = M 0 i) ∨ (mX1_isState_L2 j M K fuel k = 0 ∧ ∃ i : Nat, i < len ∧ K j i ≠ M 0 i) := by
  intro fuel
  induction fuel with
  | zero => intro k i hk hf hi; omega
  | succ fuel ih =>
    intro k i hk hf hi hp
    rw [mX1_isState_L2.eq_2]
    by_cases h1 : i = len
    · rw [if_pos (Int32.le_iff_toInt_le.mpr (by omega))]
      subst h1
      exact Or.inl ⟨rfl, hp⟩
    · rw [if_neg (fun h => by have := zt_le h; omega), zncl hk]
      by_cases h2 : K j i = M 0 i
      · rw [if_pos h2]
        exact ih (k + 1) (i + 1) (zinc hk (by omega)) (by omega) (by omega) (fun i' hi' => by
          by_cases e : i' = i
          · rw [e]; exact h2
          · exact hp i' (by omega))
      · rw [if_neg h2]
        exact Or.inr ⟨rfl, i, by omega, h2⟩
theorem zknS {n len : Nat} {M K : zS_t} (hl : (M 2 0).toInt = len) (h24 : len ≤ 24) (hn : (M 3 0).toInt = n) (h40 : n ≤ 40) : ∀ (fuel : Nat) (k : Int32) (r : Nat), k.toInt = r → n + 1 ≤ r + fuel → r ≤ n → (∀ r' : Nat, r' < r → ∃ i : Nat, i < len ∧ K r' i ≠ M 0 i) → (mX1_knowsState_L2 M K fuel k = 1 ∧ ∃ r : Nat, r < n ∧ ∀ i : Nat, i < len → K r i = M 0 i) ∨ (mX1_knowsState_L2 M K fuel k = 0 ∧ ∀ r : Nat, r < n → ∃ i : Nat, i < len ∧ K r i ≠ M 0 i) := by
  intro fuel
  induction fuel with
  | zero => intro k r hk hf hi; omega
  | succ fuel ih =>
    intro k r hk hf hi hp
    rw [mX1_knowsState_L2.eq_2]
    by_cases h1 : r = n
    · rw [if_pos (Int32.le_iff_toInt_le.mpr (by omega))]
      subst h1
      exact Or.inr ⟨rfl, hp⟩
    · rw [if_neg (fun h => by have := zt_le h; omega), zncl hk]
      simp only [zbe]
      rcases zisS (j := r) (K := K) hl h24 25 0 0 (by decide) (by omega) (by omega) (fun i' hi' => absurd hi' (by omega)) with ⟨h2, h3⟩ | ⟨h2, h3⟩
      · have h2' : mX1_isState r M K = 1 := h2
        rw [h2', if_neg (by decide)]
        exact Or.inl ⟨rfl, r, by omega, h3⟩
      · have h2' : mX1_isState r M K = 0 := h2
        rw [h2', if_pos rfl]
        exact ih (k + 1) (r + 1) (zinc hk (by omega)) (by omega) (by omega) (fun r' hr' => by
          by_cases e : r' = r
          · rw [e]; exact h3
          · exact hp r' (by omega))
theorem zr21 {R : zS_t} {k2 : Int32} {m : Nat} (hm : k2.toInt = m) (h40 : m < 40) : ∀ (fuel : Nat) (b k : Int32) (i : Nat), k.toInt = i → 25 ≤ i + fuel → i ≤ 24 → ((b = 1 ∧ ∀ i' : Nat, i' < i → R 24 (24 * m + i') = R 25 i') ∨ (b = 0 ∧ ∃ i' : Nat, i' < i ∧ R 24 (24 * m + i') ≠ R 25 i')) → ((mX5_remembers_L21 k2 R fuel b k).1 = 1 ∧ ∀ i' : Nat, i' < 24 → R 24 (24 * m + i') = R 25 i') ∨ ((mX5_remembers_L21 k2 R fuel b k).1 = 0 ∧ ∃ i' : Nat, i' < 24 ∧ R 24 (24 * m + i') ≠ R 25 i') := by
  have k24 : Int32.toInt 24 = 24 := by decide
  intro fuel
  induction fuel with
  | zero => intro b k i hk hf hi; omega
  | succ fuel ih =>
    intro b k i hk hf hi hp
    rw [mX5_remembers_L21.eq_2]
    by_cases h1 : i = 24
    · rw [if_pos (Int32.le_iff_toInt_le.mpr (by omega))]
      subst h1
      exact hp
    · rw [if_neg (fun h => by have := zt_le h; omega)]
      have e1 := zt_mulc (a := 24) (b := k2) (c := 24) (by decide) (by omega) (by omega)
      have e2 : (24 * k2 + k).toInt = ((24 * m + i : Nat) : Int) := by rw [zt_add (by omega) (by omega)]; omega
      simp only [zbe]
      rw [zncl e2, zncl hk]
      by_cases h2 : R 24 (24 * m + i) = R 25 i
      · rw [if_pos h2]
        refine ih _ (k + 1) (i + 1) (zinc hk (by omega)) (by omega) (by omega) ?_
        rcases hp with ⟨hb, hp⟩ | ⟨hb, i', hi', hp⟩
        · subst hb
          refine Or.inl ⟨by decide, fun i' hi' => ?_⟩
          by_cases e : i' = i
          · rw [e]; exact h2
          · exact hp i' (by omega)
        · subst hb
          exact Or.inr ⟨by decide, i', by omega, hp⟩
      · rw [if_neg h2]
        refine ih _ (k + 1) (i + 1) (zinc hk (by omega)) (by omega) (by omega) ?_
        refine Or.inr ⟨?_, i, by omega, h2⟩
        rcases hp with ⟨hb, -⟩ | ⟨hb, -⟩
        · subst hb; decide
        · subst hb; decide
theorem zr8 {R : zS_t} {n : Nat} (hn : (R 23 0).toInt = n) (h40 : n ≤ 40) : ∀ (fuel : Nat) (b k : Int32) (m : Nat), k.toInt = m → n + 1 ≤ m + fuel → m ≤ n → ((b = 1 ∧ ∃ m' : Nat, m' < m ∧ ∀ i : Nat, i < 24 → R 24 (24 * m' + i) = R 25 i) ∨ (b = 0 ∧ ∀ m' : Nat, m' < m → ∃ i : Nat, i < 24 ∧ R 24 (24 * m' + i) ≠ R 25 i)) → ((mX5_remembers_L8 R fuel b k).1 = 1 ∧ ∃ m' : Nat, m' < n ∧ ∀ i : Nat, i < 24 → R 24 (24 * m' + i) = R 25 i) ∨ ((mX5_remembers_L8 R fuel b k).1 = 0 ∧ ∀ m' : Nat, m' < n → ∃ i : Nat, i < 24 ∧ R 24 (24 * m' + i) ≠ R 25 i) := by
  intro fuel
  induction fuel with
  | zero => intro b k m hk hf hi; omega
  | succ fuel ih =>
    intro b k m hk hf hi hp
    rw [mX5_remembers_L8.eq_2]
    by_cases h1 : m = n
    · rw [if_pos (Int32.le_iff_toInt_le.mpr (by omega))]
      subst h1
      exact hp
    · rw [if_neg (fun h => by have := zt_le h; omega)]
      simp only [zbe, zbe2]
      obtain ⟨x, hx⟩ : ∃ z, (mX5_remembers_L21 k R 25 1 0).1 = z := ⟨_, rfl⟩
      have h21 := zr21 (R := R) hk (by omega) 25 1 0 0 (by decide) (by omega) (by omega) (Or.inl ⟨rfl, fun i' hi' => absurd hi' (by omega)⟩)
      rw [hx] at h21 ⊢
      refine ih _ (k + 1) (m + 1) (zinc hk (by omega)) (by omega) (by omega) ?_
      rcases h21 with ⟨h2, h3⟩ | ⟨h2, h3⟩
      · refine Or.inl ⟨?_, m, by omega, h3⟩
        subst h2
        rcases hp with ⟨hb, -⟩ | ⟨hb, -⟩
        · subst hb; decide
        · subst hb; decide
      · subst h2
        rcases hp with ⟨hb, m', hm', hp⟩ | ⟨hb, hp⟩
        · subst hb
          exact Or.inl ⟨by decide, m', by omega, hp⟩
        · subst hb
          refine Or.inr ⟨by decide, fun m' hm' => ?_⟩
          by_cases e : m' = m
          · rw [e]; exact h3
          · exact hp m' (by omega)
/-- the game's ring of rows against the reference's row of states -/
def zMm (n x : Nat) (M K R : zS_t) : Prop := ((M 3 0).toInt = n ∧ (M 4 0).toInt = x ∧ (R 23 0).toInt = n) ∧ (n ≤ 40 ∧ x < 40 ∧ (n < 40 → x = n)) ∧ ∀ m : Nat, m < n → ∃ a e : Nat, zRa a e (K ((x + 40 - n + m) % 40)) (fun i => R 24 (24 * m + i))
theorem zMm.none {M K R : zS_t} (h3 : M 3 0 = 0) (h4 : M 4 0 = 0) (h23 : R 23 0 = 0) : zMm 0 0 M K R := by
  have k0 : Int32.toInt 0 = 0 := by decide
  exact ⟨⟨by rw [h3]; exact k0, by rw [h4]; exact k0, by rw [h23]; exact k0⟩, ⟨by omega, by omega, fun _ => rfl⟩, fun m hm => absurd hm (by omega)⟩
theorem zMm.cong {n x : Nat} {M K R R' : zS_t} (h : zMm n x M K R) (h23 : R' 23 = R 23) (h24 : R' 24 = R 24) : zMm n x M K R' := by
  unfold zMm at *
  rw [h23, h24]
  exact h
theorem zsame {n x a e : Nat} {M K R f g : zS_t} (h : zMm n x M K R) (hs : zRa a e (f 0) (g 25)) (h24 : g 24 = R 24) : (∃ r : Nat, r < n ∧ ∀ i : Nat, i < 2 + a + e → K r i = f 0 i) ↔ ∃ m : Nat, m < n ∧ ∀ i : Nat, i < 24 → g 24 (24 * m + i) = g 25 i := by
  obtain ⟨-, ⟨h40, hx, hxn⟩, hr⟩ := h
  rw [h24]
  constructor
  · rintro ⟨r, hrn, hrr⟩
    obtain ⟨m, hm, hmr⟩ : ∃ m : Nat, m < n ∧ (x + 40 - n + m) % 40 = r := by
      by_cases hn : n = 40
      · exact ⟨(r + 40 - x) % 40, by omega, by omega⟩
      · exact ⟨r, hrn, by have := hxn (by omega); omega⟩
    obtain ⟨a1, e1, hra⟩ := hr m hm
    rw [hmr] at hra
    exact ⟨m, hm, (hra.same hs).mp hrr⟩
  · rintro ⟨m, hm, hmm⟩
    obtain ⟨a1, e1, hra⟩ := hr m hm
    refine ⟨(x + 40 - n + m) % 40, ?_, (hra.same hs).mpr hmm⟩
    by_cases hn : n = 40
    · omega
    · have := hxn (by omega); omega
