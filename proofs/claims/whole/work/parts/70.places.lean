/-! places: what a search finds -/
theorem zncl {k : Int32} {j : Nat} (h : k.toInt = j) : k.toNatClampNeg = j := by
  unfold Int32.toNatClampNeg
  rw [h]
  rfl
theorem zinc {k : Int32} {j : Nat} (h : k.toInt = j) (hj : j < 100000) : (k + 1).toInt = ((j + 1 : Nat) : Int) := by
  have k1 : Int32.toInt 1 = 1 := by decide
  rw [zt_add (by omega) (by omega)]
  omega
theorem zm1v : Int32.toInt (-1) = -1 := by decide
/-- r is x's place in f below s -/
def zAt (s : Nat) (f : Nat → Int32) (x r : Int32) : Prop := (∃ j : Nat, j < s ∧ f j = x ∧ r.toInt = j) ∨ ((∀ j : Nat, j < s → f j ≠ x) ∧ r = -1)
/-- the same, counted from the top -/
def zAtE (s : Nat) (f : Nat → Int32) (x r : Int32) : Prop := (∃ j : Nat, j < s ∧ f j = x ∧ r.toInt = (s : Int) - 1 - j) ∨ ((∀ j : Nat, j < s → f j ≠ x) ∧ r = -1)
def zInj (s : Nat) (f : Nat → Int32) : Prop := ∀ i j : Nat, i < s → j < s → f i = f j → i = j
theorem zAt.uniq {s : Nat} {f : Nat → Int32} {x r r' : Int32} (hi : zInj s f) (h : zAt s f x r) (h' : zAt s f x r') : r = r' := by
  rcases h with ⟨j, hj, hf, hr⟩ | ⟨hn, hr⟩ <;> rcases h' with ⟨j', hj', hf', hr'⟩ | ⟨hn', hr'⟩
  · have e := hi j j' hj hj' (hf.trans hf'.symm)
    subst e
    exact Int32.toInt_inj.mp (hr.trans hr'.symm)
  · exact absurd hf (hn' j hj)
  · exact absurd hf' (hn j' hj')
  · exact hr.trans hr'.symm
theorem zAtE.uniq {s : Nat} {f : Nat → Int32} {x r r' : Int32} (hi : zInj s f) (h : zAtE s f x r) (h' : zAtE s f x r') : r = r' := by
  rcases h with ⟨j, hj, hf, hr⟩ | ⟨hn, hr⟩ <;> rcases h' with ⟨j', hj', hf', hr'⟩ | ⟨hn', hr'⟩
  · have e := hi j j' hj hj' (hf.trans hf'.symm)
    subst e
    exact Int32.toInt_inj.mp (hr.trans hr'.symm)
  · exact absurd hf (hn' j hj)
  · exact absurd hf' (hn j' hj')
  · exact hr.trans hr'.symm
theorem zAt.same {s : Nat} {f g : Nat → Int32} {x y r : Int32} (h : ∀ j : Nat, j < s → (f j = x ↔ g j = y)) (hr : zAt s f x r) : zAt s g y r := by
  rcases hr with ⟨j, hj, hf, hr⟩ | ⟨hn, hr⟩
  · exact Or.inl ⟨j, hj, (h j hj).mp hf, hr⟩
  · exact Or.inr ⟨fun j hj e => hn j hj ((h j hj).mpr e), hr⟩
theorem zAtE.same {s : Nat} {f g : Nat → Int32} {x y r : Int32} (h : ∀ j : Nat, j < s → (f j = x ↔ g j = y)) (hr : zAtE s f x r) : zAtE s g y r := by
  rcases hr with ⟨j, hj, hf, hr⟩ | ⟨hn, hr⟩
  · exact Or.inl ⟨j, hj, (h j hj).mp hf, hr⟩
  · exact Or.inr ⟨fun j hj e => hn j hj ((h j hj).mpr e), hr⟩
theorem zAt.range {s : Nat} {f : Nat → Int32} {x r : Int32} (h : zAt s f x r) : r.toInt = -1 ∨ (0 ≤ r.toInt ∧ r.toInt < s) := by
  rcases h with ⟨j, hj, -, hr⟩ | ⟨-, hr⟩
  · exact Or.inr (by omega)
  · rw [hr]; exact Or.inl zm1v
theorem zAtE.range {s : Nat} {f : Nat → Int32} {x r : Int32} (h : zAtE s f x r) : r.toInt = -1 ∨ (0 ≤ r.toInt ∧ r.toInt < s) := by
  rcases h with ⟨j, hj, -, hr⟩ | ⟨-, hr⟩
  · exact Or.inr (by omega)
  · rw [hr]; exact Or.inl zm1v
theorem zplT_L {idn : Int32} {T : zS_t} {s : Nat} (hs : (T 4 0).toInt = s) (h10 : s ≤ 10) : ∀ (fuel : Nat) (k : Int32) (j : Nat), k.toInt = j → j ≤ s → s + 1 ≤ j + fuel → (∀ i : Nat, i < j → T 3 i ≠ idn) → zAt s (T 3) idn (mX2_placeOf_L2 idn T fuel k) := by
  intro fuel
  induction fuel with
  | zero => intro k j hk hj hf hn; omega
  | succ fuel ih =>
    intro k j hk hj hf hn
    rw [mX2_placeOf_L2.eq_2]
    by_cases h1 : (T 4 0) ≤ k
    · rw [if_pos h1]
      have := zt_le h1
      exact Or.inr ⟨fun i hi => hn i (by omega), rfl⟩
    · rw [if_neg h1, zncl hk]
      have := zt_nle h1
      by_cases h2 : T 3 j = idn
      · rw [if_pos h2]
        exact Or.inl ⟨j, by omega, h2, hk⟩
      · rw [if_neg h2]
        refine ih (k + 1) (j + 1) (zinc hk (by omega)) (by omega) (by omega) (fun i hi => ?_)
        by_cases e : i = j
        · rw [e]; exact h2
        · exact hn i (by omega)
theorem zplT {idn : Int32} {T : zS_t} {s : Nat} (hs : (T 4 0).toInt = s) (h10 : s ≤ 10) : zAt s (T 3) idn (mX2_placeOf idn T) :=
  zplT_L hs h10 11 0 0 (by decide) (by omega) (by omega) (fun i hi => absurd hi (by omega))
theorem zplE_L {idn : Int32} {E : zS_t} {s : Nat} (hs : (E 5 0).toInt = s) (h12 : s ≤ 12) : ∀ (fuel : Nat) (k : Int32) (j : Nat), k.toInt = j → j ≤ s → s + 1 ≤ j + fuel → (∀ i : Nat, i < j → E 4 i ≠ idn) → zAtE s (E 4) idn (mX0_placeOf_L2 idn E fuel k) := by
  intro fuel
  induction fuel with
  | zero => intro k j hk hj hf hn; omega
  | succ fuel ih =>
    intro k j hk hj hf hn
    rw [mX0_placeOf_L2.eq_2]
    by_cases h1 : (E 5 0) ≤ k
    · rw [if_pos h1]
      have := zt_le h1
      exact Or.inr ⟨fun i hi => hn i (by omega), rfl⟩
    · rw [if_neg h1, zncl hk]
      have := zt_nle h1
      by_cases h2 : E 4 j = idn
      · rw [if_pos h2]
        have k1 : Int32.toInt 1 = 1 := by decide
        have e1 := zt_sub (a := E 5 0) (b := 1) (by omega) (by omega)
        have e2 := zt_sub (a := E 5 0 - 1) (b := k) (by omega) (by omega)
        exact Or.inl ⟨j, by omega, h2, by omega⟩
      · rw [if_neg h2]
        refine ih (k + 1) (j + 1) (zinc hk (by omega)) (by omega) (by omega) (fun i hi => ?_)
        by_cases e : i = j
        · rw [e]; exact h2
        · exact hn i (by omega)
theorem zplE {idn : Int32} {E : zS_t} {s : Nat} (hs : (E 5 0).toInt = s) (h12 : s ≤ 12) : zAtE s (E 4) idn (mX0_placeOf idn E) :=
  zplE_L hs h12 13 0 0 (by decide) (by omega) (by omega) (fun i hi => absurd hi (by omega))
theorem zthR_L {x : Int32} {R : zS_t} {s : Nat} (hs : (R 6 0).toInt = s) (h10 : s ≤ 10) : ∀ (fuel : Nat) (at_ k : Int32) (j : Nat), k.toInt = j → j ≤ s → s + 1 ≤ j + fuel → zAt j (R 9) x at_ → zAt s (R 9) x (mX5_thingOf_L4 x R fuel at_ k).1 := by
  intro fuel
  induction fuel with
  | zero => intro a k j hk hj hf hn; omega
  | succ fuel ih =>
    intro a k j hk hj hf hn
    rw [mX5_thingOf_L4.eq_2]
    by_cases h1 : (R 6 0) ≤ k
    · rw [if_pos h1]
      have := zt_le h1
      rw [show s = j by omega]
      exact hn
    · rw [if_neg h1, zncl hk]
      have := zt_nle h1
      by_cases h2 : R 9 j = x
      · rw [if_pos h2]
        exact ih k (k + 1) (j + 1) (zinc hk (by omega)) (by omega) (by omega) (Or.inl ⟨j, by omega, h2, hk⟩)
      · rw [if_neg h2]
        refine ih a (k + 1) (j + 1) (zinc hk (by omega)) (by omega) (by omega) ?_
        rcases hn with ⟨i, hi, hf9, hr⟩ | ⟨hn, hr⟩
        · exact Or.inl ⟨i, by omega, hf9, hr⟩
        · refine Or.inr ⟨fun i hi => ?_, hr⟩
          by_cases e : i = j
          · rw [e]; exact h2
          · exact hn i (by omega)
theorem zthR {x : Int32} {R : zS_t} {s : Nat} (hs : (R 6 0).toInt = s) (h10 : s ≤ 10) : zAt s (R 9) x (mX5_thingOf x R) :=
  zthR_L hs h10 11 (-1) 0 0 (by decide) (by omega) (by omega) (Or.inr ⟨fun i hi => absurd hi (by omega), rfl⟩)
theorem zenR_L {x : Int32} {R : zS_t} {s : Nat} (hs : (R 12 0).toInt = s) (h12 : s ≤ 12) : ∀ (fuel : Nat) (at_ k : Int32) (j : Nat), k.toInt = j → j ≤ s → s + 1 ≤ j + fuel → ((∃ i : Nat, i < j ∧ R 16 i = x ∧ at_.toInt = (s : Int) - 1 - i) ∨ ((∀ i : Nat, i < j → R 16 i ≠ x) ∧ at_ = -1)) → zAtE s (R 16) x (mX5_entryOf_L4 x R fuel at_ k).1 := by
  intro fuel
  induction fuel with
  | zero => intro a k j hk hj hf hn; omega
  | succ fuel ih =>
    intro a k j hk hj hf hn
    rw [mX5_entryOf_L4.eq_2]
    by_cases h1 : (R 12 0) ≤ k
    · rw [if_pos h1]
      have := zt_le h1
      have e : s = j := by omega
      rcases hn with ⟨i, hi, hf9, hr⟩ | ⟨hn, hr⟩
      · exact Or.inl ⟨i, by omega, hf9, hr⟩
      · exact Or.inr ⟨fun i hi => hn i (by omega), hr⟩
    · rw [if_neg h1, zncl hk]
      have := zt_nle h1
      by_cases h2 : R 16 j = x
      · rw [if_pos h2]
        have k1 : Int32.toInt 1 = 1 := by decide
        have e1 := zt_sub (a := R 12 0) (b := 1) (by omega) (by omega)
        have e2 := zt_sub (a := R 12 0 - 1) (b := k) (by omega) (by omega)
        exact ih (R 12 0 - 1 - k) (k + 1) (j + 1) (zinc hk (by omega)) (by omega) (by omega) (Or.inl ⟨j, by omega, h2, by omega⟩)
      · rw [if_neg h2]
        refine ih a (k + 1) (j + 1) (zinc hk (by omega)) (by omega) (by omega) ?_
        rcases hn with ⟨i, hi, hf9, hr⟩ | ⟨hn, hr⟩
        · exact Or.inl ⟨i, by omega, hf9, hr⟩
        · refine Or.inr ⟨fun i hi => ?_, hr⟩
          by_cases e : i = j
          · rw [e]; exact h2
          · exact hn i (by omega)
theorem zenR {x : Int32} {R : zS_t} {s : Nat} (hs : (R 12 0).toInt = s) (h12 : s ≤ 12) : zAtE s (R 16) x (mX5_entryOf x R) :=
  zenR_L hs h12 13 (-1) 0 0 (by decide) (by omega) (by omega) (Or.inr ⟨fun i hi => absurd hi (by omega), rfl⟩)
