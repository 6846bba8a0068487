/-! the view against the reference's layers -/
def zK8 (x : Int32) : Prop := x = 0 ∨ x = 1 ∨ x = 2 ∨ x = 3 ∨ x = 4 ∨ x = 5 ∨ x = 6 ∨ x = 7
theorem zK8.and1 {x : Int32} (h : zK8 x) : (x &&& 1 = 0 ∧ ¬ x &&& 1 = 1) ∨ (¬ x &&& 1 = 0 ∧ x &&& 1 = 1) := by
  rcases h with rfl | rfl | rfl | rfl | rfl | rfl | rfl | rfl <;> decide
theorem zK8.and2 {x : Int32} (h : zK8 x) : (x &&& 2 = 0 ∧ ¬ x &&& 2 = 2) ∨ (¬ x &&& 2 = 0 ∧ x &&& 2 = 2) := by
  rcases h with rfl | rfl | rfl | rfl | rfl | rfl | rfl | rfl <;> decide
theorem zK8.veil {x : Int32} (h : zK8 x) : (x &&& (-2)) ||| 2 = (x &&& 4) ||| 2 := by
  rcases h with rfl | rfl | rfl | rfl | rfl | rfl | rfl | rfl <;> decide
theorem zK8.veil8 {x : Int32} (h : zK8 x) : zK8 ((x &&& 4) ||| 2) := by
  unfold zK8
  rcases h with rfl | rfl | rfl | rfl | rfl | rfl | rfl | rfl <;> decide
theorem zK8.mask8 {x : Int32} (h : zK8 x) : zK8 (x ||| 1) := by
  unfold zK8
  rcases h with rfl | rfl | rfl | rfl | rfl | rfl | rfl | rfl <;> decide
def zSameR (R R' : zS_t) : Prop := ∀ c : Nat, c < 18 ∨ 22 < c → R' c = R c
theorem zSameR.refl (R : zS_t) : zSameR R R := fun _ _ => rfl
theorem zSameR.trans {R R1 R2 : zS_t} (h : zSameR R R1) (h' : zSameR R1 R2) : zSameR R R2 := fun c hc => (h' c hc).trans (h c hc)
theorem zSameR.set {R : zS_t} {k : Nat} {g : Nat → Int32} (h0 : 18 ≤ k) (h1 : k ≤ 22) : zSameR R (zsF R k g) := fun c hc => zsF_n R g (by omega)
def zV3 (j : Nat) (V R : zS_t) : Prop := ∀ k : Nat, k < j → R 18 k = V 0 k ∧ R 19 k = V 1 k ∧ R 20 k = V 2 k ∧ zK8 (V 1 k)
theorem zV3_step {j : Nat} {V R V1 R1 : zS_t} {p x y : Int32} (h : zV3 j V R) (a0 : V1 0 = upd (V 0) j p) (a1 : V1 1 = upd (V 1) j x) (a2 : V1 2 = upd (V 2) j y) (b0 : R1 18 = upd (R 18) j p) (b1 : R1 19 = upd (R 19) j x) (b2 : R1 20 = upd (R 20) j y) (hx : zK8 x) : zV3 (j + 1) V1 R1 := by
  intro k hk
  rw [a0, a1, a2, b0, b1, b2]
  by_cases e : k = j
  · subst e
    simp only [zup_s]
    exact ⟨trivial, trivial, trivial, hx⟩
  · rw [zup_o (by omega), zup_o (by omega), zup_o (by omega), zup_o (by omega), zup_o (by omega), zup_o (by omega)]
    exact h k (by omega)
/-- the rows that the layers read -/
def zRows (s : Nat) (T R : zS_t) : Prop := (T 4 0).toInt = s ∧ (R 6 0).toInt = s ∧ s ≤ 10 ∧ ∀ i : Nat, i < s → R 7 i = T 0 i ∧ R 8 i = T 1 i
theorem zRows.same {s : Nat} {T R R' : zS_t} (h : zRows s T R) (hs : zSameR R R') : zRows s T R' := by
  obtain ⟨h1, h2, h3, h4⟩ := h
  refine ⟨h1, by rw [hs 6 (by omega)]; exact h2, h3, fun i hi => by rw [hs 7 (by omega), hs 8 (by omega)]; exact h4 i hi⟩
theorem zv_init {s : Nat} {T : zS_t} : ∀ (fuel : Nat) (k : Int32) (j : Nat) (V R : zS_t), k.toInt = j → s + 1 ≤ j + fuel → zRows s T R → zV3 (min j s) V R → j ≤ s → ∀ Z W, mX3_find_L2 T fuel k V = Z → mX5_lays_L2 fuel k R = W → zV3 s Z.2 W.2 ∧ zSameR R W.2 := by
  intro fuel
  induction fuel with
  | zero => intro k j V R hk hf hr hv hj; omega
  | succ fuel ih =>
    intro k j V R hk hf hr hv hj Z W hZ hW
    obtain ⟨hs1, hs2, h10, hrow⟩ := id hr
    rw [mX3_find_L2.eq_2] at hZ
    rw [mX5_lays_L2.eq_2] at hW
    by_cases h1 : j = s
    · have g1 : (T 4 0) ≤ k := Int32.le_iff_toInt_le.mpr (by omega)
      have g2 : (R 6 0) ≤ k := Int32.le_iff_toInt_le.mpr (by omega)
      rw [if_pos g1] at hZ
      rw [if_pos g2] at hW
      subst hZ
      subst hW
      rw [h1, Nat.min_self] at hv
      exact ⟨hv, zSameR.refl R⟩
    · have g1 : ¬ (T 4 0) ≤ k := fun h => by have := zt_le h; omega
      have g2 : ¬ (R 6 0) ≤ k := fun h => by have := zt_le h; omega
      have hk1 := zinc hk (by omega)
      rw [if_neg g1] at hZ
      rw [if_neg g2] at hW
      rw [Nat.min_eq_left hj] at hv
      have hm : min (j + 1) s = j + 1 := Nat.min_eq_left (by omega)
      obtain ⟨r7, r8⟩ := hrow j (by omega)
      simp only [zbnd, zncl hk] at hZ hW
      rw [r7, r8] at hW
      have go : ∀ (V1 R1 : zS_t) (x y : Int32), V1 0 = upd (V 0) j (T 1 j) → V1 1 = upd (V 1) j x → V1 2 = upd (V 2) j y → R1 18 = upd (R 18) j (T 1 j) → R1 19 = upd (R 19) j x → R1 20 = upd (R 20) j y → zK8 x → zSameR R R1 → mX3_find_L2 T fuel (k + 1) V1 = Z → mX5_lays_L2 fuel (k + 1) R1 = W → zV3 s Z.2 W.2 ∧ zSameR R W.2 := by
        intro V1 R1 x y a0 a1 a2 b0 b1 b2 hx hS hZ hW
        obtain ⟨q1, q2⟩ := ih (k + 1) (j + 1) V1 R1 hk1 (by omega) (hr.same hS) (by rw [hm]; exact zV3_step hv a0 a1 a2 b0 b1 b2 hx) (by omega) Z W hZ hW
        exact ⟨q1, hS.trans q2⟩
      have sm : ∀ g1 g2 g3 : Nat → Int32, zSameR R (zsF (zsF (zsF R 18 g1) 19 g2) 20 g3) := fun g1 g2 g3 => ((zSameR.set (by omega) (by omega)).trans (zSameR.set (by omega) (by omega))).trans (zSameR.set (by omega) (by omega))
      by_cases c0 : T 0 j = 0
      · simp only [c0, if_true] at hZ hW
        exact go _ _ 1 2 rfl rfl rfl rfl rfl rfl (by unfold zK8; decide) (sm _ _ _) hZ hW
      · by_cases c1 : T 0 j = 1
        · rw [if_neg c0, if_pos c1, if_neg c0, if_pos c1] at hZ hW
          exact go _ _ 2 1 rfl rfl rfl rfl rfl rfl (by unfold zK8; decide) (sm _ _ _) hZ hW
        · simp only [if_neg c0, if_neg c1] at hZ hW
          exact go _ _ 4 0 rfl rfl rfl rfl rfl rfl (by unfold zK8; decide) (sm _ _ _) hZ hW
