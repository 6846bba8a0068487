/-! one cell of a remembered state, in the game and in the reference -/
def zpk (c b p pl : Int32) : Int32 := (((c <<< ((16 : Int32) &&& 31)) ||| (if b = 0 then 0 else 4096)) ||| (p <<< ((8 : Int32) &&& 31))) ||| (pl + 1)
set_option maxRecDepth 100000 in
theorem zpk0 : ∀ (c : Fin 14) (p : Fin 3) (q : Fin 13), ((((Int32.ofNat c.1) <<< ((16 : Int32) &&& 31)) ||| 0) ||| ((Int32.ofNat p.1) <<< ((8 : Int32) &&& 31)) ||| (Int32.ofNat q.1)).toInt = 65536 * (c.1 : Int) + 256 * (p.1 : Int) + (q.1 : Int) := by decide +kernel
set_option maxRecDepth 100000 in
theorem zpk1 : ∀ (c : Fin 14) (p : Fin 3) (q : Fin 13), ((((Int32.ofNat c.1) <<< ((16 : Int32) &&& 31)) ||| 4096) ||| ((Int32.ofNat p.1) <<< ((8 : Int32) &&& 31)) ||| (Int32.ofNat q.1)).toInt = 65536 * (c.1 : Int) + 4096 + 256 * (p.1 : Int) + (q.1 : Int) := by decide +kernel
theorem zofn {x : Int32} {n : Nat} (h : x.toInt = n) (hn : n < 1000) : x = Int32.ofNat n := by
  rw [← Int32.toInt_inj, h, Int32.toInt_ofNat_of_lt (by omega)]
theorem zpk_v {c b p pl : Int32} {ci pi qi : Nat} (hc : c.toInt = ci) (hc14 : ci < 14) (hp : p.toInt = pi) (hp3 : pi < 3) (hq : pl.toInt = (qi : Int) - 1) (hq13 : qi < 13) : (zpk c b p pl).toInt = 65536 * (ci : Int) + (if b = 0 then 0 else 4096) + 256 * (pi : Int) + (qi : Int) := by
  have k1 : Int32.toInt 1 = 1 := by decide
  have hq1 : (pl + 1).toInt = qi := by rw [zt_add (by omega) (by omega)]; omega
  unfold zpk
  rw [zofn hc (by omega), zofn hp (by omega), zofn hq1 (by omega)]
  by_cases hb : b = 0
  · rw [if_pos hb, if_pos hb]
    refine (zpk0 ⟨ci, hc14⟩ ⟨pi, hp3⟩ ⟨qi, hq13⟩).trans ?_
    show 65536 * (ci : Int) + 256 * (pi : Int) + (qi : Int) = 65536 * (ci : Int) + 0 + 256 * (pi : Int) + (qi : Int)
    omega
  · rw [if_neg hb, if_neg hb]
    exact zpk1 ⟨ci, hc14⟩ ⟨pi, hp3⟩ ⟨qi, hq13⟩
/-- a thing's cell -/
def zcT (x g : Int32) : Prop := ∃ c p q : Nat, (c < 14 ∧ p < 3 ∧ q < 11) ∧ x.toInt = 65536 * (c : Int) + 256 * p + q ∧ g.toInt = 100 * (c : Int) + 20 * p + q
/-- an entry's cell -/
def zcE (x g : Int32) : Prop := ∃ c b p q : Nat, (c < 14 ∧ b < 2 ∧ p < 3 ∧ q < 13) ∧ x.toInt = 65536 * (c : Int) + 4096 * b + 256 * p + q ∧ g.toInt = 1000 * (c : Int) + 500 * b + 20 * p + q
theorem zcT.same {x g x' g' : Int32} (h : zcT x g) (h' : zcT x' g') : x = x' ↔ g = g' := by
  obtain ⟨c, p, q, h1, h2, h3⟩ := h
  obtain ⟨c', p', q', h1', h2', h3'⟩ := h'
  rw [← Int32.toInt_inj, ← Int32.toInt_inj, h2, h3, h2', h3']
  omega
theorem zcE.same {x g x' g' : Int32} (h : zcE x g) (h' : zcE x' g') : x = x' ↔ g = g' := by
  obtain ⟨c, b, p, q, h1, h2, h3⟩ := h
  obtain ⟨c', b', p', q', h1', h2', h3'⟩ := h'
  rw [← Int32.toInt_inj, ← Int32.toInt_inj, h2, h3, h2', h3']
  omega
def zRa (a e : Nat) (f g : Nat → Int32) : Prop := (a ≤ 10 ∧ e ≤ 12) ∧ ((f 0).toInt = a ∧ (f 1).toInt = e ∧ (g 0).toInt = a ∧ (g 1).toInt = e) ∧ (∀ j : Nat, j < a → zcT (f (2 + j)) (g (2 + j))) ∧ (∀ j : Nat, a ≤ j → j < 10 → g (2 + j) = 0) ∧ (∀ j : Nat, j < e → zcE (f (2 + a + j)) (g (12 + j))) ∧ ∀ j : Nat, e ≤ j → j < 12 → g (12 + j) = 0
theorem zRa.same {a e a' e' : Nat} {f g f' g' : Nat → Int32} (h : zRa a e f g) (h' : zRa a' e' f' g') : (∀ i : Nat, i < 2 + a' + e' → f i = f' i) ↔ ∀ i : Nat, i < 24 → g i = g' i := by
  obtain ⟨⟨a1, a2⟩, ⟨b1, b2, b3, b4⟩, c1, c2, d1, d2⟩ := h
  obtain ⟨⟨a1', a2'⟩, ⟨b1', b2', b3', b4'⟩, c1', c2', d1', d2'⟩ := h'
  constructor
  · intro H
    have e0 : a = a' := by have := H 0 (by omega); rw [this] at b1; omega
    have e1 : e = e' := by have := H 1 (by omega); rw [this] at b2; omega
    subst e0
    subst e1
    intro i hi
    by_cases h0 : i = 0
    · subst h0; exact Int32.toInt_inj.mp (b3.trans b3'.symm)
    by_cases h1 : i = 1
    · subst h1; exact Int32.toInt_inj.mp (b4.trans b4'.symm)
    by_cases h2 : i < 12
    · obtain ⟨j, hj⟩ : ∃ j : Nat, i = 2 + j := ⟨i - 2, by omega⟩
      subst hj
      by_cases h3 : j < a
      · exact ((c1 j h3).same (c1' j h3)).mp (H _ (by omega))
      · exact (c2 j (by omega) (by omega)).trans (c2' j (by omega) (by omega)).symm
    · obtain ⟨j, hj⟩ : ∃ j : Nat, i = 12 + j := ⟨i - 12, by omega⟩
      subst hj
      by_cases h3 : j < e
      · exact ((d1 j h3).same (d1' j h3)).mp (H _ (by omega))
      · exact (d2 j (by omega) (by omega)).trans (d2' j (by omega) (by omega)).symm
  · intro H
    have e0 : a = a' := by have := H 0 (by omega); rw [this] at b3; omega
    have e1 : e = e' := by have := H 1 (by omega); rw [this] at b4; omega
    subst e0
    subst e1
    intro i hi
    by_cases h0 : i = 0
    · subst h0; exact Int32.toInt_inj.mp (b1.trans b1'.symm)
    by_cases h1 : i = 1
    · subst h1; exact Int32.toInt_inj.mp (b2.trans b2'.symm)
    by_cases h2 : i < 2 + a
    · obtain ⟨j, hj⟩ : ∃ j : Nat, i = 2 + j := ⟨i - 2, by omega⟩
      subst hj
      exact ((c1 j (by omega)).same (c1' j (by omega))).mpr (H _ (by omega))
    · obtain ⟨j, hj⟩ : ∃ j : Nat, i = 2 + a + j := ⟨i - 2 - a, by omega⟩
      subst hj
      exact ((d1 j (by omega)).same (d1' j (by omega))).mpr (H _ (by omega))
theorem zRa.cong {a e : Nat} {f g f' g' : Nat → Int32} (h : zRa a e f g) (hf : ∀ i : Nat, i < 24 → f' i = f i) (hg : ∀ i : Nat, i < 24 → g' i = g i) : zRa a e f' g' := by
  obtain ⟨⟨a1, a2⟩, ⟨b1, b2, b3, b4⟩, c1, c2, d1, d2⟩ := h
  refine ⟨⟨a1, a2⟩, ⟨by rw [hf 0 (by omega)]; exact b1, by rw [hf 1 (by omega)]; exact b2, by rw [hg 0 (by omega)]; exact b3, by rw [hg 1 (by omega)]; exact b4⟩, fun j hj => ?_, fun j hj hj2 => ?_, fun j hj => ?_, fun j hj hj2 => ?_⟩
  · rw [hf _ (by omega), hg _ (by omega)]; exact c1 j hj
  · rw [hg _ (by omega)]; exact c2 j hj hj2
  · rw [hf _ (by omega), hg _ (by omega)]; exact d1 j hj
  · rw [hg _ (by omega)]; exact d2 j hj hj2
