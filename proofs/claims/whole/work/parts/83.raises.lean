/-! triggers raised: what enters, what leaves -/
def zFr2 (R R' : zS_t) : Prop := ∀ c : Nat, c < 11 ∨ 22 < c → R' c = R c
theorem zFr2.of {R R1 R2 : zS_t} (h : zSameR R R1) (h' : zFrR R1 R2) : zFr2 R R2 := fun c hc => (h' c (by omega)).trans (h c (by omega))
theorem zht1 (c p : Int32) (L : zS_t) : mX4_hasTrigger c 1 p L = if c = 9 then 1 else if c = 11 then 1 else 0 := by
  unfold mX4_hasTrigger
  rw [if_pos rfl]
theorem zht2 (c p : Int32) (L : zS_t) : mX4_hasTrigger c 2 p L = if c = 10 then 1 else if c = 10 then 1 else 0 := by
  unfold mX4_hasTrigger
  rw [if_neg (by decide), if_pos rfl]
  by_cases h : c = 10
  · rw [if_pos h, if_pos h]
  · rw [if_neg h, if_neg h]
theorem zraise {sT sE W t : Nat} {L T E R V : zS_t} {event one other but w9 : Int32} {B : Int} (hev : ¬ event = 0) (h17 : mX4_raiseTriggers_S17 event T = w9) (ht : t < 3) (hR0 : (R 0 0).toInt = t) (hL5 : L 5 0 = R 0 0) (hA : zAll sT sE L T E R) (hb : zNb B L R) (hB : B + 30 ≤ 50000000) (hw : w9.toInt = (W : Int)) (hW : W ≤ sT) (hht : ∀ (c p : Int32) (L : zS_t), mX4_hasTrigger c event p L = if c = one then 1 else if c = other then 1 else 0) (hb1 : ∀ (k : Int32) (j : Nat), k.toInt = j → j < sT → W ≤ j → k = but) (hb2 : ∀ (k : Int32) (j : Nat), k.toInt = j → j < W → ¬ k = but) (ho1 : one = 1 ∨ one = 9 ∨ one = 10 ∨ one = 11) (ho2 : other = 1 ∨ other = 9 ∨ other = 10 ∨ other = 11) : ∀ Z W9, mX4_raiseTriggers event L T E V = Z → mX5_triggersOf one other but R = W9 → ∃ sE1 : Nat, zAll sT sE1 Z.1 T Z.2.1 W9 ∧ zNb (B + 30) Z.1 W9 ∧ zFrL L Z.1 ∧ zFr2 R W9 := by
  intro Z W9 hZ hW9
  unfold mX4_raiseTriggers at hZ
  unfold mX5_triggersOf at hW9
  rw [if_neg hev] at hZ
  simp only [zbnd, zbnd2, zbnd4] at hZ hW9
  rw [h17] at hZ
  obtain ⟨v1, v2⟩ := zfind (ls := 5) (m := 5) (V := V) (by decide) (by omega) hA.1.cards hA.1.rows hA.1.cr _ _ rfl rfl
  have hA1 := zAll_same hA v2
  have hb9 : zNb B L (mX5_lays 5 R) := by
    unfold zNb
    rw [v2 11 (by omega)]
    exact hb
  obtain ⟨sE1, q1, q2, q3, q4⟩ := zrounds ht hw hW hht hb1 hb2 ho1 ho2 4 (L 5 0) 0 0 L E (mX5_lays 5 R) sE B (by decide) (by omega) (by omega) (by rw [hL5, hR0]; omega) (by rw [v2 0 (by omega)]; exact hR0) hA1 hb9 (by omega) (fun i hi => (v1 i hi).1) _ _ rfl rfl
  rw [← hZ, ← hW9]
  exact ⟨sE1, q1, q2.mono (by omega), q3, zFr2.of v2 q4⟩
theorem zraise1 {sT sE t : Nat} {L T E R V : zS_t} {but : Int32} {B : Int} (ht : t < 3) (hR0 : (R 0 0).toInt = t) (hL5 : L 5 0 = R 0 0) (hA : zAll sT sE L T E R) (hb : zNb B L R) (hB : B + 30 ≤ 50000000) (h1 : 1 ≤ sT) (hbut : but.toInt = (sT : Int) - 1) : ∀ Z W9, mX4_raiseTriggers 1 L T E V = Z → mX5_triggersOf 9 11 but R = W9 → ∃ sE1 : Nat, zAll sT sE1 Z.1 T Z.2.1 W9 ∧ zNb (B + 30) Z.1 W9 ∧ zFrL L Z.1 ∧ zFr2 R W9 := by
  have k1 : Int32.toInt 1 = 1 := by decide
  obtain ⟨⟨a1, a2, a3⟩, -⟩ := id hA.1
  have e17 : mX4_raiseTriggers_S17 1 T = (T 4 0) - 1 := by unfold mX4_raiseTriggers_S17; rw [if_pos rfl]
  have ew : ((T 4 0) - 1).toInt = ((sT - 1 : Nat) : Int) := by rw [zt_sub (by omega) (by omega)]; omega
  exact zraise (by decide) e17 ht hR0 hL5 hA hb hB ew (by omega) zht1 (fun k j hk hj hw => Int32.toInt_inj.mp (by omega)) (fun k j hk hj e => by rw [e] at hk; omega) (Or.inr (Or.inl rfl)) (Or.inr (Or.inr (Or.inr rfl)))
theorem zraise2 {sT sE t : Nat} {L T E R V : zS_t} {B : Int} (ht : t < 3) (hR0 : (R 0 0).toInt = t) (hL5 : L 5 0 = R 0 0) (hA : zAll sT sE L T E R) (hb : zNb B L R) (hB : B + 30 ≤ 50000000) : ∀ Z W9, mX4_raiseTriggers 2 L T E V = Z → mX5_triggersOf 10 10 (-1) R = W9 → ∃ sE1 : Nat, zAll sT sE1 Z.1 T Z.2.1 W9 ∧ zNb (B + 30) Z.1 W9 ∧ zFrL L Z.1 ∧ zFr2 R W9 := by
  obtain ⟨⟨a1, a2, a3⟩, -⟩ := id hA.1
  have e17 : mX4_raiseTriggers_S17 2 T = T 4 0 := by unfold mX4_raiseTriggers_S17; rw [if_neg (by decide)]
  exact zraise (by decide) e17 ht hR0 hL5 hA hb hB a1 (Nat.le_refl _) zht2 (fun k j hk hj hw => absurd hj (by omega)) (fun k j hk hj e => by rw [e, zm1v] at hk; omega) (Or.inr (Or.inr (Or.inl rfl))) (Or.inr (Or.inr (Or.inl rfl)))
