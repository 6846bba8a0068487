/-! all sources, all layers -/
theorem zlay_n {w q : Int32} {R : zS_t} {src : Nat} (hq : q.toInt = src) (h : ¬ (w = 1 ∧ R 7 src = 7)) : mX5_layer w q R = (mX5_layer_L55 w q (R 7 src) 11 0 R).2 := by
  have e : mX5_layer_S7 w q (R 7 src) R = -1 := by
    unfold mX5_layer_S7
    by_cases h1 : w = 1
    · rw [if_pos h1]
      by_cases h2 : R 7 src = 7
      · exact absurd ⟨h1, h2⟩ h
      · rw [if_neg h2]
    · rw [if_neg h1]
  have e2 : mX5_layer_S34 q (-1) R = R := by
    unfold mX5_layer_S34
    rw [if_pos (by decide)]
  unfold mX5_layer
  simp only [zbnd, zbnd2]
  rw [zncl hq, e, e2]
theorem zL73_0 {q : Int32} {T V : zS_t} {n : Nat} {k : Int32} : (mX3_goThrough_L73 q 0 T (n + 1) k V).2 = V := by
  rw [mX3_goThrough_L73.eq_2, if_pos rfl]
def zCr (s : Nat) (T R : zS_t) : Prop := zInj s (R 9) ∧ ∀ i : Nat, i < s → zTg s (T 3) (R 9) (T 2 i) (R 10 i)
theorem zCr.same {s : Nat} {T R R' : zS_t} (h : zCr s T R) (hs : zSameR R R') : zCr s T R' := by
  unfold zCr at *
  rw [hs 9 (by omega), hs 10 (by omega)]
  exact h
theorem zly_0 : mX4_layerOf 0 = 0 := by decide
theorem zly_1 : mX4_layerOf 1 = 0 := by decide
theorem zly_2 : mX4_layerOf 2 = 4 := by decide
theorem zly_3 : mX4_layerOf 3 = 3 := by decide
theorem zly_4 : mX4_layerOf 4 = 3 := by decide
theorem zly_5 : mX4_layerOf 5 = 2 := by decide
theorem zly_6 : mX4_layerOf 6 = 2 := by decide
theorem zly_7 : mX4_layerOf 7 = 1 := by decide
theorem zly_8 : mX4_layerOf 8 = 5 := by decide
theorem zly_9 : mX4_layerOf 9 = 0 := by decide
theorem zly_10 : mX4_layerOf 10 = 0 := by decide
theorem zly_11 : mX4_layerOf 11 = 0 := by decide
theorem zc12 {x : Int32} (h0 : 0 ≤ x.toInt) (h1 : x.toInt < 12) : x = 0 ∨ x = 1 ∨ x = 2 ∨ x = 3 ∨ x = 4 ∨ x = 5 ∨ x = 6 ∨ x = 7 ∨ x = 8 ∨ x = 9 ∨ x = 10 ∨ x = 11 := by
  have e : ∀ c : Int32, x.toInt = c.toInt → x = c := fun c h => Int32.toInt_inj.mp h
  have k0 : Int32.toInt 0 = 0 := by decide
  have k1 : Int32.toInt 1 = 1 := by decide
  have k2 : Int32.toInt 2 = 2 := by decide
  have k3 : Int32.toInt 3 = 3 := by decide
  have k4 : Int32.toInt 4 = 4 := by decide
  have k5 : Int32.toInt 5 = 5 := by decide
  have k6 : Int32.toInt 6 = 6 := by decide
  have k7 : Int32.toInt 7 = 7 := by decide
  have k8 : Int32.toInt 8 = 8 := by decide
  have k9 : Int32.toInt 9 = 9 := by decide
  have k10 : Int32.toInt 10 = 10 := by decide
  have k11 : Int32.toInt 11 = 11 := by decide
  have h : x.toInt = 0 ∨ x.toInt = 1 ∨ x.toInt = 2 ∨ x.toInt = 3 ∨ x.toInt = 4 ∨ x.toInt = 5 ∨ x.toInt = 6 ∨ x.toInt = 7 ∨ x.toInt = 8 ∨ x.toInt = 9 ∨ x.toInt = 10 ∨ x.toInt = 11 := by omega
  rcases h with h | h | h | h | h | h | h | h | h | h | h | h
  · exact Or.inl (e _ (by rw [h, k0]))
  · exact Or.inr (Or.inl (e _ (by rw [h, k1])))
  · exact Or.inr (Or.inr (Or.inl (e _ (by rw [h, k2]))))
  · exact Or.inr (Or.inr (Or.inr (Or.inl (e _ (by rw [h, k3])))))
  · exact Or.inr (Or.inr (Or.inr (Or.inr (Or.inl (e _ (by rw [h, k4]))))))
  · exact Or.inr (Or.inr (Or.inr (Or.inr (Or.inr (Or.inl (e _ (by rw [h, k5])))))))
  · exact Or.inr (Or.inr (Or.inr (Or.inr (Or.inr (Or.inr (Or.inl (e _ (by rw [h, k6]))))))))
  · exact Or.inr (Or.inr (Or.inr (Or.inr (Or.inr (Or.inr (Or.inr (Or.inl (e _ (by rw [h, k7])))))))))
  · exact Or.inr (Or.inr (Or.inr (Or.inr (Or.inr (Or.inr (Or.inr (Or.inr (Or.inl (e _ (by rw [h, k8]))))))))))
  · exact Or.inr (Or.inr (Or.inr (Or.inr (Or.inr (Or.inr (Or.inr (Or.inr (Or.inr (Or.inl (e _ (by rw [h, k9])))))))))))
  · exact Or.inr (Or.inr (Or.inr (Or.inr (Or.inr (Or.inr (Or.inr (Or.inr (Or.inr (Or.inr (Or.inl (e _ (by rw [h, k10]))))))))))))
  · exact Or.inr (Or.inr (Or.inr (Or.inr (Or.inr (Or.inr (Or.inr (Or.inr (Or.inr (Or.inr (Or.inr (e _ (by rw [h, k11]))))))))))))
set_option maxHeartbeats 4000000 in
theorem zone {s : Nat} {T V R : zS_t} {q w : Int32} {src : Nat} (hr : zRows s T R) (hv : zV5 s V R) (hcr : zCr s T R) (hq : q.toInt = src) (hsrc : src < s) (hc0 : 0 ≤ (T 0 src).toInt) (hc1 : (T 0 src).toInt < 12) (hw : w = 1 ∨ w = 2 ∨ w = 3 ∨ w = 4 ∨ w = 5) : ∀ Z W, mX3_goThrough_L73 q (mX3_goThrough_S50 w q T) T 11 0 V = Z → mX5_layer w q R = W → zV5 s Z.2 W ∧ zSameR R W := by
  intro Z W hZ hW
  obtain ⟨hs1, hs2, h10, hrow⟩ := id hr
  have r7 := (hrow src hsrc).1
  have hS : mX3_goThrough_S50 w q T = if mX4_layerOf (T 0 src) = w then 1 else 0 := by
    unfold mX3_goThrough_S50
    simp only [zbnd]
    rw [zncl hq]
  have idle : ∀ (c : Int32), T 0 src = c → ¬ mX4_layerOf c = w → (∀ (k : Int32) (R : zS_t), zrS w q c k R = R) → ¬ (w = 1 ∧ c = 7) → zV5 s Z.2 W ∧ zSameR R W := by
    intro c hc hl hid hn
    rw [hS, hc, if_neg hl] at hZ
    rw [zlay_n hq (by rw [r7, hc]; exact hn), r7, hc, zidle hid hs2 h10 11 0 0 (by decide) (by omega) (by omega)] at hW
    rw [← hZ, ← hW, zL73_0]
    exact ⟨hv, zSameR.refl R⟩
  have work : ∀ (c : Int32), T 0 src = c → mX4_layerOf c = w → (∀ (k : Int32) (j : Nat) (V R : zS_t), zV5 s V R → k.toInt = j → j < s → zV5 s (zcS q k T V) (zrS w q c k R) ∧ zSameR R (zrS w q c k R)) → ¬ (w = 1 ∧ c = 7) → zV5 s Z.2 W ∧ zSameR R W := by
    intro c hc hl hst hn
    rw [hS, hc, if_pos hl] at hZ
    rw [zlay_n hq (by rw [r7, hc]; exact hn), r7, hc] at hW
    subst hW
    exact zsrc hst 11 0 0 V R (by decide) (by omega) hr hv (by omega) Z _ hZ rfl
  rcases hw with rfl | rfl | rfl | rfl | rfl <;> rcases zc12 hc0 hc1 with h | h | h | h | h | h | h | h | h | h | h | h
  · exact idle 0 h (by rw [zly_0]; decide) (fun k R => zid_0_1 q k R) (by decide)
  · exact idle 1 h (by rw [zly_1]; decide) (fun k R => zid_1_1 q k R) (by decide)
  · exact idle 2 h (by rw [zly_2]; decide) (fun k R => zid_2_1 q k R) (by decide)
  · exact idle 3 h (by rw [zly_3]; decide) (fun k R => zid_3_1 q k R) (by decide)
  · exact idle 4 h (by rw [zly_4]; decide) (fun k R => zid_4_1 q k R) (by decide)
  · exact idle 5 h (by rw [zly_5]; decide) (fun k R => zid_5_1 q k R) (by decide)
  · exact idle 6 h (by rw [zly_6]; decide) (fun k R => zid_6_1 q k R) (by decide)
  · rw [hS, h, zly_7, if_pos rfl] at hZ
    exact zcrown hr hv hq hsrc h hcr.1 (hcr.2 src hsrc) Z W hZ hW
  · exact idle 8 h (by rw [zly_8]; decide) (fun k R => zid_8_1 q k R) (by decide)
  · exact idle 9 h (by rw [zly_9]; decide) (fun k R => zid_9_1 q k R) (by decide)
  · exact idle 10 h (by rw [zly_10]; decide) (fun k R => zid_10_1 q k R) (by decide)
  · exact idle 11 h (by rw [zly_11]; decide) (fun k R => zid_11_1 q k R) (by decide)
  · exact idle 0 h (by rw [zly_0]; decide) (fun k R => zid_0_2 q k R) (by decide)
  · exact idle 1 h (by rw [zly_1]; decide) (fun k R => zid_1_2 q k R) (by decide)
  · exact idle 2 h (by rw [zly_2]; decide) (fun k R => zid_2_2 q k R) (by decide)
  · exact idle 3 h (by rw [zly_3]; decide) (fun k R => zid_3_2 q k R) (by decide)
  · exact idle 4 h (by rw [zly_4]; decide) (fun k R => zid_4_2 q k R) (by decide)
  · exact work 5 h zly_5 (fun k j V R h1 h2 h3 => zst_5 h1 hq h2 h3 hsrc h) (by decide)
  · exact work 6 h zly_6 (fun k j V R h1 h2 h3 => zst_6 h1 hq h2 h3 hsrc h) (by decide)
  · exact idle 7 h (by rw [zly_7]; decide) (fun k R => zid_7_2 q k R) (by decide)
  · exact idle 8 h (by rw [zly_8]; decide) (fun k R => zid_8_2 q k R) (by decide)
  · exact idle 9 h (by rw [zly_9]; decide) (fun k R => zid_9_2 q k R) (by decide)
  · exact idle 10 h (by rw [zly_10]; decide) (fun k R => zid_10_2 q k R) (by decide)
  · exact idle 11 h (by rw [zly_11]; decide) (fun k R => zid_11_2 q k R) (by decide)
  · exact idle 0 h (by rw [zly_0]; decide) (fun k R => zid_0_3 q k R) (by decide)
  · exact idle 1 h (by rw [zly_1]; decide) (fun k R => zid_1_3 q k R) (by decide)
  · exact idle 2 h (by rw [zly_2]; decide) (fun k R => zid_2_3 q k R) (by decide)
  · exact work 3 h zly_3 (fun k j V R h1 h2 h3 => zst_3 h1 hq h2 h3 hsrc h) (by decide)
  · exact work 4 h zly_4 (fun k j V R h1 h2 h3 => zst_4 h1 hq h2 h3 hsrc h) (by decide)
  · exact idle 5 h (by rw [zly_5]; decide) (fun k R => zid_5_3 q k R) (by decide)
  · exact idle 6 h (by rw [zly_6]; decide) (fun k R => zid_6_3 q k R) (by decide)
  · exact idle 7 h (by rw [zly_7]; decide) (fun k R => zid_7_3 q k R) (by decide)
  · exact idle 8 h (by rw [zly_8]; decide) (fun k R => zid_8_3 q k R) (by decide)
  · exact idle 9 h (by rw [zly_9]; decide) (fun k R => zid_9_3 q k R) (by decide)
  · exact idle 10 h (by rw [zly_10]; decide) (fun k R => zid_10_3 q k R) (by decide)
  · exact idle 11 h (by rw [zly_11]; decide) (fun k R => zid_11_3 q k R) (by decide)
  · exact idle 0 h (by rw [zly_0]; decide) (fun k R => zid_0_4 q k R) (by decide)
  · exact idle 1 h (by rw [zly_1]; decide) (fun k R => zid_1_4 q k R) (by decide)
  · exact work 2 h zly_2 (fun k j V R h1 h2 h3 => zst_2 h1 hq h2 h3 hsrc h) (by decide)
  · exact idle 3 h (by rw [zly_3]; decide) (fun k R => zid_3_4 q k R) (by decide)
  · exact idle 4 h (by rw [zly_4]; decide) (fun k R => zid_4_4 q k R) (by decide)
  · exact idle 5 h (by rw [zly_5]; decide) (fun k R => zid_5_4 q k R) (by decide)
  · exact idle 6 h (by rw [zly_6]; decide) (fun k R => zid_6_4 q k R) (by decide)
  · exact idle 7 h (by rw [zly_7]; decide) (fun k R => zid_7_4 q k R) (by decide)
  · exact idle 8 h (by rw [zly_8]; decide) (fun k R => zid_8_4 q k R) (by decide)
  · exact idle 9 h (by rw [zly_9]; decide) (fun k R => zid_9_4 q k R) (by decide)
  · exact idle 10 h (by rw [zly_10]; decide) (fun k R => zid_10_4 q k R) (by decide)
  · exact idle 11 h (by rw [zly_11]; decide) (fun k R => zid_11_4 q k R) (by decide)
  · exact idle 0 h (by rw [zly_0]; decide) (fun k R => zid_0_5 q k R) (by decide)
  · exact idle 1 h (by rw [zly_1]; decide) (fun k R => zid_1_5 q k R) (by decide)
  · exact idle 2 h (by rw [zly_2]; decide) (fun k R => zid_2_5 q k R) (by decide)
  · exact idle 3 h (by rw [zly_3]; decide) (fun k R => zid_3_5 q k R) (by decide)
  · exact idle 4 h (by rw [zly_4]; decide) (fun k R => zid_4_5 q k R) (by decide)
  · exact idle 5 h (by rw [zly_5]; decide) (fun k R => zid_5_5 q k R) (by decide)
  · exact idle 6 h (by rw [zly_6]; decide) (fun k R => zid_6_5 q k R) (by decide)
  · exact idle 7 h (by rw [zly_7]; decide) (fun k R => zid_7_5 q k R) (by decide)
  · exact work 8 h zly_8 (fun k j V R h1 h2 h3 => zst_8 h1 hq h2 h3 hsrc h) (by decide)
  · exact idle 9 h (by rw [zly_9]; decide) (fun k R => zid_9_5 q k R) (by decide)
  · exact idle 10 h (by rw [zly_10]; decide) (fun k R => zid_10_5 q k R) (by decide)
  · exact idle 11 h (by rw [zly_11]; decide) (fun k R => zid_11_5 q k R) (by decide)
theorem zsrcs {s : Nat} {T : zS_t} {w : Int32} (hw : w = 1 ∨ w = 2 ∨ w = 3 ∨ w = 4 ∨ w = 5) (hcs : ∀ i : Nat, i < s → 0 ≤ (T 0 i).toInt ∧ (T 0 i).toInt < 12) : ∀ (fuel : Nat) (k : Int32) (j : Nat) (V R : zS_t), k.toInt = j → s + 1 ≤ j + fuel → zRows s T R → zV5 s V R → zCr s T R → j ≤ s → ∀ Z W, mX3_goThrough_L42 w T fuel k V = Z → mX5_lays_L145 w fuel k R = W → zV5 s Z.2 W.2 ∧ zSameR R W.2 := by
  intro fuel
  induction fuel with
  | zero => intro k j V R hk hf hr hv hcr hj; omega
  | succ fuel ih =>
    intro k j V R hk hf hr hv hcr hj Z W hZ hW
    obtain ⟨hs1, hs2, h10, hrow⟩ := id hr
    rw [mX3_goThrough_L42.eq_2] at hZ
    rw [mX5_lays_L145.eq_2] at hW
    by_cases h1 : j = s
    · have g1 : (T 4 0) ≤ k := Int32.le_iff_toInt_le.mpr (by omega)
      have g2 : (R 6 0) ≤ k := Int32.le_iff_toInt_le.mpr (by omega)
      rw [if_pos g1] at hZ
      rw [if_pos g2] at hW
      subst hZ
      subst hW
      exact ⟨hv, zSameR.refl R⟩
    · have g1 : ¬ (T 4 0) ≤ k := fun h => by have := zt_le h; omega
      have g2 : ¬ (R 6 0) ≤ k := fun h => by have := zt_le h; omega
      rw [if_neg g1] at hZ
      rw [if_neg g2] at hW
      simp only [zbnd, zbnd2] at hZ hW
      obtain ⟨c0, c1⟩ := hcs j (by omega)
      obtain ⟨a1, a2⟩ := zone hr hv hcr hk (by omega) c0 c1 hw _ _ rfl rfl
      obtain ⟨q1, q2⟩ := ih (k + 1) (j + 1) _ _ (zinc hk (by omega)) (by omega) (hr.same a2) a1 (hcr.same a2) (by omega) Z W hZ hW
      exact ⟨q1, a2.trans q2⟩
theorem zround {s : Nat} {T V R : zS_t} {w : Int32} (hw : w = 1 ∨ w = 2 ∨ w = 3 ∨ w = 4 ∨ w = 5) (hcs : ∀ i : Nat, i < s → 0 ≤ (T 0 i).toInt ∧ (T 0 i).toInt < 12) (hr : zRows s T R) (hv : zV3 s V R) (hcr : zCr s T R) : ∀ (Z : zS_t) (W1 W2 : Int32 × zS_t), mX3_goThrough w T V = Z → mX5_lays_L105 11 0 R = W1 → mX5_lays_L145 w 11 0 W1.2 = W2 → zV3 s Z W2.2 ∧ zSameR R W2.2 := by
  intro Z W1 W2 hZ h1 h2
  obtain ⟨hs1, hs2, h10, hrow⟩ := id hr
  unfold mX3_goThrough at hZ
  simp only [zbnd2] at hZ
  obtain ⟨a1, a2⟩ := zv_copy (s := s) (T := T) 11 0 0 V R (by decide) (by omega) hr hv (fun i hi => absurd hi (by omega)) (by omega) _ W1 rfl h1
  obtain ⟨b1, b2⟩ := zsrcs hw hcs 11 0 0 _ _ (by decide) (by omega) (hr.same a2) a1 (hcr.same a2) (by omega) _ W2 rfl h2
  rw [← hZ]
  exact ⟨b1.v3, a2.trans b2⟩
theorem zlays_L {s : Nat} {T : zS_t} {ls : Int32} {m : Nat} (hm : ls.toInt = (m : Int)) (h5 : m ≤ 5) (hcs : ∀ i : Nat, i < s → 0 ≤ (T 0 i).toInt ∧ (T 0 i).toInt < 12) : ∀ (fuel : Nat) (k : Int32) (j : Nat) (V R : zS_t), k.toInt = j → 1 ≤ j → m + 2 ≤ j + fuel → j ≤ m + 1 → zRows s T R → zV3 s V R → zCr s T R → ∀ Z W, mX3_find_L90 ls T fuel k V = Z → mX5_lays_L98 ls fuel k R = W → zV3 s Z.2 W.2 ∧ zSameR R W.2 := by
  intro fuel
  induction fuel with
  | zero => intro k j V R hk h1 hf hj; omega
  | succ fuel ih =>
    intro k j V R hk h1 hf hj hr hv hcr Z W hZ hW
    rw [mX3_find_L90.eq_2] at hZ
    rw [mX5_lays_L98.eq_2] at hW
    by_cases g : ls < k
    · rw [if_pos g] at hZ hW
      subst hZ
      subst hW
      exact ⟨hv, zSameR.refl R⟩
    · rw [if_neg g] at hZ hW
      have := zt_nlt g
      simp only [zbnd, zbnd2] at hZ hW
      have hw : k = 1 ∨ k = 2 ∨ k = 3 ∨ k = 4 ∨ k = 5 := by
        have e : ∀ c : Int32, k.toInt = c.toInt → k = c := fun c h => Int32.toInt_inj.mp h
        have k1 : Int32.toInt 1 = 1 := by decide
        have k2 : Int32.toInt 2 = 2 := by decide
        have k3 : Int32.toInt 3 = 3 := by decide
        have k4 : Int32.toInt 4 = 4 := by decide
        have k5 : Int32.toInt 5 = 5 := by decide
        have h : j = 1 ∨ j = 2 ∨ j = 3 ∨ j = 4 ∨ j = 5 := by omega
        rcases h with h | h | h | h | h
        · exact Or.inl (e _ (by omega))
        · exact Or.inr (Or.inl (e _ (by omega)))
        · exact Or.inr (Or.inr (Or.inl (e _ (by omega))))
        · exact Or.inr (Or.inr (Or.inr (Or.inl (e _ (by omega)))))
        · exact Or.inr (Or.inr (Or.inr (Or.inr (e _ (by omega)))))
      obtain ⟨a1, a2⟩ := zround hw hcs hr hv hcr _ _ _ rfl rfl rfl
      obtain ⟨q1, q2⟩ := ih (k + 1) (j + 1) _ _ (zinc hk (by omega)) (by omega) (by omega) (by omega) (hr.same a2) a1 (hcr.same a2) Z W hZ hW
      exact ⟨q1, a2.trans q2⟩
/-- find and lays find the same -/
theorem zfind {s : Nat} {T V R : zS_t} {ls : Int32} {m : Nat} (hm : ls.toInt = (m : Int)) (h5 : m ≤ 5) (hcs : ∀ i : Nat, i < s → 0 ≤ (T 0 i).toInt ∧ (T 0 i).toInt < 12) (hr : zRows s T R) (hcr : zCr s T R) : ∀ Z W, mX3_find ls T V = Z → mX5_lays ls R = W → zV3 s Z W ∧ zSameR R W := by
  intro Z W hZ hW
  obtain ⟨hs1, hs2, h10, hrow⟩ := id hr
  unfold mX3_find at hZ
  unfold mX5_lays at hW
  simp only [zbnd2] at hZ hW
  obtain ⟨a1, a2⟩ := zv_init (s := s) (T := T) 11 0 0 V R (by decide) (by omega) hr (fun k hk => absurd hk (by omega)) (by omega) _ _ rfl rfl
  obtain ⟨b1, b2⟩ := zlays_L hm h5 hcs 7 1 1 _ _ (by decide) (by omega) (by omega) (by omega) (hr.same a2) a1 (hcr.same a2) _ _ rfl rfl
  rw [← hZ, ← hW]
  exact ⟨b1, a2.trans b2⟩
