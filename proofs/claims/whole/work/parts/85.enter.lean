/-! what enters, what leaves -/
def zFr3 (R R' : zS_t) : Prop := ∀ c : Nat, c < 6 ∨ (22 < c ∧ c < 27) → R' c = R c
theorem zFr2.fr3 {R R' : zS_t} (h : zFr2 R R') : zFr3 R R' := fun c hc => h c (by omega)
theorem zFr3.trans {R R1 R2 : zS_t} (h : zFr3 R R1) (h' : zFr3 R1 R2) : zFr3 R R2 := fun c hc => (h' c hc).trans (h c hc)
theorem zenter {sT sE t : Nat} {L T E R V : zS_t} {B : Int} {c p tg a : Int32} (ht : t < 3) (hR0 : (R 0 0).toInt = t) (hL5 : L 5 0 = R 0 0) (hA : zAll sT sE L T E R) (hb : zNb B L R) (hB : B + 31 ≤ 50000000) (hbd : zBd tg a (L 10 0).toInt ((R 11 0).toInt + 1)) (hg : zTg sT (T 3) (R 9) tg a) (h7 : c ≠ 7 → tg = -1) (hc : 0 ≤ c.toInt ∧ c.toInt < 12) (hp : 0 ≤ p.toInt ∧ p.toInt < 3) : ∀ Z Y W, mX4_enter c p tg L T = Z → mX4_raiseTriggers Z.1 Z.2.1 Z.2.2 E V = Y → mX5_enters c p a R = W → ∃ sT1 sE1 : Nat, zAll sT1 sE1 Y.1 Z.2.2 Y.2.1 W ∧ zNb (B + 31) Y.1 W ∧ zFrL L Y.1 ∧ zFr3 R W := by
  intro Z Y W hZ hY hW
  obtain ⟨hT, hE⟩ := id hA
  obtain ⟨⟨b1, b2⟩, b3, b4⟩ := id hb
  obtain ⟨⟨a1, a2, a3⟩, -, -, dT1, dT2, -⟩ := id hT
  have eL : ((zsI L 10 (L 10 0 + 1)) 10 0).toInt = (L 10 0).toInt + 1 := zi1 b1 (by omega)
  have eM : (R 11 0 + 1).toInt = (R 11 0).toInt + 1 := zi1 b3 (by omega)
  have hfr : zFrL L (zsI L 10 (L 10 0 + 1)) := fun c9 h9 => zsF_n L _ h9
  have k10 : Int32.toInt 10 = 10 := by decide
  have hen : mX4_enter c p tg L T = if (mX2_add c p tg (L 10 0) T).1 = 0 then (0, zsI L 10 (L 10 0 + 1), (mX2_add c p tg (L 10 0) T).2) else (1, zsI L 10 (L 10 0 + 1), (mX2_add c p tg (L 10 0) T).2) := rfl
  rw [hen] at hZ
  unfold mX5_enters at hW
  simp only [zbnd] at hW
  by_cases h10 : sT < 10
  · have g1 : (T 4 0) < 10 := Int32.lt_iff_toInt_lt.mpr (by omega)
    have g2 : ¬ (10 ≤ (R 6 0)) := fun h => by have := zt_le h; rw [a3] at this; omega
    have n1 : (T 4 0).toNatClampNeg = sT := zncl a1
    have n2 : (R 6 0).toNatClampNeg = sT := by rw [a3]; exact n1
    have hadd : mX2_add c p tg (L 10 0) T = (1, (zsI (zsF (zsF (zsF (zsF T 0 (upd (T 0) sT c)) 1 (upd (T 1) sT p)) 2 (upd (T 2) sT tg)) 3 (upd (T 3) sT (L 10 0))) 4 ((T 4 0) + 1))) := by
      unfold mX2_add
      rw [if_pos g1, n1]
    rw [hadd] at hZ
    simp only [] at hZ
    rw [if_neg (by decide)] at hZ
    rw [if_neg g2, n2] at hW
    subst hZ
    have e4 : (T 4 0 + 1).toInt = ((sT + 1 : Nat) : Int) := zinc a1 (by omega)
    have hM : ((R 11 0 + 1).toInt + 1 : Int) = ((R 11 0).toInt + 1) + 1 := by omega
    obtain ⟨R1, hR1⟩ : ∃ z, (zsI (zsF (zsF (zsF (zsF (zsI R 6 ((R 6 0) + 1)) 7 (upd (R 7) sT c)) 8 (upd (R 8) sT p)) 9 (upd (R 9) sT ((R 11 0) + 1))) 10 (upd (R 10) sT a)) 11 ((R 11 0) + 1)) = z := ⟨_, rfl⟩
    rw [hR1] at hW
    have hT1 : zQT (sT + 1) ((L 10 0).toInt + 1) (((R 11 0).toInt + 1) + 1) (zsI (zsF (zsF (zsF (zsF T 0 (upd (T 0) sT c)) 1 (upd (T 1) sT p)) 2 (upd (T 2) sT tg)) 3 (upd (T 3) sT (L 10 0))) 4 ((T 4 0) + 1)) R1 := by
      rw [← hR1]
      exact zQT_push (c := c) (p := p) (t := tg) (a := a) (nid := L 10 0) (nm := R 11 0 + 1) hT h10 rfl eM b1 (by omega) hbd hg h7 hc hp rfl rfl rfl rfl e4 (by show R 6 0 + 1 = T 4 0 + 1; rw [a3]) rfl rfl rfl rfl
    have hE1 : zQE (sT + 1) sE ((L 10 0).toInt + 1) (((R 11 0).toInt + 1) + 1) (zsI (zsF (zsF (zsF (zsF T 0 (upd (T 0) sT c)) 1 (upd (T 1) sT p)) 2 (upd (T 2) sT tg)) 3 (upd (T 3) sT (L 10 0))) 4 ((T 4 0) + 1)) E R1 := by
      rw [← hR1]
      obtain ⟨x1, x2, x3, x4, x5, x6⟩ := hE
      refine ⟨x1, x2, x3, x4.wide (by omega), x5.wide (by omega), fun j hj => ?_⟩
      obtain ⟨y1, y2, y3, y4, y5, y6, y7⟩ := x6 j hj
      exact ⟨y1.wide (by omega) (by omega), y2, y3, y4, y5, fun hc9 => (y6 hc9).push y1 rfl eM, y7⟩
    have r11 : (R1 11 0) = R 11 0 + 1 := by rw [← hR1]; rfl
    have r0 : R1 0 = R 0 := by rw [← hR1]; rfl
    have hA1 : zAll (sT + 1) sE (zsI L 10 (L 10 0 + 1)) (zsI (zsF (zsF (zsF (zsF T 0 (upd (T 0) sT c)) 1 (upd (T 1) sT p)) 2 (upd (T 2) sT tg)) 3 (upd (T 3) sT (L 10 0))) 4 ((T 4 0) + 1)) E R1 := by
      unfold zAll
      rw [eL, r11, hM]
      exact ⟨hT1, hE1⟩
    have hb1 : zNb (B + 1) (zsI L 10 (L 10 0 + 1)) R1 := by
      unfold zNb
      rw [r11, eL]
      omega
    have k1 : Int32.toInt 1 = 1 := by decide
    have ebut : (R 6 0 + 1 - 1).toInt = ((sT + 1 : Nat) : Int) - 1 := by
      have e1 : (R 6 0 + 1).toInt = ((sT + 1 : Nat) : Int) := by rw [a3]; exact e4
      rw [zt_sub (by omega) (by omega)]
      omega
    obtain ⟨sE1, q1, q2, q3, q4⟩ := zraise1 (V := V) (but := R 6 0 + 1 - 1) ht (by rw [r0]; exact hR0) (by rw [hfr 5 (by omega), r0]; exact hL5) hA1 hb1 (by omega) (by omega) ebut Y W hY hW
    refine ⟨sT + 1, sE1, q1, q2.mono (by omega), hfr.trans q3, ?_⟩
    have f1 : zFr3 R R1 := by
      rw [← hR1]
      intro c9 h9
      unfold zsI
      rw [zsF_n _ _ (by omega), zsF_n _ _ (by omega), zsF_n _ _ (by omega), zsF_n _ _ (by omega), zsF_n _ _ (by omega), zsF_n _ _ (by omega)]
    exact f1.trans q4.fr3
  · have g1 : ¬ (T 4 0) < 10 := fun h => by have := zt_lt h; omega
    have g2 : 10 ≤ (R 6 0) := Int32.le_iff_toInt_le.mpr (by rw [a3]; omega)
    have hadd : mX2_add c p tg (L 10 0) T = (0, T) := by
      unfold mX2_add
      rw [if_neg g1]
    rw [if_pos (by rw [hadd]), hadd] at hZ
    rw [if_pos g2] at hW
    subst hZ
    subst hW
    have eY : Y = (zsI L 10 (L 10 0 + 1), E, V) := by
      rw [← hY]
      unfold mX4_raiseTriggers
      rw [if_pos rfl]
    subst eY
    refine ⟨sT, sE, ⟨?_, ?_⟩, ⟨⟨?_, ?_⟩, b3, by omega⟩, hfr, fun _ _ => rfl⟩
    · show zQT sT ((zsI L 10 (L 10 0 + 1)) 10 0).toInt _ T R
      rw [eL]; exact hT.wide (by omega) (Int.le_refl _) rfl rfl rfl rfl rfl
    · show zQE sT sE ((zsI L 10 (L 10 0 + 1)) 10 0).toInt _ T E R
      rw [eL]; exact hE.wide (by omega) (Int.le_refl _)
    · show 0 ≤ ((zsI L 10 (L 10 0 + 1)) 10 0).toInt
      omega
    · show ((zsI L 10 (L 10 0 + 1)) 10 0).toInt ≤ _
      omega
