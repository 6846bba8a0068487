/-! one trigger put on the stack -/
def zNb (B : Int) (L R : zS_t) : Prop := (0 ≤ (L 10 0).toInt ∧ (L 10 0).toInt ≤ B) ∧ 0 ≤ (R 11 0).toInt ∧ (R 11 0).toInt ≤ B
def zAll (sT sE : Nat) (L T E R : zS_t) : Prop := zQT sT (L 10 0).toInt ((R 11 0).toInt + 1) T R ∧ zQE sT sE (L 10 0).toInt ((R 11 0).toInt + 1) T E R
def zFrL (L L' : zS_t) : Prop := ∀ c : Nat, c ≠ 10 → L' c = L c
def zFrR (R R' : zS_t) : Prop := ∀ c : Nat, c < 11 ∨ 17 < c → R' c = R c
theorem zFrL.refl (L : zS_t) : zFrL L L := fun _ _ => rfl
theorem zFrR.refl (R : zS_t) : zFrR R R := fun _ _ => rfl
theorem zFrL.trans {L L1 L2 : zS_t} (h : zFrL L L1) (h' : zFrL L1 L2) : zFrL L L2 := fun c hc => (h' c hc).trans (h c hc)
theorem zFrR.trans {R R1 R2 : zS_t} (h : zFrR R R1) (h' : zFrR R1 R2) : zFrR R R2 := fun c hc => (h' c hc).trans (h c hc)
theorem zQT.wide {sT : Nat} {N M N' M' : Int} {T R R' : zS_t} (h : zQT sT N M T R) (hN : N ≤ N') (hM : M ≤ M') (r6 : R' 6 = R 6) (r7 : R' 7 = R 7) (r8 : R' 8 = R 8) (r9 : R' 9 = R 9) (r10 : R' 10 = R 10) : zQT sT N' M' T R' := by
  obtain ⟨⟨a1, a2, a3⟩, b1, c1, d1, d2, f1⟩ := h
  refine ⟨⟨a1, a2, by rw [r6]; exact a3⟩, by rw [r7, r8]; exact b1, c1, d1.wide hN, by rw [r9]; exact d2.wide hM, fun j hj => ?_⟩
  obtain ⟨g1, g2, g3⟩ := f1 j hj
  rw [r9, r10]
  exact ⟨g1.wide hN hM, g2, g3⟩
theorem zQE.wide {sT sE : Nat} {N M N' M' : Int} {T E R : zS_t} (h : zQE sT sE N M T E R) (hN : N ≤ N') (hM : M ≤ M') : zQE sT sE N' M' T E R := by
  obtain ⟨a, b1, c1, d1, d2, f1⟩ := h
  exact ⟨a, b1, c1, d1.wide hN, d2.wide hM, fun j hj => (f1 j hj).wide hN hM rfl rfl rfl⟩
theorem zi1 {x : Int32} (h0 : 0 ≤ x.toInt) (h1 : x.toInt ≤ 100000000) : (x + 1).toInt = x.toInt + 1 := by
  have k1 : Int32.toInt 1 = 1 := by decide
  rw [zt_add (by omega) (by omega), k1]
theorem ztrig {sT sE : Nat} {L T E R : zS_t} {B : Int} {card player : Int32} (hA : zAll sT sE L T E R) (hb : zNb B L R) (hB : B ≤ 50000000) (hc : card = 1 ∨ card = 9 ∨ card = 10 ∨ card = 11) (hp : 0 ≤ player.toInt ∧ player.toInt < 3) : ∃ sE1 : Nat, zAll sT sE1 (zsI L 10 (L 10 0 + 1)) T (mX0_push card 1 player (-1) (L 10 0) E) (mX5_triggers card player R) ∧ zNb (B + 1) (zsI L 10 (L 10 0 + 1)) (mX5_triggers card player R) ∧ zFrR R (mX5_triggers card player R) := by
  obtain ⟨hT, hE⟩ := hA
  obtain ⟨⟨b1, b2⟩, b3, b4⟩ := hb
  have k12 : Int32.toInt 12 = 12 := by decide
  obtain ⟨⟨a1, a2, a3⟩, -, -, dE1, dE2, -⟩ := id hE
  obtain ⟨-, -, -, dT1, dT2, -⟩ := id hT
  have eL : ((zsI L 10 (L 10 0 + 1)) 10 0).toInt = (L 10 0).toInt + 1 := zi1 b1 (by omega)
  have eM : (R 11 0 + 1).toInt = (R 11 0).toInt + 1 := zi1 b3 (by omega)
  by_cases h12 : sE < 12
  · have g1 : (E 5 0) < 12 := Int32.lt_iff_toInt_lt.mpr (by omega)
    have g2 : ¬ (12 ≤ (R 12 0)) := fun h => by have := zt_le h; rw [a3] at this; omega
    have n1 : (E 5 0).toNatClampNeg = sE := zncl a1
    have n2 : (R 12 0).toNatClampNeg = sE := by rw [a3]; exact n1
    refine ⟨sE + 1, ⟨?_, ?_⟩, ?_, ?_⟩
    · unfold mX5_triggers
      rw [if_neg g2, eL]
      exact hT.wide (by omega) (by show _ ≤ (R 11 0 + 1).toInt + 1; omega) rfl rfl rfl rfl rfl
    · unfold mX5_triggers mX0_push
      rw [if_neg g2, if_pos g1, eL, n1, n2]
      have e9 : vp_nar .boolean 1 = 1 := by decide
      rw [e9]
      have hM : ((R 11 0 + 1).toInt + 1 : Int) = ((R 11 0).toInt + 1) + 1 := by omega
      show zQE sT (sE + 1) ((L 10 0).toInt + 1) ((R 11 0 + 1).toInt + 1) T _ _
      rw [hM]
      have e5 : (E 5 0 + 1).toInt = ((sE + 1 : Nat) : Int) := zinc a1 (by omega)
      have k0 : Int32.toInt 0 = 0 := by decide
      refine zQE_push (c := card) (b := 1) (p := player) (t := -1) (a := 0) (nid := L 10 0) (nm := R 11 0 + 1) hE h12 rfl eM b1 (by omega) ⟨⟨⟨by rw [zm1v]; omega, by rw [zm1v]; omega⟩, by rw [k0]; omega, by rw [k0]; omega⟩, Or.inr rfl, fun _ => ⟨hc, rfl⟩, ?_, fun _ _ _ => rfl, fun _ => zTg.none dT1 dT2, fun _ => zTg.none dE1 dE2⟩ hp rfl rfl rfl rfl rfl e5 (by show R 12 0 + 1 = E 5 0 + 1; rw [a3]) rfl rfl rfl rfl rfl rfl
      rcases hc with rfl | rfl | rfl | rfl <;> decide
    · unfold mX5_triggers
      rw [if_neg g2]
      refine ⟨⟨by omega, by omega⟩, ?_, ?_⟩
      · show 0 ≤ (R 11 0 + 1).toInt; omega
      · show (R 11 0 + 1).toInt ≤ B + 1; omega
    · unfold mX5_triggers
      rw [if_neg g2]
      intro c h
      rw [zsF_n _ _ (by omega), zsF_n _ _ (by omega), zsF_n _ _ (by omega), zsF_n _ _ (by omega), zsF_n _ _ (by omega)]
      unfold zsI
      rw [zsF_n _ _ (by omega), zsF_n _ _ (by omega)]
  · have g1 : ¬ (E 5 0) < 12 := fun h => by have := zt_lt h; omega
    have g2 : 12 ≤ (R 12 0) := Int32.le_iff_toInt_le.mpr (by rw [a3]; omega)
    refine ⟨sE, ⟨?_, ?_⟩, ?_, ?_⟩
    · unfold mX5_triggers
      rw [if_pos g2, eL]
      exact hT.wide (by omega) (by omega) rfl rfl rfl rfl rfl
    · unfold mX5_triggers mX0_push
      rw [if_pos g2, if_neg g1, eL]
      exact hE.wide (by omega) (by omega)
    · unfold mX5_triggers
      rw [if_pos g2]
      exact ⟨⟨by omega, by omega⟩, b3, by omega⟩
    · unfold mX5_triggers
      rw [if_pos g2]
      exact zFrR.refl R
