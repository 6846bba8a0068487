/-! the relation; a top resolved, a turn begun -/
def zCo (B : Int) (L T E M K R : zS_t) : Prop := (∃ sT sE n x : Nat, zAll sT sE L T E R ∧ zMm n x M K R) ∧ zNb B L R ∧ (R 0 0 = L 5 0 ∧ R 3 0 = L 8 0 ∧ R 4 0 = L 9 0 ∧ R 5 = L 0)
theorem zAll_l {sT sE : Nat} {L L' T E R : zS_t} (h : zAll sT sE L T E R) (hl : L' 10 0 = L 10 0) : zAll sT sE L' T E R := by
  unfold zAll at *
  rw [hl]
  exact h
theorem zresolve {B : Int} {L T E V M K R : zS_t} (hC : zCo B L T E M K R) (hIE : zIE E) (hIR : zIR R) (hB : B + 31 ≤ 50000000) (h0 : ¬ (E 5 0) ≤ 0) : ∀ Z W, mX4_resolveTop L T E V M K = Z → mX5_resolves R = W → zCo (B + 31) Z.1 Z.2.1 Z.2.2.1 Z.2.2.2.2.1 Z.2.2.2.2.2 W ∧ W 1 0 = Z.1 6 0 ∧ (W 2 0 = 0 ∧ Z.1 7 0 = 0) ∧ W 26 = R 26 := by
  intro Z W hZ hW
  obtain ⟨⟨sT, sE, n, x, hA, hM⟩, hb, c0, c3, c4, c5⟩ := hC
  obtain ⟨⟨a1, a2, a3⟩, -⟩ := id hA.2
  have k0 : Int32.toInt 0 = 0 := by decide
  have k1 : Int32.toInt 1 = 1 := by decide
  have := zt_nle h0
  obtain ⟨s, hs⟩ : ∃ s : Nat, sE = s + 1 := ⟨sE - 1, by omega⟩
  subst hs
  obtain ⟨-, -, -, ⟨r0, r2⟩, -, hb14, -⟩ := id hIR
  obtain ⟨t, ht⟩ : ∃ t : Nat, (R 0 0).toInt = t := ⟨(R 0 0).toInt.toNat, by omega⟩
  have e5 : (E 5 0 - 1).toInt = (s : Int) := by rw [zt_sub (by omega) (by omega)]; omega
  have n5 := zncl e5
  have n12 : (R 12 0 - 1).toNatClampNeg = s := by rw [a3]; exact n5
  unfold mX4_resolveTop at hZ
  unfold mX5_resolves at hW
  simp only [zbe] at hZ hW
  rw [if_pos (Int32.le_iff_toInt_le.mpr (by omega)), n5] at hZ
  rw [n12] at hW
  obtain ⟨E9, hE9⟩ : ∃ z, mX0_remove (E 5 0 - 1) E = z := ⟨_, rfl⟩
  rw [hE9] at hZ
  obtain ⟨Z1, hZ1⟩ : ∃ z, mX4_resolveTop_S66 (E 0 s) (E 1 s) (E 2 s) (E 3 s) L T E9 V = z := ⟨_, rfl⟩
  rw [hZ1] at hZ
  simp only [zbe3, zbe4, zbe5] at hZ
  obtain ⟨Y, hY⟩ : ∃ z, mX4_raiseTriggers Z1.1 Z1.2.1 Z1.2.2.1 Z1.2.2.2.1 Z1.2.2.2.2 = z := ⟨_, rfl⟩
  rw [hY] at hZ
  obtain ⟨W1, hW1⟩ : ∃ z, mX5_resolves_S40 (R 13 s) (R 15 s) (R 17 s) (zsI R 12 (R 12 0 - 1)) = z := ⟨_, rfl⟩
  rw [hW1] at hW
  obtain ⟨sT1, sE1, q1, q2, q3, q4, q5⟩ := ztop (V := V) (by omega) ht c0.symm hA hb hB hIE.2 hb14 E9 Z1 Y W1 hE9 hZ1 hY hW1
  have hM1 : zMm n x M K W1 := hM.cong (q4 23 (by omega)) (q4 24 (by omega))
  obtain ⟨Z2, hZ2⟩ : ∃ z, mX4_breakLoop Y.1 Z1.2.2.1 Y.2.1 M K = z := ⟨_, rfl⟩
  rw [hZ2] at hZ
  obtain ⟨W2, hW2⟩ : ∃ z, mX5_remembers W1 = z := ⟨_, rfl⟩
  rw [hW2] at hW
  obtain ⟨sE2, n2, x2, p1, p2, p3, p4, p5⟩ := zbreak q1 hM1 (by rw [q4 4 (by omega), q3 9 (by omega) (by omega)]; exact c4) Z2 W2 hZ2 hW2
  subst hZ
  subst hW
  have h05 : W2 0 0 = Z2.1 5 0 := by rw [p5 0 (by omega), q4 0 (by omega), p4 5 (by omega), q3 5 (by omega) (by omega)]; exact c0
  refine ⟨⟨⟨sT1, sE2, n2, x2, zAll_l (zAll_c p1 (fun c h5 h18 => ?_)) rfl, p2.cong rfl rfl⟩, ?_, h05, ?_, p3, ?_⟩, h05, ⟨rfl, rfl⟩, ?_⟩
  · unfold zsI
    rw [zsF_n _ _ (by omega), zsF_n _ _ (by omega)]
  · show (0 ≤ (Z2.1 10 0).toInt ∧ (Z2.1 10 0).toInt ≤ B + 31) ∧ 0 ≤ (W2 11 0).toInt ∧ (W2 11 0).toInt ≤ B + 31
    rw [p4 10 (by omega), p5 11 (by omega)]
    exact q2
  · show W2 3 0 = Z2.1 8 0
    rw [p5 3 (by omega), q4 3 (by omega), p4 8 (by omega), q3 8 (by omega) (by omega)]
    exact c3
  · show W2 5 = Z2.1 0
    rw [p5 5 (by omega), p4 0 (by omega)]
    exact q5 c5
  · show W2 26 = R 26
    rw [p5 26 (by omega), q4 26 (by omega)]
theorem zbegin {B : Int} {L T E V M K R : zS_t} (hC : zCo B L T E M K R) (hIR : zIR R) (hB : B + 31 ≤ 50000000) : ∀ Z W, mX4_beginTurn L T E V M = Z → mX5_begins R = W → zCo (B + 31) Z.1 T Z.2.1 Z.2.2.2 K W ∧ W 1 0 = Z.1 6 0 ∧ (W 2 = R 2 ∧ Z.1 7 0 = 0) := by
  intro Z W hZ hW
  obtain ⟨⟨sT, sE, n, x, hA, hM⟩, hb, c0, c3, c4, c5⟩ := hC
  have k0 : Int32.toInt 0 = 0 := by decide
  have k1 : Int32.toInt 1 = 1 := by decide
  obtain ⟨-, -, -, ⟨r0, r2⟩, -, -, -⟩ := id hIR
  obtain ⟨t, ht⟩ : ∃ t : Nat, (R 0 0).toInt = t := ⟨(R 0 0).toInt.toNat, by omega⟩
  have e1 := znext (p := L 5 0) (t := t) (j := 0) (by rw [← c0, ht]; omega)
  have e2 := zrem3 (a := R 0 0) (b := 1) (t := t) (j := 1) ht k1 (by omega) (by omega)
  have e3 : ((R 0 0) + 1) - ((R 0 0) + 1) / 3 * 3 = mX4_nextPlayer (L 5 0) := Int32.toInt_inj.mp (e2.trans e1.symm)
  unfold mX4_beginTurn at hZ
  unfold mX5_begins at hW
  rw [e3] at hW
  obtain ⟨p, hp⟩ : ∃ z, mX4_nextPlayer (L 5 0) = z := ⟨_, rfl⟩
  rw [hp] at hZ hW e1
  have hp3 : 0 ≤ p.toInt ∧ p.toInt < 3 := by omega
  obtain ⟨t1, ht1⟩ : ∃ t1 : Nat, p.toInt = t1 := ⟨p.toInt.toNat, by omega⟩
  simp only [zbe, zbe2, zbe3] at hZ hW
  rw [zpay hp3] at hZ
  obtain ⟨L1, hL1⟩ : ∃ z, (zsF (zsI (zsI (zsI (zsI L 5 p) 6 p) 7 0) 8 ((L 8 0) + 1)) 0 (upd ((zsI (zsI (zsI (zsI L 5 p) 6 p) 7 0) 8 ((L 8 0) + 1)) 0) p.toNatClampNeg (((zsI (zsI (zsI (zsI L 5 p) 6 p) 7 0) 8 ((L 8 0) + 1)) 0 p.toNatClampNeg) + 3))) = z := ⟨_, rfl⟩
  rw [hL1] at hZ
  obtain ⟨R1, hR1⟩ : ∃ z, (zsI (zsF (zsI (zsI (zsI R 0 p) 1 p) 3 ((R 3 0) + 1)) 5 (upd (R 5) p.toNatClampNeg ((R 5 p.toNatClampNeg) + 3))) 23 0) = z := ⟨_, rfl⟩
  rw [hR1] at hW
  have l10 : L1 10 0 = L 10 0 := by rw [← hL1]; rfl
  have rc : ∀ c : Nat, 5 < c → c < 18 → R1 c = R c := fun c h5 h18 => by
    rw [← hR1]
    unfold zsI
    rw [zsF_n _ _ (by omega), zsF_n _ _ (by omega), zsF_n _ _ (by omega), zsF_n _ _ (by omega), zsF_n _ _ (by omega)]
  have hA1 : zAll sT sE L1 T E R1 := zAll_l (zAll_c hA rc) l10
  have hb1 : zNb B L1 R1 := by unfold zNb; rw [l10, rc 11 (by omega) (by omega)]; exact hb
  obtain ⟨W2, hW2⟩ : ∃ z, (mX5_begins_L55 11 0 (mX5_lays 5 R1)).2 = z := ⟨_, rfl⟩
  rw [hW2] at hW
  obtain ⟨Z2, hZ2⟩ : ∃ z, mX4_raiseTriggers 3 L1 T E V = z := ⟨_, rfl⟩
  rw [hZ2] at hZ
  have R10 : R1 0 0 = p := by rw [← hR1]; rfl
  have L15 : L1 5 0 = p := by rw [← hL1]; rfl
  obtain ⟨sE1, q1, q2, q3, q4⟩ := zraise3 (t := t1) (V := V) (by omega) (by rw [R10]; exact ht1) (by rw [L15, R10]) hA1 hb1 (by omega) Z2 W2 hZ2 hW2
  subst hZ
  subst hW
  refine ⟨⟨⟨sT, sE1, 0, 0, q1, zMm.none rfl rfl (by rw [q4 23 (by omega), ← hR1]; rfl)⟩, q2.mono (by omega), ?_, ?_, ?_, ?_⟩, ?_, ?_, ?_⟩
  · show W2 0 0 = Z2.1 5 0
    rw [q4 0 (by omega), q3 5 (by omega), R10, L15]
  · show W2 3 0 = Z2.1 8 0
    rw [q4 3 (by omega), q3 8 (by omega), ← hR1, ← hL1]
    show R 3 0 + 1 = L 8 0 + 1
    rw [c3]
  · show W2 4 0 = Z2.1 9 0
    rw [q4 4 (by omega), q3 9 (by omega), ← hR1, ← hL1]
    exact c4
  · show W2 5 = Z2.1 0
    rw [q4 5 (by omega), q3 0 (by omega), ← hR1, ← hL1]
    show upd (R 5) p.toNatClampNeg (R 5 p.toNatClampNeg + 3) = upd (L 0) p.toNatClampNeg (L 0 p.toNatClampNeg + 3)
    rw [c5]
  · show W2 1 0 = Z2.1 6 0
    rw [q4 1 (by omega), q3 6 (by omega), ← hR1, ← hL1]
    rfl
  · show W2 2 = R 2
    rw [q4 2 (by omega), ← hR1]
    rfl
  · show Z2.1 7 0 = 0
    rw [q3 7 (by omega), ← hL1]
    rfl
def zRl (n : Nat) (L T E _V M K R : zS_t) : Prop := zCo (2000 * (n : Int)) L T E M K R ∧ (R 1 0 = L 6 0 ∧ R 2 0 = L 7 0 ∧ 0 ≤ (L 7 0).toInt ∧ (L 7 0).toInt ≤ 2) ∧ zIT T ∧ zIE E ∧ zIM M ∧ zIR R
theorem zCo.mono {B B' : Int} {L T E M K R : zS_t} (h : zCo B L T E M K R) (hB : B ≤ B') : zCo B' L T E M K R := by
  obtain ⟨h1, h2, h3⟩ := h
  exact ⟨h1, h2.mono hB, h3⟩
theorem zRl.mono {n : Nat} {L T E V M K R : zS_t} (h : zRl n L T E V M K R) : zRl (n + 1) L T E V M K R := by
  obtain ⟨h1, h2⟩ := h
  exact ⟨h1.mono (by omega), h2⟩
theorem zRl.ir {n : Nat} {L T E V M K R : zS_t} (h : zRl n L T E V M K R) : zIR R := h.2.2.2.2.2
theorem zCo.cong {B : Int} {L L' T E M K R R' : zS_t} (h : zCo B L T E M K R) (hl : ∀ c : Nat, c ≠ 6 → c ≠ 7 → L' c = L c) (hc : ∀ c : Nat, c < 18 ∧ c ≠ 1 ∧ c ≠ 2 ∨ c = 23 ∨ c = 24 → R' c = R c) : zCo B L' T E M K R' := by
  obtain ⟨⟨sT, sE, n, x, hA, hM⟩, hb, c0, c3, c4, c5⟩ := h
  refine ⟨⟨sT, sE, n, x, zAll_l (zAll_c hA (fun c h5 h18 => hc c (by omega))) (by rw [hl 10 (by omega) (by omega)]), hM.cong (hc 23 (by omega)) (hc 24 (by omega))⟩, ?_, ?_, ?_, ?_, ?_⟩
  · unfold zNb; rw [hc 11 (by omega), hl 10 (by omega) (by omega)]; exact hb
  · rw [hc 0 (by omega), hl 5 (by omega) (by omega)]; exact c0
  · rw [hc 3 (by omega), hl 8 (by omega) (by omega)]; exact c3
  · rw [hc 4 (by omega), hl 9 (by omega) (by omega)]; exact c4
  · rw [hc 5 (by omega), hl 0 (by omega) (by omega)]; exact c5
theorem zRl.q {n : Nat} {L T E V V' M K R R' : zS_t} (h : zRl n L T E V M K R) (hc : ∀ c : Nat, c < 18 ∨ c = 23 ∨ c = 24 → R' c = R c) (hI : zIR R') : zRl (n + 1) L T E V' M K R' := by
  obtain ⟨h1, ⟨h2, h3, h4⟩, h5, h6, h7, -⟩ := h
  exact ⟨(h1.cong (fun _ _ _ => rfl) (fun c h9 => hc c (by omega))).mono (by omega), ⟨by rw [hc 1 (by omega)]; exact h2, by rw [hc 2 (by omega)]; exact h3, h4⟩, h5, h6, h7, hI⟩
theorem zRl.t {n : Nat} {L T E V V' M K R : zS_t} {v : Int32} (h : zRl n L T E V M K R) (hI : zIR (zsI R 26 v)) : zRl (n + 1) L T E V' M K (zsI R 26 v) := h.q (fun c hc => zsF_n R _ (by omega)) hI
theorem zRl.inv : zHinv zRl := fun _ _ _ _ _ _ _ _ h => ⟨h.2.2.1, h.2.2.2.1, h.2.2.2.2.1, h.2.2.2.2.2⟩
