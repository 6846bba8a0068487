/-! what stands in a card's way, and a card played -/
set_option maxRecDepth 100000 in
theorem zcost0 : ∀ c : Fin 14, mX4_costOf (Int32.ofNat c.1) = mX5_cost (Int32.ofNat c.1) := by decide +kernel
theorem zcost {c : Int32} (h : 0 ≤ c.toInt ∧ c.toInt < 14) : mX4_costOf c = mX5_cost c := by
  obtain ⟨n, hn⟩ : ∃ n : Nat, c.toInt = n := ⟨c.toInt.toNat, by omega⟩
  rw [zofn hn (by omega)]
  exact zcost0 ⟨n, by omega⟩
theorem zhtg {sT sE : Nat} {L T E R : zS_t} (hA : zAll sT sE L T E R) (c tg : Int32) : (mX4_hasTarget c tg T E = 0 ∧ (mX5_obstacleOf_S44 c tg R = 0 ∨ mX5_obstacleOf_S76 c tg R = 0)) ∨ (mX4_hasTarget c tg T E = 1 ∧ mX5_obstacleOf_S44 c tg R = 1 ∧ mX5_obstacleOf_S76 c tg R = 1) := by
  obtain ⟨⟨t1, t2, t3⟩, -⟩ := id hA.1
  obtain ⟨⟨a1, a2, a3⟩, b1, -, -, -, f1⟩ := id hA.2
  by_cases c7 : c = 7
  · have n13 : ¬ c = 13 := by rw [c7]; decide
    have s76 : mX5_obstacleOf_S76 c tg R = 1 := by
      unfold mX5_obstacleOf_S76
      rw [if_neg n13]
    have hq : mX4_hasTarget c tg T E = mX2_has tg T := by
      unfold mX4_hasTarget
      rw [if_pos c7]
      rfl
    have s44 : mX5_obstacleOf_S44 c tg R = if mX5_isIn tg 0 (R 6 0 - 1) = 0 then 0 else 1 := by
      unfold mX5_obstacleOf_S44
      rw [if_pos c7]
      rfl
    rcases zplin t1 t2 t3 tg with ⟨g1, g2⟩ | ⟨g1, g2, -⟩
    · exact Or.inl ⟨hq.trans g1, Or.inl (by rw [s44, g2, if_pos rfl])⟩
    · exact Or.inr ⟨hq.trans g1, by rw [s44, g2, if_neg (by decide)], s76⟩
  by_cases c12 : c = 12
  · have n13 : ¬ c = 13 := by rw [c12]; decide
    have s76 : mX5_obstacleOf_S76 c tg R = 1 := by
      unfold mX5_obstacleOf_S76
      rw [if_neg n13]
    have hq : mX4_hasTarget c tg T E = mX2_has tg T := by
      unfold mX4_hasTarget
      rw [if_neg c7, if_pos c12]
      rfl
    have s44 : mX5_obstacleOf_S44 c tg R = if mX5_isIn tg 0 (R 6 0 - 1) = 0 then 0 else 1 := by
      unfold mX5_obstacleOf_S44
      rw [if_neg c7, if_pos c12]
      rfl
    rcases zplin t1 t2 t3 tg with ⟨g1, g2⟩ | ⟨g1, g2, -⟩
    · exact Or.inl ⟨hq.trans g1, Or.inl (by rw [s44, g2, if_pos rfl])⟩
    · exact Or.inr ⟨hq.trans g1, by rw [s44, g2, if_neg (by decide)], s76⟩
  have s44 : mX5_obstacleOf_S44 c tg R = 1 := by
    unfold mX5_obstacleOf_S44
    rw [if_neg c7, if_neg c12]
  by_cases c13 : c = 13
  · have hq : mX4_hasTarget c tg T E = if mX0_has tg E = 0 then 0 else (if (E 1 (mX0_indexOf tg E).toNatClampNeg) = 0 then 1 else 0) := by
      unfold mX4_hasTarget
      rw [if_neg c7, if_neg c12, if_pos c13]
      rfl
    have s76 : mX5_obstacleOf_S76 c tg R = if mX5_isIn tg 0 (R 12 0 - 1) = 0 then 0 else (if (R 14 (((R 12 0) - 1) - tg).toNatClampNeg) = 0 then 1 else 0) := by
      unfold mX5_obstacleOf_S76
      rw [if_pos c13]
      rfl
    rcases zenin a1 a2 a3 tg with ⟨g1, g2⟩ | ⟨g1, g2, g3, j, hj, hp⟩
    · exact Or.inl ⟨by rw [hq, g1, if_pos rfl], Or.inr (by rw [s76, g2, if_pos rfl])⟩
    · rw [g1, if_neg (by decide), zncl hp] at hq
      rw [g2, if_neg (by decide), ← g3, zncl hp, (b1 j hj).2.1] at s76
      rcases (f1 j hj).2.1 with q | q
      · rw [q, if_pos rfl] at hq s76
        exact Or.inr ⟨hq, s44, s76⟩
      · rw [q, if_neg (by decide)] at hq s76
        exact Or.inl ⟨hq, Or.inr s76⟩
  · refine Or.inr ⟨?_, s44, ?_⟩
    · unfold mX4_hasTarget
      rw [if_neg c7, if_neg c12, if_neg c13]
    · unfold mX5_obstacleOf_S76
      rw [if_neg c13]
theorem ztail {sT sE : Nat} {L T E R : zS_t} (hA : zAll sT sE L T E R) (c tg : Int32) : (if mX5_obstacleOf_S44 c tg R = 0 then (3 : Int32) else (if mX5_obstacleOf_S76 c tg R = 0 then 3 else (if (R 12 0) = 12 then 4 else 0))) = (if mX4_hasTarget c tg T E = 0 then 3 else (if (E 5 0) < 12 then 0 else 4)) := by
  obtain ⟨⟨a1, a2, a3⟩, -⟩ := id hA.2
  have k12 : Int32.toInt 12 = 12 := by decide
  rcases zhtg hA c tg with ⟨g1, g2⟩ | ⟨g1, g2, g3⟩
  · rw [if_pos g1]
    by_cases h : mX5_obstacleOf_S44 c tg R = 0
    · rw [if_pos h]
    · rw [if_neg h]
      rcases g2 with g2 | g2
      · exact absurd g2 h
      · rw [if_pos g2]
  · have n1 : ¬ mX4_hasTarget c tg T E = 0 := by rw [g1]; decide
    have n2 : ¬ mX5_obstacleOf_S44 c tg R = 0 := by rw [g2]; decide
    have n3 : ¬ mX5_obstacleOf_S76 c tg R = 0 := by rw [g3]; decide
    rw [if_neg n1, if_neg n2, if_neg n3, a3]
    by_cases h : E 5 0 < 12
    · have := zt_lt h
      rw [if_pos h, if_neg (fun e => by rw [e] at this; omega)]
    · have := zt_nlt h
      rw [if_neg h, if_pos (Int32.toInt_inj.mp (by omega))]
theorem zobst {sT sE : Nat} {L T E R : zS_t} {c : Int32} (tg : Int32) (hA : zAll sT sE L T E R) (hc : 0 ≤ c.toInt ∧ c.toInt < 14) (h0 : R 0 0 = L 5 0) (h1 : R 1 0 = L 6 0) (h5 : R 5 = L 0) (hr : 0 ≤ (R 1 0).toInt ∧ (R 1 0).toInt ≤ 2) : mX5_obstacleOf c tg R = mX4_findObstacle c tg L T E := by
  obtain ⟨⟨a1, a2, a3⟩, -⟩ := id hA.2
  have k0 : Int32.toInt 0 = 0 := by decide
  have k3 : Int32.toInt 3 = 3 := by decide
  have hco : mX4_coinsOf (L 6 0) L = R 5 (R 1 0).toNatClampNeg := by
    unfold mX4_coinsOf
    rw [← h1, if_neg (fun h => by have := zt_lt h; omega), if_neg (fun h => by have := zt_le h; omega), h5]
  unfold mX5_obstacleOf mX4_findObstacle mX4_isThing
  simp only [zbe]
  rw [hco, zcost hc, ztail hA c tg]
  by_cases g : 12 ≤ c
  · rw [if_pos g, if_pos g, if_pos rfl]
  · have h10 : ¬ (1 : Int32) = 0 := by decide
    rw [if_neg g, if_neg g, if_neg h10, a3, h0, h1]
theorem zobv {L T E : zS_t} {c tg : Int32} : (mX4_findObstacle c tg L T E = 0 ∧ mX4_hasTarget c tg T E ≠ 0 ∧ (E 5 0) < 12) ∨ (mX4_findObstacle c tg L T E = 1 ∨ mX4_findObstacle c tg L T E = 2 ∨ mX4_findObstacle c tg L T E = 3 ∨ mX4_findObstacle c tg L T E = 4) := by
  have key : ∀ x y : Int32, ((if y ≤ x then (if mX4_hasTarget c tg T E = 0 then (3 : Int32) else (if (E 5 0) < 12 then 0 else 4)) else 2) = 0 ∧ mX4_hasTarget c tg T E ≠ 0 ∧ (E 5 0) < 12) ∨ ((if y ≤ x then (if mX4_hasTarget c tg T E = 0 then (3 : Int32) else (if (E 5 0) < 12 then 0 else 4)) else 2) = 1 ∨ (if y ≤ x then (if mX4_hasTarget c tg T E = 0 then (3 : Int32) else (if (E 5 0) < 12 then 0 else 4)) else 2) = 2 ∨ (if y ≤ x then (if mX4_hasTarget c tg T E = 0 then (3 : Int32) else (if (E 5 0) < 12 then 0 else 4)) else 2) = 3 ∨ (if y ≤ x then (if mX4_hasTarget c tg T E = 0 then (3 : Int32) else (if (E 5 0) < 12 then 0 else 4)) else 2) = 4) := by
    intro x y
    by_cases h1 : y ≤ x
    · rw [if_pos h1]
      by_cases h2 : mX4_hasTarget c tg T E = 0
      · rw [if_pos h2]
        exact Or.inr (Or.inr (Or.inr (Or.inl rfl)))
      · rw [if_neg h2]
        by_cases h3 : E 5 0 < 12
        · rw [if_pos h3]
          exact Or.inl ⟨rfl, h2, h3⟩
        · rw [if_neg h3]
          exact Or.inr (Or.inr (Or.inr (Or.inr rfl)))
    · rw [if_neg h1]
      exact Or.inr (Or.inr (Or.inl rfl))
  unfold mX4_findObstacle mX4_isThing
  simp only [zbe]
  by_cases g : 12 ≤ c
  · rw [if_pos g, if_pos rfl]
    exact key _ _
  · rw [if_neg g, if_neg (by decide)]
    by_cases g1 : 0 < E 5 0
    · rw [if_pos g1]
      exact Or.inr (Or.inl rfl)
    · rw [if_neg g1]
      by_cases g2 : L 6 0 = L 5 0
      · rw [if_pos g2]
        exact key _ _
      · rw [if_neg g2]
        exact Or.inr (Or.inl rfl)
theorem zRl.core {n : Nat} {L T E V M K R : zS_t} (h : zRl n L T E V M K R) : R 0 0 = L 5 0 ∧ R 1 0 = L 6 0 ∧ R 5 = L 0 ∧ 0 ≤ (R 1 0).toInt ∧ (R 1 0).toInt ≤ 2 := by
  obtain ⟨⟨-, -, c0, c3, c4, c5⟩, ⟨h1, -⟩, -, -, -, iR⟩ := h
  exact ⟨c0, h1, c5, iR.2.2.2.2.1⟩
theorem zag_obstacle : zAg_obstacle zRl := by
  intro n card target L T E V M K R hn h X Y hX hY
  have h5 := pp_X5_obstacle card target R h.ir
  rw [hY] at h5
  obtain ⟨sT, sE, hA⟩ := h.all
  obtain ⟨c0, c1, c5, cr⟩ := h.core
  have k0 : Int32.toInt 0 = 0 := by decide
  have k13 : Int32.toInt 13 = 13 := by decide
  have k14 : Int32.toInt 14 = 14 := by decide
  unfold mX4_obstacle at hX
  unfold mX5_obstacle at hY
  simp only [zbe] at hX hY
  by_cases g1 : card < 0
  · have := zt_lt g1
    rw [if_pos g1] at hX
    rw [zisin0 (Or.inl (by omega)), if_pos rfl] at hY
    subst hX
    subst hY
    exact ⟨rfl, fun e => (by cases e), h.t h5⟩
  · have := zt_nlt g1
    rw [if_neg g1] at hX
    by_cases g2 : card < 14
    · have := zt_lt g2
      rw [if_pos g2] at hX
      rw [zisin1 (by omega) (by omega), if_neg (by decide)] at hY
      have hA1 : zAll sT sE L T E (zsI R 26 0) := zAll_c hA (fun c _ hc => zsF_n _ _ (by omega))
      rw [zobst (R := zsI R 26 0) target hA1 ⟨by omega, by omega⟩ c0 c1 c5 cr] at hY
      subst hX
      subst hY
      exact ⟨rfl, fun _ => rfl, h.t h5⟩
    · have := zt_nlt g2
      rw [if_neg g2] at hX
      rw [zisin0 (Or.inr (by omega)), if_pos rfl] at hY
      subst hX
      subst hY
      exact ⟨rfl, fun e => (by cases e), h.t h5⟩
/-- the names of the target, in the game and in the reference -/
theorem ztname {sT sE : Nat} {L T E R : zS_t} {B : Int} {c tg : Int32} (hA : zAll sT sE L T E R) (hb : zNb B L R) (hc : 0 ≤ c.toInt ∧ c.toInt < 14) (ht : mX4_hasTarget c tg T E ≠ 0) (w : Int32) (hw : (c = 7 ∨ c = 12 → w = R 9 tg.toNatClampNeg) ∧ (c = 13 → w = R 16 (((R 12 0) - 1) - tg).toNatClampNeg) ∧ (c ≠ 7 → c ≠ 12 → c ≠ 13 → w = 0)) : zQe sT sE T E R (L 10 0).toInt ((R 11 0).toInt + 1) c 0 (mX4_targetId c tg T E) w := by
  obtain ⟨⟨t1, t2, t3⟩, -, -, dT1, dT2, -⟩ := id hA.1
  obtain ⟨⟨a1, a2, a3⟩, b1, -, dE1, dE2, f1⟩ := id hA.2
  obtain ⟨w1, w2, w3⟩ := hw
  have k0 : Int32.toInt 0 = 0 := by decide
  obtain ⟨⟨n0, -⟩, n1, -⟩ := id hb
  have hth : (c = 7 ∨ c = 12) → mX2_has tg T = 1 → mX4_targetId c tg T E = T 3 tg.toNatClampNeg := fun h7 hh => by
    unfold mX4_targetId
    simp only [zbe]
    rcases h7 with h7 | h7
    · rw [if_pos h7, hh, if_neg (by decide)]
    · rw [if_neg (by rw [h7]; decide), if_pos h7, hh, if_neg (by decide)]
  by_cases h7 : c = 7 ∨ c = 12
  · have hh : mX2_has tg T = 1 ∧ ∃ j : Nat, j < sT ∧ tg.toInt = j := by
      rcases zplin (R := R) t1 t2 t3 tg with ⟨g1, -⟩ | ⟨g1, -, g3⟩
      · exfalso
        apply ht
        unfold mX4_hasTarget
        simp only [zbe]
        rcases h7 with h7 | h7
        · rw [if_pos h7, g1]
        · rw [if_neg (by rw [h7]; decide), if_pos h7, g1]
      · exact ⟨g1, g3⟩
    obtain ⟨hh, j, hj, hp⟩ := hh
    rw [hth h7 hh, w1 h7, zncl hp]
    have d1 := dT1.2 j hj
    have d2 := dT2.2 j hj
    have n13 : c ≠ 13 := by
      rcases h7 with h7 | h7 <;> rw [h7] <;> decide
    refine ⟨⟨⟨by omega, by omega⟩, by omega, by omega⟩, Or.inl rfl, fun e => absurd e (by decide), hc, fun e1 e2 => ?_, fun _ i hi => ⟨fun e => ?_, fun e => ?_⟩, fun e => absurd e n13⟩
    · rcases h7 with h7 | h7
      · exact absurd h7 e1
      · exact absurd h7 e2
    · rw [dT1.1 i j hi hj e]
    · rw [dT2.1 i j hi hj e]
  · have c7 : ¬ c = 7 := fun e => h7 (Or.inl e)
    have c12 : ¬ c = 12 := fun e => h7 (Or.inr e)
    by_cases c13 : c = 13
    · have hh : mX0_has tg E = 1 ∧ mX0_indexOf tg E = ((R 12 0) - 1) - tg ∧ ∃ j : Nat, j < sE ∧ (mX0_indexOf tg E).toInt = j := by
        rcases zenin (R := R) a1 a2 a3 tg with ⟨g1, -⟩ | ⟨g1, -, g3⟩
        · exfalso
          apply ht
          unfold mX4_hasTarget
          simp only [zbe]
          rw [if_neg c7, if_neg c12, if_pos c13, g1, if_pos rfl]
        · exact ⟨g1, g3⟩
      obtain ⟨hh, hix, j, hj, hp⟩ := hh
      have e1 : mX4_targetId c tg T E = E 4 j := by
        unfold mX4_targetId
        simp only [zbe]
        rw [if_neg c7, if_neg c12, if_pos c13, hh, if_neg (by decide), zncl hp]
      rw [e1, w2 c13, ← hix, zncl hp]
      have d1 := dE1.2 j hj
      have d2 := dE2.2 j hj
      refine ⟨⟨⟨by omega, by omega⟩, by omega, by omega⟩, Or.inl rfl, fun e => absurd e (by decide), hc, fun _ _ e => absurd c13 e, fun e => absurd c13 e, fun _ i hi => ⟨fun e => ?_, fun e => ?_⟩⟩
      · rw [dE1.1 i j hi hj e]
      · rw [dE2.1 i j hi hj e]
    · have e1 : mX4_targetId c tg T E = -1 := by
        unfold mX4_targetId
        rw [if_neg c7, if_neg c12, if_neg c13]
      rw [e1, w3 c7 c12 c13]
      exact ⟨⟨⟨by rw [zm1v]; omega, by rw [zm1v]; omega⟩, by rw [k0]; omega, by rw [k0]; omega⟩, Or.inl rfl, fun e => absurd e (by decide), hc, fun _ _ _ => rfl, fun _ => zTg.none dT1 dT2, fun e => absurd e c13⟩
theorem zag_play : zAg_play zRl := by
  intro n card target L T E V M K R hn h X Y hX hY
  have h4 := pp_X4_play card target L T E M h.2.2.1 h.2.2.2.1 h.2.2.2.2.1
  have h5 := pp_X5_play card target R h.ir
  rw [hX] at h4
  rw [hY] at h5
  obtain ⟨c0, c1, c5, cr⟩ := h.core
  have k0 : Int32.toInt 0 = 0 := by decide
  have k1 : Int32.toInt 1 = 1 := by decide
  have k2 : Int32.toInt 2 = 2 := by decide
  have k12 : Int32.toInt 12 = 12 := by decide
  have k13 : Int32.toInt 13 = 13 := by decide
  have k14 : Int32.toInt 14 = 14 := by decide
  unfold mX4_play at hX
  unfold mX5_play at hY
  simp only [zbe] at hY
  by_cases g1 : card < 0
  · have := zt_lt g1
    rw [if_pos g1] at hX
    rw [zisin0 (Or.inl (by omega)), if_pos rfl] at hY
    subst hX
    subst hY
    exact ⟨rfl, fun e => (by cases e), h.t h5⟩
  have := zt_nlt g1
  rw [if_neg g1] at hX
  by_cases g2 : card < 14
  · have := zt_lt g2
    rw [if_pos g2] at hX
    rw [zisin1 (by omega) (by omega), if_neg (by decide)] at hY
    obtain ⟨⟨⟨sT, sE, n9, x, hA, hM⟩, hb, d0, d3, d4, d5⟩, ⟨p1, p2, p3, p4⟩, iT, iE, iM, iR⟩ := id h
    have hA1 : zAll sT sE L T E (zsI R 26 0) := zAll_c hA (fun c _ hc => zsF_n _ _ (by omega))
    have hc14 : 0 ≤ card.toInt ∧ card.toInt < 14 := ⟨by omega, by omega⟩
    rw [zobst (R := zsI R 26 0) target hA1 hc14 c0 c1 c5 cr] at hY
    rcases zobv (L := L) (T := T) (E := E) (c := card) (tg := target) with ⟨q1, q2, q3⟩ | q1
    · simp only [zbe, zbe2] at hX
      rw [q1, if_pos rfl] at hX
      rw [q1, if_pos (by decide)] at hY
      obtain ⟨⟨a1, a2, a3⟩, -⟩ := id hA.2
      have hlt := zt_lt q3
      have hp3 : 0 ≤ (L 6 0).toInt ∧ (L 6 0).toInt < 3 := by rw [← c1]; omega
      rw [zpay hp3] at hX
      have nE := zncl a1
      have nR : (R 12 0).toNatClampNeg = sE := by rw [a3]; exact nE
      have hpush : ∀ a b c d : Int32, mX0_push a 0 b c d E = zsI (zsF (zsF (zsF (zsF (zsF E 0 (upd (E 0) sE a)) 1 (upd (E 1) sE (vp_nar .boolean 0))) 2 (upd (E 2) sE b)) 3 (upd (E 3) sE c)) 4 (upd (E 4) sE d)) 5 ((E 5 0) + 1) := fun a b c d => by
        unfold mX0_push
        rw [if_pos q3, nE]
      unfold mX4_newId at hX
      simp only [zbe] at hX
      rw [hpush] at hX
      obtain ⟨w, hw⟩ : ∃ w, mX5_play_S135 card target (zsF (zsF (zsI (zsF (zsF (zsI (zsF R 5 (upd (R 5) (R 1 0).toNatClampNeg ((R 5 (R 1 0).toNatClampNeg) - mX5_cost card))) 26 0) 13 (upd (R 13) sE card)) 14 (upd (R 14) sE (vp_nar .boolean 0))) 11 ((R 11 0) + 1)) 15 (upd (R 15) sE (R 1 0))) 16 (upd (R 16) sE ((R 11 0) + 1))) = w := ⟨_, rfl⟩
      have hY2 : ((R 12 0) + 1, (zsI (zsF (zsI (zsI (zsI (zsF (zsF (zsI (zsF (zsF (zsI (zsF R 5 (upd (R 5) (R 1 0).toNatClampNeg ((R 5 (R 1 0).toNatClampNeg) - mX5_cost card))) 26 0) 13 (upd (R 13) sE card)) 14 (upd (R 14) sE (vp_nar .boolean 0))) 11 ((R 11 0) + 1)) 15 (upd (R 15) sE (R 1 0))) 16 (upd (R 16) sE ((R 11 0) + 1))) 1 (((R 1 0) + 1) - ((R 1 0) + 1) / 3 * 3)) 2 0) 12 ((R 12 0) + 1)) 17 (upd (R 17) sE w)) 23 0)) = Y := by
        rw [← hY, ← hw, ← nR]
        rfl
      clear hY
      have hM1 : (R 11 0 + 1).toInt = (R 11 0).toInt + 1 := zi1 hb.2.1 (by have := hb.2.2; omega)
      have hL1 : (L 10 0 + 1).toInt = (L 10 0).toInt + 1 := zi1 hb.1.1 (by have := hb.1.2; omega)
      have hq : zQe sT sE T E R (L 10 0).toInt ((R 11 0).toInt + 1) card 0 (mX4_targetId card target T E) w := by
        refine ztname hA hb hc14 q2 w ⟨fun e => ?_, fun e => ?_, fun e1 e2 e3 => ?_⟩
        · rw [← hw]
          unfold mX5_play_S135
          rcases e with e | e
          · rw [if_pos e]; rfl
          · rw [if_neg (by rw [e]; decide), if_pos e]; rfl
        · rw [← hw]
          unfold mX5_play_S135
          rw [if_neg (by rw [e]; decide), if_neg (by rw [e]; decide), if_pos e]
          rcases zenin (R := R) a1 a2 a3 target with ⟨g1, -⟩ | ⟨-, -, g3, j, hj, hp⟩
          · exfalso
            apply q2
            unfold mX4_hasTarget
            simp only [zbe]
            rw [if_neg (by rw [e]; decide), if_neg (by rw [e]; decide), if_pos e, g1, if_pos rfl]
          · show upd (R 16) sE ((R 11 0) + 1) (((R 12 0) - 1) - target).toNatClampNeg = R 16 (((R 12 0) - 1) - target).toNatClampNeg
            rw [← g3, zncl hp, zup_o hj]
        · rw [← hw]
          unfold mX5_play_S135
          rw [if_neg e1, if_neg e2, if_neg e3]
      obtain ⟨-, -, -, -, ⟨r0, r2⟩, -, -⟩ := id iR
      obtain ⟨t, ht⟩ : ∃ t : Nat, (R 1 0).toInt = t := ⟨(R 1 0).toInt.toNat, by omega⟩
      have e2 := znext (p := L 6 0) (t := t) (j := 0) (by rw [← c1, ht]; omega)
      have e3 := zrem3 (a := R 1 0) (b := 1) (t := t) (j := 1) ht k1 (by omega) (by omega)
      have e4 : ((R 1 0) + 1) - ((R 1 0) + 1) / 3 * 3 = mX4_nextPlayer (L 6 0) := Int32.toInt_inj.mp (e3.trans e2.symm)
      have hM2 : ((R 11 0 + 1).toInt + 1 : Int) = ((R 11 0).toInt + 1) + 1 := by omega
      subst hX
      subst hY2
      refine ⟨rfl, fun _ => ?_, ⟨⟨sT, sE + 1, 0, 0, ⟨?_, ?_⟩, zMm.none rfl rfl rfl⟩, ?_, d0, d3, d4, ?_⟩, ⟨e4, rfl, by show 0 ≤ Int32.toInt 0; omega, by show Int32.toInt 0 ≤ 2; omega⟩, iT, h4.1, h4.2.1, h5⟩
      · show R 12 0 + 1 = E 5 0 + 1
        rw [a3]
      · show zQT sT (L 10 0 + 1).toInt ((R 11 0 + 1).toInt + 1) T _
        rw [hL1, hM2]
        exact hA.1.wide (by omega) (by omega) rfl rfl rfl rfl rfl
      · show zQE sT (sE + 1) (L 10 0 + 1).toInt ((R 11 0 + 1).toInt + 1) T _ _
        rw [hL1, hM2]
        have e9 : vp_nar .boolean 0 = 0 := by decide
        exact zQE_push (c := card) (b := 0) (p := L 6 0) (t := mX4_targetId card target T E) (a := w) (nid := L 10 0) (nm := R 11 0 + 1) hA.2 (by omega) rfl hM1 hb.1.1 (by have := hb.2.1; omega) hq hp3 rfl (by rw [← e9]; rfl) rfl rfl rfl (zinc a1 (by omega)) (by show R 12 0 + 1 = E 5 0 + 1; rw [a3]) rfl (by rw [← e9]; rfl) (by rw [← c1]; rfl) rfl rfl rfl
      · show (0 ≤ (L 10 0 + 1).toInt ∧ (L 10 0 + 1).toInt ≤ 2000 * ((n + 1 : Nat) : Int)) ∧ 0 ≤ (R 11 0 + 1).toInt ∧ (R 11 0 + 1).toInt ≤ 2000 * ((n + 1 : Nat) : Int)
        have := hb.1
        have := hb.2
        omega
      · show upd (R 5) (R 1 0).toNatClampNeg ((R 5 (R 1 0).toNatClampNeg) - mX5_cost card) = upd (L 0) (L 6 0).toNatClampNeg ((L 0 (L 6 0).toNatClampNeg) + -mX4_costOf card)
        rw [c1, c5, zcost hc14, Int32.sub_eq_add_neg]
    · have hne : ¬ mX4_findObstacle card target L T E = 0 ∧ ¬ mX4_findObstacle card target L T E ≤ 0 := by
        rcases q1 with q1 | q1 | q1 | q1 <;> rw [q1] <;> decide
      simp only [zbe, zbe2] at hX
      rw [if_neg hne.1] at hX
      rw [if_neg hne.2] at hY
      subst hX
      subst hY
      exact ⟨rfl, fun e => (by cases e), h.t h5⟩
  · have := zt_nlt g2
    rw [if_neg g2] at hX
    rw [zisin0 (Or.inr (by omega)), if_pos rfl] at hY
    subst hX
    subst hY
    exact ⟨rfl, fun e => (by cases e), h.t h5⟩
theorem zRl.ag : zAg zRl := ⟨zag_play, zag_obstacle, zag_pass, zag_settle, zag_turn, zag_acting, zag_rounds, zag_loops, zag_coins, zag_things, zag_cardOf, zag_controllerOf, zag_kindsOf, zag_strengthOf, zag_power, zag_stack, zag_entryCard, zag_isTrigger, zag_entryPlayer, zag_entryTarget⟩
/-- the two begin alike -/
theorem zRl.first : zRl 0 zL0 zZ zZ zZ zZ zZ zR0 := by
  have k0 : Int32.toInt 0 = 0 := by decide
  have hnar : vp_nar .boolean 0 = 0 := by decide
  have hnm : ∀ lo hi : Int, zNmd 0 (fun _ => (0 : Int32)) lo hi := fun lo hi => ⟨fun i j hi => absurd hi (by omega), fun j hj => absurd hj (by omega)⟩
  refine ⟨⟨⟨0, 0, 0, 0, ⟨?_, ?_⟩, zMm.none rfl rfl rfl⟩, ?_, rfl, rfl, rfl, rfl⟩, ⟨rfl, rfl, ?_, ?_⟩, ?_, ?_, ?_, ?_⟩
  · exact ⟨⟨k0, by omega, rfl⟩, fun j hj => absurd hj (by omega), fun j hj => absurd hj (by omega), hnm _ _, hnm _ _, fun j hj => absurd hj (by omega)⟩
  · exact ⟨⟨k0, by omega, rfl⟩, fun j hj => absurd hj (by omega), fun j hj => absurd hj (by omega), hnm _ _, hnm _ _, fun j hj => absurd hj (by omega)⟩
  · show (0 ≤ Int32.toInt 0 ∧ Int32.toInt 0 ≤ 2000 * ((0 : Nat) : Int)) ∧ 0 ≤ Int32.toInt 0 ∧ Int32.toInt 0 ≤ 2000 * ((0 : Nat) : Int)
    omega
  · show 0 ≤ Int32.toInt 0
    omega
  · show Int32.toInt 0 ≤ 2
    omega
  · show 0 ≤ Int32.toInt 0 ∧ Int32.toInt 0 ≤ 10
    omega
  · refine ⟨?_, fun j => hnar⟩
    show 0 ≤ Int32.toInt 0 ∧ Int32.toInt 0 ≤ 12
    omega
  · show (0 ≤ Int32.toInt 0 ∧ Int32.toInt 0 ≤ 24) ∧ (0 ≤ Int32.toInt 0 ∧ Int32.toInt 0 ≤ 40) ∧ (0 ≤ Int32.toInt 0 ∧ Int32.toInt 0 ≤ 39)
    omega
  · refine ⟨?_, ?_, ?_, ?_, ?_, fun j => hnar, fun j => ?_⟩
    · show 0 ≤ Int32.toInt 0 ∧ Int32.toInt 0 ≤ 10
      omega
    · show 0 ≤ Int32.toInt 0 ∧ Int32.toInt 0 ≤ 12
      omega
    · show 0 ≤ Int32.toInt 0 ∧ Int32.toInt 0 ≤ 40
      omega
    · show 0 ≤ Int32.toInt 0 ∧ Int32.toInt 0 ≤ 2
      omega
    · show 0 ≤ Int32.toInt 0 ∧ Int32.toInt 0 ≤ 2
      omega
    · show 0 ≤ Int32.toInt 0 ∧ Int32.toInt 0 ≤ 2
      omega
