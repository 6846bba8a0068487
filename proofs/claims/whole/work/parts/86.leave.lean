/-! what leaves -/
theorem zhas1 {place : Int32} {T : zS_t} (h0 : 0 ≤ place.toInt) (h1 : place.toInt < (T 4 0).toInt) : mX2_has place T = 1 := by
  have k0 : Int32.toInt 0 = 0 := by decide
  unfold mX2_has
  rw [if_neg (fun h => by have := zt_lt h; omega), if_neg (fun h => by have := zt_le h; omega)]
theorem zhas0 {place : Int32} {T : zS_t} (h : place.toInt < 0 ∨ (T 4 0).toInt ≤ place.toInt) : mX2_has place T = 0 := by
  have k0 : Int32.toInt 0 = 0 := by decide
  unfold mX2_has
  by_cases h1 : place < 0
  · rw [if_pos h1]
  · rw [if_neg h1, if_pos (Int32.le_iff_toInt_le.mpr (by have := zt_nlt h1; omega))]
theorem zbe {α : Type} {β : Type} (e : α) (f : α → β) : zbnd e f = f e := (Eq.refl (f e)).trans (Eq.refl (f e))
theorem zbe2 {α1 α2 β : Type} (e : α1 × α2) (f : α1 → α2 → β) : zbnd2 e f = f (e.1) (e.2) := (Eq.refl (f (e.1) (e.2))).trans (Eq.refl (f (e.1) (e.2)))
theorem zbe3 {α1 α2 α3 β : Type} (e : α1 × α2 × α3) (f : α1 → α2 → α3 → β) : zbnd3 e f = f (e.1) (e.2.1) (e.2.2) := (Eq.refl (f (e.1) (e.2.1) (e.2.2))).trans (Eq.refl (f (e.1) (e.2.1) (e.2.2)))
theorem zbe4 {α1 α2 α3 α4 β : Type} (e : α1 × α2 × α3 × α4) (f : α1 → α2 → α3 → α4 → β) : zbnd4 e f = f (e.1) (e.2.1) (e.2.2.1) (e.2.2.2) := (Eq.refl (f (e.1) (e.2.1) (e.2.2.1) (e.2.2.2))).trans (Eq.refl (f (e.1) (e.2.1) (e.2.2.1) (e.2.2.2)))
theorem zbe5 {α1 α2 α3 α4 α5 β : Type} (e : α1 × α2 × α3 × α4 × α5) (f : α1 → α2 → α3 → α4 → α5 → β) : zbnd5 e f = f (e.1) (e.2.1) (e.2.2.1) (e.2.2.2.1) (e.2.2.2.2) := (Eq.refl (f (e.1) (e.2.1) (e.2.2.1) (e.2.2.2.1) (e.2.2.2.2))).trans (Eq.refl (f (e.1) (e.2.1) (e.2.2.1) (e.2.2.2.1) (e.2.2.2.2)))
theorem zbe6 {α1 α2 α3 α4 α5 α6 β : Type} (e : α1 × α2 × α3 × α4 × α5 × α6) (f : α1 → α2 → α3 → α4 → α5 → α6 → β) : zbnd6 e f = f (e.1) (e.2.1) (e.2.2.1) (e.2.2.2.1) (e.2.2.2.2.1) (e.2.2.2.2.2) := (Eq.refl (f (e.1) (e.2.1) (e.2.2.1) (e.2.2.2.1) (e.2.2.2.2.1) (e.2.2.2.2.2))).trans (Eq.refl (f (e.1) (e.2.1) (e.2.2.1) (e.2.2.2.1) (e.2.2.2.2.1) (e.2.2.2.2.2)))
theorem zbe7 {α1 α2 α3 α4 α5 α6 α7 β : Type} (e : α1 × α2 × α3 × α4 × α5 × α6 × α7) (f : α1 → α2 → α3 → α4 → α5 → α6 → α7 → β) : zbnd7 e f = f (e.1) (e.2.1) (e.2.2.1) (e.2.2.2.1) (e.2.2.2.2.1) (e.2.2.2.2.2.1) (e.2.2.2.2.2.2) := (Eq.refl (f (e.1) (e.2.1) (e.2.2.1) (e.2.2.2.1) (e.2.2.2.2.1) (e.2.2.2.2.2.1) (e.2.2.2.2.2.2))).trans (Eq.refl (f (e.1) (e.2.1) (e.2.2.1) (e.2.2.2.1) (e.2.2.2.2.1) (e.2.2.2.2.2.1) (e.2.2.2.2.2.2)))
theorem zbe8 {α1 α2 α3 α4 α5 α6 α7 α8 β : Type} (e : α1 × α2 × α3 × α4 × α5 × α6 × α7 × α8) (f : α1 → α2 → α3 → α4 → α5 → α6 → α7 → α8 → β) : zbnd8 e f = f (e.1) (e.2.1) (e.2.2.1) (e.2.2.2.1) (e.2.2.2.2.1) (e.2.2.2.2.2.1) (e.2.2.2.2.2.2.1) (e.2.2.2.2.2.2.2) := (Eq.refl (f (e.1) (e.2.1) (e.2.2.1) (e.2.2.2.1) (e.2.2.2.2.1) (e.2.2.2.2.2.1) (e.2.2.2.2.2.2.1) (e.2.2.2.2.2.2.2))).trans (Eq.refl (f (e.1) (e.2.1) (e.2.2.1) (e.2.2.2.1) (e.2.2.2.2.1) (e.2.2.2.2.2.1) (e.2.2.2.2.2.2.1) (e.2.2.2.2.2.2.2)))
theorem zlv1 {place : Int32} {T T1 : zS_t} (h : mX2_remove place T = (1, T1)) : mX4_leave place T = (2, T1) := by
  have e : mX4_leave place T = if (mX2_remove place T).1 = 0 then (0, (mX2_remove place T).2) else (2, (mX2_remove place T).2) := rfl
  rw [e, h]
  show (if (1 : Int32) = 0 then ((0 : Int32), T1) else (2, T1)) = (2, T1)
  rw [if_neg (by decide)]
theorem zlv0 {place : Int32} {T : zS_t} (h : mX2_has place T = 0) : mX4_leave place T = (0, T) := by
  have e : mX4_leave place T = if (mX2_remove place T).1 = 0 then (0, (mX2_remove place T).2) else (2, (mX2_remove place T).2) := rfl
  have h1 : mX2_remove place T = (0, T) := by
    unfold mX2_remove
    simp only [zbe, zbe2]
    rw [h, if_pos rfl]
  rw [e, h1]
  show (if (0 : Int32) = 0 then ((0 : Int32), T) else (2, T)) = (0, T)
  rw [if_pos rfl]
theorem zleave {s sE t i : Nat} {L T E R V : zS_t} {B : Int} {place : Int32} (ht : t < 3) (hR0 : (R 0 0).toInt = t) (hL5 : L 5 0 = R 0 0) (hA : zAll (s + 1) sE L T E R) (hb : zNb B L R) (hB : B + 30 ≤ 50000000) (hpl : place.toInt = i) (hi : i < s + 1) : ∀ Z Y W, mX4_leave place T = Z → mX4_raiseTriggers Z.1 L Z.2 E V = Y → mX5_leaves place R = W → ∃ sE1 : Nat, zAll s sE1 Y.1 Z.2 Y.2.1 W ∧ zNb (B + 30) Y.1 W ∧ zFrL L Y.1 ∧ zFr3 R W := by
  intro Z Y W hZ hY hW
  obtain ⟨hT, hE⟩ := id hA
  obtain ⟨⟨a1, a2, a3⟩, -, -, dT1, dT2, -⟩ := id hT
  have k1 : Int32.toInt 1 = 1 := by decide
  have e4 : (T 4 0 - 1).toInt = (s : Int) := by rw [zt_sub (by omega) (by omega)]; omega
  have e6 : (R 6 0 - 1).toInt = (s : Int) := by rw [a3]; exact e4
  have hrm : mX2_remove place T = (1, (mX2_remove_L22 11 place (zsI T 4 (T 4 0 - 1))).2) := by
    unfold mX2_remove
    simp only [zbe, zbe2]
    rw [zhas1 (by omega) (by omega), if_neg (by decide)]
  rw [zlv1 hrm] at hZ
  subst hZ
  unfold mX5_leaves at hW
  simp only [zbe, zbe2] at hW
  obtain ⟨Z1, hZ1⟩ : ∃ z, mX2_remove_L22 11 place (zsI T 4 (T 4 0 - 1)) = z := ⟨_, rfl⟩
  obtain ⟨W1, hW1⟩ : ∃ z, mX5_leaves_L12 11 place (zsI R 6 (R 6 0 - 1)) = z := ⟨_, rfl⟩
  rw [hZ1] at hY ⊢
  rw [hW1] at hW
  obtain ⟨f0, f1, f2, f3, f4⟩ := zrm_T (s := s) 11 place i (zsI T 4 (T 4 0 - 1)) e4 (by omega) hpl (by omega) (by omega) Z1 hZ1
  obtain ⟨g7, g8, g9, g10, g0, g1, g2, g3, g4, g5, g6, g11, g12, g13, g14, g15, g16, g17, g18, g19, g20, g21, g22, g23, g24, g25, g26⟩ := zrm_RT (s := s) 11 place i (zsI R 6 (R 6 0 - 1)) e6 (by omega) hpl (by omega) (by omega) W1 hW1
  have m11 : W1.2 11 = R 11 := g11
  have m9 : W1.2 9 = zsh s i (R 9) := g9
  have hT1 : zQT s (L 10 0).toInt ((W1.2 11 0).toInt + 1) Z1.2 W1.2 := by
    rw [m11]
    refine zQT_cut (i := i) hT f0 f1 f2 f3 (by rw [f4]; exact e4) ?_ g7 g8 g9 g10
    rw [g6, f4]
    show R 6 0 - 1 = T 4 0 - 1
    rw [a3]
  have hE1 : zQE s sE (L 10 0).toInt ((W1.2 11 0).toInt + 1) Z1.2 E W1.2 := by
    rw [m11]
    obtain ⟨⟨x1, x1b, x1c⟩, x2, x3, x4, x5, x6⟩ := hE
    refine ⟨⟨x1, x1b, ?_⟩, ?_, x3, x4, ?_, fun j hj => ?_⟩
    · rw [g12]; exact x1c
    · rw [g13, g14, g15]; exact x2
    · rw [g16]; exact x5
    · obtain ⟨y1, y2, y3, y4, y5, y6, y7⟩ := x6 j hj
      rw [g17]
      refine ⟨y1, y2, y3, y4, y5, fun hc9 => ?_, fun hc9 => ?_⟩
      · rw [f3, m9]; exact (y6 hc9).cut
      · rw [g16]; exact y7 hc9
  have hb1 : zNb B L W1.2 := by unfold zNb; rw [m11]; exact hb
  have r0 : W1.2 0 = R 0 := g0
  obtain ⟨sE1, q1, q2, q3, q4⟩ := zraise2 (V := V) ht (by rw [r0]; exact hR0) (by rw [r0]; exact hL5) ⟨hT1, hE1⟩ hb1 hB Y W hY hW
  refine ⟨sE1, q1, q2, q3, fun c9 h9 => (q4 c9 (by omega)).trans ?_⟩
  rcases h9 with h9 | h9
  · have hc : c9 = 0 ∨ c9 = 1 ∨ c9 = 2 ∨ c9 = 3 ∨ c9 = 4 ∨ c9 = 5 := by omega
    rcases hc with rfl | rfl | rfl | rfl | rfl | rfl
    · exact g0
    · exact g1
    · exact g2
    · exact g3
    · exact g4
    · exact g5
  · have hc : c9 = 23 ∨ c9 = 24 ∨ c9 = 25 ∨ c9 = 26 := by omega
    rcases hc with rfl | rfl | rfl | rfl
    · exact g23
    · exact g24
    · exact g25
    · exact g26
