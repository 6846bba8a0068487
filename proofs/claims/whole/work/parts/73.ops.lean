/-! what pushes, removals, entries and departures do to the two -/
theorem zQe.wide {sT sE : Nat} {T E R E' R' : zS_t} {N M N' M' : Int} {c b t a : Int32} (h : zQe sT sE T E R N M c b t a) (hN : N ≤ N') (hM : M ≤ M') (he : E' 4 = E 4) (hr9 : R' 9 = R 9) (hr16 : R' 16 = R 16) : zQe sT sE T E' R' N' M' c b t a := by
  obtain ⟨h1, h2, h3, h4, h5, h6, h7⟩ := h
  exact ⟨h1.wide hN hM, h2, h3, h4, h5, by rw [hr9]; exact h6, by rw [he, hr16]; exact h7⟩
theorem zQE_push {sT sE : Nat} {N M : Int} {T E R E' R' : zS_t} {c b p t a nid nm : Int32} (hE : zQE sT sE N M T E R) (h12 : sE < 12) (hnid : nid.toInt = N) (hnm : nm.toInt = M) (hN : 0 ≤ N) (hM : 1 ≤ M) (he : zQe sT sE T E R N M c b t a) (hp : 0 ≤ p.toInt ∧ p.toInt < 3)
    (e0 : E' 0 = upd (E 0) sE c) (e1 : E' 1 = upd (E 1) sE b) (e2 : E' 2 = upd (E 2) sE p) (e3 : E' 3 = upd (E 3) sE t) (e4 : E' 4 = upd (E 4) sE nid) (e5 : (E' 5 0).toInt = ((sE + 1 : Nat) : Int)) (r12 : R' 12 0 = E' 5 0) (r13 : R' 13 = upd (R 13) sE c) (r14 : R' 14 = upd (R 14) sE b) (r15 : R' 15 = upd (R 15) sE p) (r16 : R' 16 = upd (R 16) sE nm) (r17 : R' 17 = upd (R 17) sE a) (r9 : R' 9 = R 9) : zQE sT (sE + 1) (N + 1) (M + 1) T E' R' := by
  obtain ⟨⟨a1, a2, a3⟩, b1, c1, d1, d2, f1⟩ := hE
  have key : ∀ (c b t a : Int32), zQe sT sE T E R N M c b t a → zQe sT (sE + 1) T E' R' (N + 1) (M + 1) c b t a := by
    intro c b t a h
    obtain ⟨h1, h2, h3, h4, h5, h6, h7⟩ := h
    refine ⟨h1.wide (by omega) (by omega), h2, h3, h4, h5, by rw [r9]; exact h6, fun hc => ?_⟩
    rw [e4, r16]
    exact (h7 hc).push h1 hnid hnm
  refine ⟨⟨e5, by omega, r12⟩, fun j hj => ?_, fun j hj => ?_, ?_, ?_, fun j hj => ?_⟩
  · rw [r13, r14, r15, e0, e1, e2]
    by_cases e : j = sE
    · subst e; simp only [zup_s]; exact ⟨trivial, trivial, trivial⟩
    · rw [zup_o (by omega), zup_o (by omega), zup_o (by omega), zup_o (by omega), zup_o (by omega), zup_o (by omega)]; exact b1 j (by omega)
  · rw [e2]
    by_cases e : j = sE
    · subst e; rw [zup_s]; exact hp
    · rw [zup_o (by omega)]; exact c1 j (by omega)
  · rw [e4]; exact d1.push hN hnid (by omega)
  · rw [r16]; exact d2.push hM hnm (by omega)
  · rw [e0, e1, e3, r17]
    by_cases e : j = sE
    · subst e; simp only [zup_s]; exact key _ _ _ _ he
    · rw [zup_o (by omega), zup_o (by omega), zup_o (by omega), zup_o (by omega)]; exact key _ _ _ _ (f1 j (by omega))
theorem zQE_cut {sT sE i : Nat} {N M : Int} {T E R E' R' : zS_t} (hE : zQE sT (sE + 1) N M T E R) (e0 : E' 0 = zsh sE i (E 0)) (e1 : E' 1 = zsh sE i (E 1)) (e2 : E' 2 = zsh sE i (E 2)) (e3 : E' 3 = zsh sE i (E 3)) (e4 : E' 4 = zsh sE i (E 4)) (e5 : (E' 5 0).toInt = (sE : Int)) (r12 : R' 12 0 = E' 5 0) (r13 : R' 13 = zsh sE i (R 13)) (r14 : R' 14 = zsh sE i (R 14)) (r15 : R' 15 = zsh sE i (R 15)) (r16 : R' 16 = zsh sE i (R 16)) (r17 : R' 17 = zsh sE i (R 17)) (r9 : R' 9 = R 9) : zQE sT sE N M T E' R' := by
  obtain ⟨⟨a1, a2, a3⟩, b1, c1, d1, d2, f1⟩ := hE
  have key : ∀ (c b t a : Int32), zQe sT (sE + 1) T E R N M c b t a → zQe sT sE T E' R' N M c b t a := by
    intro c b t a h
    obtain ⟨h1, h2, h3, h4, h5, h6, h7⟩ := h
    refine ⟨h1, h2, h3, h4, h5, by rw [r9]; exact h6, fun hc => ?_⟩
    rw [e4, r16]
    exact (h7 hc).cut
  refine ⟨⟨e5, by omega, r12⟩, fun j hj => ?_, fun j hj => ?_, ?_, ?_, fun j hj => ?_⟩
  · rw [r13, r14, r15, e0, e1, e2]
    unfold zsh
    by_cases e : i ≤ j ∧ j < sE
    · simp only [if_pos e]; exact b1 _ (by omega)
    · simp only [if_neg e]; exact b1 _ (by omega)
  · rw [e2]
    unfold zsh
    by_cases e : i ≤ j ∧ j < sE
    · rw [if_pos e]; exact c1 _ (by omega)
    · rw [if_neg e]; exact c1 _ (by omega)
  · rw [e4]; exact d1.cut
  · rw [r16]; exact d2.cut
  · rw [e0, e1, e3, r17]
    unfold zsh
    by_cases e : i ≤ j ∧ j < sE
    · simp only [if_pos e]; exact key _ _ _ _ (f1 _ (by omega))
    · simp only [if_neg e]; exact key _ _ _ _ (f1 _ (by omega))
theorem zQT_push {sT : Nat} {N M : Int} {T R T' R' : zS_t} {c p t a nid nm : Int32} (hT : zQT sT N M T R) (h10 : sT < 10) (hnid : nid.toInt = N) (hnm : nm.toInt = M) (hN : 0 ≤ N) (hM : 1 ≤ M) (hb : zBd t a N M) (hg : zTg sT (T 3) (R 9) t a) (h7 : c ≠ 7 → t = -1) (hc : 0 ≤ c.toInt ∧ c.toInt < 12) (hp : 0 ≤ p.toInt ∧ p.toInt < 3)
    (e0 : T' 0 = upd (T 0) sT c) (e1 : T' 1 = upd (T 1) sT p) (e2 : T' 2 = upd (T 2) sT t) (e3 : T' 3 = upd (T 3) sT nid) (e4 : (T' 4 0).toInt = ((sT + 1 : Nat) : Int)) (r6 : R' 6 0 = T' 4 0) (r7 : R' 7 = upd (R 7) sT c) (r8 : R' 8 = upd (R 8) sT p) (r9 : R' 9 = upd (R 9) sT nm) (r10 : R' 10 = upd (R 10) sT a) : zQT (sT + 1) (N + 1) (M + 1) T' R' := by
  obtain ⟨⟨a1, a2, a3⟩, b1, c1, d1, d2, f1⟩ := hT
  refine ⟨⟨e4, by omega, r6⟩, fun j hj => ?_, fun j hj => ?_, ?_, ?_, fun j hj => ?_⟩
  · rw [r7, r8, e0, e1]
    by_cases e : j = sT
    · subst e; simp only [zup_s]; exact ⟨trivial, trivial⟩
    · rw [zup_o (by omega), zup_o (by omega), zup_o (by omega), zup_o (by omega)]; exact b1 j (by omega)
  · rw [e0, e1]
    by_cases e : j = sT
    · subst e; simp only [zup_s]; exact ⟨hc, hp⟩
    · rw [zup_o (by omega), zup_o (by omega)]; exact c1 j (by omega)
  · rw [e3]; exact d1.push hN hnid (by omega)
  · rw [r9]; exact d2.push hM hnm (by omega)
  · rw [e0, e2, e3, r9, r10]
    by_cases e : j = sT
    · subst e; simp only [zup_s]; exact ⟨hb.wide (by omega) (by omega), hg.push hb hnid hnm, h7⟩
    · rw [zup_o (by omega), zup_o (by omega), zup_o (by omega)]
      obtain ⟨g1, g2, g3⟩ := f1 j (by omega)
      exact ⟨g1.wide (by omega) (by omega), g2.push g1 hnid hnm, g3⟩
theorem zQT_cut {sT i : Nat} {N M : Int} {T R T' R' : zS_t} (hT : zQT (sT + 1) N M T R) (e0 : T' 0 = zsh sT i (T 0)) (e1 : T' 1 = zsh sT i (T 1)) (e2 : T' 2 = zsh sT i (T 2)) (e3 : T' 3 = zsh sT i (T 3)) (e4 : (T' 4 0).toInt = (sT : Int)) (r6 : R' 6 0 = T' 4 0) (r7 : R' 7 = zsh sT i (R 7)) (r8 : R' 8 = zsh sT i (R 8)) (r9 : R' 9 = zsh sT i (R 9)) (r10 : R' 10 = zsh sT i (R 10)) : zQT sT N M T' R' := by
  obtain ⟨⟨a1, a2, a3⟩, b1, c1, d1, d2, f1⟩ := hT
  refine ⟨⟨e4, by omega, r6⟩, fun j hj => ?_, fun j hj => ?_, ?_, ?_, fun j hj => ?_⟩
  · rw [r7, r8, e0, e1]
    unfold zsh
    by_cases e : i ≤ j ∧ j < sT
    · simp only [if_pos e]; exact b1 _ (by omega)
    · simp only [if_neg e]; exact b1 _ (by omega)
  · rw [e0, e1]
    unfold zsh
    by_cases e : i ≤ j ∧ j < sT
    · simp only [if_pos e]; exact c1 _ (by omega)
    · simp only [if_neg e]; exact c1 _ (by omega)
  · rw [e3]; exact d1.cut
  · rw [r9]; exact d2.cut
  · rw [e3, r9]
    have h9 : ∀ k : Nat, k < sT + 1 → zBd (T 2 k) (R 10 k) N M ∧ zTg sT (zsh sT i (T 3)) (zsh sT i (R 9)) (T 2 k) (R 10 k) ∧ (T 0 k ≠ 7 → T 2 k = -1) := fun k hk => by
      obtain ⟨g1, g2, g3⟩ := f1 k hk
      exact ⟨g1, g2.cut, g3⟩
    rw [e0, e2, r10]
    show zBd (zsh sT i (T 2) j) (zsh sT i (R 10) j) N M ∧ zTg sT (zsh sT i (T 3)) (zsh sT i (R 9)) (zsh sT i (T 2) j) (zsh sT i (R 10) j) ∧ (zsh sT i (T 0) j ≠ 7 → zsh sT i (T 2) j = -1)
    have z : ∀ f : Nat → Int32, zsh sT i f j = if i ≤ j ∧ j < sT then f (j + 1) else f j := fun _ => rfl
    rw [z, z, z]
    by_cases e : i ≤ j ∧ j < sT
    · simp only [if_pos e]; exact h9 _ (by omega)
    · simp only [if_neg e]; exact h9 _ (by omega)
