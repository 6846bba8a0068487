/-! what the game's things and entries have to do with the reference's -/
theorem zup_o {f : Nat → Int32} {n j : Nat} {v : Int32} (h : j < n) : upd f n v j = f j := by unfold upd; rw [if_neg (by omega)]
theorem zup_s {f : Nat → Int32} {n : Nat} {v : Int32} : upd f n v n = v := by unfold upd; rw [if_pos rfl]
/-- names below a bound, told apart -/
def zNmd (s : Nat) (f : Nat → Int32) (lo hi : Int) : Prop := zInj s f ∧ ∀ j : Nat, j < s → lo ≤ (f j).toInt ∧ (f j).toInt < hi
/-- the target t of the one is the target a of the other -/
def zTg (s : Nat) (f g : Nat → Int32) (t a : Int32) : Prop := ∀ j : Nat, j < s → (f j = t ↔ g j = a)
def zBd (t a : Int32) (N M : Int) : Prop := (-1 ≤ t.toInt ∧ t.toInt < N) ∧ 0 ≤ a.toInt ∧ a.toInt < M
theorem zNmd.push {s : Nat} {f : Nat → Int32} {lo hi hi' : Int} {v : Int32} (h : zNmd s f lo hi) (h0 : lo ≤ hi) (hv : v.toInt = hi) (hh : hi < hi') : zNmd (s + 1) (upd f s v) lo hi' := by
  obtain ⟨h1, h2⟩ := h
  refine ⟨fun i j hi hj e => ?_, fun j hj => ?_⟩
  · by_cases e1 : i = s <;> by_cases e2 : j = s
    · omega
    · subst e1
      rw [zup_s, zup_o (by omega)] at e
      have := h2 j (by omega)
      rw [← e] at this
      omega
    · subst e2
      rw [zup_s, zup_o (by omega)] at e
      have := h2 i (by omega)
      rw [e] at this
      omega
    · rw [zup_o (by omega), zup_o (by omega)] at e
      exact h1 i j (by omega) (by omega) e
  · by_cases e1 : j = s
    · subst e1
      rw [zup_s]
      omega
    · rw [zup_o (by omega)]
      have := h2 j (by omega)
      omega
theorem zNmd.wide {s : Nat} {f : Nat → Int32} {lo hi hi' : Int} (h : zNmd s f lo hi) (hh : hi ≤ hi') : zNmd s f lo hi' := ⟨h.1, fun j hj => by have := h.2 j hj; omega⟩
theorem zNmd.cut {s : Nat} {f : Nat → Int32} {lo hi : Int} {i : Nat} (h : zNmd (s + 1) f lo hi) : zNmd s (zsh s i f) lo hi := by
  obtain ⟨h1, h2⟩ := h
  refine ⟨fun a b ha hb e => ?_, fun j hj => ?_⟩
  · unfold zsh at e
    by_cases e1 : i ≤ a ∧ a < s <;> by_cases e2 : i ≤ b ∧ b < s
    · rw [if_pos e1, if_pos e2] at e
      have := h1 _ _ (by omega) (by omega) e
      omega
    · rw [if_pos e1, if_neg e2] at e
      have := h1 _ _ (by omega) (by omega) e
      omega
    · rw [if_neg e1, if_pos e2] at e
      have := h1 _ _ (by omega) (by omega) e
      omega
    · rw [if_neg e1, if_neg e2] at e
      exact h1 _ _ (by omega) (by omega) e
  · unfold zsh
    by_cases e1 : i ≤ j ∧ j < s
    · rw [if_pos e1]; exact h2 _ (by omega)
    · rw [if_neg e1]; exact h2 _ (by omega)
theorem zNmd.drop {s s' : Nat} {f : Nat → Int32} {lo hi : Int} (h : zNmd s f lo hi) (hs : s' ≤ s) : zNmd s' f lo hi := ⟨fun i j hi hj e => h.1 i j (by omega) (by omega) e, fun j hj => h.2 j (by omega)⟩
theorem zTg.push {s : Nat} {f g : Nat → Int32} {t a v w : Int32} {N M : Int} (h : zTg s f g t a) (hb : zBd t a N M) (hv : v.toInt = N) (hw : w.toInt = M) : zTg (s + 1) (upd f s v) (upd g s w) t a := by
  intro j hj
  by_cases e1 : j = s
  · subst e1
    rw [zup_s, zup_s]
    constructor
    · intro e; subst e; have := hb.1; omega
    · intro e; subst e; have := hb.2; omega
  · rw [zup_o (by omega), zup_o (by omega)]
    exact h j (by omega)
theorem zTg.cut {s i : Nat} {f g : Nat → Int32} {t a : Int32} (h : zTg (s + 1) f g t a) : zTg s (zsh s i f) (zsh s i g) t a := by
  intro j hj
  unfold zsh
  by_cases e1 : i ≤ j ∧ j < s
  · rw [if_pos e1, if_pos e1]; exact h _ (by omega)
  · rw [if_neg e1, if_neg e1]; exact h _ (by omega)
theorem zTg.drop {s s' : Nat} {f g : Nat → Int32} {t a : Int32} (h : zTg s f g t a) (hs : s' ≤ s) : zTg s' f g t a := fun j hj => h j (by omega)
theorem zBd.wide {t a : Int32} {N M N' M' : Int} (h : zBd t a N M) (h1 : N ≤ N') (h2 : M ≤ M') : zBd t a N' M' := by unfold zBd at *; omega
/-- no target at all -/
theorem zTg.none {s : Nat} {f g : Nat → Int32} {N M : Int} (hf : zNmd s f 0 N) (hg : zNmd s g 1 M) : zTg s f g (-1) 0 := by
  intro j hj
  have h1 := hf.2 j hj
  have h2 := hg.2 j hj
  have e0 : Int32.toInt 0 = 0 := by decide
  constructor
  · intro e; rw [e, zm1v] at h1; omega
  · intro e; rw [e, e0] at h2; omega
/-- the things: sT of them; the entries: sE of them; N numbers given out by the game, M - 1 by the reference -/
def zQT (sT : Nat) (N M : Int) (T R : zS_t) : Prop :=
  ((T 4 0).toInt = sT ∧ sT ≤ 10 ∧ R 6 0 = T 4 0) ∧ (∀ j : Nat, j < sT → R 7 j = T 0 j ∧ R 8 j = T 1 j) ∧
  (∀ j : Nat, j < sT → (0 ≤ (T 0 j).toInt ∧ (T 0 j).toInt < 12) ∧ 0 ≤ (T 1 j).toInt ∧ (T 1 j).toInt < 3) ∧
  zNmd sT (T 3) 0 N ∧ zNmd sT (R 9) 1 M ∧ (∀ j : Nat, j < sT → zBd (T 2 j) (R 10 j) N M ∧ zTg sT (T 3) (R 9) (T 2 j) (R 10 j) ∧ (T 0 j ≠ 7 → T 2 j = -1))
/-- one entry: card c, triggered b, player p, targets t and a -/
def zQe (sT sE : Nat) (T E R : zS_t) (N M : Int) (c b t a : Int32) : Prop :=
  zBd t a N M ∧ (b = 0 ∨ b = 1) ∧ (b = 1 → (c = 1 ∨ c = 9 ∨ c = 10 ∨ c = 11) ∧ t = -1) ∧ (0 ≤ c.toInt ∧ c.toInt < 14) ∧ (c ≠ 7 → c ≠ 12 → c ≠ 13 → t = -1) ∧
  (c ≠ 13 → zTg sT (T 3) (R 9) t a) ∧ (c = 13 → zTg sE (E 4) (R 16) t a)
def zQE (sT sE : Nat) (N M : Int) (T E R : zS_t) : Prop :=
  ((E 5 0).toInt = sE ∧ sE ≤ 12 ∧ R 12 0 = E 5 0) ∧ (∀ j : Nat, j < sE → R 13 j = E 0 j ∧ R 14 j = E 1 j ∧ R 15 j = E 2 j) ∧
  (∀ j : Nat, j < sE → 0 ≤ (E 2 j).toInt ∧ (E 2 j).toInt < 3) ∧
  zNmd sE (E 4) 0 N ∧ zNmd sE (R 16) 1 M ∧ (∀ j : Nat, j < sE → zQe sT sE T E R N M (E 0 j) (E 1 j) (E 3 j) (R 17 j))
