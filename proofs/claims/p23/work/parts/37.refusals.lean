/-! calls that refuse -/
theorem zrf_play {a b : Int32} {L T E M : zS_t} (h : a < 0 ∨ ¬ a < 14) : mX4_play a b L T E M = (some "java/lang/IndexOutOfBoundsException", 0, L, E, M) := by
  unfold mX4_play
  by_cases h1 : a < 0
  · rw [if_pos h1]
  · rw [if_neg h1, if_neg (h.resolve_left h1)]
theorem zrf_obst {a b : Int32} {L T E : zS_t} (h : a < 0 ∨ ¬ a < 14) : mX4_obstacle a b L T E = (some "java/lang/IndexOutOfBoundsException", 0) := by
  unfold mX4_obstacle
  by_cases h1 : a < 0
  · rw [if_pos h1]
  · rw [if_neg h1, if_neg (h.resolve_left h1)]
theorem zrf_settle {a : Int32} {L T E V M K : zS_t} (h : a < 1 ∨ ¬ a ≤ 60) : mX4_settle a L T E V M K = (some "java/lang/IllegalArgumentException", 0, L, T, E, V, M, K) := by
  unfold mX4_settle
  by_cases h1 : a < 1
  · rw [if_pos h1]
  · rw [if_neg h1, if_neg (h.resolve_left h1)]
theorem zrf_coins {a : Int32} {L : zS_t} (h : a < 0 ∨ ¬ a < 3) : mX4_coins a L = (some "java/lang/IndexOutOfBoundsException", 0) := by
  unfold mX4_coins
  by_cases h1 : a < 0
  · rw [if_pos h1]
  · rw [if_neg h1, if_neg (h.resolve_left h1)]
theorem zrf_power {a : Int32} {T V : zS_t} (h : a < 0 ∨ ¬ a < 3) : mX4_power a T V = (some "java/lang/IndexOutOfBoundsException", 0, V) := by
  unfold mX4_power
  by_cases h1 : a < 0
  · rw [if_pos h1]
  · rw [if_neg h1, if_neg (h.resolve_left h1)]
theorem zrf_hasT {b : Int32} {T : zS_t} (h : b < 0 ∨ T 4 0 ≤ b) : mX2_has b T = 0 := by
  unfold mX2_has
  by_cases h1 : b < 0
  · rw [if_pos h1]
  · rw [if_neg h1, if_pos (h.resolve_left h1)]
theorem zrf_hasE {b : Int32} {E : zS_t} (h : b < 0 ∨ E 5 0 ≤ b) : mX0_has b E = 0 := by
  unfold mX0_has
  by_cases h1 : b < 0
  · rw [if_pos h1]
  · rw [if_neg h1, if_pos (h.resolve_left h1)]
theorem zrf_hasT1 {T : zS_t} (h : ¬ T 4 0 ≤ 0) : mX2_has 0 T = 1 := by
  unfold mX2_has
  rw [if_neg (by decide), if_neg h]
theorem zrf_no12 {b : Int32} {L T E : zS_t} (h : mX4_hasTarget 12 b T E = 0) : ¬ mX4_findObstacle 12 b L T E = 0 := by
  intro h9
  unfold mX4_findObstacle at h9
  dsimp only [zbnd] at h9
  rw [h] at h9
  have e : mX4_isThing 12 = 0 := by decide
  rw [e, if_pos rfl, if_pos rfl] at h9
  by_cases h1 : mX4_costOf 12 ≤ mX4_coinsOf (L 6 0) L
  · rw [if_pos h1] at h9; exact absurd h9 (by decide)
  · rw [if_neg h1] at h9; exact absurd h9 (by decide)
theorem zrf_no13 {b : Int32} {L T E : zS_t} (h : mX4_hasTarget 13 b T E = 0) : ¬ mX4_findObstacle 13 b L T E = 0 := by
  intro h9
  unfold mX4_findObstacle at h9
  dsimp only [zbnd] at h9
  rw [h] at h9
  have e : mX4_isThing 13 = 0 := by decide
  rw [e, if_pos rfl, if_pos rfl] at h9
  by_cases h1 : mX4_costOf 13 ≤ mX4_coinsOf (L 6 0) L
  · rw [if_pos h1] at h9; exact absurd h9 (by decide)
  · rw [if_neg h1] at h9; exact absurd h9 (by decide)
theorem zrf_t12 {b : Int32} {T E : zS_t} (h : b < 0 ∨ T 4 0 ≤ b) : mX4_hasTarget 12 b T E = 0 := by
  unfold mX4_hasTarget
  dsimp only [zbnd]
  rw [if_neg (by decide), if_pos rfl]
  exact zrf_hasT h
theorem zrf_t13 {b : Int32} {T E : zS_t} (h : b < 0 ∨ E 5 0 ≤ b) : mX4_hasTarget 13 b T E = 0 := by
  unfold mX4_hasTarget
  dsimp only [zbnd]
  rw [if_neg (by decide), if_neg (by decide), if_pos rfl, zrf_hasE h, if_pos rfl]
theorem zrf_state {a b : Int32} {L T E M : zS_t} (h0 : ¬ a < 0) (h1 : a < 14) (h : ¬ mX4_findObstacle a b L T E = 0) : mX4_play a b L T E M = (some "java/lang/IllegalStateException", 0, L, E, M) := by
  unfold mX4_play
  dsimp only [zbnd]
  rw [if_neg h0, if_pos h1, if_neg h]
theorem zrf_cardOf {a : Int32} {T : zS_t} (h : a < 0 ∨ T 4 0 ≤ a) : mX4_cardOf a T = (some "java/lang/IndexOutOfBoundsException", 0) := by
  unfold mX4_cardOf
  dsimp only [zbnd]
  rw [zrf_hasT h, if_pos rfl]
theorem zrf_req {a b : Int32} {T : zS_t} (h : a < 0 ∨ T 4 0 ≤ a) : mX4_requireThingAndLayer a b T = some "java/lang/IndexOutOfBoundsException" := by
  unfold mX4_requireThingAndLayer
  dsimp only [zbnd]
  rw [zrf_hasT h, if_pos rfl]
theorem zrf_lay {b : Int32} {T : zS_t} (h0 : ¬ T 4 0 ≤ 0) (h : b < 0 ∨ ¬ b ≤ 5) : mX4_requireThingAndLayer 0 b T = some "java/lang/IllegalArgumentException" := by
  unfold mX4_requireThingAndLayer
  dsimp only [zbnd]
  rw [zrf_hasT1 h0, if_neg (by decide)]
  by_cases h1 : b < 0
  · rw [if_pos h1]
  · rw [if_neg h1, if_neg (h.resolve_left h1)]
theorem zrf_controllerOf {a b : Int32} {T V : zS_t} {x : String} (h : mX4_requireThingAndLayer a b T = some x) : mX4_controllerOf a b T V = (some x, 0, V) := by
  unfold mX4_controllerOf
  dsimp only [zbnd]
  rw [h, if_neg (by intro h9; cases h9)]
theorem zrf_kindsOf {a b : Int32} {T V : zS_t} {x : String} (h : mX4_requireThingAndLayer a b T = some x) : mX4_kindsOf a b T V = (some x, 0, V) := by
  unfold mX4_kindsOf
  dsimp only [zbnd]
  rw [h, if_neg (by intro h9; cases h9)]
theorem zrf_strengthOf {a b : Int32} {T V : zS_t} {x : String} (h : mX4_requireThingAndLayer a b T = some x) : mX4_strengthOf a b T V = (some x, 0, V) := by
  unfold mX4_strengthOf
  dsimp only [zbnd]
  rw [h, if_neg (by intro h9; cases h9)]
theorem zrf_entryCard {a : Int32} {E : zS_t} (h : a < 0 ∨ E 5 0 ≤ a) : mX4_entryCard a E = (some "java/lang/IndexOutOfBoundsException", 0) := by
  unfold mX4_entryCard
  dsimp only [zbnd]
  rw [zrf_hasE h, if_pos rfl]
theorem zrf_isTrigger {a : Int32} {E : zS_t} (h : a < 0 ∨ E 5 0 ≤ a) : mX4_isTrigger a E = (some "java/lang/IndexOutOfBoundsException", 0) := by
  unfold mX4_isTrigger
  dsimp only [zbnd]
  rw [zrf_hasE h, if_pos rfl]
theorem zrf_entryPlayer {a : Int32} {E : zS_t} (h : a < 0 ∨ E 5 0 ≤ a) : mX4_entryPlayer a E = (some "java/lang/IndexOutOfBoundsException", 0) := by
  unfold mX4_entryPlayer
  dsimp only [zbnd]
  rw [zrf_hasE h, if_pos rfl]
theorem zrf_entryTarget {a : Int32} {T E : zS_t} (h : a < 0 ∨ E 5 0 ≤ a) : mX4_entryTarget a T E = (some "java/lang/IndexOutOfBoundsException", 0) := by
  unfold mX4_entryTarget
  dsimp only [zbnd]
  rw [zrf_hasE h, if_pos rfl]
theorem cr_0 (l : Launch) (hfl : l.stackTraces = false) (G : zG_t) (L T E V M K : zS_t) (hIT : zIT T) (hIE : zIE E) (hIM : zIM M) (a b : Int32) (h : a < 0 ∨ ¬ a < 14) : zNI l G.1 (zty G) yL_act wsL_act rmL_act [.ref (G.2.2 0 0), .int 0, .int a, .int b] (zWL G L T E V M K) (-71) (zWL G L T E V M K) := by
  have h9 := c_L_act_0 l hfl G a b L T E V M K hIT hIE hIM
  rw [zrf_play h] at h9
  have h8 : zNI l G.1 (zty G) yL_act wsL_act rmL_act [.ref (G.2.2 0 0), .int 0, .int a, .int b] (zWL G L T E V M K) (zac (some "java/lang/IndexOutOfBoundsException") 0) (zWL G L T E V M K) := h9
  rw [zac_0] at h8
  exact h8
theorem cr_1 (l : Launch) (hfl : l.stackTraces = false) (G : zG_t) (L T E V M K : zS_t) (hIT : zIT T) (hIE : zIE E) (hIM : zIM M) (a b : Int32) (h : a < 0 ∨ ¬ a < 14) : zNI l G.1 (zty G) yL_act wsL_act rmL_act [.ref (G.2.2 0 0), .int 1, .int a, .int b] (zWL G L T E V M K) (-71) (zWL G L T E V M K) := by
  have h9 := c_L_act_1 l hfl G a b L T E V M K hIE
  rw [zrf_obst h] at h9
  have h8 : zNI l G.1 (zty G) yL_act wsL_act rmL_act [.ref (G.2.2 0 0), .int 1, .int a, .int b] (zWL G L T E V M K) (zac (some "java/lang/IndexOutOfBoundsException") 0) (zWL G L T E V M K) := h9
  rw [zac_0] at h8
  exact h8
theorem cr_2 (l : Launch) (hfl : l.stackTraces = false) (G : zG_t) (L T E V M K : zS_t) (hIT : zIT T) (hIE : zIE E) (hIM : zIM M) (a b : Int32) (h : a < 1 ∨ ¬ a ≤ 60) : zNI l G.1 (zty G) yL_act wsL_act rmL_act [.ref (G.2.2 0 0), .int 2, .int a, .int b] (zWL G L T E V M K) (-72) (zWL G L T E V M K) := by
  have h9 := c_L_act_2 l hfl G a b L T E V M K hIT hIE hIM
  rw [zrf_settle h] at h9
  have h8 : zNI l G.1 (zty G) yL_act wsL_act rmL_act [.ref (G.2.2 0 0), .int 2, .int a, .int b] (zWL G L T E V M K) (zac (some "java/lang/IllegalArgumentException") 0) (zWL G L T E V M K) := h9
  rw [zac_1] at h8
  exact h8
theorem cr_3 (l : Launch) (hfl : l.stackTraces = false) (G : zG_t) (L T E V M K : zS_t) (hIT : zIT T) (hIE : zIE E) (hIM : zIM M) (a b : Int32) (h : a < 0 ∨ ¬ a < 3) : zNI l G.1 (zty G) yL_act wsL_act rmL_act [.ref (G.2.2 0 0), .int 3, .int a, .int b] (zWL G L T E V M K) (-71) (zWL G L T E V M K) := by
  have h9 := c_L_act_3 l hfl G a b L T E V M K 
  rw [zrf_coins h] at h9
  have h8 : zNI l G.1 (zty G) yL_act wsL_act rmL_act [.ref (G.2.2 0 0), .int 3, .int a, .int b] (zWL G L T E V M K) (zac (some "java/lang/IndexOutOfBoundsException") 0) (zWL G L T E V M K) := h9
  rw [zac_0] at h8
  exact h8
theorem cr_4 (l : Launch) (hfl : l.stackTraces = false) (G : zG_t) (L T E V M K : zS_t) (hIT : zIT T) (hIE : zIE E) (hIM : zIM M) (a b : Int32) (h : a < 0 ∨ ¬ a < 3) : zNI l G.1 (zty G) yL_act wsL_act rmL_act [.ref (G.2.2 0 0), .int 4, .int a, .int b] (zWL G L T E V M K) (-71) (zWL G L T E V M K) := by
  have h9 := c_L_act_4 l hfl G a b L T E V M K hIT
  rw [zrf_power h] at h9
  have h8 : zNI l G.1 (zty G) yL_act wsL_act rmL_act [.ref (G.2.2 0 0), .int 4, .int a, .int b] (zWL G L T E V M K) (zac (some "java/lang/IndexOutOfBoundsException") 0) (zWL G L T E V M K) := h9
  rw [zac_0] at h8
  exact h8
theorem cr_0s (l : Launch) (hfl : l.stackTraces = false) (G : zG_t) (L T E V M K : zS_t) (hIT : zIT T) (hIE : zIE E) (hIM : zIM M) (b : Int32) (h : b < 0 ∨ T 4 0 ≤ b) : zNI l G.1 (zty G) yL_act wsL_act rmL_act [.ref (G.2.2 0 0), .int 0, .int 12, .int b] (zWL G L T E V M K) (-73) (zWL G L T E V M K) := by
  have h9 := c_L_act_0 l hfl G 12 b L T E V M K hIT hIE hIM
  rw [zrf_state (by decide) (by decide) (zrf_no12 (zrf_t12 h))] at h9
  have h8 : zNI l G.1 (zty G) yL_act wsL_act rmL_act [.ref (G.2.2 0 0), .int 0, .int 12, .int b] (zWL G L T E V M K) (zac (some "java/lang/IllegalStateException") 0) (zWL G L T E V M K) := h9
  rw [zac_2] at h8
  exact h8
theorem cr_0d (l : Launch) (hfl : l.stackTraces = false) (G : zG_t) (L T E V M K : zS_t) (hIT : zIT T) (hIE : zIE E) (hIM : zIM M) (b : Int32) (h : b < 0 ∨ E 5 0 ≤ b) : zNI l G.1 (zty G) yL_act wsL_act rmL_act [.ref (G.2.2 0 0), .int 0, .int 13, .int b] (zWL G L T E V M K) (-73) (zWL G L T E V M K) := by
  have h9 := c_L_act_0 l hfl G 13 b L T E V M K hIT hIE hIM
  rw [zrf_state (by decide) (by decide) (zrf_no13 (zrf_t13 h))] at h9
  have h8 : zNI l G.1 (zty G) yL_act wsL_act rmL_act [.ref (G.2.2 0 0), .int 0, .int 13, .int b] (zWL G L T E V M K) (zac (some "java/lang/IllegalStateException") 0) (zWL G L T E V M K) := h9
  rw [zac_2] at h8
  exact h8
theorem cr_5 (l : Launch) (hfl : l.stackTraces = false) (G : zG_t) (L T E V M K : zS_t) (hIT : zIT T) (hIE : zIE E) (hIM : zIM M) (a b : Int32) (h : a < 0 ∨ T 4 0 ≤ a) : zNI l G.1 (zty G) yL_act wsL_act rmL_act [.ref (G.2.2 0 0), .int 5, .int a, .int b] (zWL G L T E V M K) (-71) (zWL G L T E V M K) := by
  have h9 := c_L_act_5 l hfl G a b L T E V M K hIT
  rw [zrf_cardOf h] at h9
  have h8 : zNI l G.1 (zty G) yL_act wsL_act rmL_act [.ref (G.2.2 0 0), .int 5, .int a, .int b] (zWL G L T E V M K) (zac (some "java/lang/IndexOutOfBoundsException") 0) (zWL G L T E V M K) := h9
  rw [zac_0] at h8
  exact h8
theorem cr_6 (l : Launch) (hfl : l.stackTraces = false) (G : zG_t) (L T E V M K : zS_t) (hIT : zIT T) (hIE : zIE E) (hIM : zIM M) (a b : Int32) (h : a < 0 ∨ T 4 0 ≤ a) : zNI l G.1 (zty G) yL_act wsL_act rmL_act [.ref (G.2.2 0 0), .int 6, .int a, .int b] (zWL G L T E V M K) (-71) (zWL G L T E V M K) := by
  have h9 := c_L_act_6 l hfl G a b L T E V M K hIT
  rw [zrf_controllerOf (zrf_req h)] at h9
  have h8 : zNI l G.1 (zty G) yL_act wsL_act rmL_act [.ref (G.2.2 0 0), .int 6, .int a, .int b] (zWL G L T E V M K) (zac (some "java/lang/IndexOutOfBoundsException") 0) (zWL G L T E V M K) := h9
  rw [zac_0] at h8
  exact h8
theorem cr_6l (l : Launch) (hfl : l.stackTraces = false) (G : zG_t) (L T E V M K : zS_t) (hIT : zIT T) (hIE : zIE E) (hIM : zIM M) (b : Int32) (h0 : ¬ T 4 0 ≤ 0) (h : b < 0 ∨ ¬ b ≤ 5) : zNI l G.1 (zty G) yL_act wsL_act rmL_act [.ref (G.2.2 0 0), .int 6, .int 0, .int b] (zWL G L T E V M K) (-72) (zWL G L T E V M K) := by
  have h9 := c_L_act_6 l hfl G 0 b L T E V M K hIT
  rw [zrf_controllerOf (zrf_lay h0 h)] at h9
  have h8 : zNI l G.1 (zty G) yL_act wsL_act rmL_act [.ref (G.2.2 0 0), .int 6, .int 0, .int b] (zWL G L T E V M K) (zac (some "java/lang/IllegalArgumentException") 0) (zWL G L T E V M K) := h9
  rw [zac_1] at h8
  exact h8
theorem cr_7 (l : Launch) (hfl : l.stackTraces = false) (G : zG_t) (L T E V M K : zS_t) (hIT : zIT T) (hIE : zIE E) (hIM : zIM M) (a b : Int32) (h : a < 0 ∨ T 4 0 ≤ a) : zNI l G.1 (zty G) yL_act wsL_act rmL_act [.ref (G.2.2 0 0), .int 7, .int a, .int b] (zWL G L T E V M K) (-71) (zWL G L T E V M K) := by
  have h9 := c_L_act_7 l hfl G a b L T E V M K hIT
  rw [zrf_kindsOf (zrf_req h)] at h9
  have h8 : zNI l G.1 (zty G) yL_act wsL_act rmL_act [.ref (G.2.2 0 0), .int 7, .int a, .int b] (zWL G L T E V M K) (zac (some "java/lang/IndexOutOfBoundsException") 0) (zWL G L T E V M K) := h9
  rw [zac_0] at h8
  exact h8
theorem cr_7l (l : Launch) (hfl : l.stackTraces = false) (G : zG_t) (L T E V M K : zS_t) (hIT : zIT T) (hIE : zIE E) (hIM : zIM M) (b : Int32) (h0 : ¬ T 4 0 ≤ 0) (h : b < 0 ∨ ¬ b ≤ 5) : zNI l G.1 (zty G) yL_act wsL_act rmL_act [.ref (G.2.2 0 0), .int 7, .int 0, .int b] (zWL G L T E V M K) (-72) (zWL G L T E V M K) := by
  have h9 := c_L_act_7 l hfl G 0 b L T E V M K hIT
  rw [zrf_kindsOf (zrf_lay h0 h)] at h9
  have h8 : zNI l G.1 (zty G) yL_act wsL_act rmL_act [.ref (G.2.2 0 0), .int 7, .int 0, .int b] (zWL G L T E V M K) (zac (some "java/lang/IllegalArgumentException") 0) (zWL G L T E V M K) := h9
  rw [zac_1] at h8
  exact h8
theorem cr_8 (l : Launch) (hfl : l.stackTraces = false) (G : zG_t) (L T E V M K : zS_t) (hIT : zIT T) (hIE : zIE E) (hIM : zIM M) (a b : Int32) (h : a < 0 ∨ T 4 0 ≤ a) : zNI l G.1 (zty G) yL_act wsL_act rmL_act [.ref (G.2.2 0 0), .int 8, .int a, .int b] (zWL G L T E V M K) (-71) (zWL G L T E V M K) := by
  have h9 := c_L_act_8 l hfl G a b L T E V M K hIT
  rw [zrf_strengthOf (zrf_req h)] at h9
  have h8 : zNI l G.1 (zty G) yL_act wsL_act rmL_act [.ref (G.2.2 0 0), .int 8, .int a, .int b] (zWL G L T E V M K) (zac (some "java/lang/IndexOutOfBoundsException") 0) (zWL G L T E V M K) := h9
  rw [zac_0] at h8
  exact h8
theorem cr_8l (l : Launch) (hfl : l.stackTraces = false) (G : zG_t) (L T E V M K : zS_t) (hIT : zIT T) (hIE : zIE E) (hIM : zIM M) (b : Int32) (h0 : ¬ T 4 0 ≤ 0) (h : b < 0 ∨ ¬ b ≤ 5) : zNI l G.1 (zty G) yL_act wsL_act rmL_act [.ref (G.2.2 0 0), .int 8, .int 0, .int b] (zWL G L T E V M K) (-72) (zWL G L T E V M K) := by
  have h9 := c_L_act_8 l hfl G 0 b L T E V M K hIT
  rw [zrf_strengthOf (zrf_lay h0 h)] at h9
  have h8 : zNI l G.1 (zty G) yL_act wsL_act rmL_act [.ref (G.2.2 0 0), .int 8, .int 0, .int b] (zWL G L T E V M K) (zac (some "java/lang/IllegalArgumentException") 0) (zWL G L T E V M K) := h9
  rw [zac_1] at h8
  exact h8
theorem cr_9 (l : Launch) (hfl : l.stackTraces = false) (G : zG_t) (L T E V M K : zS_t) (hIT : zIT T) (hIE : zIE E) (hIM : zIM M) (a b : Int32) (h : a < 0 ∨ E 5 0 ≤ a) : zNI l G.1 (zty G) yL_act wsL_act rmL_act [.ref (G.2.2 0 0), .int 9, .int a, .int b] (zWL G L T E V M K) (-71) (zWL G L T E V M K) := by
  have h9 := c_L_act_9 l hfl G a b L T E V M K hIE
  rw [zrf_entryCard h] at h9
  have h8 : zNI l G.1 (zty G) yL_act wsL_act rmL_act [.ref (G.2.2 0 0), .int 9, .int a, .int b] (zWL G L T E V M K) (zac (some "java/lang/IndexOutOfBoundsException") 0) (zWL G L T E V M K) := h9
  rw [zac_0] at h8
  exact h8
theorem cr_10 (l : Launch) (hfl : l.stackTraces = false) (G : zG_t) (L T E V M K : zS_t) (hIT : zIT T) (hIE : zIE E) (hIM : zIM M) (a b : Int32) (h : a < 0 ∨ E 5 0 ≤ a) : zNI l G.1 (zty G) yL_act wsL_act rmL_act [.ref (G.2.2 0 0), .int 10, .int a, .int b] (zWL G L T E V M K) (-71) (zWL G L T E V M K) := by
  have h9 := c_L_act_10 l hfl G a b L T E V M K hIE
  rw [zrf_isTrigger h] at h9
  have h8 : zNI l G.1 (zty G) yL_act wsL_act rmL_act [.ref (G.2.2 0 0), .int 10, .int a, .int b] (zWL G L T E V M K) (zac (some "java/lang/IndexOutOfBoundsException") 0) (zWL G L T E V M K) := h9
  rw [zac_0] at h8
  exact h8
theorem cr_11 (l : Launch) (hfl : l.stackTraces = false) (G : zG_t) (L T E V M K : zS_t) (hIT : zIT T) (hIE : zIE E) (hIM : zIM M) (a b : Int32) (h : a < 0 ∨ E 5 0 ≤ a) : zNI l G.1 (zty G) yL_act wsL_act rmL_act [.ref (G.2.2 0 0), .int 11, .int a, .int b] (zWL G L T E V M K) (-71) (zWL G L T E V M K) := by
  have h9 := c_L_act_11 l hfl G a b L T E V M K hIE
  rw [zrf_entryPlayer h] at h9
  have h8 : zNI l G.1 (zty G) yL_act wsL_act rmL_act [.ref (G.2.2 0 0), .int 11, .int a, .int b] (zWL G L T E V M K) (zac (some "java/lang/IndexOutOfBoundsException") 0) (zWL G L T E V M K) := h9
  rw [zac_0] at h8
  exact h8
theorem cr_12 (l : Launch) (hfl : l.stackTraces = false) (G : zG_t) (L T E V M K : zS_t) (hIT : zIT T) (hIE : zIE E) (hIM : zIM M) (a b : Int32) (h : a < 0 ∨ E 5 0 ≤ a) : zNI l G.1 (zty G) yL_act wsL_act rmL_act [.ref (G.2.2 0 0), .int 12, .int a, .int b] (zWL G L T E V M K) (-71) (zWL G L T E V M K) := by
  have h9 := c_L_act_12 l hfl G a b L T E V M K hIT hIE
  rw [zrf_entryTarget h] at h9
  have h8 : zNI l G.1 (zty G) yL_act wsL_act rmL_act [.ref (G.2.2 0 0), .int 12, .int a, .int b] (zWL G L T E V M K) (zac (some "java/lang/IndexOutOfBoundsException") 0) (zWL G L T E V M K) := h9
  rw [zac_0] at h8
  exact h8
