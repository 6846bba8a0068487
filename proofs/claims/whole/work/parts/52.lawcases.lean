section ZK
variable {p : Program} {l : Launch} {e : Env} {s : State} {m : MethodId} {args : Array Value} {below : List Frame} {meth : Method} {c : Code} {Q : State → Prop} {A : Nat → Prop} {G : zG_t} {oa b Ln : Nat} {xs : Nat → Int32} {i : Int32} {n : Nat} {Rel : zRel_t}
def zBk (p : Program) (l : Launch) (e : Env) (s : State) (m : MethodId) (args : Array Value) (below : List Frame) (meth : Method) (c : Code) (Q : State → Prop) (A : Nat → Prop) (G : zG_t) (oa b : Nat) (i : Int32) (n : Nat) (Rel : zRel_t) : Prop :=
  ∀ (f : Nat → Int64) (L T E V M K R : zS_t) (cells slots : Nat), Rel (n + 1) L T E V M K R → cells ≤ 82 + n → slots ≤ 2380 + 6 * n → zW p l e room_1 s m args below meth c cells slots Q G.1 A 7 (zWq G oa f (zWL G L T E V M K ++ zWR G R)) [(0, .ref b), (1, .ref (G.2.2 0 0)), (2, .ref (G.2.2 6 0)), (3, .ref oa), (4, .int i)] 1018 []
set_option maxHeartbeats 4000000 in
set_option maxRecDepth 100000 in
theorem zc_play (hfl : l.stackTraces = false) (hag : zAg_play Rel) (hinv : zHinv Rel) (F : zF p m c cL_law 7 s args wsL_law RL G.1 (zty G) A) (hsx : zSx s) (hX : va_X b Ln xs s s.heap) (hbl : b < s.heap.size) (hbA : ¬ A b) (hi0 : 0 ≤ i.toInt) (hi1 : i.toInt + 3 ≤ Ln) (hLn : Ln ≤ 1536) (hn : n < 512) (hback : zBk p l e s m args below meth c Q A G oa b i n Rel) (f : Nat → Int64) (L T E V M K R : zS_t) (cells slots : Nat) (hR : Rel n L T E V M K R) (hc : cells ≤ 81 + n) (hs : slots ≤ 2374 + 6 * n) : zW p l e room_1 s m args below meth c cells slots Q G.1 A 7 (zWq G oa f (zWL G L T E V M K ++ zWR G R)) [(0, .ref b), (1, .ref (G.2.2 0 0)), (2, .ref (G.2.2 6 0)), (3, .ref oa), (4, .int i)] 132 [] := by
  obtain ⟨hIT, hIE, hIM, hIR⟩ := hinv n L T E V M K R hR
  have k_1 : Int32.toInt 1 = 1 := by decide
  have t_1 := zt_add (a := i) (b := 1) (by omega) (by omega)
  have in_1 : vp_in (i + 1) Ln := zin (by omega) (by omega)
  obtain ⟨card, ha_1⟩ : ∃ z, xs (i + 1).toNatClampNeg = z := ⟨_, rfl⟩
  have k_2 : Int32.toInt 2 = 2 := by decide
  have t_2 := zt_add (a := i) (b := 2) (by omega) (by omega)
  have in_2 : vp_in (i + 2) Ln := zin (by omega) (by omega)
  obtain ⟨target, ha_2⟩ : ∃ z, xs (i + 2).toNatClampNeg = z := ⟨_, rfl⟩
  obtain ⟨X, hE⟩ : ∃ z, mX4_play card target L T E M = z := ⟨_, rfl⟩
  obtain ⟨Y, hY⟩ : ∃ z, mX5_play card target R = z := ⟨_, rfl⟩
  have ag := hag n card target L T E V M K R hn hR X Y hE hY
  have hM := c_L_play l hfl G oa f card target L T E V M K hIT hIE hIM
  have hN := c_X5_play l G card target R hIR
  rw [hE] at hM
  rw [hY] at hN
  obtain ⟨x, r, L1, E1, M1⟩ := X
  obtain ⟨b9, R1⟩ := Y
  obtain ⟨ag1, ag2, ag3⟩ := ag
  have ag1 : mX5_thrown R1 = zk2 x := ag1
  have ag2 : x = none → b9 = r := ag2
  have ag3 : Rel (n + 1) L1 T E1 V M1 K R1 := ag3
  have hTh := c_X5_thrown l G R1
  rw [ag1] at hTh
  obtain ⟨kk, hkk⟩ : ∃ z, zk2 x = z := ⟨_, rfl⟩
  rw [hkk] at hTh
  have hM := hM
  change zYI l G.1 (zty G) yL_play wsL_play rmL_play [.ref (G.2.2 0 0), .int card, .int target, .ref oa] (zWq G oa f (zWL G L T E V M K)) (zk2 x) (zWq G oa (zot x r f) (zWL G L1 T E1 V M1 K)) at hM
  rw [hkk] at hM
  refine zi_aload_n (pc := 132) F dL_law_132 1 rfl ?_
  refine zi_aload_n (pc := 133) F dL_law_133 0 rfl ?_
  refine zi_iload (pc := 134) F dL_law_134 4 rfl ?_
  refine zi_iconst (pc := 136) (v := 1) F dL_law_136 rfl ?_
  refine zi_iadd (pc := 137) F dL_law_137 ?_
  refine zi_sld (pc := 138) F hX hbl hbA in_1 ha_1 dL_law_138 ?_
  refine zi_aload_n (pc := 139) F dL_law_139 0 rfl ?_
  refine zi_iload (pc := 140) F dL_law_140 4 rfl ?_
  refine zi_iconst (pc := 142) (v := 2) F dL_law_142 rfl ?_
  refine zi_iadd (pc := 143) F dL_law_143 ?_
  refine zi_sld (pc := 144) F hX hbl hbA in_2 ha_2 dL_law_144 ?_
  refine zi_aload_n (pc := 145) F dL_law_145 3 rfl ?_
  refine zi_callYI (pc := 146) (rest := []) (ws' := (zWq G oa (zot x r f) (zWL G L1 T E1 V M1 K ++ zWR G R))) F hsx hM (vx_cwSW 4 F.1.2.2.2.2 gL_law_L_play rfl rfl rfl hd_L_play ⟨Nat.le_of_ble_eq_true rfl, Nat.le_of_ble_eq_true rfl⟩) _ _ (zWq_L _ _ _ _ _) (zWq_L _ _ _ _ _).symm rfl rfl (Nat.le_of_ble_eq_true rfl) dL_law_146 ⟨by show _ ≤ 601024; omega, by show _ ≤ 7293034; omega⟩ ?_
  refine zi_istore (pc := 149) (lv' := [(0, .ref b), (1, .ref (G.2.2 0 0)), (2, .ref (G.2.2 6 0)), (3, .ref oa), (4, .int i), (5, .int kk)]) F dL_law_149 (by decide) rfl ?_
  refine zi_aload_n (pc := 151) F dL_law_151 2 rfl ?_
  refine zi_aload_n (pc := 152) F dL_law_152 0 rfl ?_
  refine zi_iload (pc := 153) F dL_law_153 4 rfl ?_
  refine zi_iconst (pc := 155) (v := 1) F dL_law_155 rfl ?_
  refine zi_iadd (pc := 156) F dL_law_156 ?_
  refine zi_sld (pc := 157) F hX hbl hbA in_1 ha_1 dL_law_157 ?_
  refine zi_aload_n (pc := 158) F dL_law_158 0 rfl ?_
  refine zi_iload (pc := 159) F dL_law_159 4 rfl ?_
  refine zi_iconst (pc := 161) (v := 2) F dL_law_161 rfl ?_
  refine zi_iadd (pc := 162) F dL_law_162 ?_
  refine zi_sld (pc := 163) F hX hbl hbA in_2 ha_2 dL_law_163 ?_
  refine zi_callVI (pc := 164) (rest := []) (ws' := (zWq G oa (zot x r f) (zWL G L1 T E1 V M1 K ++ zWR G R1))) F hN (cwV 2 F.1.2.2.2.2 gL_law_X5_play rfl rfl rfl hd_X5_play ⟨Nat.le_of_ble_eq_true rfl, Nat.le_of_ble_eq_true rfl⟩) 0 rfl rfl _ _ (zWq_R _ _ _ _ _) (zWq_R _ _ _ _ _).symm rfl rfl (Nat.le_of_ble_eq_true rfl) dL_law_164 ⟨by show _ ≤ 601024; omega, by show _ ≤ 7293034; omega⟩ ?_
  refine zi_istore (pc := 167) (lv' := [(0, .ref b), (1, .ref (G.2.2 0 0)), (2, .ref (G.2.2 6 0)), (3, .ref oa), (4, .int i), (5, .int kk), (6, .int b9)]) F dL_law_167 (by decide) rfl ?_
  refine zi_aload_n (pc := 169) F dL_law_169 2 rfl ?_
  refine zi_callVI (pc := 170) (rest := []) (ws' := (zWq G oa (zot x r f) (zWL G L1 T E1 V M1 K ++ zWR G R1))) F hTh (cwV 0 F.1.2.2.2.2 gL_law_X5_thrown rfl rfl rfl hd_X5_thrown ⟨Nat.le_of_ble_eq_true rfl, Nat.le_of_ble_eq_true rfl⟩) 0 rfl rfl _ _ (zWq_R _ _ _ _ _) (zWq_R _ _ _ _ _).symm rfl rfl (Nat.le_of_ble_eq_true rfl) dL_law_170 ⟨by show _ ≤ 601024; omega, by show _ ≤ 7293034; omega⟩ ?_
  refine zi_iload (pc := 173) F dL_law_173 5 rfl ?_
  refine zi_icmp_eq (pc := 175) (tgt := 180) F dL_law_175 (by decide) (fun _ => ?_) (fun h => absurd rfl h)
  refine zi_iload (pc := 180) F dL_law_180 5 rfl ?_
  refine zi_if_ne (pc := 182) (tgt := 197) F dL_law_182 (by decide) (fun h => ?_) (fun h => ?_)
  · skip
    refine zi_goto (pc := 197) (tgt := 1018) F dL_law_197 (by decide) ?_
    refine zi_sub [0, 1, 2, 3, 4] rfl ?_
    exact hback _ L1 T E1 V M1 K R1 _ _ ag3 (by omega) (by omega)
  · have hx : x = none := zk2_0 (hkk.trans h)
    have e9 := ag2 hx
    subst e9
    refine zi_aload_n (pc := 185) F dL_law_185 3 rfl ?_
    refine zi_iconst (pc := 186) (v := 0) F dL_law_186 rfl ?_
    refine zi_lald (pc := 187) F 0 3 rfl rfl (zin (by decide) (by decide)) (zot_at hx) dL_law_187 ?_
    refine zi_iload (pc := 188) F dL_law_188 6 rfl ?_
    refine zi_i2l (pc := 190) F dL_law_190 ?_
    refine zi_lcmp (pc := 191) F dL_law_191 ?_
    rw [zcmp_self]
    refine zi_if_eq (pc := 192) (tgt := 197) F dL_law_192 (by decide) (fun _ => ?_) (fun h => absurd rfl h)
    refine zi_goto (pc := 197) (tgt := 1018) F dL_law_197 (by decide) ?_
    refine zi_sub [0, 1, 2, 3, 4] rfl ?_
    exact hback _ L1 T E1 V M1 K R1 _ _ ag3 (by omega) (by omega)
set_option maxHeartbeats 4000000 in
set_option maxRecDepth 100000 in
theorem zc_obstacle (hfl : l.stackTraces = false) (hag : zAg_obstacle Rel) (hinv : zHinv Rel) (F : zF p m c cL_law 7 s args wsL_law RL G.1 (zty G) A) (hsx : zSx s) (hX : va_X b Ln xs s s.heap) (hbl : b < s.heap.size) (hbA : ¬ A b) (hi0 : 0 ≤ i.toInt) (hi1 : i.toInt + 3 ≤ Ln) (hLn : Ln ≤ 1536) (hn : n < 512) (hback : zBk p l e s m args below meth c Q A G oa b i n Rel) (f : Nat → Int64) (L T E V M K R : zS_t) (cells slots : Nat) (hR : Rel n L T E V M K R) (hc : cells ≤ 81 + n) (hs : slots ≤ 2374 + 6 * n) : zW p l e room_1 s m args below meth c cells slots Q G.1 A 7 (zWq G oa f (zWL G L T E V M K ++ zWR G R)) [(0, .ref b), (1, .ref (G.2.2 0 0)), (2, .ref (G.2.2 6 0)), (3, .ref oa), (4, .int i)] 200 [] := by
  obtain ⟨hIT, hIE, hIM, hIR⟩ := hinv n L T E V M K R hR
  have k_1 : Int32.toInt 1 = 1 := by decide
  have t_1 := zt_add (a := i) (b := 1) (by omega) (by omega)
  have in_1 : vp_in (i + 1) Ln := zin (by omega) (by omega)
  obtain ⟨card, ha_1⟩ : ∃ z, xs (i + 1).toNatClampNeg = z := ⟨_, rfl⟩
  have k_2 : Int32.toInt 2 = 2 := by decide
  have t_2 := zt_add (a := i) (b := 2) (by omega) (by omega)
  have in_2 : vp_in (i + 2) Ln := zin (by omega) (by omega)
  obtain ⟨target, ha_2⟩ : ∃ z, xs (i + 2).toNatClampNeg = z := ⟨_, rfl⟩
  obtain ⟨X, hE⟩ : ∃ z, mX4_obstacle card target L T E = z := ⟨_, rfl⟩
  obtain ⟨Y, hY⟩ : ∃ z, mX5_obstacle card target R = z := ⟨_, rfl⟩
  have ag := hag n card target L T E V M K R hn hR X Y hE hY
  have hM := c_L_obstacle l hfl G oa f card target L T E V M K hIE
  have hN := c_X5_obstacle l G card target R hIR
  rw [hE] at hM
  rw [hY] at hN
  obtain ⟨x, r⟩ := X
  obtain ⟨b9, R1⟩ := Y
  obtain ⟨ag1, ag2, ag3⟩ := ag
  have ag1 : mX5_thrown R1 = zk1 x := ag1
  have ag2 : x = none → b9 = r := ag2
  have ag3 : Rel (n + 1) L T E V M K R1 := ag3
  have hTh := c_X5_thrown l G R1
  rw [ag1] at hTh
  obtain ⟨kk, hkk⟩ : ∃ z, zk1 x = z := ⟨_, rfl⟩
  rw [hkk] at hTh
  have hM := hM
  change zYI l G.1 (zty G) yL_obstacle wsL_obstacle rmL_obstacle [.ref (G.2.2 0 0), .int card, .int target, .ref oa] (zWq G oa f (zWL G L T E V M K)) (zk1 x) (zWq G oa (zot x r f) (zWL G L T E V M K)) at hM
  rw [hkk] at hM
  refine zi_aload_n (pc := 200) F dL_law_200 1 rfl ?_
  refine zi_aload_n (pc := 201) F dL_law_201 0 rfl ?_
  refine zi_iload (pc := 202) F dL_law_202 4 rfl ?_
  refine zi_iconst (pc := 204) (v := 1) F dL_law_204 rfl ?_
  refine zi_iadd (pc := 205) F dL_law_205 ?_
  refine zi_sld (pc := 206) F hX hbl hbA in_1 ha_1 dL_law_206 ?_
  refine zi_aload_n (pc := 207) F dL_law_207 0 rfl ?_
  refine zi_iload (pc := 208) F dL_law_208 4 rfl ?_
  refine zi_iconst (pc := 210) (v := 2) F dL_law_210 rfl ?_
  refine zi_iadd (pc := 211) F dL_law_211 ?_
  refine zi_sld (pc := 212) F hX hbl hbA in_2 ha_2 dL_law_212 ?_
  refine zi_aload_n (pc := 213) F dL_law_213 3 rfl ?_
  refine zi_callYI (pc := 214) (rest := []) (ws' := (zWq G oa (zot x r f) (zWL G L T E V M K ++ zWR G R))) F hsx hM (vx_cwSW 4 F.1.2.2.2.2 gL_law_L_obstacle rfl rfl rfl hd_L_obstacle ⟨Nat.le_of_ble_eq_true rfl, Nat.le_of_ble_eq_true rfl⟩) _ _ (zWq_L _ _ _ _ _) (zWq_L _ _ _ _ _).symm rfl rfl (Nat.le_of_ble_eq_true rfl) dL_law_214 ⟨by show _ ≤ 601024; omega, by show _ ≤ 7293034; omega⟩ ?_
  refine zi_istore (pc := 217) (lv' := [(0, .ref b), (1, .ref (G.2.2 0 0)), (2, .ref (G.2.2 6 0)), (3, .ref oa), (4, .int i), (5, .int kk)]) F dL_law_217 (by decide) rfl ?_
  refine zi_aload_n (pc := 219) F dL_law_219 2 rfl ?_
  refine zi_aload_n (pc := 220) F dL_law_220 0 rfl ?_
  refine zi_iload (pc := 221) F dL_law_221 4 rfl ?_
  refine zi_iconst (pc := 223) (v := 1) F dL_law_223 rfl ?_
  refine zi_iadd (pc := 224) F dL_law_224 ?_
  refine zi_sld (pc := 225) F hX hbl hbA in_1 ha_1 dL_law_225 ?_
  refine zi_aload_n (pc := 226) F dL_law_226 0 rfl ?_
  refine zi_iload (pc := 227) F dL_law_227 4 rfl ?_
  refine zi_iconst (pc := 229) (v := 2) F dL_law_229 rfl ?_
  refine zi_iadd (pc := 230) F dL_law_230 ?_
  refine zi_sld (pc := 231) F hX hbl hbA in_2 ha_2 dL_law_231 ?_
  refine zi_callVI (pc := 232) (rest := []) (ws' := (zWq G oa (zot x r f) (zWL G L T E V M K ++ zWR G R1))) F hN (cwV 2 F.1.2.2.2.2 gL_law_X5_obstacle rfl rfl rfl hd_X5_obstacle ⟨Nat.le_of_ble_eq_true rfl, Nat.le_of_ble_eq_true rfl⟩) 0 rfl rfl _ _ (zWq_R _ _ _ _ _) (zWq_R _ _ _ _ _).symm rfl rfl (Nat.le_of_ble_eq_true rfl) dL_law_232 ⟨by show _ ≤ 601024; omega, by show _ ≤ 7293034; omega⟩ ?_
  refine zi_istore (pc := 235) (lv' := [(0, .ref b), (1, .ref (G.2.2 0 0)), (2, .ref (G.2.2 6 0)), (3, .ref oa), (4, .int i), (5, .int kk), (6, .int b9)]) F dL_law_235 (by decide) rfl ?_
  refine zi_aload_n (pc := 237) F dL_law_237 2 rfl ?_
  refine zi_callVI (pc := 238) (rest := []) (ws' := (zWq G oa (zot x r f) (zWL G L T E V M K ++ zWR G R1))) F hTh (cwV 0 F.1.2.2.2.2 gL_law_X5_thrown rfl rfl rfl hd_X5_thrown ⟨Nat.le_of_ble_eq_true rfl, Nat.le_of_ble_eq_true rfl⟩) 0 rfl rfl _ _ (zWq_R _ _ _ _ _) (zWq_R _ _ _ _ _).symm rfl rfl (Nat.le_of_ble_eq_true rfl) dL_law_238 ⟨by show _ ≤ 601024; omega, by show _ ≤ 7293034; omega⟩ ?_
  refine zi_iload (pc := 241) F dL_law_241 5 rfl ?_
  refine zi_icmp_eq (pc := 243) (tgt := 248) F dL_law_243 (by decide) (fun _ => ?_) (fun h => absurd rfl h)
  refine zi_iload (pc := 248) F dL_law_248 5 rfl ?_
  refine zi_if_ne (pc := 250) (tgt := 265) F dL_law_250 (by decide) (fun h => ?_) (fun h => ?_)
  · skip
    refine zi_goto (pc := 265) (tgt := 1018) F dL_law_265 (by decide) ?_
    refine zi_sub [0, 1, 2, 3, 4] rfl ?_
    exact hback _ L T E V M K R1 _ _ ag3 (by omega) (by omega)
  · have hx : x = none := zk1_0 (hkk.trans h)
    have e9 := ag2 hx
    subst e9
    refine zi_aload_n (pc := 253) F dL_law_253 3 rfl ?_
    refine zi_iconst (pc := 254) (v := 0) F dL_law_254 rfl ?_
    refine zi_lald (pc := 255) F 0 3 rfl rfl (zin (by decide) (by decide)) (zot_at hx) dL_law_255 ?_
    refine zi_iload (pc := 256) F dL_law_256 6 rfl ?_
    refine zi_i2l (pc := 258) F dL_law_258 ?_
    refine zi_lcmp (pc := 259) F dL_law_259 ?_
    rw [zcmp_self]
    refine zi_if_eq (pc := 260) (tgt := 265) F dL_law_260 (by decide) (fun _ => ?_) (fun h => absurd rfl h)
    refine zi_goto (pc := 265) (tgt := 1018) F dL_law_265 (by decide) ?_
    refine zi_sub [0, 1, 2, 3, 4] rfl ?_
    exact hback _ L T E V M K R1 _ _ ag3 (by omega) (by omega)
set_option maxHeartbeats 4000000 in
set_option maxRecDepth 100000 in
theorem zc_pass (hfl : l.stackTraces = false) (hag : zAg_pass Rel) (hinv : zHinv Rel) (F : zF p m c cL_law 7 s args wsL_law RL G.1 (zty G) A) (hsx : zSx s) (hX : va_X b Ln xs s s.heap) (hbl : b < s.heap.size) (hbA : ¬ A b) (hi0 : 0 ≤ i.toInt) (hi1 : i.toInt + 3 ≤ Ln) (hLn : Ln ≤ 1536) (hn : n < 512) (hback : zBk p l e s m args below meth c Q A G oa b i n Rel) (f : Nat → Int64) (L T E V M K R : zS_t) (cells slots : Nat) (hR : Rel n L T E V M K R) (hc : cells ≤ 81 + n) (hs : slots ≤ 2374 + 6 * n) : zW p l e room_1 s m args below meth c cells slots Q G.1 A 7 (zWq G oa f (zWL G L T E V M K ++ zWR G R)) [(0, .ref b), (1, .ref (G.2.2 0 0)), (2, .ref (G.2.2 6 0)), (3, .ref oa), (4, .int i)] 268 [] := by
  obtain ⟨hIT, hIE, hIM, hIR⟩ := hinv n L T E V M K R hR
  obtain ⟨X, hE⟩ : ∃ z, mX4_pass L T E V M K = z := ⟨_, rfl⟩
  obtain ⟨Y, hY⟩ : ∃ z, mX5_pass R = z := ⟨_, rfl⟩
  have ag := hag n L T E V M K R hn hR X Y hE hY
  have hM := c_X4_pass l G L T E V M K hIT hIE hIM
  have hN := c_X5_pass l G R hIR
  rw [hE] at hM
  rw [hY] at hN
  obtain ⟨r, L1, T1, E1, V1, M1, K1⟩ := X
  obtain ⟨b9, R1⟩ := Y
  obtain ⟨ag1, ag3⟩ := ag
  have ag1 : b9 = r := ag1
  have ag3 : Rel (n + 1) L1 T1 E1 V1 M1 K1 R1 := ag3
  subst ag1
  refine zi_aload_n (pc := 268) F dL_law_268 1 rfl ?_
  refine zi_callVI (pc := 269) (rest := []) (ws' := (zWq G oa f (zWL G L1 T1 E1 V1 M1 K1 ++ zWR G R))) F hM (cwV 0 F.1.2.2.2.2 gL_law_X4_pass rfl rfl rfl hd_X4_pass ⟨Nat.le_of_ble_eq_true rfl, Nat.le_of_ble_eq_true rfl⟩) 0 rfl rfl _ _ (zWq_O _ _ _ _ _) (zWq_O _ _ _ _ _).symm rfl rfl (Nat.le_of_ble_eq_true rfl) dL_law_269 ⟨by show _ ≤ 601024; omega, by show _ ≤ 7293034; omega⟩ ?_
  refine zi_aload_n (pc := 272) F dL_law_272 2 rfl ?_
  refine zi_callVI (pc := 273) (rest := [.int b9]) (ws' := (zWq G oa f (zWL G L1 T1 E1 V1 M1 K1 ++ zWR G R1))) F hN (cwV 0 F.1.2.2.2.2 gL_law_X5_pass rfl rfl rfl hd_X5_pass ⟨Nat.le_of_ble_eq_true rfl, Nat.le_of_ble_eq_true rfl⟩) 0 rfl rfl _ _ (zWq_R _ _ _ _ _) (zWq_R _ _ _ _ _).symm rfl rfl (Nat.le_of_ble_eq_true rfl) dL_law_273 ⟨by show _ ≤ 601024; omega, by show _ ≤ 7293034; omega⟩ ?_
  refine zi_icmp_eq (pc := 276) (tgt := 1018) F dL_law_276 (by decide) (fun _ => ?_) (fun h => absurd rfl h)
  exact hback _ L1 T1 E1 V1 M1 K1 R1 _ _ ag3 (by omega) (by omega)
set_option maxHeartbeats 4000000 in
set_option maxRecDepth 100000 in
theorem zc_settle (hfl : l.stackTraces = false) (hag : zAg_settle Rel) (hinv : zHinv Rel) (F : zF p m c cL_law 7 s args wsL_law RL G.1 (zty G) A) (hsx : zSx s) (hX : va_X b Ln xs s s.heap) (hbl : b < s.heap.size) (hbA : ¬ A b) (hi0 : 0 ≤ i.toInt) (hi1 : i.toInt + 3 ≤ Ln) (hLn : Ln ≤ 1536) (hn : n < 512) (hback : zBk p l e s m args below meth c Q A G oa b i n Rel) (f : Nat → Int64) (L T E V M K R : zS_t) (cells slots : Nat) (hR : Rel n L T E V M K R) (hc : cells ≤ 81 + n) (hs : slots ≤ 2374 + 6 * n) : zW p l e room_1 s m args below meth c cells slots Q G.1 A 7 (zWq G oa f (zWL G L T E V M K ++ zWR G R)) [(0, .ref b), (1, .ref (G.2.2 0 0)), (2, .ref (G.2.2 6 0)), (3, .ref oa), (4, .int i)] 281 [] := by
  obtain ⟨hIT, hIE, hIM, hIR⟩ := hinv n L T E V M K R hR
  have k_1 : Int32.toInt 1 = 1 := by decide
  have t_1 := zt_add (a := i) (b := 1) (by omega) (by omega)
  have in_1 : vp_in (i + 1) Ln := zin (by omega) (by omega)
  obtain ⟨entries, ha_1⟩ : ∃ z, xs (i + 1).toNatClampNeg = z := ⟨_, rfl⟩
  obtain ⟨X, hE⟩ : ∃ z, mX4_settle entries L T E V M K = z := ⟨_, rfl⟩
  obtain ⟨Y, hY⟩ : ∃ z, mX5_settle entries R = z := ⟨_, rfl⟩
  have ag := hag n entries L T E V M K R hn hR X Y hE hY
  have hM := c_L_settle l hfl G oa f entries L T E V M K hIT hIE hIM
  have hN := c_X5_settle l G entries R hIR
  rw [hE] at hM
  rw [hY] at hN
  obtain ⟨x, r, L1, T1, E1, V1, M1, K1⟩ := X
  obtain ⟨b9, R1⟩ := Y
  obtain ⟨ag1, ag2, ag3⟩ := ag
  have ag1 : mX5_thrown R1 = zk1 x := ag1
  have ag2 : x = none → b9 = r := ag2
  have ag3 : Rel (n + 1) L1 T1 E1 V1 M1 K1 R1 := ag3
  have hTh := c_X5_thrown l G R1
  rw [ag1] at hTh
  obtain ⟨kk, hkk⟩ : ∃ z, zk1 x = z := ⟨_, rfl⟩
  rw [hkk] at hTh
  have hM := hM
  change zYI l G.1 (zty G) yL_settle wsL_settle rmL_settle [.ref (G.2.2 0 0), .int entries, .ref oa] (zWq G oa f (zWL G L T E V M K)) (zk1 x) (zWq G oa (zot x r f) (zWL G L1 T1 E1 V1 M1 K1)) at hM
  rw [hkk] at hM
  refine zi_aload_n (pc := 281) F dL_law_281 1 rfl ?_
  refine zi_aload_n (pc := 282) F dL_law_282 0 rfl ?_
  refine zi_iload (pc := 283) F dL_law_283 4 rfl ?_
  refine zi_iconst (pc := 285) (v := 1) F dL_law_285 rfl ?_
  refine zi_iadd (pc := 286) F dL_law_286 ?_
  refine zi_sld (pc := 287) F hX hbl hbA in_1 ha_1 dL_law_287 ?_
  refine zi_aload_n (pc := 288) F dL_law_288 3 rfl ?_
  refine zi_callYI (pc := 289) (rest := []) (ws' := (zWq G oa (zot x r f) (zWL G L1 T1 E1 V1 M1 K1 ++ zWR G R))) F hsx hM (vx_cwSW 3 F.1.2.2.2.2 gL_law_L_settle rfl rfl rfl hd_L_settle ⟨Nat.le_of_ble_eq_true rfl, Nat.le_of_ble_eq_true rfl⟩) _ _ (zWq_L _ _ _ _ _) (zWq_L _ _ _ _ _).symm rfl rfl (Nat.le_of_ble_eq_true rfl) dL_law_289 ⟨by show _ ≤ 601024; omega, by show _ ≤ 7293034; omega⟩ ?_
  refine zi_istore (pc := 292) (lv' := [(0, .ref b), (1, .ref (G.2.2 0 0)), (2, .ref (G.2.2 6 0)), (3, .ref oa), (4, .int i), (5, .int kk)]) F dL_law_292 (by decide) rfl ?_
  refine zi_aload_n (pc := 294) F dL_law_294 2 rfl ?_
  refine zi_aload_n (pc := 295) F dL_law_295 0 rfl ?_
  refine zi_iload (pc := 296) F dL_law_296 4 rfl ?_
  refine zi_iconst (pc := 298) (v := 1) F dL_law_298 rfl ?_
  refine zi_iadd (pc := 299) F dL_law_299 ?_
  refine zi_sld (pc := 300) F hX hbl hbA in_1 ha_1 dL_law_300 ?_
  refine zi_callVI (pc := 301) (rest := []) (ws' := (zWq G oa (zot x r f) (zWL G L1 T1 E1 V1 M1 K1 ++ zWR G R1))) F hN (cwV 1 F.1.2.2.2.2 gL_law_X5_settle rfl rfl rfl hd_X5_settle ⟨Nat.le_of_ble_eq_true rfl, Nat.le_of_ble_eq_true rfl⟩) 0 rfl rfl _ _ (zWq_R _ _ _ _ _) (zWq_R _ _ _ _ _).symm rfl rfl (Nat.le_of_ble_eq_true rfl) dL_law_301 ⟨by show _ ≤ 601024; omega, by show _ ≤ 7293034; omega⟩ ?_
  refine zi_istore (pc := 304) (lv' := [(0, .ref b), (1, .ref (G.2.2 0 0)), (2, .ref (G.2.2 6 0)), (3, .ref oa), (4, .int i), (5, .int kk), (6, .int b9)]) F dL_law_304 (by decide) rfl ?_
  refine zi_aload_n (pc := 306) F dL_law_306 2 rfl ?_
  refine zi_callVI (pc := 307) (rest := []) (ws' := (zWq G oa (zot x r f) (zWL G L1 T1 E1 V1 M1 K1 ++ zWR G R1))) F hTh (cwV 0 F.1.2.2.2.2 gL_law_X5_thrown rfl rfl rfl hd_X5_thrown ⟨Nat.le_of_ble_eq_true rfl, Nat.le_of_ble_eq_true rfl⟩) 0 rfl rfl _ _ (zWq_R _ _ _ _ _) (zWq_R _ _ _ _ _).symm rfl rfl (Nat.le_of_ble_eq_true rfl) dL_law_307 ⟨by show _ ≤ 601024; omega, by show _ ≤ 7293034; omega⟩ ?_
  refine zi_iload (pc := 310) F dL_law_310 5 rfl ?_
  refine zi_icmp_eq (pc := 312) (tgt := 317) F dL_law_312 (by decide) (fun _ => ?_) (fun h => absurd rfl h)
  refine zi_iload (pc := 317) F dL_law_317 5 rfl ?_
  refine zi_if_ne (pc := 319) (tgt := 334) F dL_law_319 (by decide) (fun h => ?_) (fun h => ?_)
  · skip
    refine zi_goto (pc := 334) (tgt := 1018) F dL_law_334 (by decide) ?_
    refine zi_sub [0, 1, 2, 3, 4] rfl ?_
    exact hback _ L1 T1 E1 V1 M1 K1 R1 _ _ ag3 (by omega) (by omega)
  · have hx : x = none := zk1_0 (hkk.trans h)
    have e9 := ag2 hx
    subst e9
    refine zi_aload_n (pc := 322) F dL_law_322 3 rfl ?_
    refine zi_iconst (pc := 323) (v := 0) F dL_law_323 rfl ?_
    refine zi_lald (pc := 324) F 0 3 rfl rfl (zin (by decide) (by decide)) (zot_at hx) dL_law_324 ?_
    refine zi_iload (pc := 325) F dL_law_325 6 rfl ?_
    refine zi_i2l (pc := 327) F dL_law_327 ?_
    refine zi_lcmp (pc := 328) F dL_law_328 ?_
    rw [zcmp_self]
    refine zi_if_eq (pc := 329) (tgt := 334) F dL_law_329 (by decide) (fun _ => ?_) (fun h => absurd rfl h)
    refine zi_goto (pc := 334) (tgt := 1018) F dL_law_334 (by decide) ?_
    refine zi_sub [0, 1, 2, 3, 4] rfl ?_
    exact hback _ L1 T1 E1 V1 M1 K1 R1 _ _ ag3 (by omega) (by omega)
set_option maxHeartbeats 4000000 in
set_option maxRecDepth 100000 in
theorem zc_turn (hfl : l.stackTraces = false) (hag : zAg_turn Rel) (hinv : zHinv Rel) (F : zF p m c cL_law 7 s args wsL_law RL G.1 (zty G) A) (hsx : zSx s) (hX : va_X b Ln xs s s.heap) (hbl : b < s.heap.size) (hbA : ¬ A b) (hi0 : 0 ≤ i.toInt) (hi1 : i.toInt + 3 ≤ Ln) (hLn : Ln ≤ 1536) (hn : n < 512) (hback : zBk p l e s m args below meth c Q A G oa b i n Rel) (f : Nat → Int64) (L T E V M K R : zS_t) (cells slots : Nat) (hR : Rel n L T E V M K R) (hc : cells ≤ 81 + n) (hs : slots ≤ 2374 + 6 * n) : zW p l e room_1 s m args below meth c cells slots Q G.1 A 7 (zWq G oa f (zWL G L T E V M K ++ zWR G R)) [(0, .ref b), (1, .ref (G.2.2 0 0)), (2, .ref (G.2.2 6 0)), (3, .ref oa), (4, .int i)] 337 [] := by
  obtain ⟨hIT, hIE, hIM, hIR⟩ := hinv n L T E V M K R hR
  obtain ⟨X, hE⟩ : ∃ z, mX4_turn L = z := ⟨_, rfl⟩
  obtain ⟨Y, hY⟩ : ∃ z, mX5_turn R = z := ⟨_, rfl⟩
  have ag := hag n L T E V M K R hn hR X Y hE hY
  have hM := c_X4_turn l G L T E V M K 
  have hN := c_X5_turn l G R hIR
  rw [hE] at hM
  rw [hY] at hN
  skip
  obtain ⟨b9, R1⟩ := Y
  obtain ⟨ag1, ag3⟩ := ag
  have ag1 : b9 = X := ag1
  have ag3 : Rel (n + 1) L T E V M K R1 := ag3
  subst ag1
  refine zi_aload_n (pc := 337) F dL_law_337 1 rfl ?_
  refine zi_callVI (pc := 338) (rest := []) (ws' := (zWq G oa f (zWL G L T E V M K ++ zWR G R))) F hM (cwV 0 F.1.2.2.2.2 gL_law_X4_turn rfl rfl rfl hd_X4_turn ⟨Nat.le_of_ble_eq_true rfl, Nat.le_of_ble_eq_true rfl⟩) 0 rfl rfl _ _ (zWq_O _ _ _ _ _) (zWq_O _ _ _ _ _).symm rfl rfl (Nat.le_of_ble_eq_true rfl) dL_law_338 ⟨by show _ ≤ 601024; omega, by show _ ≤ 7293034; omega⟩ ?_
  refine zi_aload_n (pc := 341) F dL_law_341 2 rfl ?_
  refine zi_callVI (pc := 342) (rest := [.int b9]) (ws' := (zWq G oa f (zWL G L T E V M K ++ zWR G R1))) F hN (cwV 0 F.1.2.2.2.2 gL_law_X5_turn rfl rfl rfl hd_X5_turn ⟨Nat.le_of_ble_eq_true rfl, Nat.le_of_ble_eq_true rfl⟩) 0 rfl rfl _ _ (zWq_R _ _ _ _ _) (zWq_R _ _ _ _ _).symm rfl rfl (Nat.le_of_ble_eq_true rfl) dL_law_342 ⟨by show _ ≤ 601024; omega, by show _ ≤ 7293034; omega⟩ ?_
  refine zi_icmp_eq (pc := 345) (tgt := 1018) F dL_law_345 (by decide) (fun _ => ?_) (fun h => absurd rfl h)
  exact hback _ L T E V M K R1 _ _ ag3 (by omega) (by omega)
set_option maxHeartbeats 4000000 in
set_option maxRecDepth 100000 in
theorem zc_acting (hfl : l.stackTraces = false) (hag : zAg_acting Rel) (hinv : zHinv Rel) (F : zF p m c cL_law 7 s args wsL_law RL G.1 (zty G) A) (hsx : zSx s) (hX : va_X b Ln xs s s.heap) (hbl : b < s.heap.size) (hbA : ¬ A b) (hi0 : 0 ≤ i.toInt) (hi1 : i.toInt + 3 ≤ Ln) (hLn : Ln ≤ 1536) (hn : n < 512) (hback : zBk p l e s m args below meth c Q A G oa b i n Rel) (f : Nat → Int64) (L T E V M K R : zS_t) (cells slots : Nat) (hR : Rel n L T E V M K R) (hc : cells ≤ 81 + n) (hs : slots ≤ 2374 + 6 * n) : zW p l e room_1 s m args below meth c cells slots Q G.1 A 7 (zWq G oa f (zWL G L T E V M K ++ zWR G R)) [(0, .ref b), (1, .ref (G.2.2 0 0)), (2, .ref (G.2.2 6 0)), (3, .ref oa), (4, .int i)] 350 [] := by
  obtain ⟨hIT, hIE, hIM, hIR⟩ := hinv n L T E V M K R hR
  obtain ⟨X, hE⟩ : ∃ z, mX4_acting L = z := ⟨_, rfl⟩
  obtain ⟨Y, hY⟩ : ∃ z, mX5_acting R = z := ⟨_, rfl⟩
  have ag := hag n L T E V M K R hn hR X Y hE hY
  have hM := c_X4_acting l G L T E V M K 
  have hN := c_X5_acting l G R hIR
  rw [hE] at hM
  rw [hY] at hN
  skip
  obtain ⟨b9, R1⟩ := Y
  obtain ⟨ag1, ag3⟩ := ag
  have ag1 : b9 = X := ag1
  have ag3 : Rel (n + 1) L T E V M K R1 := ag3
  subst ag1
  refine zi_aload_n (pc := 350) F dL_law_350 1 rfl ?_
  refine zi_callVI (pc := 351) (rest := []) (ws' := (zWq G oa f (zWL G L T E V M K ++ zWR G R))) F hM (cwV 0 F.1.2.2.2.2 gL_law_X4_acting rfl rfl rfl hd_X4_acting ⟨Nat.le_of_ble_eq_true rfl, Nat.le_of_ble_eq_true rfl⟩) 0 rfl rfl _ _ (zWq_O _ _ _ _ _) (zWq_O _ _ _ _ _).symm rfl rfl (Nat.le_of_ble_eq_true rfl) dL_law_351 ⟨by show _ ≤ 601024; omega, by show _ ≤ 7293034; omega⟩ ?_
  refine zi_aload_n (pc := 354) F dL_law_354 2 rfl ?_
  refine zi_callVI (pc := 355) (rest := [.int b9]) (ws' := (zWq G oa f (zWL G L T E V M K ++ zWR G R1))) F hN (cwV 0 F.1.2.2.2.2 gL_law_X5_acting rfl rfl rfl hd_X5_acting ⟨Nat.le_of_ble_eq_true rfl, Nat.le_of_ble_eq_true rfl⟩) 0 rfl rfl _ _ (zWq_R _ _ _ _ _) (zWq_R _ _ _ _ _).symm rfl rfl (Nat.le_of_ble_eq_true rfl) dL_law_355 ⟨by show _ ≤ 601024; omega, by show _ ≤ 7293034; omega⟩ ?_
  refine zi_icmp_eq (pc := 358) (tgt := 1018) F dL_law_358 (by decide) (fun _ => ?_) (fun h => absurd rfl h)
  exact hback _ L T E V M K R1 _ _ ag3 (by omega) (by omega)
set_option maxHeartbeats 4000000 in
set_option maxRecDepth 100000 in
theorem zc_rounds (hfl : l.stackTraces = false) (hag : zAg_rounds Rel) (hinv : zHinv Rel) (F : zF p m c cL_law 7 s args wsL_law RL G.1 (zty G) A) (hsx : zSx s) (hX : va_X b Ln xs s s.heap) (hbl : b < s.heap.size) (hbA : ¬ A b) (hi0 : 0 ≤ i.toInt) (hi1 : i.toInt + 3 ≤ Ln) (hLn : Ln ≤ 1536) (hn : n < 512) (hback : zBk p l e s m args below meth c Q A G oa b i n Rel) (f : Nat → Int64) (L T E V M K R : zS_t) (cells slots : Nat) (hR : Rel n L T E V M K R) (hc : cells ≤ 81 + n) (hs : slots ≤ 2374 + 6 * n) : zW p l e room_1 s m args below meth c cells slots Q G.1 A 7 (zWq G oa f (zWL G L T E V M K ++ zWR G R)) [(0, .ref b), (1, .ref (G.2.2 0 0)), (2, .ref (G.2.2 6 0)), (3, .ref oa), (4, .int i)] 363 [] := by
  obtain ⟨hIT, hIE, hIM, hIR⟩ := hinv n L T E V M K R hR
  obtain ⟨X, hE⟩ : ∃ z, mX4_rounds L = z := ⟨_, rfl⟩
  obtain ⟨Y, hY⟩ : ∃ z, mX5_rounds R = z := ⟨_, rfl⟩
  have ag := hag n L T E V M K R hn hR X Y hE hY
  have hM := c_X4_rounds l G L T E V M K 
  have hN := c_X5_rounds l G R hIR
  rw [hE] at hM
  rw [hY] at hN
  skip
  obtain ⟨b9, R1⟩ := Y
  obtain ⟨ag1, ag3⟩ := ag
  have ag1 : b9 = X := ag1
  have ag3 : Rel (n + 1) L T E V M K R1 := ag3
  subst ag1
  refine zi_aload_n (pc := 363) F dL_law_363 1 rfl ?_
  refine zi_callVI (pc := 364) (rest := []) (ws' := (zWq G oa f (zWL G L T E V M K ++ zWR G R))) F hM (cwV 0 F.1.2.2.2.2 gL_law_X4_rounds rfl rfl rfl hd_X4_rounds ⟨Nat.le_of_ble_eq_true rfl, Nat.le_of_ble_eq_true rfl⟩) 0 rfl rfl _ _ (zWq_O _ _ _ _ _) (zWq_O _ _ _ _ _).symm rfl rfl (Nat.le_of_ble_eq_true rfl) dL_law_364 ⟨by show _ ≤ 601024; omega, by show _ ≤ 7293034; omega⟩ ?_
  refine zi_aload_n (pc := 367) F dL_law_367 2 rfl ?_
  refine zi_callVI (pc := 368) (rest := [.int b9]) (ws' := (zWq G oa f (zWL G L T E V M K ++ zWR G R1))) F hN (cwV 0 F.1.2.2.2.2 gL_law_X5_rounds rfl rfl rfl hd_X5_rounds ⟨Nat.le_of_ble_eq_true rfl, Nat.le_of_ble_eq_true rfl⟩) 0 rfl rfl _ _ (zWq_R _ _ _ _ _) (zWq_R _ _ _ _ _).symm rfl rfl (Nat.le_of_ble_eq_true rfl) dL_law_368 ⟨by show _ ≤ 601024; omega, by show _ ≤ 7293034; omega⟩ ?_
  refine zi_icmp_eq (pc := 371) (tgt := 1018) F dL_law_371 (by decide) (fun _ => ?_) (fun h => absurd rfl h)
  exact hback _ L T E V M K R1 _ _ ag3 (by omega) (by omega)
set_option maxHeartbeats 4000000 in
set_option maxRecDepth 100000 in
theorem zc_loops (hfl : l.stackTraces = false) (hag : zAg_loops Rel) (hinv : zHinv Rel) (F : zF p m c cL_law 7 s args wsL_law RL G.1 (zty G) A) (hsx : zSx s) (hX : va_X b Ln xs s s.heap) (hbl : b < s.heap.size) (hbA : ¬ A b) (hi0 : 0 ≤ i.toInt) (hi1 : i.toInt + 3 ≤ Ln) (hLn : Ln ≤ 1536) (hn : n < 512) (hback : zBk p l e s m args below meth c Q A G oa b i n Rel) (f : Nat → Int64) (L T E V M K R : zS_t) (cells slots : Nat) (hR : Rel n L T E V M K R) (hc : cells ≤ 81 + n) (hs : slots ≤ 2374 + 6 * n) : zW p l e room_1 s m args below meth c cells slots Q G.1 A 7 (zWq G oa f (zWL G L T E V M K ++ zWR G R)) [(0, .ref b), (1, .ref (G.2.2 0 0)), (2, .ref (G.2.2 6 0)), (3, .ref oa), (4, .int i)] 376 [] := by
  obtain ⟨hIT, hIE, hIM, hIR⟩ := hinv n L T E V M K R hR
  obtain ⟨X, hE⟩ : ∃ z, mX4_loops L = z := ⟨_, rfl⟩
  obtain ⟨Y, hY⟩ : ∃ z, mX5_loops R = z := ⟨_, rfl⟩
  have ag := hag n L T E V M K R hn hR X Y hE hY
  have hM := c_X4_loops l G L T E V M K 
  have hN := c_X5_loops l G R hIR
  rw [hE] at hM
  rw [hY] at hN
  skip
  obtain ⟨b9, R1⟩ := Y
  obtain ⟨ag1, ag3⟩ := ag
  have ag1 : b9 = X := ag1
  have ag3 : Rel (n + 1) L T E V M K R1 := ag3
  subst ag1
  refine zi_aload_n (pc := 376) F dL_law_376 1 rfl ?_
  refine zi_callVI (pc := 377) (rest := []) (ws' := (zWq G oa f (zWL G L T E V M K ++ zWR G R))) F hM (cwV 0 F.1.2.2.2.2 gL_law_X4_loops rfl rfl rfl hd_X4_loops ⟨Nat.le_of_ble_eq_true rfl, Nat.le_of_ble_eq_true rfl⟩) 0 rfl rfl _ _ (zWq_O _ _ _ _ _) (zWq_O _ _ _ _ _).symm rfl rfl (Nat.le_of_ble_eq_true rfl) dL_law_377 ⟨by show _ ≤ 601024; omega, by show _ ≤ 7293034; omega⟩ ?_
  refine zi_aload_n (pc := 380) F dL_law_380 2 rfl ?_
  refine zi_callVI (pc := 381) (rest := [.int b9]) (ws' := (zWq G oa f (zWL G L T E V M K ++ zWR G R1))) F hN (cwV 0 F.1.2.2.2.2 gL_law_X5_loops rfl rfl rfl hd_X5_loops ⟨Nat.le_of_ble_eq_true rfl, Nat.le_of_ble_eq_true rfl⟩) 0 rfl rfl _ _ (zWq_R _ _ _ _ _) (zWq_R _ _ _ _ _).symm rfl rfl (Nat.le_of_ble_eq_true rfl) dL_law_381 ⟨by show _ ≤ 601024; omega, by show _ ≤ 7293034; omega⟩ ?_
  refine zi_icmp_eq (pc := 384) (tgt := 1018) F dL_law_384 (by decide) (fun _ => ?_) (fun h => absurd rfl h)
  exact hback _ L T E V M K R1 _ _ ag3 (by omega) (by omega)
set_option maxHeartbeats 4000000 in
set_option maxRecDepth 100000 in
theorem zc_coins (hfl : l.stackTraces = false) (hag : zAg_coins Rel) (hinv : zHinv Rel) (F : zF p m c cL_law 7 s args wsL_law RL G.1 (zty G) A) (hsx : zSx s) (hX : va_X b Ln xs s s.heap) (hbl : b < s.heap.size) (hbA : ¬ A b) (hi0 : 0 ≤ i.toInt) (hi1 : i.toInt + 3 ≤ Ln) (hLn : Ln ≤ 1536) (hn : n < 512) (hback : zBk p l e s m args below meth c Q A G oa b i n Rel) (f : Nat → Int64) (L T E V M K R : zS_t) (cells slots : Nat) (hR : Rel n L T E V M K R) (hc : cells ≤ 81 + n) (hs : slots ≤ 2374 + 6 * n) : zW p l e room_1 s m args below meth c cells slots Q G.1 A 7 (zWq G oa f (zWL G L T E V M K ++ zWR G R)) [(0, .ref b), (1, .ref (G.2.2 0 0)), (2, .ref (G.2.2 6 0)), (3, .ref oa), (4, .int i)] 389 [] := by
  obtain ⟨hIT, hIE, hIM, hIR⟩ := hinv n L T E V M K R hR
  have k_1 : Int32.toInt 1 = 1 := by decide
  have t_1 := zt_add (a := i) (b := 1) (by omega) (by omega)
  have in_1 : vp_in (i + 1) Ln := zin (by omega) (by omega)
  obtain ⟨player, ha_1⟩ : ∃ z, xs (i + 1).toNatClampNeg = z := ⟨_, rfl⟩
  obtain ⟨X, hE⟩ : ∃ z, mX4_coins player L = z := ⟨_, rfl⟩
  obtain ⟨Y, hY⟩ : ∃ z, mX5_coins player R = z := ⟨_, rfl⟩
  have ag := hag n player L T E V M K R hn hR X Y hE hY
  have hM := c_L_coins l hfl G oa f player L T E V M K 
  have hN := c_X5_coins l G player R hIR
  rw [hE] at hM
  rw [hY] at hN
  obtain ⟨x, r⟩ := X
  obtain ⟨b9, R1⟩ := Y
  obtain ⟨ag1, ag2, ag3⟩ := ag
  have ag1 : mX5_thrown R1 = zk1 x := ag1
  have ag2 : x = none → b9 = r := ag2
  have ag3 : Rel (n + 1) L T E V M K R1 := ag3
  have hTh := c_X5_thrown l G R1
  rw [ag1] at hTh
  obtain ⟨kk, hkk⟩ : ∃ z, zk1 x = z := ⟨_, rfl⟩
  rw [hkk] at hTh
  have hM := hM
  change zYI l G.1 (zty G) yL_coins wsL_coins rmL_coins [.ref (G.2.2 0 0), .int player, .ref oa] (zWq G oa f (zWL G L T E V M K)) (zk1 x) (zWq G oa (zot x r f) (zWL G L T E V M K)) at hM
  rw [hkk] at hM
  refine zi_aload_n (pc := 389) F dL_law_389 1 rfl ?_
  refine zi_aload_n (pc := 390) F dL_law_390 0 rfl ?_
  refine zi_iload (pc := 391) F dL_law_391 4 rfl ?_
  refine zi_iconst (pc := 393) (v := 1) F dL_law_393 rfl ?_
  refine zi_iadd (pc := 394) F dL_law_394 ?_
  refine zi_sld (pc := 395) F hX hbl hbA in_1 ha_1 dL_law_395 ?_
  refine zi_aload_n (pc := 396) F dL_law_396 3 rfl ?_
  refine zi_callYI (pc := 397) (rest := []) (ws' := (zWq G oa (zot x r f) (zWL G L T E V M K ++ zWR G R))) F hsx hM (vx_cwSW 3 F.1.2.2.2.2 gL_law_L_coins rfl rfl rfl hd_L_coins ⟨Nat.le_of_ble_eq_true rfl, Nat.le_of_ble_eq_true rfl⟩) _ _ (zWq_L _ _ _ _ _) (zWq_L _ _ _ _ _).symm rfl rfl (Nat.le_of_ble_eq_true rfl) dL_law_397 ⟨by show _ ≤ 601024; omega, by show _ ≤ 7293034; omega⟩ ?_
  refine zi_istore (pc := 400) (lv' := [(0, .ref b), (1, .ref (G.2.2 0 0)), (2, .ref (G.2.2 6 0)), (3, .ref oa), (4, .int i), (5, .int kk)]) F dL_law_400 (by decide) rfl ?_
  refine zi_aload_n (pc := 402) F dL_law_402 2 rfl ?_
  refine zi_aload_n (pc := 403) F dL_law_403 0 rfl ?_
  refine zi_iload (pc := 404) F dL_law_404 4 rfl ?_
  refine zi_iconst (pc := 406) (v := 1) F dL_law_406 rfl ?_
  refine zi_iadd (pc := 407) F dL_law_407 ?_
  refine zi_sld (pc := 408) F hX hbl hbA in_1 ha_1 dL_law_408 ?_
  refine zi_callVI (pc := 409) (rest := []) (ws' := (zWq G oa (zot x r f) (zWL G L T E V M K ++ zWR G R1))) F hN (cwV 1 F.1.2.2.2.2 gL_law_X5_coins rfl rfl rfl hd_X5_coins ⟨Nat.le_of_ble_eq_true rfl, Nat.le_of_ble_eq_true rfl⟩) 0 rfl rfl _ _ (zWq_R _ _ _ _ _) (zWq_R _ _ _ _ _).symm rfl rfl (Nat.le_of_ble_eq_true rfl) dL_law_409 ⟨by show _ ≤ 601024; omega, by show _ ≤ 7293034; omega⟩ ?_
  refine zi_istore (pc := 412) (lv' := [(0, .ref b), (1, .ref (G.2.2 0 0)), (2, .ref (G.2.2 6 0)), (3, .ref oa), (4, .int i), (5, .int kk), (6, .int b9)]) F dL_law_412 (by decide) rfl ?_
  refine zi_aload_n (pc := 414) F dL_law_414 2 rfl ?_
  refine zi_callVI (pc := 415) (rest := []) (ws' := (zWq G oa (zot x r f) (zWL G L T E V M K ++ zWR G R1))) F hTh (cwV 0 F.1.2.2.2.2 gL_law_X5_thrown rfl rfl rfl hd_X5_thrown ⟨Nat.le_of_ble_eq_true rfl, Nat.le_of_ble_eq_true rfl⟩) 0 rfl rfl _ _ (zWq_R _ _ _ _ _) (zWq_R _ _ _ _ _).symm rfl rfl (Nat.le_of_ble_eq_true rfl) dL_law_415 ⟨by show _ ≤ 601024; omega, by show _ ≤ 7293034; omega⟩ ?_
  refine zi_iload (pc := 418) F dL_law_418 5 rfl ?_
  refine zi_icmp_eq (pc := 420) (tgt := 425) F dL_law_420 (by decide) (fun _ => ?_) (fun h => absurd rfl h)
  refine zi_iload (pc := 425) F dL_law_425 5 rfl ?_
  refine zi_if_ne (pc := 427) (tgt := 442) F dL_law_427 (by decide) (fun h => ?_) (fun h => ?_)
  · skip
    refine zi_goto (pc := 442) (tgt := 1018) F dL_law_442 (by decide) ?_
    refine zi_sub [0, 1, 2, 3, 4] rfl ?_
    exact hback _ L T E V M K R1 _ _ ag3 (by omega) (by omega)
  · have hx : x = none := zk1_0 (hkk.trans h)
    have e9 := ag2 hx
    subst e9
    refine zi_aload_n (pc := 430) F dL_law_430 3 rfl ?_
    refine zi_iconst (pc := 431) (v := 0) F dL_law_431 rfl ?_
    refine zi_lald (pc := 432) F 0 3 rfl rfl (zin (by decide) (by decide)) (zot_at hx) dL_law_432 ?_
    refine zi_iload (pc := 433) F dL_law_433 6 rfl ?_
    refine zi_i2l (pc := 435) F dL_law_435 ?_
    refine zi_lcmp (pc := 436) F dL_law_436 ?_
    rw [zcmp_self]
    refine zi_if_eq (pc := 437) (tgt := 442) F dL_law_437 (by decide) (fun _ => ?_) (fun h => absurd rfl h)
    refine zi_goto (pc := 442) (tgt := 1018) F dL_law_442 (by decide) ?_
    refine zi_sub [0, 1, 2, 3, 4] rfl ?_
    exact hback _ L T E V M K R1 _ _ ag3 (by omega) (by omega)
set_option maxHeartbeats 4000000 in
set_option maxRecDepth 100000 in
theorem zc_things (hfl : l.stackTraces = false) (hag : zAg_things Rel) (hinv : zHinv Rel) (F : zF p m c cL_law 7 s args wsL_law RL G.1 (zty G) A) (hsx : zSx s) (hX : va_X b Ln xs s s.heap) (hbl : b < s.heap.size) (hbA : ¬ A b) (hi0 : 0 ≤ i.toInt) (hi1 : i.toInt + 3 ≤ Ln) (hLn : Ln ≤ 1536) (hn : n < 512) (hback : zBk p l e s m args below meth c Q A G oa b i n Rel) (f : Nat → Int64) (L T E V M K R : zS_t) (cells slots : Nat) (hR : Rel n L T E V M K R) (hc : cells ≤ 81 + n) (hs : slots ≤ 2374 + 6 * n) : zW p l e room_1 s m args below meth c cells slots Q G.1 A 7 (zWq G oa f (zWL G L T E V M K ++ zWR G R)) [(0, .ref b), (1, .ref (G.2.2 0 0)), (2, .ref (G.2.2 6 0)), (3, .ref oa), (4, .int i)] 445 [] := by
  obtain ⟨hIT, hIE, hIM, hIR⟩ := hinv n L T E V M K R hR
  obtain ⟨X, hE⟩ : ∃ z, mX4_things T = z := ⟨_, rfl⟩
  obtain ⟨Y, hY⟩ : ∃ z, mX5_things R = z := ⟨_, rfl⟩
  have ag := hag n L T E V M K R hn hR X Y hE hY
  have hM := c_X4_things l G L T E V M K 
  have hN := c_X5_things l G R hIR
  rw [hE] at hM
  rw [hY] at hN
  skip
  obtain ⟨b9, R1⟩ := Y
  obtain ⟨ag1, ag3⟩ := ag
  have ag1 : b9 = X := ag1
  have ag3 : Rel (n + 1) L T E V M K R1 := ag3
  subst ag1
  refine zi_aload_n (pc := 445) F dL_law_445 1 rfl ?_
  refine zi_callVI (pc := 446) (rest := []) (ws' := (zWq G oa f (zWL G L T E V M K ++ zWR G R))) F hM (cwV 0 F.1.2.2.2.2 gL_law_X4_things rfl rfl rfl hd_X4_things ⟨Nat.le_of_ble_eq_true rfl, Nat.le_of_ble_eq_true rfl⟩) 0 rfl rfl _ _ (zWq_O _ _ _ _ _) (zWq_O _ _ _ _ _).symm rfl rfl (Nat.le_of_ble_eq_true rfl) dL_law_446 ⟨by show _ ≤ 601024; omega, by show _ ≤ 7293034; omega⟩ ?_
  refine zi_aload_n (pc := 449) F dL_law_449 2 rfl ?_
  refine zi_callVI (pc := 450) (rest := [.int b9]) (ws' := (zWq G oa f (zWL G L T E V M K ++ zWR G R1))) F hN (cwV 0 F.1.2.2.2.2 gL_law_X5_things rfl rfl rfl hd_X5_things ⟨Nat.le_of_ble_eq_true rfl, Nat.le_of_ble_eq_true rfl⟩) 0 rfl rfl _ _ (zWq_R _ _ _ _ _) (zWq_R _ _ _ _ _).symm rfl rfl (Nat.le_of_ble_eq_true rfl) dL_law_450 ⟨by show _ ≤ 601024; omega, by show _ ≤ 7293034; omega⟩ ?_
  refine zi_icmp_eq (pc := 453) (tgt := 1018) F dL_law_453 (by decide) (fun _ => ?_) (fun h => absurd rfl h)
  exact hback _ L T E V M K R1 _ _ ag3 (by omega) (by omega)
set_option maxHeartbeats 4000000 in
set_option maxRecDepth 100000 in
theorem zc_cardOf (hfl : l.stackTraces = false) (hag : zAg_cardOf Rel) (hinv : zHinv Rel) (F : zF p m c cL_law 7 s args wsL_law RL G.1 (zty G) A) (hsx : zSx s) (hX : va_X b Ln xs s s.heap) (hbl : b < s.heap.size) (hbA : ¬ A b) (hi0 : 0 ≤ i.toInt) (hi1 : i.toInt + 3 ≤ Ln) (hLn : Ln ≤ 1536) (hn : n < 512) (hback : zBk p l e s m args below meth c Q A G oa b i n Rel) (f : Nat → Int64) (L T E V M K R : zS_t) (cells slots : Nat) (hR : Rel n L T E V M K R) (hc : cells ≤ 81 + n) (hs : slots ≤ 2374 + 6 * n) : zW p l e room_1 s m args below meth c cells slots Q G.1 A 7 (zWq G oa f (zWL G L T E V M K ++ zWR G R)) [(0, .ref b), (1, .ref (G.2.2 0 0)), (2, .ref (G.2.2 6 0)), (3, .ref oa), (4, .int i)] 458 [] := by
  obtain ⟨hIT, hIE, hIM, hIR⟩ := hinv n L T E V M K R hR
  have k_1 : Int32.toInt 1 = 1 := by decide
  have t_1 := zt_add (a := i) (b := 1) (by omega) (by omega)
  have in_1 : vp_in (i + 1) Ln := zin (by omega) (by omega)
  obtain ⟨place, ha_1⟩ : ∃ z, xs (i + 1).toNatClampNeg = z := ⟨_, rfl⟩
  obtain ⟨X, hE⟩ : ∃ z, mX4_cardOf place T = z := ⟨_, rfl⟩
  obtain ⟨Y, hY⟩ : ∃ z, mX5_cardOf place R = z := ⟨_, rfl⟩
  have ag := hag n place L T E V M K R hn hR X Y hE hY
  have hM := c_L_cardOf l hfl G oa f place L T E V M K hIT
  have hN := c_X5_cardOf l G place R hIR
  rw [hE] at hM
  rw [hY] at hN
  obtain ⟨x, r⟩ := X
  obtain ⟨b9, R1⟩ := Y
  obtain ⟨ag1, ag2, ag3⟩ := ag
  have ag1 : mX5_thrown R1 = zk1 x := ag1
  have ag2 : x = none → b9 = r := ag2
  have ag3 : Rel (n + 1) L T E V M K R1 := ag3
  have hTh := c_X5_thrown l G R1
  rw [ag1] at hTh
  obtain ⟨kk, hkk⟩ : ∃ z, zk1 x = z := ⟨_, rfl⟩
  rw [hkk] at hTh
  have hM := hM
  change zYI l G.1 (zty G) yL_cardOf wsL_cardOf rmL_cardOf [.ref (G.2.2 0 0), .int place, .ref oa] (zWq G oa f (zWL G L T E V M K)) (zk1 x) (zWq G oa (zot x r f) (zWL G L T E V M K)) at hM
  rw [hkk] at hM
  refine zi_aload_n (pc := 458) F dL_law_458 1 rfl ?_
  refine zi_aload_n (pc := 459) F dL_law_459 0 rfl ?_
  refine zi_iload (pc := 460) F dL_law_460 4 rfl ?_
  refine zi_iconst (pc := 462) (v := 1) F dL_law_462 rfl ?_
  refine zi_iadd (pc := 463) F dL_law_463 ?_
  refine zi_sld (pc := 464) F hX hbl hbA in_1 ha_1 dL_law_464 ?_
  refine zi_aload_n (pc := 465) F dL_law_465 3 rfl ?_
  refine zi_callYI (pc := 466) (rest := []) (ws' := (zWq G oa (zot x r f) (zWL G L T E V M K ++ zWR G R))) F hsx hM (vx_cwSW 3 F.1.2.2.2.2 gL_law_L_cardOf rfl rfl rfl hd_L_cardOf ⟨Nat.le_of_ble_eq_true rfl, Nat.le_of_ble_eq_true rfl⟩) _ _ (zWq_L _ _ _ _ _) (zWq_L _ _ _ _ _).symm rfl rfl (Nat.le_of_ble_eq_true rfl) dL_law_466 ⟨by show _ ≤ 601024; omega, by show _ ≤ 7293034; omega⟩ ?_
  refine zi_istore (pc := 469) (lv' := [(0, .ref b), (1, .ref (G.2.2 0 0)), (2, .ref (G.2.2 6 0)), (3, .ref oa), (4, .int i), (5, .int kk)]) F dL_law_469 (by decide) rfl ?_
  refine zi_aload_n (pc := 471) F dL_law_471 2 rfl ?_
  refine zi_aload_n (pc := 472) F dL_law_472 0 rfl ?_
  refine zi_iload (pc := 473) F dL_law_473 4 rfl ?_
  refine zi_iconst (pc := 475) (v := 1) F dL_law_475 rfl ?_
  refine zi_iadd (pc := 476) F dL_law_476 ?_
  refine zi_sld (pc := 477) F hX hbl hbA in_1 ha_1 dL_law_477 ?_
  refine zi_callVI (pc := 478) (rest := []) (ws' := (zWq G oa (zot x r f) (zWL G L T E V M K ++ zWR G R1))) F hN (cwV 1 F.1.2.2.2.2 gL_law_X5_cardOf rfl rfl rfl hd_X5_cardOf ⟨Nat.le_of_ble_eq_true rfl, Nat.le_of_ble_eq_true rfl⟩) 0 rfl rfl _ _ (zWq_R _ _ _ _ _) (zWq_R _ _ _ _ _).symm rfl rfl (Nat.le_of_ble_eq_true rfl) dL_law_478 ⟨by show _ ≤ 601024; omega, by show _ ≤ 7293034; omega⟩ ?_
  refine zi_istore (pc := 481) (lv' := [(0, .ref b), (1, .ref (G.2.2 0 0)), (2, .ref (G.2.2 6 0)), (3, .ref oa), (4, .int i), (5, .int kk), (6, .int b9)]) F dL_law_481 (by decide) rfl ?_
  refine zi_aload_n (pc := 483) F dL_law_483 2 rfl ?_
  refine zi_callVI (pc := 484) (rest := []) (ws' := (zWq G oa (zot x r f) (zWL G L T E V M K ++ zWR G R1))) F hTh (cwV 0 F.1.2.2.2.2 gL_law_X5_thrown rfl rfl rfl hd_X5_thrown ⟨Nat.le_of_ble_eq_true rfl, Nat.le_of_ble_eq_true rfl⟩) 0 rfl rfl _ _ (zWq_R _ _ _ _ _) (zWq_R _ _ _ _ _).symm rfl rfl (Nat.le_of_ble_eq_true rfl) dL_law_484 ⟨by show _ ≤ 601024; omega, by show _ ≤ 7293034; omega⟩ ?_
  refine zi_iload (pc := 487) F dL_law_487 5 rfl ?_
  refine zi_icmp_eq (pc := 489) (tgt := 494) F dL_law_489 (by decide) (fun _ => ?_) (fun h => absurd rfl h)
  refine zi_iload (pc := 494) F dL_law_494 5 rfl ?_
  refine zi_if_ne (pc := 496) (tgt := 511) F dL_law_496 (by decide) (fun h => ?_) (fun h => ?_)
  · skip
    refine zi_goto (pc := 511) (tgt := 1018) F dL_law_511 (by decide) ?_
    refine zi_sub [0, 1, 2, 3, 4] rfl ?_
    exact hback _ L T E V M K R1 _ _ ag3 (by omega) (by omega)
  · have hx : x = none := zk1_0 (hkk.trans h)
    have e9 := ag2 hx
    subst e9
    refine zi_aload_n (pc := 499) F dL_law_499 3 rfl ?_
    refine zi_iconst (pc := 500) (v := 0) F dL_law_500 rfl ?_
    refine zi_lald (pc := 501) F 0 3 rfl rfl (zin (by decide) (by decide)) (zot_at hx) dL_law_501 ?_
    refine zi_iload (pc := 502) F dL_law_502 6 rfl ?_
    refine zi_i2l (pc := 504) F dL_law_504 ?_
    refine zi_lcmp (pc := 505) F dL_law_505 ?_
    rw [zcmp_self]
    refine zi_if_eq (pc := 506) (tgt := 511) F dL_law_506 (by decide) (fun _ => ?_) (fun h => absurd rfl h)
    refine zi_goto (pc := 511) (tgt := 1018) F dL_law_511 (by decide) ?_
    refine zi_sub [0, 1, 2, 3, 4] rfl ?_
    exact hback _ L T E V M K R1 _ _ ag3 (by omega) (by omega)
set_option maxHeartbeats 4000000 in
set_option maxRecDepth 100000 in
theorem zc_controllerOf (hfl : l.stackTraces = false) (hag : zAg_controllerOf Rel) (hinv : zHinv Rel) (F : zF p m c cL_law 7 s args wsL_law RL G.1 (zty G) A) (hsx : zSx s) (hX : va_X b Ln xs s s.heap) (hbl : b < s.heap.size) (hbA : ¬ A b) (hi0 : 0 ≤ i.toInt) (hi1 : i.toInt + 3 ≤ Ln) (hLn : Ln ≤ 1536) (hn : n < 512) (hback : zBk p l e s m args below meth c Q A G oa b i n Rel) (f : Nat → Int64) (L T E V M K R : zS_t) (cells slots : Nat) (hR : Rel n L T E V M K R) (hc : cells ≤ 81 + n) (hs : slots ≤ 2374 + 6 * n) : zW p l e room_1 s m args below meth c cells slots Q G.1 A 7 (zWq G oa f (zWL G L T E V M K ++ zWR G R)) [(0, .ref b), (1, .ref (G.2.2 0 0)), (2, .ref (G.2.2 6 0)), (3, .ref oa), (4, .int i)] 514 [] := by
  obtain ⟨hIT, hIE, hIM, hIR⟩ := hinv n L T E V M K R hR
  have k_1 : Int32.toInt 1 = 1 := by decide
  have t_1 := zt_add (a := i) (b := 1) (by omega) (by omega)
  have in_1 : vp_in (i + 1) Ln := zin (by omega) (by omega)
  obtain ⟨place, ha_1⟩ : ∃ z, xs (i + 1).toNatClampNeg = z := ⟨_, rfl⟩
  have k_2 : Int32.toInt 2 = 2 := by decide
  have t_2 := zt_add (a := i) (b := 2) (by omega) (by omega)
  have in_2 : vp_in (i + 2) Ln := zin (by omega) (by omega)
  obtain ⟨layer, ha_2⟩ : ∃ z, xs (i + 2).toNatClampNeg = z := ⟨_, rfl⟩
  obtain ⟨X, hE⟩ : ∃ z, mX4_controllerOf place layer T V = z := ⟨_, rfl⟩
  obtain ⟨Y, hY⟩ : ∃ z, mX5_controllerOf place layer R = z := ⟨_, rfl⟩
  have ag := hag n place layer L T E V M K R hn hR X Y hE hY
  have hM := c_L_controllerOf l hfl G oa f place layer L T E V M K hIT
  have hN := c_X5_controllerOf l G place layer R hIR
  rw [hE] at hM
  rw [hY] at hN
  obtain ⟨x, r, V1⟩ := X
  obtain ⟨b9, R1⟩ := Y
  obtain ⟨ag1, ag2, ag3⟩ := ag
  have ag1 : mX5_thrown R1 = zk2 x := ag1
  have ag2 : x = none → b9 = r := ag2
  have ag3 : Rel (n + 1) L T E V1 M K R1 := ag3
  have hTh := c_X5_thrown l G R1
  rw [ag1] at hTh
  obtain ⟨kk, hkk⟩ : ∃ z, zk2 x = z := ⟨_, rfl⟩
  rw [hkk] at hTh
  have hM := hM
  change zYI l G.1 (zty G) yL_controllerOf wsL_controllerOf rmL_controllerOf [.ref (G.2.2 0 0), .int place, .int layer, .ref oa] (zWq G oa f (zWL G L T E V M K)) (zk2 x) (zWq G oa (zot x r f) (zWL G L T E V1 M K)) at hM
  rw [hkk] at hM
  refine zi_aload_n (pc := 514) F dL_law_514 1 rfl ?_
  refine zi_aload_n (pc := 515) F dL_law_515 0 rfl ?_
  refine zi_iload (pc := 516) F dL_law_516 4 rfl ?_
  refine zi_iconst (pc := 518) (v := 1) F dL_law_518 rfl ?_
  refine zi_iadd (pc := 519) F dL_law_519 ?_
  refine zi_sld (pc := 520) F hX hbl hbA in_1 ha_1 dL_law_520 ?_
  refine zi_aload_n (pc := 521) F dL_law_521 0 rfl ?_
  refine zi_iload (pc := 522) F dL_law_522 4 rfl ?_
  refine zi_iconst (pc := 524) (v := 2) F dL_law_524 rfl ?_
  refine zi_iadd (pc := 525) F dL_law_525 ?_
  refine zi_sld (pc := 526) F hX hbl hbA in_2 ha_2 dL_law_526 ?_
  refine zi_aload_n (pc := 527) F dL_law_527 3 rfl ?_
  refine zi_callYI (pc := 528) (rest := []) (ws' := (zWq G oa (zot x r f) (zWL G L T E V1 M K ++ zWR G R))) F hsx hM (vx_cwSW 4 F.1.2.2.2.2 gL_law_L_controllerOf rfl rfl rfl hd_L_controllerOf ⟨Nat.le_of_ble_eq_true rfl, Nat.le_of_ble_eq_true rfl⟩) _ _ (zWq_L _ _ _ _ _) (zWq_L _ _ _ _ _).symm rfl rfl (Nat.le_of_ble_eq_true rfl) dL_law_528 ⟨by show _ ≤ 601024; omega, by show _ ≤ 7293034; omega⟩ ?_
  refine zi_istore (pc := 531) (lv' := [(0, .ref b), (1, .ref (G.2.2 0 0)), (2, .ref (G.2.2 6 0)), (3, .ref oa), (4, .int i), (5, .int kk)]) F dL_law_531 (by decide) rfl ?_
  refine zi_aload_n (pc := 533) F dL_law_533 2 rfl ?_
  refine zi_aload_n (pc := 534) F dL_law_534 0 rfl ?_
  refine zi_iload (pc := 535) F dL_law_535 4 rfl ?_
  refine zi_iconst (pc := 537) (v := 1) F dL_law_537 rfl ?_
  refine zi_iadd (pc := 538) F dL_law_538 ?_
  refine zi_sld (pc := 539) F hX hbl hbA in_1 ha_1 dL_law_539 ?_
  refine zi_aload_n (pc := 540) F dL_law_540 0 rfl ?_
  refine zi_iload (pc := 541) F dL_law_541 4 rfl ?_
  refine zi_iconst (pc := 543) (v := 2) F dL_law_543 rfl ?_
  refine zi_iadd (pc := 544) F dL_law_544 ?_
  refine zi_sld (pc := 545) F hX hbl hbA in_2 ha_2 dL_law_545 ?_
  refine zi_callVI (pc := 546) (rest := []) (ws' := (zWq G oa (zot x r f) (zWL G L T E V1 M K ++ zWR G R1))) F hN (cwV 2 F.1.2.2.2.2 gL_law_X5_controllerOf rfl rfl rfl hd_X5_controllerOf ⟨Nat.le_of_ble_eq_true rfl, Nat.le_of_ble_eq_true rfl⟩) 0 rfl rfl _ _ (zWq_R _ _ _ _ _) (zWq_R _ _ _ _ _).symm rfl rfl (Nat.le_of_ble_eq_true rfl) dL_law_546 ⟨by show _ ≤ 601024; omega, by show _ ≤ 7293034; omega⟩ ?_
  refine zi_istore (pc := 549) (lv' := [(0, .ref b), (1, .ref (G.2.2 0 0)), (2, .ref (G.2.2 6 0)), (3, .ref oa), (4, .int i), (5, .int kk), (6, .int b9)]) F dL_law_549 (by decide) rfl ?_
  refine zi_aload_n (pc := 551) F dL_law_551 2 rfl ?_
  refine zi_callVI (pc := 552) (rest := []) (ws' := (zWq G oa (zot x r f) (zWL G L T E V1 M K ++ zWR G R1))) F hTh (cwV 0 F.1.2.2.2.2 gL_law_X5_thrown rfl rfl rfl hd_X5_thrown ⟨Nat.le_of_ble_eq_true rfl, Nat.le_of_ble_eq_true rfl⟩) 0 rfl rfl _ _ (zWq_R _ _ _ _ _) (zWq_R _ _ _ _ _).symm rfl rfl (Nat.le_of_ble_eq_true rfl) dL_law_552 ⟨by show _ ≤ 601024; omega, by show _ ≤ 7293034; omega⟩ ?_
  refine zi_iload (pc := 555) F dL_law_555 5 rfl ?_
  refine zi_icmp_eq (pc := 557) (tgt := 562) F dL_law_557 (by decide) (fun _ => ?_) (fun h => absurd rfl h)
  refine zi_iload (pc := 562) F dL_law_562 5 rfl ?_
  refine zi_if_ne (pc := 564) (tgt := 579) F dL_law_564 (by decide) (fun h => ?_) (fun h => ?_)
  · skip
    refine zi_goto (pc := 579) (tgt := 1018) F dL_law_579 (by decide) ?_
    refine zi_sub [0, 1, 2, 3, 4] rfl ?_
    exact hback _ L T E V1 M K R1 _ _ ag3 (by omega) (by omega)
  · have hx : x = none := zk2_0 (hkk.trans h)
    have e9 := ag2 hx
    subst e9
    refine zi_aload_n (pc := 567) F dL_law_567 3 rfl ?_
    refine zi_iconst (pc := 568) (v := 0) F dL_law_568 rfl ?_
    refine zi_lald (pc := 569) F 0 3 rfl rfl (zin (by decide) (by decide)) (zot_at hx) dL_law_569 ?_
    refine zi_iload (pc := 570) F dL_law_570 6 rfl ?_
    refine zi_i2l (pc := 572) F dL_law_572 ?_
    refine zi_lcmp (pc := 573) F dL_law_573 ?_
    rw [zcmp_self]
    refine zi_if_eq (pc := 574) (tgt := 579) F dL_law_574 (by decide) (fun _ => ?_) (fun h => absurd rfl h)
    refine zi_goto (pc := 579) (tgt := 1018) F dL_law_579 (by decide) ?_
    refine zi_sub [0, 1, 2, 3, 4] rfl ?_
    exact hback _ L T E V1 M K R1 _ _ ag3 (by omega) (by omega)
set_option maxHeartbeats 4000000 in
set_option maxRecDepth 100000 in
theorem zc_kindsOf (hfl : l.stackTraces = false) (hag : zAg_kindsOf Rel) (hinv : zHinv Rel) (F : zF p m c cL_law 7 s args wsL_law RL G.1 (zty G) A) (hsx : zSx s) (hX : va_X b Ln xs s s.heap) (hbl : b < s.heap.size) (hbA : ¬ A b) (hi0 : 0 ≤ i.toInt) (hi1 : i.toInt + 3 ≤ Ln) (hLn : Ln ≤ 1536) (hn : n < 512) (hback : zBk p l e s m args below meth c Q A G oa b i n Rel) (f : Nat → Int64) (L T E V M K R : zS_t) (cells slots : Nat) (hR : Rel n L T E V M K R) (hc : cells ≤ 81 + n) (hs : slots ≤ 2374 + 6 * n) : zW p l e room_1 s m args below meth c cells slots Q G.1 A 7 (zWq G oa f (zWL G L T E V M K ++ zWR G R)) [(0, .ref b), (1, .ref (G.2.2 0 0)), (2, .ref (G.2.2 6 0)), (3, .ref oa), (4, .int i)] 582 [] := by
  obtain ⟨hIT, hIE, hIM, hIR⟩ := hinv n L T E V M K R hR
  have k_1 : Int32.toInt 1 = 1 := by decide
  have t_1 := zt_add (a := i) (b := 1) (by omega) (by omega)
  have in_1 : vp_in (i + 1) Ln := zin (by omega) (by omega)
  obtain ⟨place, ha_1⟩ : ∃ z, xs (i + 1).toNatClampNeg = z := ⟨_, rfl⟩
  have k_2 : Int32.toInt 2 = 2 := by decide
  have t_2 := zt_add (a := i) (b := 2) (by omega) (by omega)
  have in_2 : vp_in (i + 2) Ln := zin (by omega) (by omega)
  obtain ⟨layer, ha_2⟩ : ∃ z, xs (i + 2).toNatClampNeg = z := ⟨_, rfl⟩
  obtain ⟨X, hE⟩ : ∃ z, mX4_kindsOf place layer T V = z := ⟨_, rfl⟩
  obtain ⟨Y, hY⟩ : ∃ z, mX5_kindsOf place layer R = z := ⟨_, rfl⟩
  have ag := hag n place layer L T E V M K R hn hR X Y hE hY
  have hM := c_L_kindsOf l hfl G oa f place layer L T E V M K hIT
  have hN := c_X5_kindsOf l G place layer R hIR
  rw [hE] at hM
  rw [hY] at hN
  obtain ⟨x, r, V1⟩ := X
  obtain ⟨b9, R1⟩ := Y
  obtain ⟨ag1, ag2, ag3⟩ := ag
  have ag1 : mX5_thrown R1 = zk2 x := ag1
  have ag2 : x = none → b9 = r := ag2
  have ag3 : Rel (n + 1) L T E V1 M K R1 := ag3
  have hTh := c_X5_thrown l G R1
  rw [ag1] at hTh
  obtain ⟨kk, hkk⟩ : ∃ z, zk2 x = z := ⟨_, rfl⟩
  rw [hkk] at hTh
  have hM := hM
  change zYI l G.1 (zty G) yL_kindsOf wsL_kindsOf rmL_kindsOf [.ref (G.2.2 0 0), .int place, .int layer, .ref oa] (zWq G oa f (zWL G L T E V M K)) (zk2 x) (zWq G oa (zot x r f) (zWL G L T E V1 M K)) at hM
  rw [hkk] at hM
  refine zi_aload_n (pc := 582) F dL_law_582 1 rfl ?_
  refine zi_aload_n (pc := 583) F dL_law_583 0 rfl ?_
  refine zi_iload (pc := 584) F dL_law_584 4 rfl ?_
  refine zi_iconst (pc := 586) (v := 1) F dL_law_586 rfl ?_
  refine zi_iadd (pc := 587) F dL_law_587 ?_
  refine zi_sld (pc := 588) F hX hbl hbA in_1 ha_1 dL_law_588 ?_
  refine zi_aload_n (pc := 589) F dL_law_589 0 rfl ?_
  refine zi_iload (pc := 590) F dL_law_590 4 rfl ?_
  refine zi_iconst (pc := 592) (v := 2) F dL_law_592 rfl ?_
  refine zi_iadd (pc := 593) F dL_law_593 ?_
  refine zi_sld (pc := 594) F hX hbl hbA in_2 ha_2 dL_law_594 ?_
  refine zi_aload_n (pc := 595) F dL_law_595 3 rfl ?_
  refine zi_callYI (pc := 596) (rest := []) (ws' := (zWq G oa (zot x r f) (zWL G L T E V1 M K ++ zWR G R))) F hsx hM (vx_cwSW 4 F.1.2.2.2.2 gL_law_L_kindsOf rfl rfl rfl hd_L_kindsOf ⟨Nat.le_of_ble_eq_true rfl, Nat.le_of_ble_eq_true rfl⟩) _ _ (zWq_L _ _ _ _ _) (zWq_L _ _ _ _ _).symm rfl rfl (Nat.le_of_ble_eq_true rfl) dL_law_596 ⟨by show _ ≤ 601024; omega, by show _ ≤ 7293034; omega⟩ ?_
  refine zi_istore (pc := 599) (lv' := [(0, .ref b), (1, .ref (G.2.2 0 0)), (2, .ref (G.2.2 6 0)), (3, .ref oa), (4, .int i), (5, .int kk)]) F dL_law_599 (by decide) rfl ?_
  refine zi_aload_n (pc := 601) F dL_law_601 2 rfl ?_
  refine zi_aload_n (pc := 602) F dL_law_602 0 rfl ?_
  refine zi_iload (pc := 603) F dL_law_603 4 rfl ?_
  refine zi_iconst (pc := 605) (v := 1) F dL_law_605 rfl ?_
  refine zi_iadd (pc := 606) F dL_law_606 ?_
  refine zi_sld (pc := 607) F hX hbl hbA in_1 ha_1 dL_law_607 ?_
  refine zi_aload_n (pc := 608) F dL_law_608 0 rfl ?_
  refine zi_iload (pc := 609) F dL_law_609 4 rfl ?_
  refine zi_iconst (pc := 611) (v := 2) F dL_law_611 rfl ?_
  refine zi_iadd (pc := 612) F dL_law_612 ?_
  refine zi_sld (pc := 613) F hX hbl hbA in_2 ha_2 dL_law_613 ?_
  refine zi_callVI (pc := 614) (rest := []) (ws' := (zWq G oa (zot x r f) (zWL G L T E V1 M K ++ zWR G R1))) F hN (cwV 2 F.1.2.2.2.2 gL_law_X5_kindsOf rfl rfl rfl hd_X5_kindsOf ⟨Nat.le_of_ble_eq_true rfl, Nat.le_of_ble_eq_true rfl⟩) 0 rfl rfl _ _ (zWq_R _ _ _ _ _) (zWq_R _ _ _ _ _).symm rfl rfl (Nat.le_of_ble_eq_true rfl) dL_law_614 ⟨by show _ ≤ 601024; omega, by show _ ≤ 7293034; omega⟩ ?_
  refine zi_istore (pc := 617) (lv' := [(0, .ref b), (1, .ref (G.2.2 0 0)), (2, .ref (G.2.2 6 0)), (3, .ref oa), (4, .int i), (5, .int kk), (6, .int b9)]) F dL_law_617 (by decide) rfl ?_
  refine zi_aload_n (pc := 619) F dL_law_619 2 rfl ?_
  refine zi_callVI (pc := 620) (rest := []) (ws' := (zWq G oa (zot x r f) (zWL G L T E V1 M K ++ zWR G R1))) F hTh (cwV 0 F.1.2.2.2.2 gL_law_X5_thrown rfl rfl rfl hd_X5_thrown ⟨Nat.le_of_ble_eq_true rfl, Nat.le_of_ble_eq_true rfl⟩) 0 rfl rfl _ _ (zWq_R _ _ _ _ _) (zWq_R _ _ _ _ _).symm rfl rfl (Nat.le_of_ble_eq_true rfl) dL_law_620 ⟨by show _ ≤ 601024; omega, by show _ ≤ 7293034; omega⟩ ?_
  refine zi_iload (pc := 623) F dL_law_623 5 rfl ?_
  refine zi_icmp_eq (pc := 625) (tgt := 630) F dL_law_625 (by decide) (fun _ => ?_) (fun h => absurd rfl h)
  refine zi_iload (pc := 630) F dL_law_630 5 rfl ?_
  refine zi_if_ne (pc := 632) (tgt := 647) F dL_law_632 (by decide) (fun h => ?_) (fun h => ?_)
  · skip
    refine zi_goto (pc := 647) (tgt := 1018) F dL_law_647 (by decide) ?_
    refine zi_sub [0, 1, 2, 3, 4] rfl ?_
    exact hback _ L T E V1 M K R1 _ _ ag3 (by omega) (by omega)
  · have hx : x = none := zk2_0 (hkk.trans h)
    have e9 := ag2 hx
    subst e9
    refine zi_aload_n (pc := 635) F dL_law_635 3 rfl ?_
    refine zi_iconst (pc := 636) (v := 0) F dL_law_636 rfl ?_
    refine zi_lald (pc := 637) F 0 3 rfl rfl (zin (by decide) (by decide)) (zot_at hx) dL_law_637 ?_
    refine zi_iload (pc := 638) F dL_law_638 6 rfl ?_
    refine zi_i2l (pc := 640) F dL_law_640 ?_
    refine zi_lcmp (pc := 641) F dL_law_641 ?_
    rw [zcmp_self]
    refine zi_if_eq (pc := 642) (tgt := 647) F dL_law_642 (by decide) (fun _ => ?_) (fun h => absurd rfl h)
    refine zi_goto (pc := 647) (tgt := 1018) F dL_law_647 (by decide) ?_
    refine zi_sub [0, 1, 2, 3, 4] rfl ?_
    exact hback _ L T E V1 M K R1 _ _ ag3 (by omega) (by omega)
set_option maxHeartbeats 4000000 in
set_option maxRecDepth 100000 in
theorem zc_strengthOf (hfl : l.stackTraces = false) (hag : zAg_strengthOf Rel) (hinv : zHinv Rel) (F : zF p m c cL_law 7 s args wsL_law RL G.1 (zty G) A) (hsx : zSx s) (hX : va_X b Ln xs s s.heap) (hbl : b < s.heap.size) (hbA : ¬ A b) (hi0 : 0 ≤ i.toInt) (hi1 : i.toInt + 3 ≤ Ln) (hLn : Ln ≤ 1536) (hn : n < 512) (hback : zBk p l e s m args below meth c Q A G oa b i n Rel) (f : Nat → Int64) (L T E V M K R : zS_t) (cells slots : Nat) (hR : Rel n L T E V M K R) (hc : cells ≤ 81 + n) (hs : slots ≤ 2374 + 6 * n) : zW p l e room_1 s m args below meth c cells slots Q G.1 A 7 (zWq G oa f (zWL G L T E V M K ++ zWR G R)) [(0, .ref b), (1, .ref (G.2.2 0 0)), (2, .ref (G.2.2 6 0)), (3, .ref oa), (4, .int i)] 650 [] := by
  obtain ⟨hIT, hIE, hIM, hIR⟩ := hinv n L T E V M K R hR
  have k_1 : Int32.toInt 1 = 1 := by decide
  have t_1 := zt_add (a := i) (b := 1) (by omega) (by omega)
  have in_1 : vp_in (i + 1) Ln := zin (by omega) (by omega)
  obtain ⟨place, ha_1⟩ : ∃ z, xs (i + 1).toNatClampNeg = z := ⟨_, rfl⟩
  have k_2 : Int32.toInt 2 = 2 := by decide
  have t_2 := zt_add (a := i) (b := 2) (by omega) (by omega)
  have in_2 : vp_in (i + 2) Ln := zin (by omega) (by omega)
  obtain ⟨layer, ha_2⟩ : ∃ z, xs (i + 2).toNatClampNeg = z := ⟨_, rfl⟩
  obtain ⟨X, hE⟩ : ∃ z, mX4_strengthOf place layer T V = z := ⟨_, rfl⟩
  obtain ⟨Y, hY⟩ : ∃ z, mX5_strengthOf place layer R = z := ⟨_, rfl⟩
  have ag := hag n place layer L T E V M K R hn hR X Y hE hY
  have hM := c_L_strengthOf l hfl G oa f place layer L T E V M K hIT
  have hN := c_X5_strengthOf l G place layer R hIR
  rw [hE] at hM
  rw [hY] at hN
  obtain ⟨x, r, V1⟩ := X
  obtain ⟨b9, R1⟩ := Y
  obtain ⟨ag1, ag2, ag3⟩ := ag
  have ag1 : mX5_thrown R1 = zk2 x := ag1
  have ag2 : x = none → b9 = r := ag2
  have ag3 : Rel (n + 1) L T E V1 M K R1 := ag3
  have hTh := c_X5_thrown l G R1
  rw [ag1] at hTh
  obtain ⟨kk, hkk⟩ : ∃ z, zk2 x = z := ⟨_, rfl⟩
  rw [hkk] at hTh
  have hM := hM
  change zYI l G.1 (zty G) yL_strengthOf wsL_strengthOf rmL_strengthOf [.ref (G.2.2 0 0), .int place, .int layer, .ref oa] (zWq G oa f (zWL G L T E V M K)) (zk2 x) (zWq G oa (zot x r f) (zWL G L T E V1 M K)) at hM
  rw [hkk] at hM
  refine zi_aload_n (pc := 650) F dL_law_650 1 rfl ?_
  refine zi_aload_n (pc := 651) F dL_law_651 0 rfl ?_
  refine zi_iload (pc := 652) F dL_law_652 4 rfl ?_
  refine zi_iconst (pc := 654) (v := 1) F dL_law_654 rfl ?_
  refine zi_iadd (pc := 655) F dL_law_655 ?_
  refine zi_sld (pc := 656) F hX hbl hbA in_1 ha_1 dL_law_656 ?_
  refine zi_aload_n (pc := 657) F dL_law_657 0 rfl ?_
  refine zi_iload (pc := 658) F dL_law_658 4 rfl ?_
  refine zi_iconst (pc := 660) (v := 2) F dL_law_660 rfl ?_
  refine zi_iadd (pc := 661) F dL_law_661 ?_
  refine zi_sld (pc := 662) F hX hbl hbA in_2 ha_2 dL_law_662 ?_
  refine zi_aload_n (pc := 663) F dL_law_663 3 rfl ?_
  refine zi_callYI (pc := 664) (rest := []) (ws' := (zWq G oa (zot x r f) (zWL G L T E V1 M K ++ zWR G R))) F hsx hM (vx_cwSW 4 F.1.2.2.2.2 gL_law_L_strengthOf rfl rfl rfl hd_L_strengthOf ⟨Nat.le_of_ble_eq_true rfl, Nat.le_of_ble_eq_true rfl⟩) _ _ (zWq_L _ _ _ _ _) (zWq_L _ _ _ _ _).symm rfl rfl (Nat.le_of_ble_eq_true rfl) dL_law_664 ⟨by show _ ≤ 601024; omega, by show _ ≤ 7293034; omega⟩ ?_
  refine zi_istore (pc := 667) (lv' := [(0, .ref b), (1, .ref (G.2.2 0 0)), (2, .ref (G.2.2 6 0)), (3, .ref oa), (4, .int i), (5, .int kk)]) F dL_law_667 (by decide) rfl ?_
  refine zi_aload_n (pc := 669) F dL_law_669 2 rfl ?_
  refine zi_aload_n (pc := 670) F dL_law_670 0 rfl ?_
  refine zi_iload (pc := 671) F dL_law_671 4 rfl ?_
  refine zi_iconst (pc := 673) (v := 1) F dL_law_673 rfl ?_
  refine zi_iadd (pc := 674) F dL_law_674 ?_
  refine zi_sld (pc := 675) F hX hbl hbA in_1 ha_1 dL_law_675 ?_
  refine zi_aload_n (pc := 676) F dL_law_676 0 rfl ?_
  refine zi_iload (pc := 677) F dL_law_677 4 rfl ?_
  refine zi_iconst (pc := 679) (v := 2) F dL_law_679 rfl ?_
  refine zi_iadd (pc := 680) F dL_law_680 ?_
  refine zi_sld (pc := 681) F hX hbl hbA in_2 ha_2 dL_law_681 ?_
  refine zi_callVI (pc := 682) (rest := []) (ws' := (zWq G oa (zot x r f) (zWL G L T E V1 M K ++ zWR G R1))) F hN (cwV 2 F.1.2.2.2.2 gL_law_X5_strengthOf rfl rfl rfl hd_X5_strengthOf ⟨Nat.le_of_ble_eq_true rfl, Nat.le_of_ble_eq_true rfl⟩) 0 rfl rfl _ _ (zWq_R _ _ _ _ _) (zWq_R _ _ _ _ _).symm rfl rfl (Nat.le_of_ble_eq_true rfl) dL_law_682 ⟨by show _ ≤ 601024; omega, by show _ ≤ 7293034; omega⟩ ?_
  refine zi_istore (pc := 685) (lv' := [(0, .ref b), (1, .ref (G.2.2 0 0)), (2, .ref (G.2.2 6 0)), (3, .ref oa), (4, .int i), (5, .int kk), (6, .int b9)]) F dL_law_685 (by decide) rfl ?_
  refine zi_aload_n (pc := 687) F dL_law_687 2 rfl ?_
  refine zi_callVI (pc := 688) (rest := []) (ws' := (zWq G oa (zot x r f) (zWL G L T E V1 M K ++ zWR G R1))) F hTh (cwV 0 F.1.2.2.2.2 gL_law_X5_thrown rfl rfl rfl hd_X5_thrown ⟨Nat.le_of_ble_eq_true rfl, Nat.le_of_ble_eq_true rfl⟩) 0 rfl rfl _ _ (zWq_R _ _ _ _ _) (zWq_R _ _ _ _ _).symm rfl rfl (Nat.le_of_ble_eq_true rfl) dL_law_688 ⟨by show _ ≤ 601024; omega, by show _ ≤ 7293034; omega⟩ ?_
  refine zi_iload (pc := 691) F dL_law_691 5 rfl ?_
  refine zi_icmp_eq (pc := 693) (tgt := 698) F dL_law_693 (by decide) (fun _ => ?_) (fun h => absurd rfl h)
  refine zi_iload (pc := 698) F dL_law_698 5 rfl ?_
  refine zi_if_ne (pc := 700) (tgt := 715) F dL_law_700 (by decide) (fun h => ?_) (fun h => ?_)
  · skip
    refine zi_goto (pc := 715) (tgt := 1018) F dL_law_715 (by decide) ?_
    refine zi_sub [0, 1, 2, 3, 4] rfl ?_
    exact hback _ L T E V1 M K R1 _ _ ag3 (by omega) (by omega)
  · have hx : x = none := zk2_0 (hkk.trans h)
    have e9 := ag2 hx
    subst e9
    refine zi_aload_n (pc := 703) F dL_law_703 3 rfl ?_
    refine zi_iconst (pc := 704) (v := 0) F dL_law_704 rfl ?_
    refine zi_lald (pc := 705) F 0 3 rfl rfl (zin (by decide) (by decide)) (zot_at hx) dL_law_705 ?_
    refine zi_iload (pc := 706) F dL_law_706 6 rfl ?_
    refine zi_i2l (pc := 708) F dL_law_708 ?_
    refine zi_lcmp (pc := 709) F dL_law_709 ?_
    rw [zcmp_self]
    refine zi_if_eq (pc := 710) (tgt := 715) F dL_law_710 (by decide) (fun _ => ?_) (fun h => absurd rfl h)
    refine zi_goto (pc := 715) (tgt := 1018) F dL_law_715 (by decide) ?_
    refine zi_sub [0, 1, 2, 3, 4] rfl ?_
    exact hback _ L T E V1 M K R1 _ _ ag3 (by omega) (by omega)
set_option maxHeartbeats 4000000 in
set_option maxRecDepth 100000 in
theorem zc_power (hfl : l.stackTraces = false) (hag : zAg_power Rel) (hinv : zHinv Rel) (F : zF p m c cL_law 7 s args wsL_law RL G.1 (zty G) A) (hsx : zSx s) (hX : va_X b Ln xs s s.heap) (hbl : b < s.heap.size) (hbA : ¬ A b) (hi0 : 0 ≤ i.toInt) (hi1 : i.toInt + 3 ≤ Ln) (hLn : Ln ≤ 1536) (hn : n < 512) (hback : zBk p l e s m args below meth c Q A G oa b i n Rel) (f : Nat → Int64) (L T E V M K R : zS_t) (cells slots : Nat) (hR : Rel n L T E V M K R) (hc : cells ≤ 81 + n) (hs : slots ≤ 2374 + 6 * n) : zW p l e room_1 s m args below meth c cells slots Q G.1 A 7 (zWq G oa f (zWL G L T E V M K ++ zWR G R)) [(0, .ref b), (1, .ref (G.2.2 0 0)), (2, .ref (G.2.2 6 0)), (3, .ref oa), (4, .int i)] 718 [] := by
  obtain ⟨hIT, hIE, hIM, hIR⟩ := hinv n L T E V M K R hR
  have k_1 : Int32.toInt 1 = 1 := by decide
  have t_1 := zt_add (a := i) (b := 1) (by omega) (by omega)
  have in_1 : vp_in (i + 1) Ln := zin (by omega) (by omega)
  obtain ⟨player, ha_1⟩ : ∃ z, xs (i + 1).toNatClampNeg = z := ⟨_, rfl⟩
  obtain ⟨X, hE⟩ : ∃ z, mX4_power player T V = z := ⟨_, rfl⟩
  obtain ⟨Y, hY⟩ : ∃ z, mX5_power player R = z := ⟨_, rfl⟩
  have ag := hag n player L T E V M K R hn hR X Y hE hY
  have hM := c_L_power l hfl G oa f player L T E V M K hIT
  have hN := c_X5_power l G player R hIR
  rw [hE] at hM
  rw [hY] at hN
  obtain ⟨x, r, V1⟩ := X
  obtain ⟨b9, R1⟩ := Y
  obtain ⟨ag1, ag2, ag3⟩ := ag
  have ag1 : mX5_thrown R1 = zk1 x := ag1
  have ag2 : x = none → b9 = r := ag2
  have ag3 : Rel (n + 1) L T E V1 M K R1 := ag3
  have hTh := c_X5_thrown l G R1
  rw [ag1] at hTh
  obtain ⟨kk, hkk⟩ : ∃ z, zk1 x = z := ⟨_, rfl⟩
  rw [hkk] at hTh
  have hM := hM
  change zYI l G.1 (zty G) yL_power wsL_power rmL_power [.ref (G.2.2 0 0), .int player, .ref oa] (zWq G oa f (zWL G L T E V M K)) (zk1 x) (zWq G oa (zot x r f) (zWL G L T E V1 M K)) at hM
  rw [hkk] at hM
  refine zi_aload_n (pc := 718) F dL_law_718 1 rfl ?_
  refine zi_aload_n (pc := 719) F dL_law_719 0 rfl ?_
  refine zi_iload (pc := 720) F dL_law_720 4 rfl ?_
  refine zi_iconst (pc := 722) (v := 1) F dL_law_722 rfl ?_
  refine zi_iadd (pc := 723) F dL_law_723 ?_
  refine zi_sld (pc := 724) F hX hbl hbA in_1 ha_1 dL_law_724 ?_
  refine zi_aload_n (pc := 725) F dL_law_725 3 rfl ?_
  refine zi_callYI (pc := 726) (rest := []) (ws' := (zWq G oa (zot x r f) (zWL G L T E V1 M K ++ zWR G R))) F hsx hM (vx_cwSW 3 F.1.2.2.2.2 gL_law_L_power rfl rfl rfl hd_L_power ⟨Nat.le_of_ble_eq_true rfl, Nat.le_of_ble_eq_true rfl⟩) _ _ (zWq_L _ _ _ _ _) (zWq_L _ _ _ _ _).symm rfl rfl (Nat.le_of_ble_eq_true rfl) dL_law_726 ⟨by show _ ≤ 601024; omega, by show _ ≤ 7293034; omega⟩ ?_
  refine zi_istore (pc := 729) (lv' := [(0, .ref b), (1, .ref (G.2.2 0 0)), (2, .ref (G.2.2 6 0)), (3, .ref oa), (4, .int i), (5, .int kk)]) F dL_law_729 (by decide) rfl ?_
  refine zi_aload_n (pc := 731) F dL_law_731 2 rfl ?_
  refine zi_aload_n (pc := 732) F dL_law_732 0 rfl ?_
  refine zi_iload (pc := 733) F dL_law_733 4 rfl ?_
  refine zi_iconst (pc := 735) (v := 1) F dL_law_735 rfl ?_
  refine zi_iadd (pc := 736) F dL_law_736 ?_
  refine zi_sld (pc := 737) F hX hbl hbA in_1 ha_1 dL_law_737 ?_
  refine zi_callVI (pc := 738) (rest := []) (ws' := (zWq G oa (zot x r f) (zWL G L T E V1 M K ++ zWR G R1))) F hN (cwV 1 F.1.2.2.2.2 gL_law_X5_power rfl rfl rfl hd_X5_power ⟨Nat.le_of_ble_eq_true rfl, Nat.le_of_ble_eq_true rfl⟩) 0 rfl rfl _ _ (zWq_R _ _ _ _ _) (zWq_R _ _ _ _ _).symm rfl rfl (Nat.le_of_ble_eq_true rfl) dL_law_738 ⟨by show _ ≤ 601024; omega, by show _ ≤ 7293034; omega⟩ ?_
  refine zi_istore (pc := 741) (lv' := [(0, .ref b), (1, .ref (G.2.2 0 0)), (2, .ref (G.2.2 6 0)), (3, .ref oa), (4, .int i), (5, .int kk), (6, .int b9)]) F dL_law_741 (by decide) rfl ?_
  refine zi_aload_n (pc := 743) F dL_law_743 2 rfl ?_
  refine zi_callVI (pc := 744) (rest := []) (ws' := (zWq G oa (zot x r f) (zWL G L T E V1 M K ++ zWR G R1))) F hTh (cwV 0 F.1.2.2.2.2 gL_law_X5_thrown rfl rfl rfl hd_X5_thrown ⟨Nat.le_of_ble_eq_true rfl, Nat.le_of_ble_eq_true rfl⟩) 0 rfl rfl _ _ (zWq_R _ _ _ _ _) (zWq_R _ _ _ _ _).symm rfl rfl (Nat.le_of_ble_eq_true rfl) dL_law_744 ⟨by show _ ≤ 601024; omega, by show _ ≤ 7293034; omega⟩ ?_
  refine zi_iload (pc := 747) F dL_law_747 5 rfl ?_
  refine zi_icmp_eq (pc := 749) (tgt := 754) F dL_law_749 (by decide) (fun _ => ?_) (fun h => absurd rfl h)
  refine zi_iload (pc := 754) F dL_law_754 5 rfl ?_
  refine zi_if_ne (pc := 756) (tgt := 771) F dL_law_756 (by decide) (fun h => ?_) (fun h => ?_)
  · skip
    refine zi_goto (pc := 771) (tgt := 1018) F dL_law_771 (by decide) ?_
    refine zi_sub [0, 1, 2, 3, 4] rfl ?_
    exact hback _ L T E V1 M K R1 _ _ ag3 (by omega) (by omega)
  · have hx : x = none := zk1_0 (hkk.trans h)
    have e9 := ag2 hx
    subst e9
    refine zi_aload_n (pc := 759) F dL_law_759 3 rfl ?_
    refine zi_iconst (pc := 760) (v := 0) F dL_law_760 rfl ?_
    refine zi_lald (pc := 761) F 0 3 rfl rfl (zin (by decide) (by decide)) (zot_at hx) dL_law_761 ?_
    refine zi_iload (pc := 762) F dL_law_762 6 rfl ?_
    refine zi_i2l (pc := 764) F dL_law_764 ?_
    refine zi_lcmp (pc := 765) F dL_law_765 ?_
    rw [zcmp_self]
    refine zi_if_eq (pc := 766) (tgt := 771) F dL_law_766 (by decide) (fun _ => ?_) (fun h => absurd rfl h)
    refine zi_goto (pc := 771) (tgt := 1018) F dL_law_771 (by decide) ?_
    refine zi_sub [0, 1, 2, 3, 4] rfl ?_
    exact hback _ L T E V1 M K R1 _ _ ag3 (by omega) (by omega)
set_option maxHeartbeats 4000000 in
set_option maxRecDepth 100000 in
theorem zc_stack (hfl : l.stackTraces = false) (hag : zAg_stack Rel) (hinv : zHinv Rel) (F : zF p m c cL_law 7 s args wsL_law RL G.1 (zty G) A) (hsx : zSx s) (hX : va_X b Ln xs s s.heap) (hbl : b < s.heap.size) (hbA : ¬ A b) (hi0 : 0 ≤ i.toInt) (hi1 : i.toInt + 3 ≤ Ln) (hLn : Ln ≤ 1536) (hn : n < 512) (hback : zBk p l e s m args below meth c Q A G oa b i n Rel) (f : Nat → Int64) (L T E V M K R : zS_t) (cells slots : Nat) (hR : Rel n L T E V M K R) (hc : cells ≤ 81 + n) (hs : slots ≤ 2374 + 6 * n) : zW p l e room_1 s m args below meth c cells slots Q G.1 A 7 (zWq G oa f (zWL G L T E V M K ++ zWR G R)) [(0, .ref b), (1, .ref (G.2.2 0 0)), (2, .ref (G.2.2 6 0)), (3, .ref oa), (4, .int i)] 774 [] := by
  obtain ⟨hIT, hIE, hIM, hIR⟩ := hinv n L T E V M K R hR
  obtain ⟨X, hE⟩ : ∃ z, mX4_stack E = z := ⟨_, rfl⟩
  obtain ⟨Y, hY⟩ : ∃ z, mX5_stack R = z := ⟨_, rfl⟩
  have ag := hag n L T E V M K R hn hR X Y hE hY
  have hM := c_X4_stack l G L T E V M K 
  have hN := c_X5_stack l G R hIR
  rw [hE] at hM
  rw [hY] at hN
  skip
  obtain ⟨b9, R1⟩ := Y
  obtain ⟨ag1, ag3⟩ := ag
  have ag1 : b9 = X := ag1
  have ag3 : Rel (n + 1) L T E V M K R1 := ag3
  subst ag1
  refine zi_aload_n (pc := 774) F dL_law_774 1 rfl ?_
  refine zi_callVI (pc := 775) (rest := []) (ws' := (zWq G oa f (zWL G L T E V M K ++ zWR G R))) F hM (cwV 0 F.1.2.2.2.2 gL_law_X4_stack rfl rfl rfl hd_X4_stack ⟨Nat.le_of_ble_eq_true rfl, Nat.le_of_ble_eq_true rfl⟩) 0 rfl rfl _ _ (zWq_O _ _ _ _ _) (zWq_O _ _ _ _ _).symm rfl rfl (Nat.le_of_ble_eq_true rfl) dL_law_775 ⟨by show _ ≤ 601024; omega, by show _ ≤ 7293034; omega⟩ ?_
  refine zi_aload_n (pc := 778) F dL_law_778 2 rfl ?_
  refine zi_callVI (pc := 779) (rest := [.int b9]) (ws' := (zWq G oa f (zWL G L T E V M K ++ zWR G R1))) F hN (cwV 0 F.1.2.2.2.2 gL_law_X5_stack rfl rfl rfl hd_X5_stack ⟨Nat.le_of_ble_eq_true rfl, Nat.le_of_ble_eq_true rfl⟩) 0 rfl rfl _ _ (zWq_R _ _ _ _ _) (zWq_R _ _ _ _ _).symm rfl rfl (Nat.le_of_ble_eq_true rfl) dL_law_779 ⟨by show _ ≤ 601024; omega, by show _ ≤ 7293034; omega⟩ ?_
  refine zi_icmp_eq (pc := 782) (tgt := 1018) F dL_law_782 (by decide) (fun _ => ?_) (fun h => absurd rfl h)
  exact hback _ L T E V M K R1 _ _ ag3 (by omega) (by omega)
set_option maxHeartbeats 4000000 in
set_option maxRecDepth 100000 in
theorem zc_entryCard (hfl : l.stackTraces = false) (hag : zAg_entryCard Rel) (hinv : zHinv Rel) (F : zF p m c cL_law 7 s args wsL_law RL G.1 (zty G) A) (hsx : zSx s) (hX : va_X b Ln xs s s.heap) (hbl : b < s.heap.size) (hbA : ¬ A b) (hi0 : 0 ≤ i.toInt) (hi1 : i.toInt + 3 ≤ Ln) (hLn : Ln ≤ 1536) (hn : n < 512) (hback : zBk p l e s m args below meth c Q A G oa b i n Rel) (f : Nat → Int64) (L T E V M K R : zS_t) (cells slots : Nat) (hR : Rel n L T E V M K R) (hc : cells ≤ 81 + n) (hs : slots ≤ 2374 + 6 * n) : zW p l e room_1 s m args below meth c cells slots Q G.1 A 7 (zWq G oa f (zWL G L T E V M K ++ zWR G R)) [(0, .ref b), (1, .ref (G.2.2 0 0)), (2, .ref (G.2.2 6 0)), (3, .ref oa), (4, .int i)] 787 [] := by
  obtain ⟨hIT, hIE, hIM, hIR⟩ := hinv n L T E V M K R hR
  have k_1 : Int32.toInt 1 = 1 := by decide
  have t_1 := zt_add (a := i) (b := 1) (by omega) (by omega)
  have in_1 : vp_in (i + 1) Ln := zin (by omega) (by omega)
  obtain ⟨place, ha_1⟩ : ∃ z, xs (i + 1).toNatClampNeg = z := ⟨_, rfl⟩
  obtain ⟨X, hE⟩ : ∃ z, mX4_entryCard place E = z := ⟨_, rfl⟩
  obtain ⟨Y, hY⟩ : ∃ z, mX5_entryCard place R = z := ⟨_, rfl⟩
  have ag := hag n place L T E V M K R hn hR X Y hE hY
  have hM := c_L_entryCard l hfl G oa f place L T E V M K hIE
  have hN := c_X5_entryCard l G place R hIR
  rw [hE] at hM
  rw [hY] at hN
  obtain ⟨x, r⟩ := X
  obtain ⟨b9, R1⟩ := Y
  obtain ⟨ag1, ag2, ag3⟩ := ag
  have ag1 : mX5_thrown R1 = zk1 x := ag1
  have ag2 : x = none → b9 = r := ag2
  have ag3 : Rel (n + 1) L T E V M K R1 := ag3
  have hTh := c_X5_thrown l G R1
  rw [ag1] at hTh
  obtain ⟨kk, hkk⟩ : ∃ z, zk1 x = z := ⟨_, rfl⟩
  rw [hkk] at hTh
  have hM := hM
  change zYI l G.1 (zty G) yL_entryCard wsL_entryCard rmL_entryCard [.ref (G.2.2 0 0), .int place, .ref oa] (zWq G oa f (zWL G L T E V M K)) (zk1 x) (zWq G oa (zot x r f) (zWL G L T E V M K)) at hM
  rw [hkk] at hM
  refine zi_aload_n (pc := 787) F dL_law_787 1 rfl ?_
  refine zi_aload_n (pc := 788) F dL_law_788 0 rfl ?_
  refine zi_iload (pc := 789) F dL_law_789 4 rfl ?_
  refine zi_iconst (pc := 791) (v := 1) F dL_law_791 rfl ?_
  refine zi_iadd (pc := 792) F dL_law_792 ?_
  refine zi_sld (pc := 793) F hX hbl hbA in_1 ha_1 dL_law_793 ?_
  refine zi_aload_n (pc := 794) F dL_law_794 3 rfl ?_
  refine zi_callYI (pc := 795) (rest := []) (ws' := (zWq G oa (zot x r f) (zWL G L T E V M K ++ zWR G R))) F hsx hM (vx_cwSW 3 F.1.2.2.2.2 gL_law_L_entryCard rfl rfl rfl hd_L_entryCard ⟨Nat.le_of_ble_eq_true rfl, Nat.le_of_ble_eq_true rfl⟩) _ _ (zWq_L _ _ _ _ _) (zWq_L _ _ _ _ _).symm rfl rfl (Nat.le_of_ble_eq_true rfl) dL_law_795 ⟨by show _ ≤ 601024; omega, by show _ ≤ 7293034; omega⟩ ?_
  refine zi_istore (pc := 798) (lv' := [(0, .ref b), (1, .ref (G.2.2 0 0)), (2, .ref (G.2.2 6 0)), (3, .ref oa), (4, .int i), (5, .int kk)]) F dL_law_798 (by decide) rfl ?_
  refine zi_aload_n (pc := 800) F dL_law_800 2 rfl ?_
  refine zi_aload_n (pc := 801) F dL_law_801 0 rfl ?_
  refine zi_iload (pc := 802) F dL_law_802 4 rfl ?_
  refine zi_iconst (pc := 804) (v := 1) F dL_law_804 rfl ?_
  refine zi_iadd (pc := 805) F dL_law_805 ?_
  refine zi_sld (pc := 806) F hX hbl hbA in_1 ha_1 dL_law_806 ?_
  refine zi_callVI (pc := 807) (rest := []) (ws' := (zWq G oa (zot x r f) (zWL G L T E V M K ++ zWR G R1))) F hN (cwV 1 F.1.2.2.2.2 gL_law_X5_entryCard rfl rfl rfl hd_X5_entryCard ⟨Nat.le_of_ble_eq_true rfl, Nat.le_of_ble_eq_true rfl⟩) 0 rfl rfl _ _ (zWq_R _ _ _ _ _) (zWq_R _ _ _ _ _).symm rfl rfl (Nat.le_of_ble_eq_true rfl) dL_law_807 ⟨by show _ ≤ 601024; omega, by show _ ≤ 7293034; omega⟩ ?_
  refine zi_istore (pc := 810) (lv' := [(0, .ref b), (1, .ref (G.2.2 0 0)), (2, .ref (G.2.2 6 0)), (3, .ref oa), (4, .int i), (5, .int kk), (6, .int b9)]) F dL_law_810 (by decide) rfl ?_
  refine zi_aload_n (pc := 812) F dL_law_812 2 rfl ?_
  refine zi_callVI (pc := 813) (rest := []) (ws' := (zWq G oa (zot x r f) (zWL G L T E V M K ++ zWR G R1))) F hTh (cwV 0 F.1.2.2.2.2 gL_law_X5_thrown rfl rfl rfl hd_X5_thrown ⟨Nat.le_of_ble_eq_true rfl, Nat.le_of_ble_eq_true rfl⟩) 0 rfl rfl _ _ (zWq_R _ _ _ _ _) (zWq_R _ _ _ _ _).symm rfl rfl (Nat.le_of_ble_eq_true rfl) dL_law_813 ⟨by show _ ≤ 601024; omega, by show _ ≤ 7293034; omega⟩ ?_
  refine zi_iload (pc := 816) F dL_law_816 5 rfl ?_
  refine zi_icmp_eq (pc := 818) (tgt := 823) F dL_law_818 (by decide) (fun _ => ?_) (fun h => absurd rfl h)
  refine zi_iload (pc := 823) F dL_law_823 5 rfl ?_
  refine zi_if_ne (pc := 825) (tgt := 840) F dL_law_825 (by decide) (fun h => ?_) (fun h => ?_)
  · skip
    refine zi_goto (pc := 840) (tgt := 1018) F dL_law_840 (by decide) ?_
    refine zi_sub [0, 1, 2, 3, 4] rfl ?_
    exact hback _ L T E V M K R1 _ _ ag3 (by omega) (by omega)
  · have hx : x = none := zk1_0 (hkk.trans h)
    have e9 := ag2 hx
    subst e9
    refine zi_aload_n (pc := 828) F dL_law_828 3 rfl ?_
    refine zi_iconst (pc := 829) (v := 0) F dL_law_829 rfl ?_
    refine zi_lald (pc := 830) F 0 3 rfl rfl (zin (by decide) (by decide)) (zot_at hx) dL_law_830 ?_
    refine zi_iload (pc := 831) F dL_law_831 6 rfl ?_
    refine zi_i2l (pc := 833) F dL_law_833 ?_
    refine zi_lcmp (pc := 834) F dL_law_834 ?_
    rw [zcmp_self]
    refine zi_if_eq (pc := 835) (tgt := 840) F dL_law_835 (by decide) (fun _ => ?_) (fun h => absurd rfl h)
    refine zi_goto (pc := 840) (tgt := 1018) F dL_law_840 (by decide) ?_
    refine zi_sub [0, 1, 2, 3, 4] rfl ?_
    exact hback _ L T E V M K R1 _ _ ag3 (by omega) (by omega)
set_option maxHeartbeats 4000000 in
set_option maxRecDepth 100000 in
theorem zc_isTrigger (hfl : l.stackTraces = false) (hag : zAg_isTrigger Rel) (hinv : zHinv Rel) (F : zF p m c cL_law 7 s args wsL_law RL G.1 (zty G) A) (hsx : zSx s) (hX : va_X b Ln xs s s.heap) (hbl : b < s.heap.size) (hbA : ¬ A b) (hi0 : 0 ≤ i.toInt) (hi1 : i.toInt + 3 ≤ Ln) (hLn : Ln ≤ 1536) (hn : n < 512) (hback : zBk p l e s m args below meth c Q A G oa b i n Rel) (f : Nat → Int64) (L T E V M K R : zS_t) (cells slots : Nat) (hR : Rel n L T E V M K R) (hc : cells ≤ 81 + n) (hs : slots ≤ 2374 + 6 * n) : zW p l e room_1 s m args below meth c cells slots Q G.1 A 7 (zWq G oa f (zWL G L T E V M K ++ zWR G R)) [(0, .ref b), (1, .ref (G.2.2 0 0)), (2, .ref (G.2.2 6 0)), (3, .ref oa), (4, .int i)] 843 [] := by
  obtain ⟨hIT, hIE, hIM, hIR⟩ := hinv n L T E V M K R hR
  have k_1 : Int32.toInt 1 = 1 := by decide
  have t_1 := zt_add (a := i) (b := 1) (by omega) (by omega)
  have in_1 : vp_in (i + 1) Ln := zin (by omega) (by omega)
  obtain ⟨place, ha_1⟩ : ∃ z, xs (i + 1).toNatClampNeg = z := ⟨_, rfl⟩
  obtain ⟨X, hE⟩ : ∃ z, mX4_isTrigger place E = z := ⟨_, rfl⟩
  obtain ⟨Y, hY⟩ : ∃ z, mX5_isTrigger place R = z := ⟨_, rfl⟩
  have ag := hag n place L T E V M K R hn hR X Y hE hY
  have hM := c_L_isTrigger l hfl G oa f place L T E V M K hIE
  have hN := c_X5_isTrigger l G place R hIR
  have hp := pp_X4_isTrigger place E hIE
  rw [hE] at hp
  rw [hE] at hM
  rw [hY] at hN
  obtain ⟨x, r⟩ := X
  obtain ⟨b9, R1⟩ := Y
  obtain ⟨ag1, ag2, ag3⟩ := ag
  have ag1 : mX5_thrown R1 = zk1 x := ag1
  have ag2 : x = none → b9 = r := ag2
  have ag3 : Rel (n + 1) L T E V M K R1 := ag3
  have hTh := c_X5_thrown l G R1
  rw [ag1] at hTh
  obtain ⟨kk, hkk⟩ : ∃ z, zk1 x = z := ⟨_, rfl⟩
  rw [hkk] at hTh
  have hM := hM
  change zYI l G.1 (zty G) yL_isTrigger wsL_isTrigger rmL_isTrigger [.ref (G.2.2 0 0), .int place, .ref oa] (zWq G oa f (zWL G L T E V M K)) (zk1 x) (zWq G oa (zot x r f) (zWL G L T E V M K)) at hM
  rw [hkk] at hM
  refine zi_aload_n (pc := 843) F dL_law_843 1 rfl ?_
  refine zi_aload_n (pc := 844) F dL_law_844 0 rfl ?_
  refine zi_iload (pc := 845) F dL_law_845 4 rfl ?_
  refine zi_iconst (pc := 847) (v := 1) F dL_law_847 rfl ?_
  refine zi_iadd (pc := 848) F dL_law_848 ?_
  refine zi_sld (pc := 849) F hX hbl hbA in_1 ha_1 dL_law_849 ?_
  refine zi_aload_n (pc := 850) F dL_law_850 3 rfl ?_
  refine zi_callYI (pc := 851) (rest := []) (ws' := (zWq G oa (zot x r f) (zWL G L T E V M K ++ zWR G R))) F hsx hM (vx_cwSW 3 F.1.2.2.2.2 gL_law_L_isTrigger rfl rfl rfl hd_L_isTrigger ⟨Nat.le_of_ble_eq_true rfl, Nat.le_of_ble_eq_true rfl⟩) _ _ (zWq_L _ _ _ _ _) (zWq_L _ _ _ _ _).symm rfl rfl (Nat.le_of_ble_eq_true rfl) dL_law_851 ⟨by show _ ≤ 601024; omega, by show _ ≤ 7293034; omega⟩ ?_
  refine zi_istore (pc := 854) (lv' := [(0, .ref b), (1, .ref (G.2.2 0 0)), (2, .ref (G.2.2 6 0)), (3, .ref oa), (4, .int i), (5, .int kk)]) F dL_law_854 (by decide) rfl ?_
  refine zi_aload_n (pc := 856) F dL_law_856 2 rfl ?_
  refine zi_aload_n (pc := 857) F dL_law_857 0 rfl ?_
  refine zi_iload (pc := 858) F dL_law_858 4 rfl ?_
  refine zi_iconst (pc := 860) (v := 1) F dL_law_860 rfl ?_
  refine zi_iadd (pc := 861) F dL_law_861 ?_
  refine zi_sld (pc := 862) F hX hbl hbA in_1 ha_1 dL_law_862 ?_
  refine zi_callVI (pc := 863) (rest := []) (ws' := (zWq G oa (zot x r f) (zWL G L T E V M K ++ zWR G R1))) F hN (cwV 1 F.1.2.2.2.2 gL_law_X5_isTrigger rfl rfl rfl hd_X5_isTrigger ⟨Nat.le_of_ble_eq_true rfl, Nat.le_of_ble_eq_true rfl⟩) 0 rfl rfl _ _ (zWq_R _ _ _ _ _) (zWq_R _ _ _ _ _).symm rfl rfl (Nat.le_of_ble_eq_true rfl) dL_law_863 ⟨by show _ ≤ 601024; omega, by show _ ≤ 7293034; omega⟩ ?_
  refine zi_istore (pc := 866) (lv' := [(0, .ref b), (1, .ref (G.2.2 0 0)), (2, .ref (G.2.2 6 0)), (3, .ref oa), (4, .int i), (5, .int kk), (6, .int b9)]) F dL_law_866 (by decide) rfl ?_
  refine zi_aload_n (pc := 868) F dL_law_868 2 rfl ?_
  refine zi_callVI (pc := 869) (rest := []) (ws' := (zWq G oa (zot x r f) (zWL G L T E V M K ++ zWR G R1))) F hTh (cwV 0 F.1.2.2.2.2 gL_law_X5_thrown rfl rfl rfl hd_X5_thrown ⟨Nat.le_of_ble_eq_true rfl, Nat.le_of_ble_eq_true rfl⟩) 0 rfl rfl _ _ (zWq_R _ _ _ _ _) (zWq_R _ _ _ _ _).symm rfl rfl (Nat.le_of_ble_eq_true rfl) dL_law_869 ⟨by show _ ≤ 601024; omega, by show _ ≤ 7293034; omega⟩ ?_
  refine zi_iload (pc := 872) F dL_law_872 5 rfl ?_
  refine zi_icmp_eq (pc := 874) (tgt := 879) F dL_law_874 (by decide) (fun _ => ?_) (fun h => absurd rfl h)
  refine zi_iload (pc := 879) F dL_law_879 5 rfl ?_
  refine zi_if_ne (pc := 881) (tgt := 903) F dL_law_881 (by decide) (fun h => ?_) (fun h => ?_)
  · skip
    refine zi_goto (pc := 903) (tgt := 1018) F dL_law_903 (by decide) ?_
    refine zi_sub [0, 1, 2, 3, 4] rfl ?_
    exact hback _ L T E V M K R1 _ _ ag3 (by omega) (by omega)
  · have hx : x = none := zk1_0 (hkk.trans h)
    have e9 := ag2 hx
    subst e9
    refine zi_aload_n (pc := 884) F dL_law_884 3 rfl ?_
    refine zi_iconst (pc := 885) (v := 0) F dL_law_885 rfl ?_
    refine zi_lald (pc := 886) F 0 3 rfl rfl (zin (by decide) (by decide)) (zot_at hx) dL_law_886 ?_
    refine zi_iload (pc := 887) F dL_law_887 6 rfl ?_
    have hb : b9 = 0 ∨ b9 = 1 := hp.1
    refine zi_if_eq (pc := 889) (tgt := 896) F dL_law_889 (by decide) (fun h9 => ?_) (fun h9 => ?_)
    · subst h9
      refine zi_lconst (pc := 896) (v := (0 : Int32).toInt64) F dL_law_896 rfl ?_
      refine zi_lcmp (pc := 897) F dL_law_897 ?_
      have e8 : lg_cmp (0 : Int32).toInt64 (0 : Int32).toInt64 = 0 := zcmp_self _
      rw [e8]
      refine zi_if_eq (pc := 898) (tgt := 903) F dL_law_898 (by decide) (fun _ => ?_) (fun h => absurd rfl h)
      refine zi_goto (pc := 903) (tgt := 1018) F dL_law_903 (by decide) ?_
      refine zi_sub [0, 1, 2, 3, 4] rfl ?_
      exact hback _ L T E V M K R1 _ _ ag3 (by omega) (by omega)
    · have h8 : b9 = 1 := hb.resolve_left h9
      subst h8
      refine zi_lconst (pc := 892) (v := (1 : Int32).toInt64) F dL_law_892 rfl ?_
      refine zi_goto (pc := 893) (tgt := 897) F dL_law_893 (by decide) ?_
      refine zi_lcmp (pc := 897) F dL_law_897 ?_
      have e8 : lg_cmp (1 : Int32).toInt64 (1 : Int32).toInt64 = 0 := zcmp_self _
      rw [e8]
      refine zi_if_eq (pc := 898) (tgt := 903) F dL_law_898 (by decide) (fun _ => ?_) (fun h => absurd rfl h)
      refine zi_goto (pc := 903) (tgt := 1018) F dL_law_903 (by decide) ?_
      refine zi_sub [0, 1, 2, 3, 4] rfl ?_
      exact hback _ L T E V M K R1 _ _ ag3 (by omega) (by omega)
set_option maxHeartbeats 4000000 in
set_option maxRecDepth 100000 in
theorem zc_entryPlayer (hfl : l.stackTraces = false) (hag : zAg_entryPlayer Rel) (hinv : zHinv Rel) (F : zF p m c cL_law 7 s args wsL_law RL G.1 (zty G) A) (hsx : zSx s) (hX : va_X b Ln xs s s.heap) (hbl : b < s.heap.size) (hbA : ¬ A b) (hi0 : 0 ≤ i.toInt) (hi1 : i.toInt + 3 ≤ Ln) (hLn : Ln ≤ 1536) (hn : n < 512) (hback : zBk p l e s m args below meth c Q A G oa b i n Rel) (f : Nat → Int64) (L T E V M K R : zS_t) (cells slots : Nat) (hR : Rel n L T E V M K R) (hc : cells ≤ 81 + n) (hs : slots ≤ 2374 + 6 * n) : zW p l e room_1 s m args below meth c cells slots Q G.1 A 7 (zWq G oa f (zWL G L T E V M K ++ zWR G R)) [(0, .ref b), (1, .ref (G.2.2 0 0)), (2, .ref (G.2.2 6 0)), (3, .ref oa), (4, .int i)] 906 [] := by
  obtain ⟨hIT, hIE, hIM, hIR⟩ := hinv n L T E V M K R hR
  have k_1 : Int32.toInt 1 = 1 := by decide
  have t_1 := zt_add (a := i) (b := 1) (by omega) (by omega)
  have in_1 : vp_in (i + 1) Ln := zin (by omega) (by omega)
  obtain ⟨place, ha_1⟩ : ∃ z, xs (i + 1).toNatClampNeg = z := ⟨_, rfl⟩
  obtain ⟨X, hE⟩ : ∃ z, mX4_entryPlayer place E = z := ⟨_, rfl⟩
  obtain ⟨Y, hY⟩ : ∃ z, mX5_entryPlayer place R = z := ⟨_, rfl⟩
  have ag := hag n place L T E V M K R hn hR X Y hE hY
  have hM := c_L_entryPlayer l hfl G oa f place L T E V M K hIE
  have hN := c_X5_entryPlayer l G place R hIR
  rw [hE] at hM
  rw [hY] at hN
  obtain ⟨x, r⟩ := X
  obtain ⟨b9, R1⟩ := Y
  obtain ⟨ag1, ag2, ag3⟩ := ag
  have ag1 : mX5_thrown R1 = zk1 x := ag1
  have ag2 : x = none → b9 = r := ag2
  have ag3 : Rel (n + 1) L T E V M K R1 := ag3
  have hTh := c_X5_thrown l G R1
  rw [ag1] at hTh
  obtain ⟨kk, hkk⟩ : ∃ z, zk1 x = z := ⟨_, rfl⟩
  rw [hkk] at hTh
  have hM := hM
  change zYI l G.1 (zty G) yL_entryPlayer wsL_entryPlayer rmL_entryPlayer [.ref (G.2.2 0 0), .int place, .ref oa] (zWq G oa f (zWL G L T E V M K)) (zk1 x) (zWq G oa (zot x r f) (zWL G L T E V M K)) at hM
  rw [hkk] at hM
  refine zi_aload_n (pc := 906) F dL_law_906 1 rfl ?_
  refine zi_aload_n (pc := 907) F dL_law_907 0 rfl ?_
  refine zi_iload (pc := 908) F dL_law_908 4 rfl ?_
  refine zi_iconst (pc := 910) (v := 1) F dL_law_910 rfl ?_
  refine zi_iadd (pc := 911) F dL_law_911 ?_
  refine zi_sld (pc := 912) F hX hbl hbA in_1 ha_1 dL_law_912 ?_
  refine zi_aload_n (pc := 913) F dL_law_913 3 rfl ?_
  refine zi_callYI (pc := 914) (rest := []) (ws' := (zWq G oa (zot x r f) (zWL G L T E V M K ++ zWR G R))) F hsx hM (vx_cwSW 3 F.1.2.2.2.2 gL_law_L_entryPlayer rfl rfl rfl hd_L_entryPlayer ⟨Nat.le_of_ble_eq_true rfl, Nat.le_of_ble_eq_true rfl⟩) _ _ (zWq_L _ _ _ _ _) (zWq_L _ _ _ _ _).symm rfl rfl (Nat.le_of_ble_eq_true rfl) dL_law_914 ⟨by show _ ≤ 601024; omega, by show _ ≤ 7293034; omega⟩ ?_
  refine zi_istore (pc := 917) (lv' := [(0, .ref b), (1, .ref (G.2.2 0 0)), (2, .ref (G.2.2 6 0)), (3, .ref oa), (4, .int i), (5, .int kk)]) F dL_law_917 (by decide) rfl ?_
  refine zi_aload_n (pc := 919) F dL_law_919 2 rfl ?_
  refine zi_aload_n (pc := 920) F dL_law_920 0 rfl ?_
  refine zi_iload (pc := 921) F dL_law_921 4 rfl ?_
  refine zi_iconst (pc := 923) (v := 1) F dL_law_923 rfl ?_
  refine zi_iadd (pc := 924) F dL_law_924 ?_
  refine zi_sld (pc := 925) F hX hbl hbA in_1 ha_1 dL_law_925 ?_
  refine zi_callVI (pc := 926) (rest := []) (ws' := (zWq G oa (zot x r f) (zWL G L T E V M K ++ zWR G R1))) F hN (cwV 1 F.1.2.2.2.2 gL_law_X5_entryPlayer rfl rfl rfl hd_X5_entryPlayer ⟨Nat.le_of_ble_eq_true rfl, Nat.le_of_ble_eq_true rfl⟩) 0 rfl rfl _ _ (zWq_R _ _ _ _ _) (zWq_R _ _ _ _ _).symm rfl rfl (Nat.le_of_ble_eq_true rfl) dL_law_926 ⟨by show _ ≤ 601024; omega, by show _ ≤ 7293034; omega⟩ ?_
  refine zi_istore (pc := 929) (lv' := [(0, .ref b), (1, .ref (G.2.2 0 0)), (2, .ref (G.2.2 6 0)), (3, .ref oa), (4, .int i), (5, .int kk), (6, .int b9)]) F dL_law_929 (by decide) rfl ?_
  refine zi_aload_n (pc := 931) F dL_law_931 2 rfl ?_
  refine zi_callVI (pc := 932) (rest := []) (ws' := (zWq G oa (zot x r f) (zWL G L T E V M K ++ zWR G R1))) F hTh (cwV 0 F.1.2.2.2.2 gL_law_X5_thrown rfl rfl rfl hd_X5_thrown ⟨Nat.le_of_ble_eq_true rfl, Nat.le_of_ble_eq_true rfl⟩) 0 rfl rfl _ _ (zWq_R _ _ _ _ _) (zWq_R _ _ _ _ _).symm rfl rfl (Nat.le_of_ble_eq_true rfl) dL_law_932 ⟨by show _ ≤ 601024; omega, by show _ ≤ 7293034; omega⟩ ?_
  refine zi_iload (pc := 935) F dL_law_935 5 rfl ?_
  refine zi_icmp_eq (pc := 937) (tgt := 942) F dL_law_937 (by decide) (fun _ => ?_) (fun h => absurd rfl h)
  refine zi_iload (pc := 942) F dL_law_942 5 rfl ?_
  refine zi_if_ne (pc := 944) (tgt := 959) F dL_law_944 (by decide) (fun h => ?_) (fun h => ?_)
  · skip
    refine zi_goto (pc := 959) (tgt := 1018) F dL_law_959 (by decide) ?_
    refine zi_sub [0, 1, 2, 3, 4] rfl ?_
    exact hback _ L T E V M K R1 _ _ ag3 (by omega) (by omega)
  · have hx : x = none := zk1_0 (hkk.trans h)
    have e9 := ag2 hx
    subst e9
    refine zi_aload_n (pc := 947) F dL_law_947 3 rfl ?_
    refine zi_iconst (pc := 948) (v := 0) F dL_law_948 rfl ?_
    refine zi_lald (pc := 949) F 0 3 rfl rfl (zin (by decide) (by decide)) (zot_at hx) dL_law_949 ?_
    refine zi_iload (pc := 950) F dL_law_950 6 rfl ?_
    refine zi_i2l (pc := 952) F dL_law_952 ?_
    refine zi_lcmp (pc := 953) F dL_law_953 ?_
    rw [zcmp_self]
    refine zi_if_eq (pc := 954) (tgt := 959) F dL_law_954 (by decide) (fun _ => ?_) (fun h => absurd rfl h)
    refine zi_goto (pc := 959) (tgt := 1018) F dL_law_959 (by decide) ?_
    refine zi_sub [0, 1, 2, 3, 4] rfl ?_
    exact hback _ L T E V M K R1 _ _ ag3 (by omega) (by omega)
set_option maxHeartbeats 4000000 in
set_option maxRecDepth 100000 in
theorem zc_entryTarget (hfl : l.stackTraces = false) (hag : zAg_entryTarget Rel) (hinv : zHinv Rel) (F : zF p m c cL_law 7 s args wsL_law RL G.1 (zty G) A) (hsx : zSx s) (hX : va_X b Ln xs s s.heap) (hbl : b < s.heap.size) (hbA : ¬ A b) (hi0 : 0 ≤ i.toInt) (hi1 : i.toInt + 3 ≤ Ln) (hLn : Ln ≤ 1536) (hn : n < 512) (hback : zBk p l e s m args below meth c Q A G oa b i n Rel) (f : Nat → Int64) (L T E V M K R : zS_t) (cells slots : Nat) (hR : Rel n L T E V M K R) (hc : cells ≤ 81 + n) (hs : slots ≤ 2374 + 6 * n) : zW p l e room_1 s m args below meth c cells slots Q G.1 A 7 (zWq G oa f (zWL G L T E V M K ++ zWR G R)) [(0, .ref b), (1, .ref (G.2.2 0 0)), (2, .ref (G.2.2 6 0)), (3, .ref oa), (4, .int i)] 962 [] := by
  obtain ⟨hIT, hIE, hIM, hIR⟩ := hinv n L T E V M K R hR
  have k_1 : Int32.toInt 1 = 1 := by decide
  have t_1 := zt_add (a := i) (b := 1) (by omega) (by omega)
  have in_1 : vp_in (i + 1) Ln := zin (by omega) (by omega)
  obtain ⟨place, ha_1⟩ : ∃ z, xs (i + 1).toNatClampNeg = z := ⟨_, rfl⟩
  obtain ⟨X, hE⟩ : ∃ z, mX4_entryTarget place T E = z := ⟨_, rfl⟩
  obtain ⟨Y, hY⟩ : ∃ z, mX5_entryTarget place R = z := ⟨_, rfl⟩
  have ag := hag n place L T E V M K R hn hR X Y hE hY
  have hM := c_L_entryTarget l hfl G oa f place L T E V M K hIT hIE
  have hN := c_X5_entryTarget l G place R hIR
  rw [hE] at hM
  rw [hY] at hN
  obtain ⟨x, r⟩ := X
  obtain ⟨b9, R1⟩ := Y
  obtain ⟨ag1, ag2, ag3⟩ := ag
  have ag1 : mX5_thrown R1 = zk1 x := ag1
  have ag2 : x = none → b9 = r := ag2
  have ag3 : Rel (n + 1) L T E V M K R1 := ag3
  have hTh := c_X5_thrown l G R1
  rw [ag1] at hTh
  obtain ⟨kk, hkk⟩ : ∃ z, zk1 x = z := ⟨_, rfl⟩
  rw [hkk] at hTh
  have hM := hM
  change zYI l G.1 (zty G) yL_entryTarget wsL_entryTarget rmL_entryTarget [.ref (G.2.2 0 0), .int place, .ref oa] (zWq G oa f (zWL G L T E V M K)) (zk1 x) (zWq G oa (zot x r f) (zWL G L T E V M K)) at hM
  rw [hkk] at hM
  refine zi_aload_n (pc := 962) F dL_law_962 1 rfl ?_
  refine zi_aload_n (pc := 963) F dL_law_963 0 rfl ?_
  refine zi_iload (pc := 964) F dL_law_964 4 rfl ?_
  refine zi_iconst (pc := 966) (v := 1) F dL_law_966 rfl ?_
  refine zi_iadd (pc := 967) F dL_law_967 ?_
  refine zi_sld (pc := 968) F hX hbl hbA in_1 ha_1 dL_law_968 ?_
  refine zi_aload_n (pc := 969) F dL_law_969 3 rfl ?_
  refine zi_callYI (pc := 970) (rest := []) (ws' := (zWq G oa (zot x r f) (zWL G L T E V M K ++ zWR G R))) F hsx hM (vx_cwSW 3 F.1.2.2.2.2 gL_law_L_entryTarget rfl rfl rfl hd_L_entryTarget ⟨Nat.le_of_ble_eq_true rfl, Nat.le_of_ble_eq_true rfl⟩) _ _ (zWq_L _ _ _ _ _) (zWq_L _ _ _ _ _).symm rfl rfl (Nat.le_of_ble_eq_true rfl) dL_law_970 ⟨by show _ ≤ 601024; omega, by show _ ≤ 7293034; omega⟩ ?_
  refine zi_istore (pc := 973) (lv' := [(0, .ref b), (1, .ref (G.2.2 0 0)), (2, .ref (G.2.2 6 0)), (3, .ref oa), (4, .int i), (5, .int kk)]) F dL_law_973 (by decide) rfl ?_
  refine zi_aload_n (pc := 975) F dL_law_975 2 rfl ?_
  refine zi_aload_n (pc := 976) F dL_law_976 0 rfl ?_
  refine zi_iload (pc := 977) F dL_law_977 4 rfl ?_
  refine zi_iconst (pc := 979) (v := 1) F dL_law_979 rfl ?_
  refine zi_iadd (pc := 980) F dL_law_980 ?_
  refine zi_sld (pc := 981) F hX hbl hbA in_1 ha_1 dL_law_981 ?_
  refine zi_callVI (pc := 982) (rest := []) (ws' := (zWq G oa (zot x r f) (zWL G L T E V M K ++ zWR G R1))) F hN (cwV 1 F.1.2.2.2.2 gL_law_X5_entryTarget rfl rfl rfl hd_X5_entryTarget ⟨Nat.le_of_ble_eq_true rfl, Nat.le_of_ble_eq_true rfl⟩) 0 rfl rfl _ _ (zWq_R _ _ _ _ _) (zWq_R _ _ _ _ _).symm rfl rfl (Nat.le_of_ble_eq_true rfl) dL_law_982 ⟨by show _ ≤ 601024; omega, by show _ ≤ 7293034; omega⟩ ?_
  refine zi_istore (pc := 985) (lv' := [(0, .ref b), (1, .ref (G.2.2 0 0)), (2, .ref (G.2.2 6 0)), (3, .ref oa), (4, .int i), (5, .int kk), (6, .int b9)]) F dL_law_985 (by decide) rfl ?_
  refine zi_aload_n (pc := 987) F dL_law_987 2 rfl ?_
  refine zi_callVI (pc := 988) (rest := []) (ws' := (zWq G oa (zot x r f) (zWL G L T E V M K ++ zWR G R1))) F hTh (cwV 0 F.1.2.2.2.2 gL_law_X5_thrown rfl rfl rfl hd_X5_thrown ⟨Nat.le_of_ble_eq_true rfl, Nat.le_of_ble_eq_true rfl⟩) 0 rfl rfl _ _ (zWq_R _ _ _ _ _) (zWq_R _ _ _ _ _).symm rfl rfl (Nat.le_of_ble_eq_true rfl) dL_law_988 ⟨by show _ ≤ 601024; omega, by show _ ≤ 7293034; omega⟩ ?_
  refine zi_iload (pc := 991) F dL_law_991 5 rfl ?_
  refine zi_icmp_eq (pc := 993) (tgt := 998) F dL_law_993 (by decide) (fun _ => ?_) (fun h => absurd rfl h)
  refine zi_iload (pc := 998) F dL_law_998 5 rfl ?_
  refine zi_if_ne (pc := 1000) (tgt := 1015) F dL_law_1000 (by decide) (fun h => ?_) (fun h => ?_)
  · skip
    refine zi_goto (pc := 1015) (tgt := 1018) F dL_law_1015 (by decide) ?_
    refine zi_sub [0, 1, 2, 3, 4] rfl ?_
    exact hback _ L T E V M K R1 _ _ ag3 (by omega) (by omega)
  · have hx : x = none := zk1_0 (hkk.trans h)
    have e9 := ag2 hx
    subst e9
    refine zi_aload_n (pc := 1003) F dL_law_1003 3 rfl ?_
    refine zi_iconst (pc := 1004) (v := 0) F dL_law_1004 rfl ?_
    refine zi_lald (pc := 1005) F 0 3 rfl rfl (zin (by decide) (by decide)) (zot_at hx) dL_law_1005 ?_
    refine zi_iload (pc := 1006) F dL_law_1006 6 rfl ?_
    refine zi_i2l (pc := 1008) F dL_law_1008 ?_
    refine zi_lcmp (pc := 1009) F dL_law_1009 ?_
    rw [zcmp_self]
    refine zi_if_eq (pc := 1010) (tgt := 1015) F dL_law_1010 (by decide) (fun _ => ?_) (fun h => absurd rfl h)
    refine zi_goto (pc := 1015) (tgt := 1018) F dL_law_1015 (by decide) ?_
    refine zi_sub [0, 1, 2, 3, 4] rfl ?_
    exact hback _ L T E V M K R1 _ _ ag3 (by omega) (by omega)
end ZK
