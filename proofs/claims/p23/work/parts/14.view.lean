/-! X3_takes -/
def mX3_takes (source : Int32) (place : Int32) (T : zS_t) (V : zS_t) : Int32 := if ((V 3 place.toNatClampNeg) &&& 1) = 0 then (if (T 0 source.toNatClampNeg) = 2 then 0 else (if (T 0 source.toNatClampNeg) = 3 then 0 else (if (T 0 source.toNatClampNeg) = 4 then 0 else (if (T 0 source.toNatClampNeg) = 5 then (if ((V 3 place.toNatClampNeg) &&& 2) = 0 then 0 else 1) else (if (T 0 source.toNatClampNeg) = 6 then 0 else (if (T 0 source.toNatClampNeg) = 7 then (if (T 3 place.toNatClampNeg) = (T 2 source.toNatClampNeg) then 1 else 0) else (if (T 0 source.toNatClampNeg) = 8 then 0 else 0))))))) else (if (T 0 source.toNatClampNeg) = 2 then (if (V 0 place.toNatClampNeg) = (V 0 source.toNatClampNeg) then 1 else 0) else (if (T 0 source.toNatClampNeg) = 3 then 1 else (if (T 0 source.toNatClampNeg) = 4 then 1 else (if (T 0 source.toNatClampNeg) = 5 then (if ((V 3 place.toNatClampNeg) &&& 2) = 0 then 0 else 1) else (if (T 0 source.toNatClampNeg) = 6 then 1 else (if (T 0 source.toNatClampNeg) = 7 then (if (T 3 place.toNatClampNeg) = (T 2 source.toNatClampNeg) then 1 else 0) else (if (T 0 source.toNatClampNeg) = 8 then (if (V 4 place.toNatClampNeg) < 3 then 0 else 1) else 1)))))))
set_option maxHeartbeats 4000000 in
set_option maxRecDepth 100000 in
theorem pp_X3_takes (source : Int32) (place : Int32) (T : zS_t) (V : zS_t) (hx0 : 0 ≤ Int32.toInt source ∧ Int32.toInt source < 10) (hx1 : 0 ≤ Int32.toInt place ∧ Int32.toInt place < 10) : ((mX3_takes source place T V) = 0 ∨ (mX3_takes source place T V) = 1) := by
  obtain ⟨X, hE⟩ : ∃ z, mX3_takes source place T V = z := ⟨_, rfl⟩
  rw [hE]
  have k_0 : Int32.toInt 0 = 0 := by decide
  have k_1 : Int32.toInt 1 = 1 := by decide
  have k_2 : Int32.toInt 2 = 2 := by decide
  have k_3 : Int32.toInt 3 = 3 := by decide
  unfold mX3_takes at hE
  by_cases c1 : ((V 3 place.toNatClampNeg) &&& 1) = 0
  · have hE := zite_t hE c1
    have t2 := congrArg Int32.toInt c1
    by_cases c3 : (T 0 source.toNatClampNeg) = 2
    · have hE := zite_t hE c3
      have t4 : Int32.toInt (T 0 source.toNatClampNeg) = 2 := by rw [c3]; rfl
      subst hE
      exact Or.inl rfl
    · have hE := zite_f hE c3
      have t6 := lv_neT (a := 2) c3 rfl
      by_cases c7 : (T 0 source.toNatClampNeg) = 3
      · have hE := zite_t hE c7
        have t8 : Int32.toInt (T 0 source.toNatClampNeg) = 3 := by rw [c7]; rfl
        subst hE
        exact Or.inl rfl
      · have hE := zite_f hE c7
        have t9 := lv_neT (a := 3) c7 rfl
        by_cases c10 : (T 0 source.toNatClampNeg) = 4
        · have hE := zite_t hE c10
          have t11 : Int32.toInt (T 0 source.toNatClampNeg) = 4 := by rw [c10]; rfl
          subst hE
          exact Or.inl rfl
        · have hE := zite_f hE c10
          have t12 := lv_neT (a := 4) c10 rfl
          by_cases c13 : (T 0 source.toNatClampNeg) = 5
          · have hE := zite_t hE c13
            have t14 : Int32.toInt (T 0 source.toNatClampNeg) = 5 := by rw [c13]; rfl
            by_cases c15 : ((V 3 place.toNatClampNeg) &&& 2) = 0
            · have hE := zite_t hE c15
              have t16 := congrArg Int32.toInt c15
              subst hE
              exact Or.inl rfl
            · have hE := zite_f hE c15
              have t17 := zt_ne c15
              subst hE
              exact Or.inr rfl
          · have hE := zite_f hE c13
            have t18 := lv_neT (a := 5) c13 rfl
            by_cases c19 : (T 0 source.toNatClampNeg) = 6
            · have hE := zite_t hE c19
              have t20 : Int32.toInt (T 0 source.toNatClampNeg) = 6 := by rw [c19]; rfl
              subst hE
              exact Or.inl rfl
            · have hE := zite_f hE c19
              have t21 := lv_neT (a := 6) c19 rfl
              by_cases c22 : (T 0 source.toNatClampNeg) = 7
              · have hE := zite_t hE c22
                have t23 : Int32.toInt (T 0 source.toNatClampNeg) = 7 := by rw [c22]; rfl
                by_cases c24 : (T 3 place.toNatClampNeg) = (T 2 source.toNatClampNeg)
                · have hE := zite_t hE c24
                  have t25 := congrArg Int32.toInt c24
                  subst hE
                  exact Or.inr rfl
                · have hE := zite_f hE c24
                  have t26 := zt_ne c24
                  subst hE
                  exact Or.inl rfl
              · have hE := zite_f hE c22
                have t27 := lv_neT (a := 7) c22 rfl
                by_cases c28 : (T 0 source.toNatClampNeg) = 8
                · have hE := zite_t hE c28
                  have t29 : Int32.toInt (T 0 source.toNatClampNeg) = 8 := by rw [c28]; rfl
                  subst hE
                  exact Or.inl rfl
                · have hE := zite_f hE c28
                  have t31 := lv_neT (a := 8) c28 rfl
                  subst hE
                  exact Or.inl rfl
  · have hE := zite_f hE c1
    have t32 := zt_ne c1
    by_cases c33 : (T 0 source.toNatClampNeg) = 2
    · have hE := zite_t hE c33
      have t34 : Int32.toInt (T 0 source.toNatClampNeg) = 2 := by rw [c33]; rfl
      by_cases c36 : (V 0 place.toNatClampNeg) = (V 0 source.toNatClampNeg)
      · have hE := zite_t hE c36
        have t37 := congrArg Int32.toInt c36
        subst hE
        exact Or.inr rfl
      · have hE := zite_f hE c36
        have t38 := zt_ne c36
        subst hE
        exact Or.inl rfl
    · have hE := zite_f hE c33
      have t39 := lv_neT (a := 2) c33 rfl
      by_cases c40 : (T 0 source.toNatClampNeg) = 3
      · have hE := zite_t hE c40
        have t41 : Int32.toInt (T 0 source.toNatClampNeg) = 3 := by rw [c40]; rfl
        subst hE
        exact Or.inr rfl
      · have hE := zite_f hE c40
        have t42 := lv_neT (a := 3) c40 rfl
        by_cases c43 : (T 0 source.toNatClampNeg) = 4
        · have hE := zite_t hE c43
          have t44 : Int32.toInt (T 0 source.toNatClampNeg) = 4 := by rw [c43]; rfl
          subst hE
          exact Or.inr rfl
        · have hE := zite_f hE c43
          have t45 := lv_neT (a := 4) c43 rfl
          by_cases c46 : (T 0 source.toNatClampNeg) = 5
          · have hE := zite_t hE c46
            have t47 : Int32.toInt (T 0 source.toNatClampNeg) = 5 := by rw [c46]; rfl
            by_cases c48 : ((V 3 place.toNatClampNeg) &&& 2) = 0
            · have hE := zite_t hE c48
              have t49 := congrArg Int32.toInt c48
              subst hE
              exact Or.inl rfl
            · have hE := zite_f hE c48
              have t50 := zt_ne c48
              subst hE
              exact Or.inr rfl
          · have hE := zite_f hE c46
            have t51 := lv_neT (a := 5) c46 rfl
            by_cases c52 : (T 0 source.toNatClampNeg) = 6
            · have hE := zite_t hE c52
              have t53 : Int32.toInt (T 0 source.toNatClampNeg) = 6 := by rw [c52]; rfl
              subst hE
              exact Or.inr rfl
            · have hE := zite_f hE c52
              have t54 := lv_neT (a := 6) c52 rfl
              by_cases c55 : (T 0 source.toNatClampNeg) = 7
              · have hE := zite_t hE c55
                have t56 : Int32.toInt (T 0 source.toNatClampNeg) = 7 := by rw [c55]; rfl
                by_cases c57 : (T 3 place.toNatClampNeg) = (T 2 source.toNatClampNeg)
                · have hE := zite_t hE c57
                  have t58 := congrArg Int32.toInt c57
                  subst hE
                  exact Or.inr rfl
                · have hE := zite_f hE c57
                  have t59 := zt_ne c57
                  subst hE
                  exact Or.inl rfl
              · have hE := zite_f hE c55
                have t60 := lv_neT (a := 7) c55 rfl
                by_cases c61 : (T 0 source.toNatClampNeg) = 8
                · have hE := zite_t hE c61
                  have t62 : Int32.toInt (T 0 source.toNatClampNeg) = 8 := by rw [c61]; rfl
                  by_cases c64 : (V 4 place.toNatClampNeg) < 3
                  · have hE := zite_t hE c64
                    have t65 := zt_lt c64
                    subst hE
                    exact Or.inl rfl
                  · have hE := zite_f hE c64
                    have t66 := zt_nlt c64
                    subst hE
                    exact Or.inr rfl
                · have hE := zite_f hE c61
                  have t67 := lv_neT (a := 8) c61 rfl
                  subst hE
                  exact Or.inr rfl
theorem hw_X3_takes_X2 : ∀ w ∈ wsX20, w ∈ wsX3_takes := fun w h => List.mem_cons_of_mem _ (List.mem_append_right _ (h))
theorem hw_X3_takes_X3 : ∀ w ∈ wsX30, w ∈ wsX3_takes := fun w h => List.mem_cons_of_mem _ (List.mem_append_left _ (List.mem_append_right _ (h)))
abbrev rmX3_takes : Room := { frames := 0, cells := 0, slots := 0, locals := 0 }
theorem hd_X3_takes : yX3_takes.cls = RX3 ∧ yX3_takes.cls ≠ "java/lang/invoke/MethodHandle" ∧ yX3_takes.cls ≠ "java/lang/invoke/VarHandle" ∧ (parseMethodDescriptor yX3_takes.desc).map (fun d => d.parameters.length) = some 3 := by decide +kernel
set_option maxHeartbeats 4000000 in
set_option maxRecDepth 100000 in
theorem c_X3_takes (l : Launch) (G : zG_t) (source : Int32) (place : Int32) (T : zS_t) (V : zS_t) (hx0 : 0 ≤ Int32.toInt source ∧ Int32.toInt source < 10) (hx1 : 0 ≤ Int32.toInt place ∧ Int32.toInt place < 10) : zCI l G.1 (zty G) yX3_takes wsX3_takes rmX3_takes [.ref (G.2.2 3 0), .ref (G.2.2 1 0), .int source, .int place] (zWT G T ++ zWV G V) ((mX3_takes source place T V)) (zWT G T ++ zWV G V) := by
  obtain ⟨X, hE⟩ : ∃ z, mX3_takes source place T V = z := ⟨_, rfl⟩
  rw [hE]
  refine zb_Z (cc := cX3_takes) (maxL := 5) (by decide) rfl (Nat.le_of_ble_eq_true rfl) ?_
  intro p e s m args below meth c Q A F hret
  show zW p l e rmX3_takes s m args below meth c 0 0 Q G.1 A 5 (zWT G T ++ zWV G V) [(0, .ref (G.2.2 3 0)), (1, .ref (G.2.2 1 0)), (2, .int source), (3, .int place)] 0 []
  have k_0 : Int32.toInt 0 = 0 := by decide
  have k_1 : Int32.toInt 1 = 1 := by decide
  have k_2 : Int32.toInt 2 = 2 := by decide
  have k_3 : Int32.toInt 3 = 3 := by decide
  unfold mX3_takes at hE
  refine zi_aload_n (pc := 0) F dX3_takes_0 0 rfl ?_
  refine zi_get (pc := 1) (C := RX3) (T := TX3) (N := 5) (v := .ref (G.2.2 3 4)) F (hw_X3_takes_X3) 5 rfl rfl 3 (by decide) (List.mem_of_getElem? (i := 1) rfl) rfl rfl dX3_takes_1 ?_
  refine zi_iload_n (pc := 4) F dX3_takes_4 3 rfl ?_
  refine zi_iald (pc := 5) (v := (V 3 place.toNatClampNeg)) F 9 0 rfl rfl (zin (a := place) (by omega) (by omega)) rfl dX3_takes_5 ?_
  refine zi_iconst (pc := 6) (v := 1) F dX3_takes_6 rfl ?_
  refine zi_iand (pc := 7) F dX3_takes_7 ?_
  refine zi_if_eq (pc := 8) (tgt := 15) F dX3_takes_8 (by decide) (fun c1 => ?_) (fun c1 => ?_)
  · have hE := zite_t hE c1
    have t2 := congrArg Int32.toInt c1
    refine zi_iconst (pc := 15) (v := 0) F dX3_takes_15 rfl ?_
    refine zi_istore (pc := 16) (lv' := [(0, .ref (G.2.2 3 0)), (1, .ref (G.2.2 1 0)), (2, .int source), (3, .int place), (4, .int 0)]) F dX3_takes_16 (by decide) rfl ?_
    refine zi_aload_n (pc := 18) F dX3_takes_18 1 rfl ?_
    refine zi_get (pc := 19) (C := RX2) (T := TX2) (N := 5) (v := .ref (G.2.2 1 1)) F (hw_X3_takes_X2) 0 rfl rfl 0 (by decide) (List.mem_of_getElem? (i := 2) rfl) rfl rfl dX3_takes_19 ?_
    refine zi_iload_n (pc := 22) F dX3_takes_22 2 rfl ?_
    refine zi_iald (pc := 23) (v := (T 0 source.toNatClampNeg)) F 1 0 rfl rfl (zin (a := source) (by omega) (by omega)) rfl dX3_takes_23 ?_
    by_cases c3 : (T 0 source.toNatClampNeg) = 2
    · have hE := zite_t hE c3
      have t4 : Int32.toInt (T 0 source.toNatClampNeg) = 2 := by rw [c3]; rfl
      refine zi_tableIn (pc := 24) (tgt := 106) (off := 82) F dX3_takes_24 (by omega) (by omega) (by rw [t4]; rfl) (by decide) ?_
      refine zi_iload (pc := 106) F dX3_takes_106 4 rfl ?_
      refine zi_if_eq (pc := 108) (tgt := 130) F dX3_takes_108 (by decide) (fun _ => ?_) (fun c5 => absurd c5 (by decide))
      refine zi_iconst (pc := 130) (v := 0) F dX3_takes_130 rfl ?_
      subst hE
      exact hret _ _ dX3_takes_131 (znb (Or.inl rfl))
    · have hE := zite_f hE c3
      have t6 := lv_neT (a := 2) c3 rfl
      by_cases c7 : (T 0 source.toNatClampNeg) = 3
      · have hE := zite_t hE c7
        have t8 : Int32.toInt (T 0 source.toNatClampNeg) = 3 := by rw [c7]; rfl
        refine zi_tableIn (pc := 24) (tgt := 153) (off := 129) F dX3_takes_24 (by omega) (by omega) (by rw [t8]; rfl) (by decide) ?_
        refine zi_iload (pc := 153) F dX3_takes_153 4 rfl ?_
        subst hE
        exact hret _ _ dX3_takes_155 (znb (Or.inl rfl))
      · have hE := zite_f hE c7
        have t9 := lv_neT (a := 3) c7 rfl
        by_cases c10 : (T 0 source.toNatClampNeg) = 4
        · have hE := zite_t hE c10
          have t11 : Int32.toInt (T 0 source.toNatClampNeg) = 4 := by rw [c10]; rfl
          refine zi_tableIn (pc := 24) (tgt := 153) (off := 129) F dX3_takes_24 (by omega) (by omega) (by rw [t11]; rfl) (by decide) ?_
          refine zi_iload (pc := 153) F dX3_takes_153 4 rfl ?_
          subst hE
          exact hret _ _ dX3_takes_155 (znb (Or.inl rfl))
        · have hE := zite_f hE c10
          have t12 := lv_neT (a := 4) c10 rfl
          by_cases c13 : (T 0 source.toNatClampNeg) = 5
          · have hE := zite_t hE c13
            have t14 : Int32.toInt (T 0 source.toNatClampNeg) = 5 := by rw [c13]; rfl
            refine zi_tableIn (pc := 24) (tgt := 89) (off := 65) F dX3_takes_24 (by omega) (by omega) (by rw [t14]; rfl) (by decide) ?_
            refine zi_aload_n (pc := 89) F dX3_takes_89 0 rfl ?_
            refine zi_get (pc := 90) (C := RX3) (T := TX3) (N := 5) (v := .ref (G.2.2 3 4)) F (hw_X3_takes_X3) 5 rfl rfl 3 (by decide) (List.mem_of_getElem? (i := 1) rfl) rfl rfl dX3_takes_90 ?_
            refine zi_iload_n (pc := 93) F dX3_takes_93 3 rfl ?_
            refine zi_iald (pc := 94) (v := (V 3 place.toNatClampNeg)) F 9 0 rfl rfl (zin (a := place) (by omega) (by omega)) rfl dX3_takes_94 ?_
            refine zi_iconst (pc := 95) (v := 2) F dX3_takes_95 rfl ?_
            refine zi_iand (pc := 96) F dX3_takes_96 ?_
            refine zi_if_eq (pc := 97) (tgt := 104) F dX3_takes_97 (by decide) (fun c15 => ?_) (fun c15 => ?_)
            · have hE := zite_t hE c15
              have t16 := congrArg Int32.toInt c15
              refine zi_iconst (pc := 104) (v := 0) F dX3_takes_104 rfl ?_
              subst hE
              exact hret _ _ dX3_takes_105 (znb (Or.inl rfl))
            · have hE := zite_f hE c15
              have t17 := zt_ne c15
              refine zi_iconst (pc := 100) (v := 1) F dX3_takes_100 rfl ?_
              refine zi_goto (pc := 101) (tgt := 105) F dX3_takes_101 (by decide) ?_
              subst hE
              exact hret _ _ dX3_takes_105 (znb (Or.inr rfl))
          · have hE := zite_f hE c13
            have t18 := lv_neT (a := 5) c13 rfl
            by_cases c19 : (T 0 source.toNatClampNeg) = 6
            · have hE := zite_t hE c19
              have t20 : Int32.toInt (T 0 source.toNatClampNeg) = 6 := by rw [c19]; rfl
              refine zi_tableIn (pc := 24) (tgt := 153) (off := 129) F dX3_takes_24 (by omega) (by omega) (by rw [t20]; rfl) (by decide) ?_
              refine zi_iload (pc := 153) F dX3_takes_153 4 rfl ?_
              subst hE
              exact hret _ _ dX3_takes_155 (znb (Or.inl rfl))
            · have hE := zite_f hE c19
              have t21 := lv_neT (a := 6) c19 rfl
              by_cases c22 : (T 0 source.toNatClampNeg) = 7
              · have hE := zite_t hE c22
                have t23 : Int32.toInt (T 0 source.toNatClampNeg) = 7 := by rw [c22]; rfl
                refine zi_tableIn (pc := 24) (tgt := 68) (off := 44) F dX3_takes_24 (by omega) (by omega) (by rw [t23]; rfl) (by decide) ?_
                refine zi_aload_n (pc := 68) F dX3_takes_68 1 rfl ?_
                refine zi_get (pc := 69) (C := RX2) (T := TX2) (N := 5) (v := .ref (G.2.2 1 4)) F (hw_X3_takes_X2) 0 rfl rfl 3 (by decide) (List.mem_of_getElem? (i := 3) rfl) rfl rfl dX3_takes_69 ?_
                refine zi_iload_n (pc := 72) F dX3_takes_72 3 rfl ?_
                refine zi_iald (pc := 73) (v := (T 3 place.toNatClampNeg)) F 4 0 rfl rfl (zin (a := place) (by omega) (by omega)) rfl dX3_takes_73 ?_
                refine zi_aload_n (pc := 74) F dX3_takes_74 1 rfl ?_
                refine zi_get (pc := 75) (C := RX2) (T := TX2) (N := 5) (v := .ref (G.2.2 1 3)) F (hw_X3_takes_X2) 0 rfl rfl 2 (by decide) (List.mem_of_getElem? (i := 4) rfl) rfl rfl dX3_takes_75 ?_
                refine zi_iload_n (pc := 78) F dX3_takes_78 2 rfl ?_
                refine zi_iald (pc := 79) (v := (T 2 source.toNatClampNeg)) F 3 0 rfl rfl (zin (a := source) (by omega) (by omega)) rfl dX3_takes_79 ?_
                refine zi_icmp_ne (pc := 80) (tgt := 87) F dX3_takes_80 (by decide) (fun c24 => ?_) (fun c24 => ?_)
                · have hE := zite_f hE c24
                  have t25 := zt_ne c24
                  refine zi_iconst (pc := 87) (v := 0) F dX3_takes_87 rfl ?_
                  subst hE
                  exact hret _ _ dX3_takes_88 (znb (Or.inl rfl))
                · have hE := zite_t hE c24
                  have t26 := congrArg Int32.toInt c24
                  refine zi_iconst (pc := 83) (v := 1) F dX3_takes_83 rfl ?_
                  refine zi_goto (pc := 84) (tgt := 88) F dX3_takes_84 (by decide) ?_
                  subst hE
                  exact hret _ _ dX3_takes_88 (znb (Or.inr rfl))
              · have hE := zite_f hE c22
                have t27 := lv_neT (a := 7) c22 rfl
                by_cases c28 : (T 0 source.toNatClampNeg) = 8
                · have hE := zite_t hE c28
                  have t29 : Int32.toInt (T 0 source.toNatClampNeg) = 8 := by rw [c28]; rfl
                  refine zi_tableIn (pc := 24) (tgt := 132) (off := 108) F dX3_takes_24 (by omega) (by omega) (by rw [t29]; rfl) (by decide) ?_
                  refine zi_iload (pc := 132) F dX3_takes_132 4 rfl ?_
                  refine zi_if_eq (pc := 134) (tgt := 151) F dX3_takes_134 (by decide) (fun _ => ?_) (fun c30 => absurd c30 (by decide))
                  refine zi_iconst (pc := 151) (v := 0) F dX3_takes_151 rfl ?_
                  subst hE
                  exact hret _ _ dX3_takes_152 (znb (Or.inl rfl))
                · have hE := zite_f hE c28
                  have t31 := lv_neT (a := 8) c28 rfl
                  refine zi_tableOut (pc := 24) (tgt := 153) F dX3_takes_24 (by omega) (by decide) ?_
                  refine zi_iload (pc := 153) F dX3_takes_153 4 rfl ?_
                  subst hE
                  exact hret _ _ dX3_takes_155 (znb (Or.inl rfl))
  · have hE := zite_f hE c1
    have t32 := zt_ne c1
    refine zi_iconst (pc := 11) (v := 1) F dX3_takes_11 rfl ?_
    refine zi_goto (pc := 12) (tgt := 16) F dX3_takes_12 (by decide) ?_
    refine zi_istore (pc := 16) (lv' := [(0, .ref (G.2.2 3 0)), (1, .ref (G.2.2 1 0)), (2, .int source), (3, .int place), (4, .int 1)]) F dX3_takes_16 (by decide) rfl ?_
    refine zi_aload_n (pc := 18) F dX3_takes_18 1 rfl ?_
    refine zi_get (pc := 19) (C := RX2) (T := TX2) (N := 5) (v := .ref (G.2.2 1 1)) F (hw_X3_takes_X2) 0 rfl rfl 0 (by decide) (List.mem_of_getElem? (i := 2) rfl) rfl rfl dX3_takes_19 ?_
    refine zi_iload_n (pc := 22) F dX3_takes_22 2 rfl ?_
    refine zi_iald (pc := 23) (v := (T 0 source.toNatClampNeg)) F 1 0 rfl rfl (zin (a := source) (by omega) (by omega)) rfl dX3_takes_23 ?_
    by_cases c33 : (T 0 source.toNatClampNeg) = 2
    · have hE := zite_t hE c33
      have t34 : Int32.toInt (T 0 source.toNatClampNeg) = 2 := by rw [c33]; rfl
      refine zi_tableIn (pc := 24) (tgt := 106) (off := 82) F dX3_takes_24 (by omega) (by omega) (by rw [t34]; rfl) (by decide) ?_
      refine zi_iload (pc := 106) F dX3_takes_106 4 rfl ?_
      refine zi_if_eq (pc := 108) (tgt := 130) F dX3_takes_108 (by decide) (fun c35 => absurd c35 (by decide)) (fun _ => ?_)
      refine zi_aload_n (pc := 111) F dX3_takes_111 0 rfl ?_
      refine zi_get (pc := 112) (C := RX3) (T := TX3) (N := 5) (v := .ref (G.2.2 3 1)) F (hw_X3_takes_X3) 5 rfl rfl 0 (by decide) (List.mem_of_getElem? (i := 5) rfl) rfl rfl dX3_takes_112 ?_
      refine zi_iload_n (pc := 115) F dX3_takes_115 3 rfl ?_
      refine zi_iald (pc := 116) (v := (V 0 place.toNatClampNeg)) F 6 0 rfl rfl (zin (a := place) (by omega) (by omega)) rfl dX3_takes_116 ?_
      refine zi_aload_n (pc := 117) F dX3_takes_117 0 rfl ?_
      refine zi_get (pc := 118) (C := RX3) (T := TX3) (N := 5) (v := .ref (G.2.2 3 1)) F (hw_X3_takes_X3) 5 rfl rfl 0 (by decide) (List.mem_of_getElem? (i := 5) rfl) rfl rfl dX3_takes_118 ?_
      refine zi_iload_n (pc := 121) F dX3_takes_121 2 rfl ?_
      refine zi_iald (pc := 122) (v := (V 0 source.toNatClampNeg)) F 6 0 rfl rfl (zin (a := source) (by omega) (by omega)) rfl dX3_takes_122 ?_
      refine zi_icmp_ne (pc := 123) (tgt := 130) F dX3_takes_123 (by decide) (fun c36 => ?_) (fun c36 => ?_)
      · have hE := zite_f hE c36
        have t37 := zt_ne c36
        refine zi_iconst (pc := 130) (v := 0) F dX3_takes_130 rfl ?_
        subst hE
        exact hret _ _ dX3_takes_131 (znb (Or.inl rfl))
      · have hE := zite_t hE c36
        have t38 := congrArg Int32.toInt c36
        refine zi_iconst (pc := 126) (v := 1) F dX3_takes_126 rfl ?_
        refine zi_goto (pc := 127) (tgt := 131) F dX3_takes_127 (by decide) ?_
        subst hE
        exact hret _ _ dX3_takes_131 (znb (Or.inr rfl))
    · have hE := zite_f hE c33
      have t39 := lv_neT (a := 2) c33 rfl
      by_cases c40 : (T 0 source.toNatClampNeg) = 3
      · have hE := zite_t hE c40
        have t41 : Int32.toInt (T 0 source.toNatClampNeg) = 3 := by rw [c40]; rfl
        refine zi_tableIn (pc := 24) (tgt := 153) (off := 129) F dX3_takes_24 (by omega) (by omega) (by rw [t41]; rfl) (by decide) ?_
        refine zi_iload (pc := 153) F dX3_takes_153 4 rfl ?_
        subst hE
        exact hret _ _ dX3_takes_155 (znb (Or.inr rfl))
      · have hE := zite_f hE c40
        have t42 := lv_neT (a := 3) c40 rfl
        by_cases c43 : (T 0 source.toNatClampNeg) = 4
        · have hE := zite_t hE c43
          have t44 : Int32.toInt (T 0 source.toNatClampNeg) = 4 := by rw [c43]; rfl
          refine zi_tableIn (pc := 24) (tgt := 153) (off := 129) F dX3_takes_24 (by omega) (by omega) (by rw [t44]; rfl) (by decide) ?_
          refine zi_iload (pc := 153) F dX3_takes_153 4 rfl ?_
          subst hE
          exact hret _ _ dX3_takes_155 (znb (Or.inr rfl))
        · have hE := zite_f hE c43
          have t45 := lv_neT (a := 4) c43 rfl
          by_cases c46 : (T 0 source.toNatClampNeg) = 5
          · have hE := zite_t hE c46
            have t47 : Int32.toInt (T 0 source.toNatClampNeg) = 5 := by rw [c46]; rfl
            refine zi_tableIn (pc := 24) (tgt := 89) (off := 65) F dX3_takes_24 (by omega) (by omega) (by rw [t47]; rfl) (by decide) ?_
            refine zi_aload_n (pc := 89) F dX3_takes_89 0 rfl ?_
            refine zi_get (pc := 90) (C := RX3) (T := TX3) (N := 5) (v := .ref (G.2.2 3 4)) F (hw_X3_takes_X3) 5 rfl rfl 3 (by decide) (List.mem_of_getElem? (i := 1) rfl) rfl rfl dX3_takes_90 ?_
            refine zi_iload_n (pc := 93) F dX3_takes_93 3 rfl ?_
            refine zi_iald (pc := 94) (v := (V 3 place.toNatClampNeg)) F 9 0 rfl rfl (zin (a := place) (by omega) (by omega)) rfl dX3_takes_94 ?_
            refine zi_iconst (pc := 95) (v := 2) F dX3_takes_95 rfl ?_
            refine zi_iand (pc := 96) F dX3_takes_96 ?_
            refine zi_if_eq (pc := 97) (tgt := 104) F dX3_takes_97 (by decide) (fun c48 => ?_) (fun c48 => ?_)
            · have hE := zite_t hE c48
              have t49 := congrArg Int32.toInt c48
              refine zi_iconst (pc := 104) (v := 0) F dX3_takes_104 rfl ?_
              subst hE
              exact hret _ _ dX3_takes_105 (znb (Or.inl rfl))
            · have hE := zite_f hE c48
              have t50 := zt_ne c48
              refine zi_iconst (pc := 100) (v := 1) F dX3_takes_100 rfl ?_
              refine zi_goto (pc := 101) (tgt := 105) F dX3_takes_101 (by decide) ?_
              subst hE
              exact hret _ _ dX3_takes_105 (znb (Or.inr rfl))
          · have hE := zite_f hE c46
            have t51 := lv_neT (a := 5) c46 rfl
            by_cases c52 : (T 0 source.toNatClampNeg) = 6
            · have hE := zite_t hE c52
              have t53 : Int32.toInt (T 0 source.toNatClampNeg) = 6 := by rw [c52]; rfl
              refine zi_tableIn (pc := 24) (tgt := 153) (off := 129) F dX3_takes_24 (by omega) (by omega) (by rw [t53]; rfl) (by decide) ?_
              refine zi_iload (pc := 153) F dX3_takes_153 4 rfl ?_
              subst hE
              exact hret _ _ dX3_takes_155 (znb (Or.inr rfl))
            · have hE := zite_f hE c52
              have t54 := lv_neT (a := 6) c52 rfl
              by_cases c55 : (T 0 source.toNatClampNeg) = 7
              · have hE := zite_t hE c55
                have t56 : Int32.toInt (T 0 source.toNatClampNeg) = 7 := by rw [c55]; rfl
                refine zi_tableIn (pc := 24) (tgt := 68) (off := 44) F dX3_takes_24 (by omega) (by omega) (by rw [t56]; rfl) (by decide) ?_
                refine zi_aload_n (pc := 68) F dX3_takes_68 1 rfl ?_
                refine zi_get (pc := 69) (C := RX2) (T := TX2) (N := 5) (v := .ref (G.2.2 1 4)) F (hw_X3_takes_X2) 0 rfl rfl 3 (by decide) (List.mem_of_getElem? (i := 3) rfl) rfl rfl dX3_takes_69 ?_
                refine zi_iload_n (pc := 72) F dX3_takes_72 3 rfl ?_
                refine zi_iald (pc := 73) (v := (T 3 place.toNatClampNeg)) F 4 0 rfl rfl (zin (a := place) (by omega) (by omega)) rfl dX3_takes_73 ?_
                refine zi_aload_n (pc := 74) F dX3_takes_74 1 rfl ?_
                refine zi_get (pc := 75) (C := RX2) (T := TX2) (N := 5) (v := .ref (G.2.2 1 3)) F (hw_X3_takes_X2) 0 rfl rfl 2 (by decide) (List.mem_of_getElem? (i := 4) rfl) rfl rfl dX3_takes_75 ?_
                refine zi_iload_n (pc := 78) F dX3_takes_78 2 rfl ?_
                refine zi_iald (pc := 79) (v := (T 2 source.toNatClampNeg)) F 3 0 rfl rfl (zin (a := source) (by omega) (by omega)) rfl dX3_takes_79 ?_
                refine zi_icmp_ne (pc := 80) (tgt := 87) F dX3_takes_80 (by decide) (fun c57 => ?_) (fun c57 => ?_)
                · have hE := zite_f hE c57
                  have t58 := zt_ne c57
                  refine zi_iconst (pc := 87) (v := 0) F dX3_takes_87 rfl ?_
                  subst hE
                  exact hret _ _ dX3_takes_88 (znb (Or.inl rfl))
                · have hE := zite_t hE c57
                  have t59 := congrArg Int32.toInt c57
                  refine zi_iconst (pc := 83) (v := 1) F dX3_takes_83 rfl ?_
                  refine zi_goto (pc := 84) (tgt := 88) F dX3_takes_84 (by decide) ?_
                  subst hE
                  exact hret _ _ dX3_takes_88 (znb (Or.inr rfl))
              · have hE := zite_f hE c55
                have t60 := lv_neT (a := 7) c55 rfl
                by_cases c61 : (T 0 source.toNatClampNeg) = 8
                · have hE := zite_t hE c61
                  have t62 : Int32.toInt (T 0 source.toNatClampNeg) = 8 := by rw [c61]; rfl
                  refine zi_tableIn (pc := 24) (tgt := 132) (off := 108) F dX3_takes_24 (by omega) (by omega) (by rw [t62]; rfl) (by decide) ?_
                  refine zi_iload (pc := 132) F dX3_takes_132 4 rfl ?_
                  refine zi_if_eq (pc := 134) (tgt := 151) F dX3_takes_134 (by decide) (fun c63 => absurd c63 (by decide)) (fun _ => ?_)
                  refine zi_aload_n (pc := 137) F dX3_takes_137 0 rfl ?_
                  refine zi_get (pc := 138) (C := RX3) (T := TX3) (N := 5) (v := .ref (G.2.2 3 5)) F (hw_X3_takes_X3) 5 rfl rfl 4 (by decide) (List.mem_of_getElem? (i := 6) rfl) rfl rfl dX3_takes_138 ?_
                  refine zi_iload_n (pc := 141) F dX3_takes_141 3 rfl ?_
                  refine zi_iald (pc := 142) (v := (V 4 place.toNatClampNeg)) F 10 0 rfl rfl (zin (a := place) (by omega) (by omega)) rfl dX3_takes_142 ?_
                  refine zi_iconst (pc := 143) (v := 3) F dX3_takes_143 rfl ?_
                  refine zi_icmp_lt (pc := 144) (tgt := 151) F dX3_takes_144 (by decide) (fun c64 => ?_) (fun c64 => ?_)
                  · have hE := zite_t hE c64
                    have t65 := zt_lt c64
                    refine zi_iconst (pc := 151) (v := 0) F dX3_takes_151 rfl ?_
                    subst hE
                    exact hret _ _ dX3_takes_152 (znb (Or.inl rfl))
                  · have hE := zite_f hE c64
                    have t66 := zt_nlt c64
                    refine zi_iconst (pc := 147) (v := 1) F dX3_takes_147 rfl ?_
                    refine zi_goto (pc := 148) (tgt := 152) F dX3_takes_148 (by decide) ?_
                    subst hE
                    exact hret _ _ dX3_takes_152 (znb (Or.inr rfl))
                · have hE := zite_f hE c61
                  have t67 := lv_neT (a := 8) c61 rfl
                  refine zi_tableOut (pc := 24) (tgt := 153) F dX3_takes_24 (by omega) (by decide) ?_
                  refine zi_iload (pc := 153) F dX3_takes_153 4 rfl ?_
                  subst hE
                  exact hret _ _ dX3_takes_155 (znb (Or.inr rfl))
/-! X3_change -/
def mX3_change (source : Int32) (place : Int32) (T : zS_t) (V : zS_t) : zS_t := if (T 0 source.toNatClampNeg) = 2 then (zsF V 2 (upd (V 2) place.toNatClampNeg ((V 2 place.toNatClampNeg) + 2))) else (if (T 0 source.toNatClampNeg) = 3 then (zsF V 2 (upd (V 2) place.toNatClampNeg 1)) else (if (T 0 source.toNatClampNeg) = 4 then (zsF V 2 (upd (V 2) place.toNatClampNeg 4)) else (if (T 0 source.toNatClampNeg) = 5 then (zsF V 1 (upd (V 1) place.toNatClampNeg ((V 1 place.toNatClampNeg) ||| 1))) else (if (T 0 source.toNatClampNeg) = 6 then (zsF V 1 (upd (V 1) place.toNatClampNeg (((V 1 place.toNatClampNeg) &&& (-2)) ||| 2))) else (if (T 0 source.toNatClampNeg) = 7 then (zsF V 0 (upd (V 0) place.toNatClampNeg (T 1 source.toNatClampNeg))) else (if (T 0 source.toNatClampNeg) = 8 then (zsF V 2 (upd (V 2) place.toNatClampNeg ((V 2 place.toNatClampNeg) * 2))) else V))))))
theorem hw_X3_change_X2 : ∀ w ∈ wsX20, w ∈ wsX3_change := fun w h => List.mem_cons_of_mem _ (List.mem_append_left _ (List.mem_append_right _ (h)))
theorem hw_X3_change_X3 : ∀ w ∈ wsX30, w ∈ wsX3_change := fun w h => List.mem_cons_of_mem _ (List.mem_append_right _ (h))
abbrev rmX3_change : Room := { frames := 0, cells := 0, slots := 0, locals := 0 }
theorem hd_X3_change : yX3_change.cls = RX3 ∧ yX3_change.cls ≠ "java/lang/invoke/MethodHandle" ∧ yX3_change.cls ≠ "java/lang/invoke/VarHandle" ∧ (parseMethodDescriptor yX3_change.desc).map (fun d => d.parameters.length) = some 3 := by decide +kernel
set_option maxHeartbeats 4000000 in
set_option maxRecDepth 100000 in
theorem c_X3_change (l : Launch) (G : zG_t) (source : Int32) (place : Int32) (T : zS_t) (V : zS_t) (hx0 : 0 ≤ Int32.toInt source ∧ Int32.toInt source < 10) (hx1 : 0 ≤ Int32.toInt place ∧ Int32.toInt place < 10) : zCV l G.1 (zty G) yX3_change wsX3_change rmX3_change [.ref (G.2.2 3 0), .ref (G.2.2 1 0), .int source, .int place] (zWT G T ++ zWV G V) (zWT G T ++ zWV G (mX3_change source place T V)) := by
  obtain ⟨X, hE⟩ : ∃ z, mX3_change source place T V = z := ⟨_, rfl⟩
  rw [hE]
  refine zb_V (cc := cX3_change) (maxL := 4) (by decide) rfl (Nat.le_of_ble_eq_true rfl) ?_
  intro p e s m args below meth c Q A F hret
  show zW p l e rmX3_change s m args below meth c 0 0 Q G.1 A 4 (zWT G T ++ zWV G V) [(0, .ref (G.2.2 3 0)), (1, .ref (G.2.2 1 0)), (2, .int source), (3, .int place)] 0 []
  have k_m2 : Int32.toInt (-2) = -2 := by decide
  have k_0 : Int32.toInt 0 = 0 := by decide
  have k_1 : Int32.toInt 1 = 1 := by decide
  have k_2 : Int32.toInt 2 = 2 := by decide
  have k_4 : Int32.toInt 4 = 4 := by decide
  unfold mX3_change at hE
  refine zi_aload_n (pc := 0) F dX3_change_0 1 rfl ?_
  refine zi_get (pc := 1) (C := RX2) (T := TX2) (N := 5) (v := .ref (G.2.2 1 1)) F (hw_X3_change_X2) 0 rfl rfl 0 (by decide) (List.mem_of_getElem? (i := 1) rfl) rfl rfl dX3_change_1 ?_
  refine zi_iload_n (pc := 4) F dX3_change_4 2 rfl ?_
  refine zi_iald (pc := 5) (v := (T 0 source.toNatClampNeg)) F 1 0 rfl rfl (zin (a := source) (by omega) (by omega)) rfl dX3_change_5 ?_
  by_cases c1 : (T 0 source.toNatClampNeg) = 2
  · have hE := zite_t hE c1
    have t2 : Int32.toInt (T 0 source.toNatClampNeg) = 2 := by rw [c1]; rfl
    refine zi_tableIn (pc := 6) (tgt := 116) (off := 110) F dX3_change_6 (by omega) (by omega) (by rw [t2]; rfl) (by decide) ?_
    refine zi_aload_n (pc := 116) F dX3_change_116 0 rfl ?_
    refine zi_get (pc := 117) (C := RX3) (T := TX3) (N := 5) (v := .ref (G.2.2 3 3)) F (hw_X3_change_X3) 5 rfl rfl 2 (by decide) (List.mem_of_getElem? (i := 5) rfl) rfl rfl dX3_change_117 ?_
    refine zi_iload_n (pc := 120) F dX3_change_120 3 rfl ?_
    refine zi_dup2 (pc := 121) F dX3_change_121 rfl rfl ?_
    refine zi_iald (pc := 122) (v := (V 2 place.toNatClampNeg)) F 8 0 rfl rfl (zin (a := place) (by omega) (by omega)) rfl dX3_change_122 ?_
    refine zi_iconst (pc := 123) (v := 2) F dX3_change_123 rfl ?_
    refine zi_iadd (pc := 124) F dX3_change_124 ?_
    refine zi_iast (pc := 125) (ws' := zWT G T ++ zWV G (zsF V 2 (upd (V 2) place.toNatClampNeg ((V 2 place.toNatClampNeg) + 2)))) F 8 0 rfl rfl (zin (a := place) (by omega) (by omega)) rfl dX3_change_125 ?_
    refine zi_goto (pc := 126) (tgt := 142) F dX3_change_126 (by decide) ?_
    subst hE
    exact hret _ _ dX3_change_142
  · have hE := zite_f hE c1
    have t3 := lv_neT (a := 2) c1 rfl
    by_cases c4 : (T 0 source.toNatClampNeg) = 3
    · have hE := zite_t hE c4
      have t5 : Int32.toInt (T 0 source.toNatClampNeg) = 3 := by rw [c4]; rfl
      refine zi_tableIn (pc := 6) (tgt := 96) (off := 90) F dX3_change_6 (by omega) (by omega) (by rw [t5]; rfl) (by decide) ?_
      refine zi_aload_n (pc := 96) F dX3_change_96 0 rfl ?_
      refine zi_get (pc := 97) (C := RX3) (T := TX3) (N := 5) (v := .ref (G.2.2 3 3)) F (hw_X3_change_X3) 5 rfl rfl 2 (by decide) (List.mem_of_getElem? (i := 5) rfl) rfl rfl dX3_change_97 ?_
      refine zi_iload_n (pc := 100) F dX3_change_100 3 rfl ?_
      refine zi_iconst (pc := 101) (v := 1) F dX3_change_101 rfl ?_
      refine zi_iast (pc := 102) (ws' := zWT G T ++ zWV G (zsF V 2 (upd (V 2) place.toNatClampNeg 1))) F 8 0 rfl rfl (zin (a := place) (by omega) (by omega)) rfl dX3_change_102 ?_
      refine zi_goto (pc := 103) (tgt := 142) F dX3_change_103 (by decide) ?_
      subst hE
      exact hret _ _ dX3_change_142
    · have hE := zite_f hE c4
      have t6 := lv_neT (a := 3) c4 rfl
      by_cases c7 : (T 0 source.toNatClampNeg) = 4
      · have hE := zite_t hE c7
        have t8 : Int32.toInt (T 0 source.toNatClampNeg) = 4 := by rw [c7]; rfl
        refine zi_tableIn (pc := 6) (tgt := 106) (off := 100) F dX3_change_6 (by omega) (by omega) (by rw [t8]; rfl) (by decide) ?_
        refine zi_aload_n (pc := 106) F dX3_change_106 0 rfl ?_
        refine zi_get (pc := 107) (C := RX3) (T := TX3) (N := 5) (v := .ref (G.2.2 3 3)) F (hw_X3_change_X3) 5 rfl rfl 2 (by decide) (List.mem_of_getElem? (i := 5) rfl) rfl rfl dX3_change_107 ?_
        refine zi_iload_n (pc := 110) F dX3_change_110 3 rfl ?_
        refine zi_iconst (pc := 111) (v := 4) F dX3_change_111 rfl ?_
        refine zi_iast (pc := 112) (ws' := zWT G T ++ zWV G (zsF V 2 (upd (V 2) place.toNatClampNeg 4))) F 8 0 rfl rfl (zin (a := place) (by omega) (by omega)) rfl dX3_change_112 ?_
        refine zi_goto (pc := 113) (tgt := 142) F dX3_change_113 (by decide) ?_
        subst hE
        exact hret _ _ dX3_change_142
      · have hE := zite_f hE c7
        have t9 := lv_neT (a := 4) c7 rfl
        by_cases c10 : (T 0 source.toNatClampNeg) = 5
        · have hE := zite_t hE c10
          have t11 : Int32.toInt (T 0 source.toNatClampNeg) = 5 := by rw [c10]; rfl
          refine zi_tableIn (pc := 6) (tgt := 63) (off := 57) F dX3_change_6 (by omega) (by omega) (by rw [t11]; rfl) (by decide) ?_
          refine zi_aload_n (pc := 63) F dX3_change_63 0 rfl ?_
          refine zi_get (pc := 64) (C := RX3) (T := TX3) (N := 5) (v := .ref (G.2.2 3 2)) F (hw_X3_change_X3) 5 rfl rfl 1 (by decide) (List.mem_of_getElem? (i := 4) rfl) rfl rfl dX3_change_64 ?_
          refine zi_iload_n (pc := 67) F dX3_change_67 3 rfl ?_
          refine zi_dup2 (pc := 68) F dX3_change_68 rfl rfl ?_
          refine zi_iald (pc := 69) (v := (V 1 place.toNatClampNeg)) F 7 0 rfl rfl (zin (a := place) (by omega) (by omega)) rfl dX3_change_69 ?_
          refine zi_iconst (pc := 70) (v := 1) F dX3_change_70 rfl ?_
          refine zi_ior (pc := 71) F dX3_change_71 ?_
          refine zi_iast (pc := 72) (ws' := zWT G T ++ zWV G (zsF V 1 (upd (V 1) place.toNatClampNeg ((V 1 place.toNatClampNeg) ||| 1)))) F 7 0 rfl rfl (zin (a := place) (by omega) (by omega)) rfl dX3_change_72 ?_
          refine zi_goto (pc := 73) (tgt := 142) F dX3_change_73 (by decide) ?_
          subst hE
          exact hret _ _ dX3_change_142
        · have hE := zite_f hE c10
          have t12 := lv_neT (a := 5) c10 rfl
          by_cases c13 : (T 0 source.toNatClampNeg) = 6
          · have hE := zite_t hE c13
            have t14 : Int32.toInt (T 0 source.toNatClampNeg) = 6 := by rw [c13]; rfl
            refine zi_tableIn (pc := 6) (tgt := 76) (off := 70) F dX3_change_6 (by omega) (by omega) (by rw [t14]; rfl) (by decide) ?_
            refine zi_aload_n (pc := 76) F dX3_change_76 0 rfl ?_
            refine zi_get (pc := 77) (C := RX3) (T := TX3) (N := 5) (v := .ref (G.2.2 3 2)) F (hw_X3_change_X3) 5 rfl rfl 1 (by decide) (List.mem_of_getElem? (i := 4) rfl) rfl rfl dX3_change_77 ?_
            refine zi_iload_n (pc := 80) F dX3_change_80 3 rfl ?_
            refine zi_aload_n (pc := 81) F dX3_change_81 0 rfl ?_
            refine zi_get (pc := 82) (C := RX3) (T := TX3) (N := 5) (v := .ref (G.2.2 3 2)) F (hw_X3_change_X3) 5 rfl rfl 1 (by decide) (List.mem_of_getElem? (i := 4) rfl) rfl rfl dX3_change_82 ?_
            refine zi_iload_n (pc := 85) F dX3_change_85 3 rfl ?_
            refine zi_iald (pc := 86) (v := (V 1 place.toNatClampNeg)) F 7 0 rfl rfl (zin (a := place) (by omega) (by omega)) rfl dX3_change_86 ?_
            refine zi_bipush (pc := 87) (v := (-2)) F dX3_change_87 rfl ?_
            refine zi_iand (pc := 89) F dX3_change_89 ?_
            refine zi_iconst (pc := 90) (v := 2) F dX3_change_90 rfl ?_
            refine zi_ior (pc := 91) F dX3_change_91 ?_
            refine zi_iast (pc := 92) (ws' := zWT G T ++ zWV G (zsF V 1 (upd (V 1) place.toNatClampNeg (((V 1 place.toNatClampNeg) &&& (-2)) ||| 2)))) F 7 0 rfl rfl (zin (a := place) (by omega) (by omega)) rfl dX3_change_92 ?_
            refine zi_goto (pc := 93) (tgt := 142) F dX3_change_93 (by decide) ?_
            subst hE
            exact hret _ _ dX3_change_142
          · have hE := zite_f hE c13
            have t15 := lv_neT (a := 6) c13 rfl
            by_cases c16 : (T 0 source.toNatClampNeg) = 7
            · have hE := zite_t hE c16
              have t17 : Int32.toInt (T 0 source.toNatClampNeg) = 7 := by rw [c16]; rfl
              refine zi_tableIn (pc := 6) (tgt := 48) (off := 42) F dX3_change_6 (by omega) (by omega) (by rw [t17]; rfl) (by decide) ?_
              refine zi_aload_n (pc := 48) F dX3_change_48 0 rfl ?_
              refine zi_get (pc := 49) (C := RX3) (T := TX3) (N := 5) (v := .ref (G.2.2 3 1)) F (hw_X3_change_X3) 5 rfl rfl 0 (by decide) (List.mem_of_getElem? (i := 2) rfl) rfl rfl dX3_change_49 ?_
              refine zi_iload_n (pc := 52) F dX3_change_52 3 rfl ?_
              refine zi_aload_n (pc := 53) F dX3_change_53 1 rfl ?_
              refine zi_get (pc := 54) (C := RX2) (T := TX2) (N := 5) (v := .ref (G.2.2 1 2)) F (hw_X3_change_X2) 0 rfl rfl 1 (by decide) (List.mem_of_getElem? (i := 3) rfl) rfl rfl dX3_change_54 ?_
              refine zi_iload_n (pc := 57) F dX3_change_57 2 rfl ?_
              refine zi_iald (pc := 58) (v := (T 1 source.toNatClampNeg)) F 2 0 rfl rfl (zin (a := source) (by omega) (by omega)) rfl dX3_change_58 ?_
              refine zi_iast (pc := 59) (ws' := zWT G T ++ zWV G (zsF V 0 (upd (V 0) place.toNatClampNeg (T 1 source.toNatClampNeg)))) F 6 0 rfl rfl (zin (a := place) (by omega) (by omega)) rfl dX3_change_59 ?_
              refine zi_goto (pc := 60) (tgt := 142) F dX3_change_60 (by decide) ?_
              subst hE
              exact hret _ _ dX3_change_142
            · have hE := zite_f hE c16
              have t18 := lv_neT (a := 7) c16 rfl
              by_cases c19 : (T 0 source.toNatClampNeg) = 8
              · have hE := zite_t hE c19
                have t20 : Int32.toInt (T 0 source.toNatClampNeg) = 8 := by rw [c19]; rfl
                refine zi_tableIn (pc := 6) (tgt := 129) (off := 123) F dX3_change_6 (by omega) (by omega) (by rw [t20]; rfl) (by decide) ?_
                refine zi_aload_n (pc := 129) F dX3_change_129 0 rfl ?_
                refine zi_get (pc := 130) (C := RX3) (T := TX3) (N := 5) (v := .ref (G.2.2 3 3)) F (hw_X3_change_X3) 5 rfl rfl 2 (by decide) (List.mem_of_getElem? (i := 5) rfl) rfl rfl dX3_change_130 ?_
                refine zi_iload_n (pc := 133) F dX3_change_133 3 rfl ?_
                refine zi_dup2 (pc := 134) F dX3_change_134 rfl rfl ?_
                refine zi_iald (pc := 135) (v := (V 2 place.toNatClampNeg)) F 8 0 rfl rfl (zin (a := place) (by omega) (by omega)) rfl dX3_change_135 ?_
                refine zi_iconst (pc := 136) (v := 2) F dX3_change_136 rfl ?_
                refine zi_imul (pc := 137) F dX3_change_137 ?_
                refine zi_iast (pc := 138) (ws' := zWT G T ++ zWV G (zsF V 2 (upd (V 2) place.toNatClampNeg ((V 2 place.toNatClampNeg) * 2)))) F 8 0 rfl rfl (zin (a := place) (by omega) (by omega)) rfl dX3_change_138 ?_
                refine zi_goto (pc := 139) (tgt := 142) F dX3_change_139 (by decide) ?_
                subst hE
                exact hret _ _ dX3_change_142
              · have hE := zite_f hE c19
                have t21 := lv_neT (a := 8) c19 rfl
                refine zi_tableOut (pc := 6) (tgt := 142) F dX3_change_6 (by omega) (by decide) ?_
                subst hE
                exact hret _ _ dX3_change_142
/-! X3_goThrough -/
def mX3_goThrough_L2 (T : zS_t) : Nat → Int32 → zS_t → Int32 × zS_t
  | 0, k3_8, V9 => (k3_8, V9)
  | n10 + 1, k3_8, V9 => if (T 4 0) ≤ k3_8 then (k3_8, V9) else (zbnd ((k3_8 + 1)) (fun y19 => mX3_goThrough_L2 T n10 y19 (zsF (zsF V9 3 (upd (V9 3) k3_8.toNatClampNeg (V9 1 k3_8.toNatClampNeg))) 4 (upd (V9 4) k3_8.toNatClampNeg (V9 2 k3_8.toNatClampNeg)))))
def mX3_goThrough_S50 (layer : Int32) (k3_113 : Int32) (T : zS_t) : Int32 := zbnd (mX4_layerOf (T 0 k3_113.toNatClampNeg)) (fun r133 => if r133 = layer then 1 else 0)
def mX3_goThrough_L73 (k3_113 : Int32) (w130 : Int32) (T : zS_t) : Nat → Int32 → zS_t → Int32 × zS_t
  | 0, k5_163, V164 => (k5_163, V164)
  | n165 + 1, k5_163, V164 => if w130 = 0 then (k5_163, V164) else (if (T 4 0) ≤ k5_163 then (k5_163, V164) else (zbnd (mX3_takes k3_113 k5_163 T V164) (fun r177 => if r177 = 0 then (zbnd ((k5_163 + 1)) (fun y183 => mX3_goThrough_L73 k3_113 w130 T n165 y183 V164)) else (zbnd (mX3_change k3_113 k5_163 T V164) (fun V188 => zbnd ((k5_163 + 1)) (fun y191 => mX3_goThrough_L73 k3_113 w130 T n165 y191 V188))))))
def mX3_goThrough_L42 (layer : Int32) (T : zS_t) : Nat → Int32 → zS_t → Int32 × zS_t
  | 0, k3_113, V114 => (k3_113, V114)
  | n115 + 1, k3_113, V114 => if (T 4 0) ≤ k3_113 then (k3_113, V114) else (zbnd (mX3_goThrough_S50 layer k3_113 T) (fun w130 => zbnd2 (mX3_goThrough_L73 k3_113 w130 T 11 0 V114) (fun k5_195 V196 => zbnd ((k3_113 + 1)) (fun y201 => mX3_goThrough_L42 layer T n115 y201 V196))))
def mX3_goThrough (layer : Int32) (T : zS_t) (V : zS_t) : zS_t := zbnd2 (mX3_goThrough_L2 T 11 0 V) (fun k3_23 V24 => zbnd2 (mX3_goThrough_L42 layer T 11 0 V24) (fun k3_205 V206 => V206))
theorem hw_X3_goThrough_X2 : ∀ w ∈ wsX20, w ∈ wsX3_goThrough := fun w h => List.mem_cons_of_mem _ (List.mem_append_left _ (List.mem_append_right _ (h)))
theorem hw_X3_goThrough_X3 : ∀ w ∈ wsX30, w ∈ wsX3_goThrough := fun w h => List.mem_cons_of_mem _ (List.mem_append_right _ (h))
abbrev rmX3_goThrough : Room := { frames := 1, cells := 0, slots := 0, locals := 24 }
theorem hd_X3_goThrough : yX3_goThrough.cls = RX3 ∧ yX3_goThrough.cls ≠ "java/lang/invoke/MethodHandle" ∧ yX3_goThrough.cls ≠ "java/lang/invoke/VarHandle" ∧ (parseMethodDescriptor yX3_goThrough.desc).map (fun d => d.parameters.length) = some 2 := by decide +kernel
set_option maxHeartbeats 4000000 in
set_option maxRecDepth 100000 in
theorem c_X3_goThrough (l : Launch) (G : zG_t) (layer : Int32) (T : zS_t) (V : zS_t) (hIT : zIT T) : zCV l G.1 (zty G) yX3_goThrough wsX3_goThrough rmX3_goThrough [.ref (G.2.2 3 0), .ref (G.2.2 1 0), .int layer] (zWT G T ++ zWV G V) (zWT G T ++ zWV G (mX3_goThrough layer T V)) := by
  obtain ⟨X, hE⟩ : ∃ z, mX3_goThrough layer T V = z := ⟨_, rfl⟩
  rw [hE]
  refine zb_V (cc := cX3_goThrough) (maxL := 6) (by decide) rfl (Nat.le_of_ble_eq_true rfl) ?_
  intro p e s m args below meth c Q A F hret
  show zW p l e rmX3_goThrough s m args below meth c 0 0 Q G.1 A 6 (zWT G T ++ zWV G V) [(0, .ref (G.2.2 3 0)), (1, .ref (G.2.2 1 0)), (2, .int layer)] 0 []
  have k_0 : Int32.toInt 0 = 0 := by decide
  have k_1 : Int32.toInt 1 = 1 := by decide
  obtain ⟨i211, i212⟩ := id hIT
  unfold mX3_goThrough at hE
  refine zi_iconst (pc := 0) (v := 0) F dX3_goThrough_0 rfl ?_
  refine zi_istore_n (pc := 1) (lv' := [(0, .ref (G.2.2 3 0)), (1, .ref (G.2.2 1 0)), (2, .int layer), (3, .int 0)]) F dX3_goThrough_1 (by decide) rfl ?_
  have hL2 : ∀ (n10 : Nat) (k3_8 : Int32) (V9 : zS_t), (0 ≤ Int32.toInt k3_8) ∧ (Int32.toInt k3_8 ≤ 10) → 11 - Int32.toInt k3_8 ≤ (n10 : Int) → ∀ Y11, mX3_goThrough_L2 T n10 k3_8 V9 = Y11 → (((0 ≤ Int32.toInt Y11.1) ∧ (Int32.toInt Y11.1 ≤ 10)) → zW p l e rmX3_goThrough s m args below meth c 0 0 Q G.1 A 6 (zWT G T ++ zWV G (Y11.2)) [(0, .ref (G.2.2 3 0)), (1, .ref (G.2.2 1 0)), (2, .int layer), (3, .int Y11.1)] 40 []) → zW p l e rmX3_goThrough s m args below meth c 0 0 Q G.1 A 6 (zWT G T ++ zWV G V9) [(0, .ref (G.2.2 3 0)), (1, .ref (G.2.2 1 0)), (2, .int layer), (3, .int k3_8)] 2 [] := by
    intro n10
    induction n10 with
    | zero =>
      intro k3_8 V9 hI hM9
      obtain ⟨i12, i13⟩ := id hI
      exact absurd hM9 (by omega)
    | succ n10 ih =>
      intro k3_8 V9 hI hM9 Y11 hE hK
      obtain ⟨i14, i15⟩ := id hI
      rw [mX3_goThrough_L2.eq_2] at hE
      refine zi_iload_n (pc := 2) F dX3_goThrough_2 3 rfl ?_
      refine zi_aload_n (pc := 3) F dX3_goThrough_3 1 rfl ?_
      refine zi_get (pc := 4) (C := RX2) (T := TX2) (N := 5) (v := .int (T 4 0)) F (hw_X3_goThrough_X2) 0 rfl rfl 4 (by decide) (List.mem_of_getElem? (i := 1) rfl) rfl rfl dX3_goThrough_4 ?_
      refine zi_icmp_ge (pc := 7) (tgt := 40) F dX3_goThrough_7 (by decide) (fun c16 => ?_) (fun c16 => ?_)
      · have hE := zite_t hE c16
        have t17 := zt_le c16
        subst hE
        refine zi_sub [0, 1, 2, 3] rfl ?_
        exact hK (⟨by (show 0 ≤ Int32.toInt k3_8; omega), by (show Int32.toInt k3_8 ≤ 10; omega)⟩)
      · have hE := zite_f hE c16
        have t18 := zt_nle c16
        refine zi_aload_n (pc := 10) F dX3_goThrough_10 0 rfl ?_
        refine zi_get (pc := 11) (C := RX3) (T := TX3) (N := 5) (v := .ref (G.2.2 3 4)) F (hw_X3_goThrough_X3) 5 rfl rfl 3 (by decide) (List.mem_of_getElem? (i := 2) rfl) rfl rfl dX3_goThrough_11 ?_
        refine zi_iload_n (pc := 14) F dX3_goThrough_14 3 rfl ?_
        refine zi_aload_n (pc := 15) F dX3_goThrough_15 0 rfl ?_
        refine zi_get (pc := 16) (C := RX3) (T := TX3) (N := 5) (v := .ref (G.2.2 3 2)) F (hw_X3_goThrough_X3) 5 rfl rfl 1 (by decide) (List.mem_of_getElem? (i := 3) rfl) rfl rfl dX3_goThrough_16 ?_
        refine zi_iload_n (pc := 19) F dX3_goThrough_19 3 rfl ?_
        refine zi_iald (pc := 20) (v := (V9 1 k3_8.toNatClampNeg)) F 7 0 rfl rfl (zin (a := k3_8) (by omega) (by omega)) rfl dX3_goThrough_20 ?_
        refine zi_iast (pc := 21) (ws' := zWT G T ++ zWV G (zsF V9 3 (upd (V9 3) k3_8.toNatClampNeg (V9 1 k3_8.toNatClampNeg)))) F 9 0 rfl rfl (zin (a := k3_8) (by omega) (by omega)) rfl dX3_goThrough_21 ?_
        refine zi_aload_n (pc := 22) F dX3_goThrough_22 0 rfl ?_
        refine zi_get (pc := 23) (C := RX3) (T := TX3) (N := 5) (v := .ref (G.2.2 3 5)) F (hw_X3_goThrough_X3) 5 rfl rfl 4 (by decide) (List.mem_of_getElem? (i := 4) rfl) rfl rfl dX3_goThrough_23 ?_
        refine zi_iload_n (pc := 26) F dX3_goThrough_26 3 rfl ?_
        refine zi_aload_n (pc := 27) F dX3_goThrough_27 0 rfl ?_
        refine zi_get (pc := 28) (C := RX3) (T := TX3) (N := 5) (v := .ref (G.2.2 3 3)) F (hw_X3_goThrough_X3) 5 rfl rfl 2 (by decide) (List.mem_of_getElem? (i := 5) rfl) rfl rfl dX3_goThrough_28 ?_
        refine zi_iload_n (pc := 31) F dX3_goThrough_31 3 rfl ?_
        refine zi_iald (pc := 32) (v := (V9 2 k3_8.toNatClampNeg)) F 8 0 rfl rfl (zin (a := k3_8) (by omega) (by omega)) rfl dX3_goThrough_32 ?_
        refine zi_iast (pc := 33) (ws' := zWT G T ++ zWV G (zsF (zsF V9 3 (upd (V9 3) k3_8.toNatClampNeg (V9 1 k3_8.toNatClampNeg))) 4 (upd (V9 4) k3_8.toNatClampNeg (V9 2 k3_8.toNatClampNeg)))) F 10 0 rfl rfl (zin (a := k3_8) (by omega) (by omega)) rfl dX3_goThrough_33 ?_
        try have t21 := zt_add (a := k3_8) (b := 1) (by omega) (by omega)
        obtain ⟨y19, e20⟩ : ∃ z : Int32, (k3_8 + 1) = z := ⟨_, rfl⟩
        have hE := zbnd_cut hE e20
        have t22 := congrArg Int32.toInt e20
        refine zi_iinc (pc := 34) (lv' := [(0, .ref (G.2.2 3 0)), (1, .ref (G.2.2 1 0)), (2, .int layer), (3, .int y19)]) F dX3_goThrough_34 3 rfl e20 (by decide) rfl ?_
        refine zi_goto (pc := 37) (tgt := 2) F dX3_goThrough_37 (by decide) ?_
        refine zi_sub [0, 1, 2, 3] rfl ?_
        exact ih y19 (zsF (zsF V9 3 (upd (V9 3) k3_8.toNatClampNeg (V9 1 k3_8.toNatClampNeg))) 4 (upd (V9 4) k3_8.toNatClampNeg (V9 2 k3_8.toNatClampNeg))) (⟨by (show 0 ≤ Int32.toInt y19; omega), by (show Int32.toInt y19 ≤ 10; omega)⟩) (by omega) _ hE hK
  obtain ⟨⟨k3_23, V24⟩, e25⟩ : ∃ z, mX3_goThrough_L2 T 11 0 V = z := ⟨_, rfl⟩
  have hE := zbnd2_cut hE e25
  refine hL2 11 0 V (⟨by (show 0 ≤ Int32.toInt 0; omega), by (show Int32.toInt 0 ≤ 10; omega)⟩) (by omega) _ e25 (fun hI26 => ?_)
  have hI26 : (0 ≤ Int32.toInt k3_23) ∧ (Int32.toInt k3_23 ≤ 10) := hI26
  obtain ⟨i27, i28⟩ := id hI26
  show zW p l e rmX3_goThrough s m args below meth c 0 0 Q G.1 A 6 (zWT G T ++ zWV G V24) [(0, .ref (G.2.2 3 0)), (1, .ref (G.2.2 1 0)), (2, .int layer), (3, .int k3_23)] 40 []
  refine zi_iconst (pc := 40) (v := 0) F dX3_goThrough_40 rfl ?_
  refine zi_istore_n (pc := 41) (lv' := [(0, .ref (G.2.2 3 0)), (1, .ref (G.2.2 1 0)), (2, .int layer), (3, .int 0)]) F dX3_goThrough_41 (by decide) rfl ?_
  have hL42 : ∀ (n115 : Nat) (k3_113 : Int32) (V114 : zS_t), (0 ≤ Int32.toInt k3_113) ∧ (Int32.toInt k3_113 ≤ 10) → 11 - Int32.toInt k3_113 ≤ (n115 : Int) → ∀ Y116, mX3_goThrough_L42 layer T n115 k3_113 V114 = Y116 → (((0 ≤ Int32.toInt Y116.1) ∧ (Int32.toInt Y116.1 ≤ 10)) → zW p l e rmX3_goThrough s m args below meth c 0 0 Q G.1 A 6 (zWT G T ++ zWV G (Y116.2)) [(0, .ref (G.2.2 3 0)), (1, .ref (G.2.2 1 0)), (2, .int layer), (3, .int Y116.1)] 118 []) → zW p l e rmX3_goThrough s m args below meth c 0 0 Q G.1 A 6 (zWT G T ++ zWV G V114) [(0, .ref (G.2.2 3 0)), (1, .ref (G.2.2 1 0)), (2, .int layer), (3, .int k3_113)] 42 [] := by
    intro n115
    induction n115 with
    | zero =>
      intro k3_113 V114 hI hM9
      obtain ⟨i117, i118⟩ := id hI
      exact absurd hM9 (by omega)
    | succ n115 ih =>
      intro k3_113 V114 hI hM9 Y116 hE hK
      obtain ⟨i119, i120⟩ := id hI
      rw [mX3_goThrough_L42.eq_2] at hE
      refine zi_iload_n (pc := 42) F dX3_goThrough_42 3 rfl ?_
      refine zi_aload_n (pc := 43) F dX3_goThrough_43 1 rfl ?_
      refine zi_get (pc := 44) (C := RX2) (T := TX2) (N := 5) (v := .int (T 4 0)) F (hw_X3_goThrough_X2) 0 rfl rfl 4 (by decide) (List.mem_of_getElem? (i := 1) rfl) rfl rfl dX3_goThrough_44 ?_
      refine zi_icmp_ge (pc := 47) (tgt := 118) F dX3_goThrough_47 (by decide) (fun c121 => ?_) (fun c121 => ?_)
      · have hE := zite_t hE c121
        have t122 := zt_le c121
        subst hE
        refine zi_sub [0, 1, 2, 3] rfl ?_
        exact hK (⟨by (show 0 ≤ Int32.toInt k3_113; omega), by (show Int32.toInt k3_113 ≤ 10; omega)⟩)
      · have hE := zite_f hE c121
        have t123 := zt_nle c121
        obtain ⟨w130, e131⟩ : ∃ z, mX3_goThrough_S50 layer k3_113 T = z := ⟨_, rfl⟩
        have hE := zbnd_cut hE e131
        have hK132 : zW p l e rmX3_goThrough s m args below meth c 0 0 Q G.1 A 6 (zWT G T ++ zWV G V114) [(0, .ref (G.2.2 3 0)), (1, .ref (G.2.2 1 0)), (2, .int layer), (3, .int k3_113)] 68 [.int w130] → zW p l e rmX3_goThrough s m args below meth c 0 0 Q G.1 A 6 (zWT G T ++ zWV G V114) [(0, .ref (G.2.2 3 0)), (1, .ref (G.2.2 1 0)), (2, .int layer), (3, .int k3_113)] 50 [] := by
          intro hK
          have hE := e131
          unfold mX3_goThrough_S50 at hE
          refine zi_aload_n (pc := 50) F dX3_goThrough_50 1 rfl ?_
          refine zi_get (pc := 51) (C := RX2) (T := TX2) (N := 5) (v := .ref (G.2.2 1 1)) F (hw_X3_goThrough_X2) 0 rfl rfl 0 (by decide) (List.mem_of_getElem? (i := 6) rfl) rfl rfl dX3_goThrough_51 ?_
          refine zi_iload_n (pc := 54) F dX3_goThrough_54 3 rfl ?_
          refine zi_iald (pc := 55) (v := (T 0 k3_113.toNatClampNeg)) F 1 0 rfl rfl (zin (a := k3_113) (by omega) (by omega)) rfl dX3_goThrough_55 ?_
          have hM135 := c_X4_layerOf l G (T 0 k3_113.toNatClampNeg)  
          obtain ⟨r133, e134⟩ : ∃ z, mX4_layerOf (T 0 k3_113.toNatClampNeg) = z := ⟨_, rfl⟩
          have hE := zbnd_cut hE e134
          rw [e134] at hM135
          refine zi_callNI (pc := 56) (rest := []) (ws' := zWT G T ++ zWV G V114) F hM135 ⟨va_cnB 1 F.1.2.2.2.2 gX3_goThrough_X4_layerOf_n43 rfl rfl rfl (F.2.2.2.2.2.2.2.2 _ (List.mem_of_getElem? (i := 4) rfl)) (F.1.2.2.2.2 _ (List.mem_of_getElem? (i := 8) rfl)) hd_X4_layerOf.2 ⟨Nat.le_of_ble_eq_true rfl, Nat.le_of_ble_eq_true rfl⟩, F.1.2.2.2.2 _ (List.mem_of_getElem? (i := 7) rfl), trivial⟩ _ _ rfl rfl rfl rfl (Nat.le_of_ble_eq_true rfl) dX3_goThrough_56 ⟨Nat.zero_le _, Nat.zero_le _⟩ ?_
          refine zi_iload_n (pc := 59) F dX3_goThrough_59 2 rfl ?_
          refine zi_icmp_ne (pc := 60) (tgt := 67) F dX3_goThrough_60 (by decide) (fun c136 => ?_) (fun c136 => ?_)
          · have hE := zite_f hE c136
            have t137 := zt_ne c136
            refine zi_iconst (pc := 67) (v := 0) F dX3_goThrough_67 rfl ?_
            subst hE
            exact zi_sub [0, 1, 2, 3] rfl hK
          · have hE := zite_t hE c136
            have t138 := congrArg Int32.toInt c136
            refine zi_iconst (pc := 63) (v := 1) F dX3_goThrough_63 rfl ?_
            refine zi_goto (pc := 64) (tgt := 68) F dX3_goThrough_64 (by decide) ?_
            subst hE
            exact zi_sub [0, 1, 2, 3] rfl hK
        refine hK132 ?_
        refine zi_istore (pc := 68) (lv' := [(0, .ref (G.2.2 3 0)), (1, .ref (G.2.2 1 0)), (2, .int layer), (3, .int k3_113), (4, .int w130)]) F dX3_goThrough_68 (by decide) rfl ?_
        refine zi_iconst (pc := 70) (v := 0) F dX3_goThrough_70 rfl ?_
        refine zi_istore (pc := 71) (lv' := [(0, .ref (G.2.2 3 0)), (1, .ref (G.2.2 1 0)), (2, .int layer), (3, .int k3_113), (4, .int w130), (5, .int 0)]) F dX3_goThrough_71 (by decide) rfl ?_
        have hL73 : ∀ (n165 : Nat) (k5_163 : Int32) (V164 : zS_t), (0 ≤ Int32.toInt k5_163) ∧ (Int32.toInt k5_163 ≤ 10) → 11 - Int32.toInt k5_163 ≤ (n165 : Int) → ∀ Y166, mX3_goThrough_L73 k3_113 w130 T n165 k5_163 V164 = Y166 → (((0 ≤ Int32.toInt Y166.1) ∧ (Int32.toInt Y166.1 ≤ 10)) → zW p l e rmX3_goThrough s m args below meth c 0 0 Q G.1 A 6 (zWT G T ++ zWV G (Y166.2)) [(0, .ref (G.2.2 3 0)), (1, .ref (G.2.2 1 0)), (2, .int layer), (3, .int k3_113), (4, .int w130), (5, .int Y166.1)] 112 []) → zW p l e rmX3_goThrough s m args below meth c 0 0 Q G.1 A 6 (zWT G T ++ zWV G V164) [(0, .ref (G.2.2 3 0)), (1, .ref (G.2.2 1 0)), (2, .int layer), (3, .int k3_113), (4, .int w130), (5, .int k5_163)] 73 [] := by
          intro n165
          induction n165 with
          | zero =>
            intro k5_163 V164 hI hM9
            obtain ⟨i167, i168⟩ := id hI
            exact absurd hM9 (by omega)
          | succ n165 ih =>
            intro k5_163 V164 hI hM9 Y166 hE hK
            obtain ⟨i169, i170⟩ := id hI
            rw [mX3_goThrough_L73.eq_2] at hE
            refine zi_iload (pc := 73) F dX3_goThrough_73 4 rfl ?_
            refine zi_if_eq (pc := 75) (tgt := 112) F dX3_goThrough_75 (by decide) (fun c171 => ?_) (fun c171 => ?_)
            · have hE := zite_t hE c171
              have t172 := congrArg Int32.toInt c171
              subst hE
              refine zi_sub [0, 1, 2, 3, 4, 5] rfl ?_
              exact hK (⟨by (show 0 ≤ Int32.toInt k5_163; omega), by (show Int32.toInt k5_163 ≤ 10; omega)⟩)
            · have hE := zite_f hE c171
              have t173 := zt_ne c171
              refine zi_iload (pc := 78) F dX3_goThrough_78 5 rfl ?_
              refine zi_aload_n (pc := 80) F dX3_goThrough_80 1 rfl ?_
              refine zi_get (pc := 81) (C := RX2) (T := TX2) (N := 5) (v := .int (T 4 0)) F (hw_X3_goThrough_X2) 0 rfl rfl 4 (by decide) (List.mem_of_getElem? (i := 1) rfl) rfl rfl dX3_goThrough_81 ?_
              refine zi_icmp_ge (pc := 84) (tgt := 112) F dX3_goThrough_84 (by decide) (fun c174 => ?_) (fun c174 => ?_)
              · have hE := zite_t hE c174
                have t175 := zt_le c174
                subst hE
                refine zi_sub [0, 1, 2, 3, 4, 5] rfl ?_
                exact hK (⟨by (show 0 ≤ Int32.toInt k5_163; omega), by (show Int32.toInt k5_163 ≤ 10; omega)⟩)
              · have hE := zite_f hE c174
                have t176 := zt_nle c174
                refine zi_aload_n (pc := 87) F dX3_goThrough_87 0 rfl ?_
                refine zi_aload_n (pc := 88) F dX3_goThrough_88 1 rfl ?_
                refine zi_iload_n (pc := 89) F dX3_goThrough_89 3 rfl ?_
                refine zi_iload (pc := 90) F dX3_goThrough_90 5 rfl ?_
                have hM179 := c_X3_takes l G k3_113 k5_163 T V164 (by first | omega | (show 0 ≤ Int32.toInt k3_113 ∧ Int32.toInt k3_113 < 10; omega)) (by first | omega | (show 0 ≤ Int32.toInt k5_163 ∧ Int32.toInt k5_163 < 10; omega))
                have pp180 := pp_X3_takes k3_113 k5_163 T V164 (by first | omega | (show 0 ≤ Int32.toInt k3_113 ∧ Int32.toInt k3_113 < 10; omega)) (by first | omega | (show 0 ≤ Int32.toInt k5_163 ∧ Int32.toInt k5_163 < 10; omega))
                obtain ⟨r177, e178⟩ : ∃ z, mX3_takes k3_113 k5_163 T V164 = z := ⟨_, rfl⟩
                have hE := zbnd_cut hE e178
                rw [e178] at hM179
                rw [e178] at pp180
                have hbr177 := pp180
                refine zi_callVI (pc := 92) (rest := []) (ws' := zWT G T ++ zWV G V164) F hM179 (cwV 3 F.1.2.2.2.2 gX3_goThrough_X3_takes rfl rfl rfl hd_X3_takes ⟨Nat.le_of_ble_eq_true rfl, Nat.le_of_ble_eq_true rfl⟩) 5 rfl rfl _ _ (zw_nil _) (zw_nil _).symm rfl rfl (Nat.le_of_ble_eq_true rfl) dX3_goThrough_92 ⟨Nat.zero_le _, Nat.zero_le _⟩ ?_
                refine zi_if_eq (pc := 95) (tgt := 106) F dX3_goThrough_95 (by decide) (fun c181 => ?_) (fun c181 => ?_)
                · have hE := zite_t hE c181
                  have t182 := congrArg Int32.toInt c181
                  try have t185 := zt_add (a := k5_163) (b := 1) (by omega) (by omega)
                  obtain ⟨y183, e184⟩ : ∃ z : Int32, (k5_163 + 1) = z := ⟨_, rfl⟩
                  have hE := zbnd_cut hE e184
                  have t186 := congrArg Int32.toInt e184
                  refine zi_iinc (pc := 106) (lv' := [(0, .ref (G.2.2 3 0)), (1, .ref (G.2.2 1 0)), (2, .int layer), (3, .int k3_113), (4, .int w130), (5, .int y183)]) F dX3_goThrough_106 5 rfl e184 (by decide) rfl ?_
                  refine zi_goto (pc := 109) (tgt := 73) F dX3_goThrough_109 (by decide) ?_
                  refine zi_sub [0, 1, 2, 3, 4, 5] rfl ?_
                  exact ih y183 V164 (⟨by (show 0 ≤ Int32.toInt y183; omega), by (show Int32.toInt y183 ≤ 10; omega)⟩) (by omega) _ hE hK
                · have hE := zite_f hE c181
                  have t187 := zt_ne c181
                  refine zi_aload_n (pc := 98) F dX3_goThrough_98 0 rfl ?_
                  refine zi_aload_n (pc := 99) F dX3_goThrough_99 1 rfl ?_
                  refine zi_iload_n (pc := 100) F dX3_goThrough_100 3 rfl ?_
                  refine zi_iload (pc := 101) F dX3_goThrough_101 5 rfl ?_
                  have hM190 := c_X3_change l G k3_113 k5_163 T V164 (by first | omega | (show 0 ≤ Int32.toInt k3_113 ∧ Int32.toInt k3_113 < 10; omega)) (by first | omega | (show 0 ≤ Int32.toInt k5_163 ∧ Int32.toInt k5_163 < 10; omega))
                  obtain ⟨V188, e189⟩ : ∃ z, mX3_change k3_113 k5_163 T V164 = z := ⟨_, rfl⟩
                  have hE := zbnd_cut hE e189
                  rw [e189] at hM190
                  refine zi_callVV (pc := 103) (rest := []) (ws' := zWT G T ++ zWV G V188) F hM190 (cwV 3 F.1.2.2.2.2 gX3_goThrough_X3_change rfl rfl rfl hd_X3_change ⟨Nat.le_of_ble_eq_true rfl, Nat.le_of_ble_eq_true rfl⟩) 5 rfl rfl _ _ (zw_nil _) (zw_nil _).symm rfl rfl (Nat.le_of_ble_eq_true rfl) dX3_goThrough_103 ⟨Nat.zero_le _, Nat.zero_le _⟩ ?_
                  try have t193 := zt_add (a := k5_163) (b := 1) (by omega) (by omega)
                  obtain ⟨y191, e192⟩ : ∃ z : Int32, (k5_163 + 1) = z := ⟨_, rfl⟩
                  have hE := zbnd_cut hE e192
                  have t194 := congrArg Int32.toInt e192
                  refine zi_iinc (pc := 106) (lv' := [(0, .ref (G.2.2 3 0)), (1, .ref (G.2.2 1 0)), (2, .int layer), (3, .int k3_113), (4, .int w130), (5, .int y191)]) F dX3_goThrough_106 5 rfl e192 (by decide) rfl ?_
                  refine zi_goto (pc := 109) (tgt := 73) F dX3_goThrough_109 (by decide) ?_
                  refine zi_sub [0, 1, 2, 3, 4, 5] rfl ?_
                  exact ih y191 V188 (⟨by (show 0 ≤ Int32.toInt y191; omega), by (show Int32.toInt y191 ≤ 10; omega)⟩) (by omega) _ hE hK
        obtain ⟨⟨k5_195, V196⟩, e197⟩ : ∃ z, mX3_goThrough_L73 k3_113 w130 T 11 0 V114 = z := ⟨_, rfl⟩
        have hE := zbnd2_cut hE e197
        refine hL73 11 0 V114 (⟨by (show 0 ≤ Int32.toInt 0; omega), by (show Int32.toInt 0 ≤ 10; omega)⟩) (by omega) _ e197 (fun hI198 => ?_)
        have hI198 : (0 ≤ Int32.toInt k5_195) ∧ (Int32.toInt k5_195 ≤ 10) := hI198
        obtain ⟨i199, i200⟩ := id hI198
        show zW p l e rmX3_goThrough s m args below meth c 0 0 Q G.1 A 6 (zWT G T ++ zWV G V196) [(0, .ref (G.2.2 3 0)), (1, .ref (G.2.2 1 0)), (2, .int layer), (3, .int k3_113), (4, .int w130), (5, .int k5_195)] 112 []
        try have t203 := zt_add (a := k3_113) (b := 1) (by omega) (by omega)
        obtain ⟨y201, e202⟩ : ∃ z : Int32, (k3_113 + 1) = z := ⟨_, rfl⟩
        have hE := zbnd_cut hE e202
        have t204 := congrArg Int32.toInt e202
        refine zi_iinc (pc := 112) (lv' := [(0, .ref (G.2.2 3 0)), (1, .ref (G.2.2 1 0)), (2, .int layer), (3, .int y201), (4, .int w130), (5, .int k5_195)]) F dX3_goThrough_112 3 rfl e202 (by decide) rfl ?_
        refine zi_goto (pc := 115) (tgt := 42) F dX3_goThrough_115 (by decide) ?_
        refine zi_sub [0, 1, 2, 3] rfl ?_
        exact ih y201 V196 (⟨by (show 0 ≤ Int32.toInt y201; omega), by (show Int32.toInt y201 ≤ 10; omega)⟩) (by omega) _ hE hK
  obtain ⟨⟨k3_205, V206⟩, e207⟩ : ∃ z, mX3_goThrough_L42 layer T 11 0 V24 = z := ⟨_, rfl⟩
  have hE := zbnd2_cut hE e207
  refine hL42 11 0 V24 (⟨by (show 0 ≤ Int32.toInt 0; omega), by (show Int32.toInt 0 ≤ 10; omega)⟩) (by omega) _ e207 (fun hI208 => ?_)
  have hI208 : (0 ≤ Int32.toInt k3_205) ∧ (Int32.toInt k3_205 ≤ 10) := hI208
  obtain ⟨i209, i210⟩ := id hI208
  show zW p l e rmX3_goThrough s m args below meth c 0 0 Q G.1 A 6 (zWT G T ++ zWV G V206) [(0, .ref (G.2.2 3 0)), (1, .ref (G.2.2 1 0)), (2, .int layer), (3, .int k3_205)] 118 []
  subst hE
  exact hret _ _ dX3_goThrough_118
/-! X3_find -/
def mX3_find_L2 (T : zS_t) : Nat → Int32 → zS_t → Int32 × zS_t
  | 0, k3_67, V68 => (k3_67, V68)
  | n69 + 1, k3_67, V68 => if (T 4 0) ≤ k3_67 then (k3_67, V68) else (zbnd ((T 0 k3_67.toNatClampNeg)) (fun y78 => if y78 = 0 then (if y78 = 0 then (zbnd ((k3_67 + 1)) (fun y137 => mX3_find_L2 T n69 y137 (zsF (zsF (zsF V68 0 (upd (V68 0) k3_67.toNatClampNeg (T 1 k3_67.toNatClampNeg))) 1 (upd (V68 1) k3_67.toNatClampNeg 1)) 2 (upd (V68 2) k3_67.toNatClampNeg 2)))) else (if y78 = 1 then (zbnd ((k3_67 + 1)) (fun y132 => mX3_find_L2 T n69 y132 (zsF (zsF (zsF V68 0 (upd (V68 0) k3_67.toNatClampNeg (T 1 k3_67.toNatClampNeg))) 1 (upd (V68 1) k3_67.toNatClampNeg 1)) 2 (upd (V68 2) k3_67.toNatClampNeg 1)))) else (zbnd ((k3_67 + 1)) (fun y127 => mX3_find_L2 T n69 y127 (zsF (zsF (zsF V68 0 (upd (V68 0) k3_67.toNatClampNeg (T 1 k3_67.toNatClampNeg))) 1 (upd (V68 1) k3_67.toNatClampNeg 1)) 2 (upd (V68 2) k3_67.toNatClampNeg 0)))))) else (if y78 = 1 then (if y78 = 0 then (zbnd ((k3_67 + 1)) (fun y118 => mX3_find_L2 T n69 y118 (zsF (zsF (zsF V68 0 (upd (V68 0) k3_67.toNatClampNeg (T 1 k3_67.toNatClampNeg))) 1 (upd (V68 1) k3_67.toNatClampNeg 2)) 2 (upd (V68 2) k3_67.toNatClampNeg 2)))) else (if y78 = 1 then (zbnd ((k3_67 + 1)) (fun y113 => mX3_find_L2 T n69 y113 (zsF (zsF (zsF V68 0 (upd (V68 0) k3_67.toNatClampNeg (T 1 k3_67.toNatClampNeg))) 1 (upd (V68 1) k3_67.toNatClampNeg 2)) 2 (upd (V68 2) k3_67.toNatClampNeg 1)))) else (zbnd ((k3_67 + 1)) (fun y108 => mX3_find_L2 T n69 y108 (zsF (zsF (zsF V68 0 (upd (V68 0) k3_67.toNatClampNeg (T 1 k3_67.toNatClampNeg))) 1 (upd (V68 1) k3_67.toNatClampNeg 2)) 2 (upd (V68 2) k3_67.toNatClampNeg 0)))))) else (if y78 = 0 then (zbnd ((k3_67 + 1)) (fun y99 => mX3_find_L2 T n69 y99 (zsF (zsF (zsF V68 0 (upd (V68 0) k3_67.toNatClampNeg (T 1 k3_67.toNatClampNeg))) 1 (upd (V68 1) k3_67.toNatClampNeg 4)) 2 (upd (V68 2) k3_67.toNatClampNeg 2)))) else (if y78 = 1 then (zbnd ((k3_67 + 1)) (fun y94 => mX3_find_L2 T n69 y94 (zsF (zsF (zsF V68 0 (upd (V68 0) k3_67.toNatClampNeg (T 1 k3_67.toNatClampNeg))) 1 (upd (V68 1) k3_67.toNatClampNeg 4)) 2 (upd (V68 2) k3_67.toNatClampNeg 1)))) else (zbnd ((k3_67 + 1)) (fun y89 => mX3_find_L2 T n69 y89 (zsF (zsF (zsF V68 0 (upd (V68 0) k3_67.toNatClampNeg (T 1 k3_67.toNatClampNeg))) 1 (upd (V68 1) k3_67.toNatClampNeg 4)) 2 (upd (V68 2) k3_67.toNatClampNeg 0)))))))))
def mX3_find_L90 (layers : Int32) (T : zS_t) : Nat → Int32 → zS_t → Int32 × zS_t
  | 0, k3_157, V158 => (k3_157, V158)
  | n159 + 1, k3_157, V158 => if layers < k3_157 then (k3_157, V158) else (zbnd (mX3_goThrough k3_157 T V158) (fun V168 => zbnd ((k3_157 + 1)) (fun y171 => mX3_find_L90 layers T n159 y171 V168)))
def mX3_find (layers : Int32) (T : zS_t) (V : zS_t) : zS_t := zbnd2 (mX3_find_L2 T 11 0 V) (fun k3_141 V142 => zbnd2 (mX3_find_L90 layers T 7 1 V142) (fun k3_175 V176 => V176))
theorem hw_X3_find_X2 : ∀ w ∈ wsX20, w ∈ wsX3_find := fun w h => List.mem_cons_of_mem _ (List.mem_append_left _ (List.mem_append_right _ (h)))
theorem hw_X3_find_X3 : ∀ w ∈ wsX30, w ∈ wsX3_find := fun w h => List.mem_cons_of_mem _ (List.mem_append_right _ (h))
abbrev rmX3_find : Room := { frames := 2, cells := 0, slots := 0, locals := 49 }
theorem hd_X3_find : yX3_find.cls = RX3 ∧ yX3_find.cls ≠ "java/lang/invoke/MethodHandle" ∧ yX3_find.cls ≠ "java/lang/invoke/VarHandle" ∧ (parseMethodDescriptor yX3_find.desc).map (fun d => d.parameters.length) = some 2 := by decide +kernel
set_option maxHeartbeats 4000000 in
set_option maxRecDepth 100000 in
theorem c_X3_find (l : Launch) (G : zG_t) (layers : Int32) (T : zS_t) (V : zS_t) (hIT : zIT T) (hx0 : Int32.toInt layers ≤ 5) : zCV l G.1 (zty G) yX3_find wsX3_find rmX3_find [.ref (G.2.2 3 0), .ref (G.2.2 1 0), .int layers] (zWT G T ++ zWV G V) (zWT G T ++ zWV G (mX3_find layers T V)) := by
  obtain ⟨X, hE⟩ : ∃ z, mX3_find layers T V = z := ⟨_, rfl⟩
  rw [hE]
  refine zb_V (cc := cX3_find) (maxL := 5) (by decide) rfl (Nat.le_of_ble_eq_true rfl) ?_
  intro p e s m args below meth c Q A F hret
  show zW p l e rmX3_find s m args below meth c 0 0 Q G.1 A 5 (zWT G T ++ zWV G V) [(0, .ref (G.2.2 3 0)), (1, .ref (G.2.2 1 0)), (2, .int layers)] 0 []
  have k_0 : Int32.toInt 0 = 0 := by decide
  have k_1 : Int32.toInt 1 = 1 := by decide
  have k_2 : Int32.toInt 2 = 2 := by decide
  have k_4 : Int32.toInt 4 = 4 := by decide
  obtain ⟨i181, i182⟩ := id hIT
  unfold mX3_find at hE
  refine zi_iconst (pc := 0) (v := 0) F dX3_find_0 rfl ?_
  refine zi_istore_n (pc := 1) (lv' := [(0, .ref (G.2.2 3 0)), (1, .ref (G.2.2 1 0)), (2, .int layers), (3, .int 0)]) F dX3_find_1 (by decide) rfl ?_
  have hL2 : ∀ (n69 : Nat) (k3_67 : Int32) (V68 : zS_t), (0 ≤ Int32.toInt k3_67) ∧ (Int32.toInt k3_67 ≤ 10) → 11 - Int32.toInt k3_67 ≤ (n69 : Int) → ∀ Y70, mX3_find_L2 T n69 k3_67 V68 = Y70 → (((0 ≤ Int32.toInt Y70.1) ∧ (Int32.toInt Y70.1 ≤ 10)) → zW p l e rmX3_find s m args below meth c 0 0 Q G.1 A 5 (zWT G T ++ zWV G (Y70.2)) [(0, .ref (G.2.2 3 0)), (1, .ref (G.2.2 1 0)), (2, .int layers), (3, .int Y70.1)] 88 []) → zW p l e rmX3_find s m args below meth c 0 0 Q G.1 A 5 (zWT G T ++ zWV G V68) [(0, .ref (G.2.2 3 0)), (1, .ref (G.2.2 1 0)), (2, .int layers), (3, .int k3_67)] 2 [] := by
    intro n69
    induction n69 with
    | zero =>
      intro k3_67 V68 hI hM9
      obtain ⟨i71, i72⟩ := id hI
      exact absurd hM9 (by omega)
    | succ n69 ih =>
      intro k3_67 V68 hI hM9 Y70 hE hK
      obtain ⟨i73, i74⟩ := id hI
      rw [mX3_find_L2.eq_2] at hE
      refine zi_iload_n (pc := 2) F dX3_find_2 3 rfl ?_
      refine zi_aload_n (pc := 3) F dX3_find_3 1 rfl ?_
      refine zi_get (pc := 4) (C := RX2) (T := TX2) (N := 5) (v := .int (T 4 0)) F (hw_X3_find_X2) 0 rfl rfl 4 (by decide) (List.mem_of_getElem? (i := 1) rfl) rfl rfl dX3_find_4 ?_
      refine zi_icmp_ge (pc := 7) (tgt := 88) F dX3_find_7 (by decide) (fun c75 => ?_) (fun c75 => ?_)
      · have hE := zite_t hE c75
        have t76 := zt_le c75
        subst hE
        refine zi_sub [0, 1, 2, 3] rfl ?_
        exact hK (⟨by (show 0 ≤ Int32.toInt k3_67; omega), by (show Int32.toInt k3_67 ≤ 10; omega)⟩)
      · have hE := zite_f hE c75
        have t77 := zt_nle c75
        refine zi_aload_n (pc := 10) F dX3_find_10 1 rfl ?_
        refine zi_get (pc := 11) (C := RX2) (T := TX2) (N := 5) (v := .ref (G.2.2 1 1)) F (hw_X3_find_X2) 0 rfl rfl 0 (by decide) (List.mem_of_getElem? (i := 2) rfl) rfl rfl dX3_find_11 ?_
        refine zi_iload_n (pc := 14) F dX3_find_14 3 rfl ?_
        refine zi_iald (pc := 15) (v := (T 0 k3_67.toNatClampNeg)) F 1 0 rfl rfl (zin (a := k3_67) (by omega) (by omega)) rfl dX3_find_15 ?_
        refine zi_topi (fun y78 e79 => ?_)
        have hE := zbnd_cut hE e79
        have t80 := congrArg Int32.toInt e79
        refine zi_istore (pc := 16) (lv' := [(0, .ref (G.2.2 3 0)), (1, .ref (G.2.2 1 0)), (2, .int layers), (3, .int k3_67), (4, .int y78)]) F dX3_find_16 (by decide) rfl ?_
        refine zi_aload_n (pc := 18) F dX3_find_18 0 rfl ?_
        refine zi_get (pc := 19) (C := RX3) (T := TX3) (N := 5) (v := .ref (G.2.2 3 1)) F (hw_X3_find_X3) 5 rfl rfl 0 (by decide) (List.mem_of_getElem? (i := 3) rfl) rfl rfl dX3_find_19 ?_
        refine zi_iload_n (pc := 22) F dX3_find_22 3 rfl ?_
        refine zi_aload_n (pc := 23) F dX3_find_23 1 rfl ?_
        refine zi_get (pc := 24) (C := RX2) (T := TX2) (N := 5) (v := .ref (G.2.2 1 2)) F (hw_X3_find_X2) 0 rfl rfl 1 (by decide) (List.mem_of_getElem? (i := 4) rfl) rfl rfl dX3_find_24 ?_
        refine zi_iload_n (pc := 27) F dX3_find_27 3 rfl ?_
        refine zi_iald (pc := 28) (v := (T 1 k3_67.toNatClampNeg)) F 2 0 rfl rfl (zin (a := k3_67) (by omega) (by omega)) rfl dX3_find_28 ?_
        refine zi_iast (pc := 29) (ws' := zWT G T ++ zWV G (zsF V68 0 (upd (V68 0) k3_67.toNatClampNeg (T 1 k3_67.toNatClampNeg)))) F 6 0 rfl rfl (zin (a := k3_67) (by omega) (by omega)) rfl dX3_find_29 ?_
        refine zi_aload_n (pc := 30) F dX3_find_30 0 rfl ?_
        refine zi_get (pc := 31) (C := RX3) (T := TX3) (N := 5) (v := .ref (G.2.2 3 2)) F (hw_X3_find_X3) 5 rfl rfl 1 (by decide) (List.mem_of_getElem? (i := 5) rfl) rfl rfl dX3_find_31 ?_
        refine zi_iload_n (pc := 34) F dX3_find_34 3 rfl ?_
        refine zi_iload (pc := 35) F dX3_find_35 4 rfl ?_
        refine zi_if_ne (pc := 37) (tgt := 44) F dX3_find_37 (by decide) (fun c81 => ?_) (fun c81 => ?_)
        · have hE := zite_f hE c81
          have t82 := zt_ne c81
          refine zi_iload (pc := 44) F dX3_find_44 4 rfl ?_
          refine zi_iconst (pc := 46) (v := 1) F dX3_find_46 rfl ?_
          refine zi_icmp_ne (pc := 47) (tgt := 54) F dX3_find_47 (by decide) (fun c83 => ?_) (fun c83 => ?_)
          · have hE := zite_f hE c83
            have t84 := zt_ne c83
            refine zi_iconst (pc := 54) (v := 4) F dX3_find_54 rfl ?_
            refine zi_iast (pc := 55) (ws' := zWT G T ++ zWV G (zsF (zsF V68 0 (upd (V68 0) k3_67.toNatClampNeg (T 1 k3_67.toNatClampNeg))) 1 (upd (V68 1) k3_67.toNatClampNeg 4))) F 7 0 rfl rfl (zin (a := k3_67) (by omega) (by omega)) rfl dX3_find_55 ?_
            refine zi_aload_n (pc := 56) F dX3_find_56 0 rfl ?_
            refine zi_get (pc := 57) (C := RX3) (T := TX3) (N := 5) (v := .ref (G.2.2 3 3)) F (hw_X3_find_X3) 5 rfl rfl 2 (by decide) (List.mem_of_getElem? (i := 6) rfl) rfl rfl dX3_find_57 ?_
            refine zi_iload_n (pc := 60) F dX3_find_60 3 rfl ?_
            refine zi_iload (pc := 61) F dX3_find_61 4 rfl ?_
            refine zi_if_ne (pc := 63) (tgt := 70) F dX3_find_63 (by decide) (fun c85 => ?_) (fun c85 => ?_)
            · have hE := zite_f hE c85
              have t86 := zt_ne c85
              refine zi_iload (pc := 70) F dX3_find_70 4 rfl ?_
              refine zi_iconst (pc := 72) (v := 1) F dX3_find_72 rfl ?_
              refine zi_icmp_ne (pc := 73) (tgt := 80) F dX3_find_73 (by decide) (fun c87 => ?_) (fun c87 => ?_)
              · have hE := zite_f hE c87
                have t88 := zt_ne c87
                refine zi_iconst (pc := 80) (v := 0) F dX3_find_80 rfl ?_
                refine zi_iast (pc := 81) (ws' := zWT G T ++ zWV G (zsF (zsF (zsF V68 0 (upd (V68 0) k3_67.toNatClampNeg (T 1 k3_67.toNatClampNeg))) 1 (upd (V68 1) k3_67.toNatClampNeg 4)) 2 (upd (V68 2) k3_67.toNatClampNeg 0))) F 8 0 rfl rfl (zin (a := k3_67) (by omega) (by omega)) rfl dX3_find_81 ?_
                try have t91 := zt_add (a := k3_67) (b := 1) (by omega) (by omega)
                obtain ⟨y89, e90⟩ : ∃ z : Int32, (k3_67 + 1) = z := ⟨_, rfl⟩
                have hE := zbnd_cut hE e90
                have t92 := congrArg Int32.toInt e90
                refine zi_iinc (pc := 82) (lv' := [(0, .ref (G.2.2 3 0)), (1, .ref (G.2.2 1 0)), (2, .int layers), (3, .int y89), (4, .int y78)]) F dX3_find_82 3 rfl e90 (by decide) rfl ?_
                refine zi_goto (pc := 85) (tgt := 2) F dX3_find_85 (by decide) ?_
                refine zi_sub [0, 1, 2, 3] rfl ?_
                exact ih y89 (zsF (zsF (zsF V68 0 (upd (V68 0) k3_67.toNatClampNeg (T 1 k3_67.toNatClampNeg))) 1 (upd (V68 1) k3_67.toNatClampNeg 4)) 2 (upd (V68 2) k3_67.toNatClampNeg 0)) (⟨by (show 0 ≤ Int32.toInt y89; omega), by (show Int32.toInt y89 ≤ 10; omega)⟩) (by omega) _ hE hK
              · have hE := zite_t hE c87
                have t93 := congrArg Int32.toInt c87
                refine zi_iconst (pc := 76) (v := 1) F dX3_find_76 rfl ?_
                refine zi_goto (pc := 77) (tgt := 81) F dX3_find_77 (by decide) ?_
                refine zi_iast (pc := 81) (ws' := zWT G T ++ zWV G (zsF (zsF (zsF V68 0 (upd (V68 0) k3_67.toNatClampNeg (T 1 k3_67.toNatClampNeg))) 1 (upd (V68 1) k3_67.toNatClampNeg 4)) 2 (upd (V68 2) k3_67.toNatClampNeg 1))) F 8 0 rfl rfl (zin (a := k3_67) (by omega) (by omega)) rfl dX3_find_81 ?_
                try have t96 := zt_add (a := k3_67) (b := 1) (by omega) (by omega)
                obtain ⟨y94, e95⟩ : ∃ z : Int32, (k3_67 + 1) = z := ⟨_, rfl⟩
                have hE := zbnd_cut hE e95
                have t97 := congrArg Int32.toInt e95
                refine zi_iinc (pc := 82) (lv' := [(0, .ref (G.2.2 3 0)), (1, .ref (G.2.2 1 0)), (2, .int layers), (3, .int y94), (4, .int y78)]) F dX3_find_82 3 rfl e95 (by decide) rfl ?_
                refine zi_goto (pc := 85) (tgt := 2) F dX3_find_85 (by decide) ?_
                refine zi_sub [0, 1, 2, 3] rfl ?_
                exact ih y94 (zsF (zsF (zsF V68 0 (upd (V68 0) k3_67.toNatClampNeg (T 1 k3_67.toNatClampNeg))) 1 (upd (V68 1) k3_67.toNatClampNeg 4)) 2 (upd (V68 2) k3_67.toNatClampNeg 1)) (⟨by (show 0 ≤ Int32.toInt y94; omega), by (show Int32.toInt y94 ≤ 10; omega)⟩) (by omega) _ hE hK
            · have hE := zite_t hE c85
              have t98 := congrArg Int32.toInt c85
              refine zi_iconst (pc := 66) (v := 2) F dX3_find_66 rfl ?_
              refine zi_goto (pc := 67) (tgt := 81) F dX3_find_67 (by decide) ?_
              refine zi_iast (pc := 81) (ws' := zWT G T ++ zWV G (zsF (zsF (zsF V68 0 (upd (V68 0) k3_67.toNatClampNeg (T 1 k3_67.toNatClampNeg))) 1 (upd (V68 1) k3_67.toNatClampNeg 4)) 2 (upd (V68 2) k3_67.toNatClampNeg 2))) F 8 0 rfl rfl (zin (a := k3_67) (by omega) (by omega)) rfl dX3_find_81 ?_
              try have t101 := zt_add (a := k3_67) (b := 1) (by omega) (by omega)
              obtain ⟨y99, e100⟩ : ∃ z : Int32, (k3_67 + 1) = z := ⟨_, rfl⟩
              have hE := zbnd_cut hE e100
              have t102 := congrArg Int32.toInt e100
              refine zi_iinc (pc := 82) (lv' := [(0, .ref (G.2.2 3 0)), (1, .ref (G.2.2 1 0)), (2, .int layers), (3, .int y99), (4, .int y78)]) F dX3_find_82 3 rfl e100 (by decide) rfl ?_
              refine zi_goto (pc := 85) (tgt := 2) F dX3_find_85 (by decide) ?_
              refine zi_sub [0, 1, 2, 3] rfl ?_
              exact ih y99 (zsF (zsF (zsF V68 0 (upd (V68 0) k3_67.toNatClampNeg (T 1 k3_67.toNatClampNeg))) 1 (upd (V68 1) k3_67.toNatClampNeg 4)) 2 (upd (V68 2) k3_67.toNatClampNeg 2)) (⟨by (show 0 ≤ Int32.toInt y99; omega), by (show Int32.toInt y99 ≤ 10; omega)⟩) (by omega) _ hE hK
          · have hE := zite_t hE c83
            have t103 := congrArg Int32.toInt c83
            refine zi_iconst (pc := 50) (v := 2) F dX3_find_50 rfl ?_
            refine zi_goto (pc := 51) (tgt := 55) F dX3_find_51 (by decide) ?_
            refine zi_iast (pc := 55) (ws' := zWT G T ++ zWV G (zsF (zsF V68 0 (upd (V68 0) k3_67.toNatClampNeg (T 1 k3_67.toNatClampNeg))) 1 (upd (V68 1) k3_67.toNatClampNeg 2))) F 7 0 rfl rfl (zin (a := k3_67) (by omega) (by omega)) rfl dX3_find_55 ?_
            refine zi_aload_n (pc := 56) F dX3_find_56 0 rfl ?_
            refine zi_get (pc := 57) (C := RX3) (T := TX3) (N := 5) (v := .ref (G.2.2 3 3)) F (hw_X3_find_X3) 5 rfl rfl 2 (by decide) (List.mem_of_getElem? (i := 6) rfl) rfl rfl dX3_find_57 ?_
            refine zi_iload_n (pc := 60) F dX3_find_60 3 rfl ?_
            refine zi_iload (pc := 61) F dX3_find_61 4 rfl ?_
            refine zi_if_ne (pc := 63) (tgt := 70) F dX3_find_63 (by decide) (fun c104 => ?_) (fun c104 => ?_)
            · have hE := zite_f hE c104
              have t105 := zt_ne c104
              refine zi_iload (pc := 70) F dX3_find_70 4 rfl ?_
              refine zi_iconst (pc := 72) (v := 1) F dX3_find_72 rfl ?_
              refine zi_icmp_ne (pc := 73) (tgt := 80) F dX3_find_73 (by decide) (fun c106 => ?_) (fun c106 => ?_)
              · have hE := zite_f hE c106
                have t107 := zt_ne c106
                refine zi_iconst (pc := 80) (v := 0) F dX3_find_80 rfl ?_
                refine zi_iast (pc := 81) (ws' := zWT G T ++ zWV G (zsF (zsF (zsF V68 0 (upd (V68 0) k3_67.toNatClampNeg (T 1 k3_67.toNatClampNeg))) 1 (upd (V68 1) k3_67.toNatClampNeg 2)) 2 (upd (V68 2) k3_67.toNatClampNeg 0))) F 8 0 rfl rfl (zin (a := k3_67) (by omega) (by omega)) rfl dX3_find_81 ?_
                try have t110 := zt_add (a := k3_67) (b := 1) (by omega) (by omega)
                obtain ⟨y108, e109⟩ : ∃ z : Int32, (k3_67 + 1) = z := ⟨_, rfl⟩
                have hE := zbnd_cut hE e109
                have t111 := congrArg Int32.toInt e109
                refine zi_iinc (pc := 82) (lv' := [(0, .ref (G.2.2 3 0)), (1, .ref (G.2.2 1 0)), (2, .int layers), (3, .int y108), (4, .int y78)]) F dX3_find_82 3 rfl e109 (by decide) rfl ?_
                refine zi_goto (pc := 85) (tgt := 2) F dX3_find_85 (by decide) ?_
                refine zi_sub [0, 1, 2, 3] rfl ?_
                exact ih y108 (zsF (zsF (zsF V68 0 (upd (V68 0) k3_67.toNatClampNeg (T 1 k3_67.toNatClampNeg))) 1 (upd (V68 1) k3_67.toNatClampNeg 2)) 2 (upd (V68 2) k3_67.toNatClampNeg 0)) (⟨by (show 0 ≤ Int32.toInt y108; omega), by (show Int32.toInt y108 ≤ 10; omega)⟩) (by omega) _ hE hK
              · have hE := zite_t hE c106
                have t112 := congrArg Int32.toInt c106
                refine zi_iconst (pc := 76) (v := 1) F dX3_find_76 rfl ?_
                refine zi_goto (pc := 77) (tgt := 81) F dX3_find_77 (by decide) ?_
                refine zi_iast (pc := 81) (ws' := zWT G T ++ zWV G (zsF (zsF (zsF V68 0 (upd (V68 0) k3_67.toNatClampNeg (T 1 k3_67.toNatClampNeg))) 1 (upd (V68 1) k3_67.toNatClampNeg 2)) 2 (upd (V68 2) k3_67.toNatClampNeg 1))) F 8 0 rfl rfl (zin (a := k3_67) (by omega) (by omega)) rfl dX3_find_81 ?_
                try have t115 := zt_add (a := k3_67) (b := 1) (by omega) (by omega)
                obtain ⟨y113, e114⟩ : ∃ z : Int32, (k3_67 + 1) = z := ⟨_, rfl⟩
                have hE := zbnd_cut hE e114
                have t116 := congrArg Int32.toInt e114
                refine zi_iinc (pc := 82) (lv' := [(0, .ref (G.2.2 3 0)), (1, .ref (G.2.2 1 0)), (2, .int layers), (3, .int y113), (4, .int y78)]) F dX3_find_82 3 rfl e114 (by decide) rfl ?_
                refine zi_goto (pc := 85) (tgt := 2) F dX3_find_85 (by decide) ?_
                refine zi_sub [0, 1, 2, 3] rfl ?_
                exact ih y113 (zsF (zsF (zsF V68 0 (upd (V68 0) k3_67.toNatClampNeg (T 1 k3_67.toNatClampNeg))) 1 (upd (V68 1) k3_67.toNatClampNeg 2)) 2 (upd (V68 2) k3_67.toNatClampNeg 1)) (⟨by (show 0 ≤ Int32.toInt y113; omega), by (show Int32.toInt y113 ≤ 10; omega)⟩) (by omega) _ hE hK
            · have hE := zite_t hE c104
              have t117 := congrArg Int32.toInt c104
              refine zi_iconst (pc := 66) (v := 2) F dX3_find_66 rfl ?_
              refine zi_goto (pc := 67) (tgt := 81) F dX3_find_67 (by decide) ?_
              refine zi_iast (pc := 81) (ws' := zWT G T ++ zWV G (zsF (zsF (zsF V68 0 (upd (V68 0) k3_67.toNatClampNeg (T 1 k3_67.toNatClampNeg))) 1 (upd (V68 1) k3_67.toNatClampNeg 2)) 2 (upd (V68 2) k3_67.toNatClampNeg 2))) F 8 0 rfl rfl (zin (a := k3_67) (by omega) (by omega)) rfl dX3_find_81 ?_
              try have t120 := zt_add (a := k3_67) (b := 1) (by omega) (by omega)
              obtain ⟨y118, e119⟩ : ∃ z : Int32, (k3_67 + 1) = z := ⟨_, rfl⟩
              have hE := zbnd_cut hE e119
              have t121 := congrArg Int32.toInt e119
              refine zi_iinc (pc := 82) (lv' := [(0, .ref (G.2.2 3 0)), (1, .ref (G.2.2 1 0)), (2, .int layers), (3, .int y118), (4, .int y78)]) F dX3_find_82 3 rfl e119 (by decide) rfl ?_
              refine zi_goto (pc := 85) (tgt := 2) F dX3_find_85 (by decide) ?_
              refine zi_sub [0, 1, 2, 3] rfl ?_
              exact ih y118 (zsF (zsF (zsF V68 0 (upd (V68 0) k3_67.toNatClampNeg (T 1 k3_67.toNatClampNeg))) 1 (upd (V68 1) k3_67.toNatClampNeg 2)) 2 (upd (V68 2) k3_67.toNatClampNeg 2)) (⟨by (show 0 ≤ Int32.toInt y118; omega), by (show Int32.toInt y118 ≤ 10; omega)⟩) (by omega) _ hE hK
        · have hE := zite_t hE c81
          have t122 := congrArg Int32.toInt c81
          refine zi_iconst (pc := 40) (v := 1) F dX3_find_40 rfl ?_
          refine zi_goto (pc := 41) (tgt := 55) F dX3_find_41 (by decide) ?_
          refine zi_iast (pc := 55) (ws' := zWT G T ++ zWV G (zsF (zsF V68 0 (upd (V68 0) k3_67.toNatClampNeg (T 1 k3_67.toNatClampNeg))) 1 (upd (V68 1) k3_67.toNatClampNeg 1))) F 7 0 rfl rfl (zin (a := k3_67) (by omega) (by omega)) rfl dX3_find_55 ?_
          refine zi_aload_n (pc := 56) F dX3_find_56 0 rfl ?_
          refine zi_get (pc := 57) (C := RX3) (T := TX3) (N := 5) (v := .ref (G.2.2 3 3)) F (hw_X3_find_X3) 5 rfl rfl 2 (by decide) (List.mem_of_getElem? (i := 6) rfl) rfl rfl dX3_find_57 ?_
          refine zi_iload_n (pc := 60) F dX3_find_60 3 rfl ?_
          refine zi_iload (pc := 61) F dX3_find_61 4 rfl ?_
          refine zi_if_ne (pc := 63) (tgt := 70) F dX3_find_63 (by decide) (fun c123 => ?_) (fun c123 => ?_)
          · have hE := zite_f hE c123
            have t124 := zt_ne c123
            refine zi_iload (pc := 70) F dX3_find_70 4 rfl ?_
            refine zi_iconst (pc := 72) (v := 1) F dX3_find_72 rfl ?_
            refine zi_icmp_ne (pc := 73) (tgt := 80) F dX3_find_73 (by decide) (fun c125 => ?_) (fun c125 => ?_)
            · have hE := zite_f hE c125
              have t126 := zt_ne c125
              refine zi_iconst (pc := 80) (v := 0) F dX3_find_80 rfl ?_
              refine zi_iast (pc := 81) (ws' := zWT G T ++ zWV G (zsF (zsF (zsF V68 0 (upd (V68 0) k3_67.toNatClampNeg (T 1 k3_67.toNatClampNeg))) 1 (upd (V68 1) k3_67.toNatClampNeg 1)) 2 (upd (V68 2) k3_67.toNatClampNeg 0))) F 8 0 rfl rfl (zin (a := k3_67) (by omega) (by omega)) rfl dX3_find_81 ?_
              try have t129 := zt_add (a := k3_67) (b := 1) (by omega) (by omega)
              obtain ⟨y127, e128⟩ : ∃ z : Int32, (k3_67 + 1) = z := ⟨_, rfl⟩
              have hE := zbnd_cut hE e128
              have t130 := congrArg Int32.toInt e128
              refine zi_iinc (pc := 82) (lv' := [(0, .ref (G.2.2 3 0)), (1, .ref (G.2.2 1 0)), (2, .int layers), (3, .int y127), (4, .int y78)]) F dX3_find_82 3 rfl e128 (by decide) rfl ?_
              refine zi_goto (pc := 85) (tgt := 2) F dX3_find_85 (by decide) ?_
              refine zi_sub [0, 1, 2, 3] rfl ?_
              exact ih y127 (zsF (zsF (zsF V68 0 (upd (V68 0) k3_67.toNatClampNeg (T 1 k3_67.toNatClampNeg))) 1 (upd (V68 1) k3_67.toNatClampNeg 1)) 2 (upd (V68 2) k3_67.toNatClampNeg 0)) (⟨by (show 0 ≤ Int32.toInt y127; omega), by (show Int32.toInt y127 ≤ 10; omega)⟩) (by omega) _ hE hK
            · have hE := zite_t hE c125
              have t131 := congrArg Int32.toInt c125
              refine zi_iconst (pc := 76) (v := 1) F dX3_find_76 rfl ?_
              refine zi_goto (pc := 77) (tgt := 81) F dX3_find_77 (by decide) ?_
              refine zi_iast (pc := 81) (ws' := zWT G T ++ zWV G (zsF (zsF (zsF V68 0 (upd (V68 0) k3_67.toNatClampNeg (T 1 k3_67.toNatClampNeg))) 1 (upd (V68 1) k3_67.toNatClampNeg 1)) 2 (upd (V68 2) k3_67.toNatClampNeg 1))) F 8 0 rfl rfl (zin (a := k3_67) (by omega) (by omega)) rfl dX3_find_81 ?_
              try have t134 := zt_add (a := k3_67) (b := 1) (by omega) (by omega)
              obtain ⟨y132, e133⟩ : ∃ z : Int32, (k3_67 + 1) = z := ⟨_, rfl⟩
              have hE := zbnd_cut hE e133
              have t135 := congrArg Int32.toInt e133
              refine zi_iinc (pc := 82) (lv' := [(0, .ref (G.2.2 3 0)), (1, .ref (G.2.2 1 0)), (2, .int layers), (3, .int y132), (4, .int y78)]) F dX3_find_82 3 rfl e133 (by decide) rfl ?_
              refine zi_goto (pc := 85) (tgt := 2) F dX3_find_85 (by decide) ?_
              refine zi_sub [0, 1, 2, 3] rfl ?_
              exact ih y132 (zsF (zsF (zsF V68 0 (upd (V68 0) k3_67.toNatClampNeg (T 1 k3_67.toNatClampNeg))) 1 (upd (V68 1) k3_67.toNatClampNeg 1)) 2 (upd (V68 2) k3_67.toNatClampNeg 1)) (⟨by (show 0 ≤ Int32.toInt y132; omega), by (show Int32.toInt y132 ≤ 10; omega)⟩) (by omega) _ hE hK
          · have hE := zite_t hE c123
            have t136 := congrArg Int32.toInt c123
            refine zi_iconst (pc := 66) (v := 2) F dX3_find_66 rfl ?_
            refine zi_goto (pc := 67) (tgt := 81) F dX3_find_67 (by decide) ?_
            refine zi_iast (pc := 81) (ws' := zWT G T ++ zWV G (zsF (zsF (zsF V68 0 (upd (V68 0) k3_67.toNatClampNeg (T 1 k3_67.toNatClampNeg))) 1 (upd (V68 1) k3_67.toNatClampNeg 1)) 2 (upd (V68 2) k3_67.toNatClampNeg 2))) F 8 0 rfl rfl (zin (a := k3_67) (by omega) (by omega)) rfl dX3_find_81 ?_
            try have t139 := zt_add (a := k3_67) (b := 1) (by omega) (by omega)
            obtain ⟨y137, e138⟩ : ∃ z : Int32, (k3_67 + 1) = z := ⟨_, rfl⟩
            have hE := zbnd_cut hE e138
            have t140 := congrArg Int32.toInt e138
            refine zi_iinc (pc := 82) (lv' := [(0, .ref (G.2.2 3 0)), (1, .ref (G.2.2 1 0)), (2, .int layers), (3, .int y137), (4, .int y78)]) F dX3_find_82 3 rfl e138 (by decide) rfl ?_
            refine zi_goto (pc := 85) (tgt := 2) F dX3_find_85 (by decide) ?_
            refine zi_sub [0, 1, 2, 3] rfl ?_
            exact ih y137 (zsF (zsF (zsF V68 0 (upd (V68 0) k3_67.toNatClampNeg (T 1 k3_67.toNatClampNeg))) 1 (upd (V68 1) k3_67.toNatClampNeg 1)) 2 (upd (V68 2) k3_67.toNatClampNeg 2)) (⟨by (show 0 ≤ Int32.toInt y137; omega), by (show Int32.toInt y137 ≤ 10; omega)⟩) (by omega) _ hE hK
  obtain ⟨⟨k3_141, V142⟩, e143⟩ : ∃ z, mX3_find_L2 T 11 0 V = z := ⟨_, rfl⟩
  have hE := zbnd2_cut hE e143
  refine hL2 11 0 V (⟨by (show 0 ≤ Int32.toInt 0; omega), by (show Int32.toInt 0 ≤ 10; omega)⟩) (by omega) _ e143 (fun hI144 => ?_)
  have hI144 : (0 ≤ Int32.toInt k3_141) ∧ (Int32.toInt k3_141 ≤ 10) := hI144
  obtain ⟨i145, i146⟩ := id hI144
  show zW p l e rmX3_find s m args below meth c 0 0 Q G.1 A 5 (zWT G T ++ zWV G V142) [(0, .ref (G.2.2 3 0)), (1, .ref (G.2.2 1 0)), (2, .int layers), (3, .int k3_141)] 88 []
  refine zi_iconst (pc := 88) (v := 1) F dX3_find_88 rfl ?_
  refine zi_istore_n (pc := 89) (lv' := [(0, .ref (G.2.2 3 0)), (1, .ref (G.2.2 1 0)), (2, .int layers), (3, .int 1)]) F dX3_find_89 (by decide) rfl ?_
  have hL90 : ∀ (n159 : Nat) (k3_157 : Int32) (V158 : zS_t), (0 ≤ Int32.toInt k3_157) ∧ (Int32.toInt k3_157 ≤ 6) → 7 - Int32.toInt k3_157 ≤ (n159 : Int) → ∀ Y160, mX3_find_L90 layers T n159 k3_157 V158 = Y160 → (((0 ≤ Int32.toInt Y160.1) ∧ (Int32.toInt Y160.1 ≤ 6)) → zW p l e rmX3_find s m args below meth c 0 0 Q G.1 A 5 (zWT G T ++ zWV G (Y160.2)) [(0, .ref (G.2.2 3 0)), (1, .ref (G.2.2 1 0)), (2, .int layers), (3, .int Y160.1)] 107 []) → zW p l e rmX3_find s m args below meth c 0 0 Q G.1 A 5 (zWT G T ++ zWV G V158) [(0, .ref (G.2.2 3 0)), (1, .ref (G.2.2 1 0)), (2, .int layers), (3, .int k3_157)] 90 [] := by
    intro n159
    induction n159 with
    | zero =>
      intro k3_157 V158 hI hM9
      obtain ⟨i161, i162⟩ := id hI
      exact absurd hM9 (by omega)
    | succ n159 ih =>
      intro k3_157 V158 hI hM9 Y160 hE hK
      obtain ⟨i163, i164⟩ := id hI
      rw [mX3_find_L90.eq_2] at hE
      refine zi_iload_n (pc := 90) F dX3_find_90 3 rfl ?_
      refine zi_iload_n (pc := 91) F dX3_find_91 2 rfl ?_
      refine zi_icmp_gt (pc := 92) (tgt := 107) F dX3_find_92 (by decide) (fun c165 => ?_) (fun c165 => ?_)
      · have hE := zite_t hE c165
        have t166 := zt_lt c165
        subst hE
        refine zi_sub [0, 1, 2, 3] rfl ?_
        exact hK (⟨by (show 0 ≤ Int32.toInt k3_157; omega), by (show Int32.toInt k3_157 ≤ 6; omega)⟩)
      · have hE := zite_f hE c165
        have t167 := zt_nlt c165
        refine zi_aload_n (pc := 95) F dX3_find_95 0 rfl ?_
        refine zi_aload_n (pc := 96) F dX3_find_96 1 rfl ?_
        refine zi_iload_n (pc := 97) F dX3_find_97 3 rfl ?_
        have hM170 := c_X3_goThrough l G k3_157 T V158 (hIT)
        obtain ⟨V168, e169⟩ : ∃ z, mX3_goThrough k3_157 T V158 = z := ⟨_, rfl⟩
        have hE := zbnd_cut hE e169
        rw [e169] at hM170
        refine zi_callVV (pc := 98) (rest := []) (ws' := zWT G T ++ zWV G V168) F hM170 (cwV 2 F.1.2.2.2.2 gX3_find_X3_goThrough rfl rfl rfl hd_X3_goThrough ⟨Nat.le_of_ble_eq_true rfl, Nat.le_of_ble_eq_true rfl⟩) 5 rfl rfl _ _ (zw_nil _) (zw_nil _).symm rfl rfl (Nat.le_of_ble_eq_true rfl) dX3_find_98 ⟨Nat.zero_le _, Nat.zero_le _⟩ ?_
        try have t173 := zt_add (a := k3_157) (b := 1) (by omega) (by omega)
        obtain ⟨y171, e172⟩ : ∃ z : Int32, (k3_157 + 1) = z := ⟨_, rfl⟩
        have hE := zbnd_cut hE e172
        have t174 := congrArg Int32.toInt e172
        refine zi_iinc (pc := 101) (lv' := [(0, .ref (G.2.2 3 0)), (1, .ref (G.2.2 1 0)), (2, .int layers), (3, .int y171)]) F dX3_find_101 3 rfl e172 (by decide) rfl ?_
        refine zi_goto (pc := 104) (tgt := 90) F dX3_find_104 (by decide) ?_
        refine zi_sub [0, 1, 2, 3] rfl ?_
        exact ih y171 V168 (⟨by (show 0 ≤ Int32.toInt y171; omega), by (show Int32.toInt y171 ≤ 6; omega)⟩) (by omega) _ hE hK
  obtain ⟨⟨k3_175, V176⟩, e177⟩ : ∃ z, mX3_find_L90 layers T 7 1 V142 = z := ⟨_, rfl⟩
  have hE := zbnd2_cut hE e177
  refine hL90 7 1 V142 (⟨by (show 0 ≤ Int32.toInt 1; omega), by (show Int32.toInt 1 ≤ 6; omega)⟩) (by omega) _ e177 (fun hI178 => ?_)
  have hI178 : (0 ≤ Int32.toInt k3_175) ∧ (Int32.toInt k3_175 ≤ 6) := hI178
  obtain ⟨i179, i180⟩ := id hI178
  show zW p l e rmX3_find s m args below meth c 0 0 Q G.1 A 5 (zWT G T ++ zWV G V176) [(0, .ref (G.2.2 3 0)), (1, .ref (G.2.2 1 0)), (2, .int layers), (3, .int k3_175)] 107 []
  subst hE
  exact hret _ _ dX3_find_107
