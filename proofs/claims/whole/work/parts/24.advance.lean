set_option maxRecDepth 100000 in
set_option maxHeartbeats 8000000 in
theorem ct_X3_advance_5 {l : Launch} {g : Geo} {X : Mm} {K : AV → Mm → Prop} {v : Mv} (hX : MvC X 5 v) (hv : vn v ≠ 0 → Vd v) (h0 : vn v = 0 → K (vI (-1)) X) (h1 : vn v ≠ 0 → stR v < 0 → K (vI (stR v)) X) (h2 : vn v ≠ 0 → 0 ≤ stR v → ∀ X2, MvC X2 5 (stN v) → X2 5 2 = X 5 2 + 1 → X2 5 3 = X 5 3 + stR v → (∀ d j, (d < 5 ∨ 10 < d) → X2 d j = X d j) → K (vI (stR v)) X2) : Ct l g mX3_advance [vR 5] X K := by
  refine enter (by decide) (Nat.le_of_ble_eq_true rfl) (fun κ => ?_)
  have x1 : X 5 0 = (vn v : Int) := hX.1
  have x2 : X 5 1 = vr v := hX.2.1
  rcases Nat.eq_zero_or_pos (vn v) with hz | hz
  · have hz2 := hz
    refine g_aload_n rfl dX3_advance_0 ?_
    refine gf_X3_34 rfl (by first | rfl | assumption) dX3_advance_1 ?_
    refine g_if_ne (t := 9) dX3_advance_4 (by decide) (by first | omega | (simp [st2]; done) | (simp [st2]; omega)) (fun b4 => ?_) (fun b4 => ?_)
    · exfalso; omega
    · refine g_iconst dX3_advance_7 ?_
      refine g_ireturn rfl dX3_advance_8 ?_
      exact h0 hz
  · have hv := hv (by omega)
    have hn8 := hv.2.1
    have hn2 := hv.1
    have hr := hv.2.2.1
    have hl := lu_lt hv
    have eu : X 8 (vn v - 1) = (lu v : Int) := (hX.2.2.1 _ (by omega)).2.2.1
    have ed : X 9 (vn v - 1) = (ld v : Int) := (hX.2.2.1 _ (by omega)).2.2.2
    have uA : X 6 (lu v) = vA v (lu v) := (hX.2.2.1 _ hl.1).1
    have uB : X 7 (lu v) = vB v (lu v) := (hX.2.2.1 _ hl.1).2.1
    have dA : X 6 (ld v) = vA v (ld v) := (hX.2.2.1 _ hl.2).1
    have dB : X 7 (ld v) = vB v (ld v) := (hX.2.2.1 _ hl.2).2.1
    have vU := hv.2.2.2.1 _ hl.1
    have vD := hv.2.2.2.1 _ hl.2
    have hsg := sgn_neg (r := vr v) (a := vA v (lu v) - vA v (ld v)) (b := vB v (lu v) - vB v (ld v)) hr (fun e => by rw [vU.2.2.1 e, vD.2.2.1 e]; rfl) (by omega) (by omega)
    rw [val_sub] at hsg
    obtain ⟨s, es⟩ : ∃ s, s = sgn (vr v) (vA v (lu v) - vA v (ld v)) (vB v (lu v) - vB v (ld v)) := ⟨_, rfl⟩
    rw [← es] at hsg
    have lU : val (vr v) (vA v (lu v)) (vB v (lu v)) = vL v (lu v) := rfl
    have lD : val (vr v) (vA v (ld v)) (vB v (ld v)) = vL v (ld v) := rfl
    rw [lU, lD] at hsg
    by_cases c0 : lu v = ld v
    · have e2 := stR_2 c0
      refine g_aload_n rfl dX3_advance_0 ?_
      refine gf_X3_34 rfl (by first | rfl | assumption) dX3_advance_1 ?_
      refine g_if_ne (t := 9) dX3_advance_4 (by decide) (by first | omega | (simp [st2]; done) | (simp [st2]; omega)) (fun b4 => ?_) (fun b4 => ?_)
      · refine g_aload_n rfl dX3_advance_9 ?_
        refine gf_X3_18 (c2 := 8) rfl rfl (by first | rfl | assumption) dX3_advance_10 ?_
        refine g_aload_n rfl dX3_advance_13 ?_
        refine gf_X3_34 rfl (by first | rfl | assumption) dX3_advance_14 ?_
        refine g_iconst dX3_advance_17 ?_
        refine g_isub dX3_advance_18 ?_
        refine g_iald (n := 8) (vn v - 1) (by first | rfl | assumption) (by first | rfl | assumption) (by omega) (by first | omega | (simp [st2]; done) | (simp [st2]; omega)) (by first | omega | (simp [st2]; done) | (simp [st2]; omega)) dX3_advance_19 ?_
        refine g_istore_n (by decide) dX3_advance_20 ?_
        refine g_aload_n rfl dX3_advance_21 ?_
        refine gf_X3_21 (c2 := 9) rfl rfl (by first | rfl | assumption) dX3_advance_22 ?_
        refine g_aload_n rfl dX3_advance_25 ?_
        refine gf_X3_34 rfl (by first | rfl | assumption) dX3_advance_26 ?_
        refine g_iconst dX3_advance_29 ?_
        refine g_isub dX3_advance_30 ?_
        refine g_iald (n := 8) (vn v - 1) (by first | rfl | assumption) (by first | rfl | assumption) (by omega) (by first | omega | (simp [st2]; done) | (simp [st2]; omega)) (by first | omega | (simp [st2]; done) | (simp [st2]; omega)) dX3_advance_31 ?_
        refine g_istore_n (by decide) dX3_advance_32 ?_
        rw [eu, ed]
        refine g_iload_n rfl dX3_advance_33 ?_
        refine g_iload_n rfl dX3_advance_34 ?_
        refine g_icmp_ne (t := 41) dX3_advance_35 (by decide) (by first | omega | (simp [st2]; done) | (simp [st2]; omega)) (by first | omega | (simp [st2]; done) | (simp [st2]; omega)) (fun b35 => ?_) (fun b35 => ?_)
        · exfalso; omega
        · refine g_bipush (by decide) dX3_advance_38 ?_
          refine g_ireturn rfl dX3_advance_40 ?_
          exact kE (h1 (by omega) (by omega)) e2
      · exfalso; omega
    · rcases Int.lt_trichotomy (vL v (ld v)) (vL v (lu v)) with cc | cc | cc
      · have hW : s = 1 := by omega
        have hpc := hv.2.2.2.2.2.1
        have hne : vu v (vn v - 1) ≠ lu v := fun e => c0 e.symm
        have hpl := last_ne hpc hl.1 hne
        have hwn := hl.1
        have hxn := hl.2
        refine g_aload_n rfl dX3_advance_0 ?_
        refine gf_X3_34 rfl (by first | rfl | assumption) dX3_advance_1 ?_
        refine g_if_ne (t := 9) dX3_advance_4 (by decide) (by first | omega | (simp [st2]; done) | (simp [st2]; omega)) (fun b4 => ?_) (fun b4 => ?_)
        · refine g_aload_n rfl dX3_advance_9 ?_
          refine gf_X3_18 (c2 := 8) rfl rfl (by first | rfl | assumption) dX3_advance_10 ?_
          refine g_aload_n rfl dX3_advance_13 ?_
          refine gf_X3_34 rfl (by first | rfl | assumption) dX3_advance_14 ?_
          refine g_iconst dX3_advance_17 ?_
          refine g_isub dX3_advance_18 ?_
          refine g_iald (n := 8) (vn v - 1) (by first | rfl | assumption) (by first | rfl | assumption) (by omega) (by first | omega | (simp [st2]; done) | (simp [st2]; omega)) (by first | omega | (simp [st2]; done) | (simp [st2]; omega)) dX3_advance_19 ?_
          rw [eu]
          refine g_istore_n (by decide) dX3_advance_20 ?_
          refine g_aload_n rfl dX3_advance_21 ?_
          refine gf_X3_21 (c2 := 9) rfl rfl (by first | rfl | assumption) dX3_advance_22 ?_
          refine g_aload_n rfl dX3_advance_25 ?_
          refine gf_X3_34 rfl (by first | rfl | assumption) dX3_advance_26 ?_
          refine g_iconst dX3_advance_29 ?_
          refine g_isub dX3_advance_30 ?_
          refine g_iald (n := 8) (vn v - 1) (by first | rfl | assumption) (by first | rfl | assumption) (by omega) (by first | omega | (simp [st2]; done) | (simp [st2]; omega)) (by first | omega | (simp [st2]; done) | (simp [st2]; omega)) dX3_advance_31 ?_
          rw [ed]
          refine g_istore_n (by decide) dX3_advance_32 ?_
          refine g_iload_n rfl dX3_advance_33 ?_
          refine g_iload_n rfl dX3_advance_34 ?_
          refine g_icmp_ne (t := 41) dX3_advance_35 (by decide) (by first | omega | (simp [st2]; done) | (simp [st2]; omega)) (by first | omega | (simp [st2]; done) | (simp [st2]; omega)) (fun b35 => ?_) (fun b35 => ?_)
          · refine g_aload_n rfl dX3_advance_41 ?_
            refine gf_X3_9 (c2 := 6) rfl rfl (by first | rfl | assumption) dX3_advance_42 ?_
            refine g_iload_n rfl dX3_advance_45 ?_
            refine g_iald (n := 8) (lu v) (by first | rfl | assumption) (by first | rfl | assumption) (by omega) (by first | omega | (simp [st2]; done) | (simp [st2]; omega)) (by first | omega | (simp [st2]; done) | (simp [st2]; omega)) dX3_advance_46 ?_
            refine g_aload_n rfl dX3_advance_47 ?_
            refine gf_X3_9 (c2 := 6) rfl rfl (by first | rfl | assumption) dX3_advance_48 ?_
            refine g_iload_n rfl dX3_advance_51 ?_
            refine g_iald (n := 8) (ld v) (by first | rfl | assumption) (by first | rfl | assumption) (by omega) (by first | omega | (simp [st2]; done) | (simp [st2]; omega)) (by first | omega | (simp [st2]; done) | (simp [st2]; omega)) dX3_advance_52 ?_
            refine g_isub dX3_advance_53 ?_
            rw [uA, dA]
            refine g_i2l (by first | omega | (simp [st2]; done) | (simp [st2]; omega)) dX3_advance_54 ?_
            refine g_aload_n rfl dX3_advance_55 ?_
            refine gf_X3_15 (c2 := 7) rfl rfl (by first | rfl | assumption) dX3_advance_56 ?_
            refine g_iload_n rfl dX3_advance_59 ?_
            refine g_iald (n := 8) (lu v) (by first | rfl | assumption) (by first | rfl | assumption) (by omega) (by first | omega | (simp [st2]; done) | (simp [st2]; omega)) (by first | omega | (simp [st2]; done) | (simp [st2]; omega)) dX3_advance_60 ?_
            refine g_aload_n rfl dX3_advance_61 ?_
            refine gf_X3_15 (c2 := 7) rfl rfl (by first | rfl | assumption) dX3_advance_62 ?_
            refine g_iload_n rfl dX3_advance_65 ?_
            refine g_iald (n := 8) (ld v) (by first | rfl | assumption) (by first | rfl | assumption) (by omega) (by first | omega | (simp [st2]; done) | (simp [st2]; omega)) (by first | omega | (simp [st2]; done) | (simp [st2]; omega)) dX3_advance_66 ?_
            refine g_isub dX3_advance_67 ?_
            rw [uB, dB]
            refine g_i2l (by first | omega | (simp [st2]; done) | (simp [st2]; omega)) dX3_advance_68 ?_
            refine g_aload_n rfl dX3_advance_69 ?_
            refine gf_X3_35 rfl (by first | rfl | assumption) dX3_advance_70 ?_
            rw [x2]
            refine g_cn3 (M2 := mX7_signOf) dX3_advance_73 nest3 kX7_signOf (by decide) (by unfold Rm; decide) (Nat.le_of_ble_eq_true rfl) (ct_X7_signOf hr (by omega) (by omega) ?_)
            rw [← es]
            refine g_istore_n (by decide) dX3_advance_76 ?_
            refine g_iload_n rfl dX3_advance_77 ?_
            refine g_if_ne (t := 84) dX3_advance_78 (by decide) (by first | omega | (simp [st2]; done) | (simp [st2]; omega)) (fun b78 => ?_) (fun b78 => ?_)
            · refine g_iload_n rfl dX3_advance_84 ?_
              refine g_if_le (t := 92) dX3_advance_85 (by decide) (by first | omega | (simp [st2]; done) | (simp [st2]; omega)) (fun b85 => ?_) (fun b85 => ?_)
              · exfalso; omega
              · refine g_iconst dX3_advance_88 ?_
                refine g_goto (t := 93) dX3_advance_89 (by decide) ?_
                refine g_istore (by decide) dX3_advance_93 ?_
                refine g_iload rfl dX3_advance_95 ?_
                refine g_if_eq (t := 104) dX3_advance_97 (by decide) (by first | omega | (simp [st2]; done) | (simp [st2]; omega)) (fun b97 => ?_) (fun b97 => ?_)
                · exact absurd b97 (by decide)
                · refine g_iload_n rfl dX3_advance_100 ?_
                  refine g_goto (t := 105) dX3_advance_101 (by decide) ?_
                  refine g_istore (by decide) dX3_advance_105 ?_
                  refine g_iload rfl dX3_advance_107 ?_
                  refine g_if_eq (t := 116) dX3_advance_109 (by decide) (by first | omega | (simp [st2]; done) | (simp [st2]; omega)) (fun b109 => ?_) (fun b109 => ?_)
                  · exact absurd b109 (by decide)
                  · refine g_iload_n rfl dX3_advance_112 ?_
                    refine g_goto (t := 117) dX3_advance_113 (by decide) ?_
                    refine g_istore (by decide) dX3_advance_117 ?_
                    refine g_aload_n rfl dX3_advance_119 ?_
                    refine g_iload rfl dX3_advance_120 ?_
                    refine g_iload rfl dX3_advance_122 ?_
                    refine g_cv2 (M2 := mX3_isSpentBy) (ci := 3) dX3_advance_124 ml_RX3_57 kX3_isSpentBy (by decide) (by first | rfl | assumption) (by decide) rfl (by unfold Rm; decide) (Nat.le_of_ble_eq_true rfl) (ct_X3_isSpentBy_5 hX hv hwn hxn (fun hs => ?_) (fun hs => ?_))
                    · refine g_if_eq (t := 133) dX3_advance_127 (by decide) (by first | omega | (simp [st2]; done) | (simp [st2]; omega)) (fun b127 => ?_) (fun b127 => ?_)
                      · exact absurd b127 (by decide)
                      · refine g_bipush (by decide) dX3_advance_130 ?_
                        refine g_ireturn rfl dX3_advance_132 ?_
                        have er := stR_u4 c0 cc hs
                        exact kE (h1 (by omega) (by omega)) er
                    · refine g_if_eq (t := 133) dX3_advance_127 (by decide) (by first | omega | (simp [st2]; done) | (simp [st2]; omega)) (fun b127 => ?_) (fun b127 => ?_)
                      · refine g_aload_n rfl dX3_advance_133 ?_
                        refine g_iload rfl dX3_advance_134 ?_
                        refine g_iload rfl dX3_advance_136 ?_
                        refine g_cv2v (M2 := mX3_shorten) (ci := 3) dX3_advance_138 ml_RX3_61 kX3_shorten rfl (by first | rfl | assumption) (by decide) rfl (by unfold Rm; decide) (Nat.le_of_ble_eq_true rfl) (ct_X3_shorten_5 hX hv hwn hxn (by omega) (fun X2 f2 a2 b2 t2 => ?_))
                        refine g_aload_n rfl dX3_advance_141 ?_
                        refine g_iload rfl dX3_advance_142 ?_
                        refine g_iload rfl dX3_advance_144 ?_
                        refine g_if_eq (t := 156) dX3_advance_146 (by decide) (by first | omega | (simp [st2]; done) | (simp [st2]; omega)) (fun b146 => ?_) (fun b146 => ?_)
                        · exact absurd b146 (by decide)
                        · refine g_aload_n rfl dX3_advance_149 ?_
                          refine gf_X3_21 (c2 := 9) rfl rfl (by first | rfl | assumption) dX3_advance_150 ?_
                          refine g_goto (t := 160) dX3_advance_153 (by decide) ?_
                          refine g_cv2v (M2 := mX3_bringLastBehind) (ci := 3) dX3_advance_160 ml_RX3_65 kX3_bringLastBehind rfl (by first | rfl | assumption) (by decide) rfl (by unfold Rm; decide) (Nat.le_of_ble_eq_true rfl) (ct_X3_bring_9 (n := vn v) (f := vu v) (w := lu v) (by rw [f2 5 0 (by decide) (by decide) (by decide)]; exact x1) (by omega) hpc (fun j hj => by rw [f2 9 j (by decide) (by decide) (by decide)]; exact (hX.2.2.1 j hj).2.2.2) hwn hpl (fun X4 f4 r4 => ?_))
                          have hM4 : MvC X4 5 (stU v) := mvC_stp hX (by rw [f4 5 0 (by decide), f2 5 0 (by decide) (by decide) (by decide)]) (by rw [f4 5 1 (by decide), f2 5 1 (by decide) (by decide) (by decide)]) (fun k hk => by
                              show X4 6 k = _
                              rw [f4 6 k (by decide)]
                              exact a2 k hk) (fun k hk => by
                              show X4 7 k = _
                              rw [f4 7 k (by decide)]
                              exact b2 k hk) (fun k hk => by
                              show X4 8 k = _
                              rw [f4 8 k (by decide), f2 8 k (by decide) (by decide) (by decide)]
                              exact (hX.2.2.1 k hk).2.2.1) r4 (fun i j hi hj => by
                              show X4 10 _ = _
                              rw [f4 10 _ (by decide)]
                              exact t2 i j hi hj)
                          obtain ⟨er, en⟩ := stR_u1 c0 cc hs
                          have g2 : X4 5 2 = X 5 2 := by rw [f4 5 2 (by decide), f2 5 2 (by decide) (by decide) (by decide)]
                          have g3 : X4 5 3 = X 5 3 := by rw [f4 5 3 (by decide), f2 5 3 (by decide) (by decide) (by decide)]
                          refine g_aload_n rfl dX3_advance_163 ?_
                          refine g_dup rfl dX3_advance_164 ?_
                          refine gf_X3_38 rfl (by first | rfl | assumption) dX3_advance_165 ?_
                          refine g_iconst dX3_advance_168 ?_
                          refine g_iadd dX3_advance_169 ?_
                          refine pf_X3_38 rfl (by first | rfl | assumption) dX3_advance_170 ?_
                          refine g_aload_n rfl dX3_advance_173 ?_
                          refine g_dup rfl dX3_advance_174 ?_
                          refine gf_X3_41 rfl (by first | rfl | assumption) dX3_advance_175 ?_
                          refine g_iload rfl dX3_advance_178 ?_
                          refine g_if_eq (t := 187) dX3_advance_180 (by decide) (by first | omega | (simp [st2]; done) | (simp [st2]; omega)) (fun b180 => ?_) (fun b180 => ?_)
                          · exact absurd b180 (by decide)
                          · refine g_iconst dX3_advance_183 ?_
                            refine g_goto (t := 188) dX3_advance_184 (by decide) ?_
                            refine g_iadd dX3_advance_188 ?_
                            refine pf_X3_41 rfl (by first | rfl | assumption) dX3_advance_189 ?_
                            refine g_iload rfl dX3_advance_192 ?_
                            refine g_if_eq (t := 201) dX3_advance_194 (by decide) (by first | omega | (simp [st2]; done) | (simp [st2]; omega)) (fun b194 => ?_) (fun b194 => ?_)
                            · exact absurd b194 (by decide)
                            · refine g_iconst dX3_advance_197 ?_
                              refine g_goto (t := 202) dX3_advance_198 (by decide) ?_
                              refine g_ireturn rfl dX3_advance_202 ?_
                              refine kE (h2 (by omega) (by omega) _ (by rw [en]; exact ⟨hM4.1, hM4.2.1, hM4.2.2.1, hM4.2.2.2⟩) ?_ ?_ (fun d j hd => ?_)) er
                              · simp [st2]
                                omega
                              · simp [st2]
                                omega
                              · have z0 : d ≠ 5 := by omega
                                simp only [st2, if_neg z0]
                                rw [f4 d j (by omega), f2 d j (by omega) (by omega) (by omega)]
                      · exact absurd rfl b127
            · exfalso; omega
          · exfalso; omega
        · exfalso; omega
      · have e3 := stR_3 c0 cc.symm
        refine g_aload_n rfl dX3_advance_0 ?_
        refine gf_X3_34 rfl (by first | rfl | assumption) dX3_advance_1 ?_
        refine g_if_ne (t := 9) dX3_advance_4 (by decide) (by first | omega | (simp [st2]; done) | (simp [st2]; omega)) (fun b4 => ?_) (fun b4 => ?_)
        · refine g_aload_n rfl dX3_advance_9 ?_
          refine gf_X3_18 (c2 := 8) rfl rfl (by first | rfl | assumption) dX3_advance_10 ?_
          refine g_aload_n rfl dX3_advance_13 ?_
          refine gf_X3_34 rfl (by first | rfl | assumption) dX3_advance_14 ?_
          refine g_iconst dX3_advance_17 ?_
          refine g_isub dX3_advance_18 ?_
          refine g_iald (n := 8) (vn v - 1) (by first | rfl | assumption) (by first | rfl | assumption) (by omega) (by first | omega | (simp [st2]; done) | (simp [st2]; omega)) (by first | omega | (simp [st2]; done) | (simp [st2]; omega)) dX3_advance_19 ?_
          rw [eu]
          refine g_istore_n (by decide) dX3_advance_20 ?_
          refine g_aload_n rfl dX3_advance_21 ?_
          refine gf_X3_21 (c2 := 9) rfl rfl (by first | rfl | assumption) dX3_advance_22 ?_
          refine g_aload_n rfl dX3_advance_25 ?_
          refine gf_X3_34 rfl (by first | rfl | assumption) dX3_advance_26 ?_
          refine g_iconst dX3_advance_29 ?_
          refine g_isub dX3_advance_30 ?_
          refine g_iald (n := 8) (vn v - 1) (by first | rfl | assumption) (by first | rfl | assumption) (by omega) (by first | omega | (simp [st2]; done) | (simp [st2]; omega)) (by first | omega | (simp [st2]; done) | (simp [st2]; omega)) dX3_advance_31 ?_
          rw [ed]
          refine g_istore_n (by decide) dX3_advance_32 ?_
          refine g_iload_n rfl dX3_advance_33 ?_
          refine g_iload_n rfl dX3_advance_34 ?_
          refine g_icmp_ne (t := 41) dX3_advance_35 (by decide) (by first | omega | (simp [st2]; done) | (simp [st2]; omega)) (by first | omega | (simp [st2]; done) | (simp [st2]; omega)) (fun b35 => ?_) (fun b35 => ?_)
          · refine g_aload_n rfl dX3_advance_41 ?_
            refine gf_X3_9 (c2 := 6) rfl rfl (by first | rfl | assumption) dX3_advance_42 ?_
            refine g_iload_n rfl dX3_advance_45 ?_
            refine g_iald (n := 8) (lu v) (by first | rfl | assumption) (by first | rfl | assumption) (by omega) (by first | omega | (simp [st2]; done) | (simp [st2]; omega)) (by first | omega | (simp [st2]; done) | (simp [st2]; omega)) dX3_advance_46 ?_
            refine g_aload_n rfl dX3_advance_47 ?_
            refine gf_X3_9 (c2 := 6) rfl rfl (by first | rfl | assumption) dX3_advance_48 ?_
            refine g_iload_n rfl dX3_advance_51 ?_
            refine g_iald (n := 8) (ld v) (by first | rfl | assumption) (by first | rfl | assumption) (by omega) (by first | omega | (simp [st2]; done) | (simp [st2]; omega)) (by first | omega | (simp [st2]; done) | (simp [st2]; omega)) dX3_advance_52 ?_
            refine g_isub dX3_advance_53 ?_
            rw [uA, dA]
            refine g_i2l (by first | omega | (simp [st2]; done) | (simp [st2]; omega)) dX3_advance_54 ?_
            refine g_aload_n rfl dX3_advance_55 ?_
            refine gf_X3_15 (c2 := 7) rfl rfl (by first | rfl | assumption) dX3_advance_56 ?_
            refine g_iload_n rfl dX3_advance_59 ?_
            refine g_iald (n := 8) (lu v) (by first | rfl | assumption) (by first | rfl | assumption) (by omega) (by first | omega | (simp [st2]; done) | (simp [st2]; omega)) (by first | omega | (simp [st2]; done) | (simp [st2]; omega)) dX3_advance_60 ?_
            refine g_aload_n rfl dX3_advance_61 ?_
            refine gf_X3_15 (c2 := 7) rfl rfl (by first | rfl | assumption) dX3_advance_62 ?_
            refine g_iload_n rfl dX3_advance_65 ?_
            refine g_iald (n := 8) (ld v) (by first | rfl | assumption) (by first | rfl | assumption) (by omega) (by first | omega | (simp [st2]; done) | (simp [st2]; omega)) (by first | omega | (simp [st2]; done) | (simp [st2]; omega)) dX3_advance_66 ?_
            refine g_isub dX3_advance_67 ?_
            rw [uB, dB]
            refine g_i2l (by first | omega | (simp [st2]; done) | (simp [st2]; omega)) dX3_advance_68 ?_
            refine g_aload_n rfl dX3_advance_69 ?_
            refine gf_X3_35 rfl (by first | rfl | assumption) dX3_advance_70 ?_
            rw [x2]
            refine g_cn3 (M2 := mX7_signOf) dX3_advance_73 nest3 kX7_signOf (by decide) (by unfold Rm; decide) (Nat.le_of_ble_eq_true rfl) (ct_X7_signOf hr (by omega) (by omega) ?_)
            rw [← es]
            refine g_istore_n (by decide) dX3_advance_76 ?_
            refine g_iload_n rfl dX3_advance_77 ?_
            refine g_if_ne (t := 84) dX3_advance_78 (by decide) (by first | omega | (simp [st2]; done) | (simp [st2]; omega)) (fun b78 => ?_) (fun b78 => ?_)
            · exfalso; omega
            · refine g_bipush (by decide) dX3_advance_81 ?_
              refine g_ireturn rfl dX3_advance_83 ?_
              exact kE (h1 (by omega) (by omega)) e3
          · exfalso; omega
        · exfalso; omega
      · have hW : s = -1 := by omega
        have hpc := hv.2.2.2.2.1
        have hne : va v (vn v - 1) ≠ ld v := fun e => c0 e
        have hpl := last_ne hpc hl.2 hne
        have hwn := hl.2
        have hxn := hl.1
        refine g_aload_n rfl dX3_advance_0 ?_
        refine gf_X3_34 rfl (by first | rfl | assumption) dX3_advance_1 ?_
        refine g_if_ne (t := 9) dX3_advance_4 (by decide) (by first | omega | (simp [st2]; done) | (simp [st2]; omega)) (fun b4 => ?_) (fun b4 => ?_)
        · refine g_aload_n rfl dX3_advance_9 ?_
          refine gf_X3_18 (c2 := 8) rfl rfl (by first | rfl | assumption) dX3_advance_10 ?_
          refine g_aload_n rfl dX3_advance_13 ?_
          refine gf_X3_34 rfl (by first | rfl | assumption) dX3_advance_14 ?_
          refine g_iconst dX3_advance_17 ?_
          refine g_isub dX3_advance_18 ?_
          refine g_iald (n := 8) (vn v - 1) (by first | rfl | assumption) (by first | rfl | assumption) (by omega) (by first | omega | (simp [st2]; done) | (simp [st2]; omega)) (by first | omega | (simp [st2]; done) | (simp [st2]; omega)) dX3_advance_19 ?_
          rw [eu]
          refine g_istore_n (by decide) dX3_advance_20 ?_
          refine g_aload_n rfl dX3_advance_21 ?_
          refine gf_X3_21 (c2 := 9) rfl rfl (by first | rfl | assumption) dX3_advance_22 ?_
          refine g_aload_n rfl dX3_advance_25 ?_
          refine gf_X3_34 rfl (by first | rfl | assumption) dX3_advance_26 ?_
          refine g_iconst dX3_advance_29 ?_
          refine g_isub dX3_advance_30 ?_
          refine g_iald (n := 8) (vn v - 1) (by first | rfl | assumption) (by first | rfl | assumption) (by omega) (by first | omega | (simp [st2]; done) | (simp [st2]; omega)) (by first | omega | (simp [st2]; done) | (simp [st2]; omega)) dX3_advance_31 ?_
          rw [ed]
          refine g_istore_n (by decide) dX3_advance_32 ?_
          refine g_iload_n rfl dX3_advance_33 ?_
          refine g_iload_n rfl dX3_advance_34 ?_
          refine g_icmp_ne (t := 41) dX3_advance_35 (by decide) (by first | omega | (simp [st2]; done) | (simp [st2]; omega)) (by first | omega | (simp [st2]; done) | (simp [st2]; omega)) (fun b35 => ?_) (fun b35 => ?_)
          · refine g_aload_n rfl dX3_advance_41 ?_
            refine gf_X3_9 (c2 := 6) rfl rfl (by first | rfl | assumption) dX3_advance_42 ?_
            refine g_iload_n rfl dX3_advance_45 ?_
            refine g_iald (n := 8) (lu v) (by first | rfl | assumption) (by first | rfl | assumption) (by omega) (by first | omega | (simp [st2]; done) | (simp [st2]; omega)) (by first | omega | (simp [st2]; done) | (simp [st2]; omega)) dX3_advance_46 ?_
            refine g_aload_n rfl dX3_advance_47 ?_
            refine gf_X3_9 (c2 := 6) rfl rfl (by first | rfl | assumption) dX3_advance_48 ?_
            refine g_iload_n rfl dX3_advance_51 ?_
            refine g_iald (n := 8) (ld v) (by first | rfl | assumption) (by first | rfl | assumption) (by omega) (by first | omega | (simp [st2]; done) | (simp [st2]; omega)) (by first | omega | (simp [st2]; done) | (simp [st2]; omega)) dX3_advance_52 ?_
            refine g_isub dX3_advance_53 ?_
            rw [uA, dA]
            refine g_i2l (by first | omega | (simp [st2]; done) | (simp [st2]; omega)) dX3_advance_54 ?_
            refine g_aload_n rfl dX3_advance_55 ?_
            refine gf_X3_15 (c2 := 7) rfl rfl (by first | rfl | assumption) dX3_advance_56 ?_
            refine g_iload_n rfl dX3_advance_59 ?_
            refine g_iald (n := 8) (lu v) (by first | rfl | assumption) (by first | rfl | assumption) (by omega) (by first | omega | (simp [st2]; done) | (simp [st2]; omega)) (by first | omega | (simp [st2]; done) | (simp [st2]; omega)) dX3_advance_60 ?_
            refine g_aload_n rfl dX3_advance_61 ?_
            refine gf_X3_15 (c2 := 7) rfl rfl (by first | rfl | assumption) dX3_advance_62 ?_
            refine g_iload_n rfl dX3_advance_65 ?_
            refine g_iald (n := 8) (ld v) (by first | rfl | assumption) (by first | rfl | assumption) (by omega) (by first | omega | (simp [st2]; done) | (simp [st2]; omega)) (by first | omega | (simp [st2]; done) | (simp [st2]; omega)) dX3_advance_66 ?_
            refine g_isub dX3_advance_67 ?_
            rw [uB, dB]
            refine g_i2l (by first | omega | (simp [st2]; done) | (simp [st2]; omega)) dX3_advance_68 ?_
            refine g_aload_n rfl dX3_advance_69 ?_
            refine gf_X3_35 rfl (by first | rfl | assumption) dX3_advance_70 ?_
            rw [x2]
            refine g_cn3 (M2 := mX7_signOf) dX3_advance_73 nest3 kX7_signOf (by decide) (by unfold Rm; decide) (Nat.le_of_ble_eq_true rfl) (ct_X7_signOf hr (by omega) (by omega) ?_)
            rw [← es]
            refine g_istore_n (by decide) dX3_advance_76 ?_
            refine g_iload_n rfl dX3_advance_77 ?_
            refine g_if_ne (t := 84) dX3_advance_78 (by decide) (by first | omega | (simp [st2]; done) | (simp [st2]; omega)) (fun b78 => ?_) (fun b78 => ?_)
            · refine g_iload_n rfl dX3_advance_84 ?_
              refine g_if_le (t := 92) dX3_advance_85 (by decide) (by first | omega | (simp [st2]; done) | (simp [st2]; omega)) (fun b85 => ?_) (fun b85 => ?_)
              · refine g_iconst dX3_advance_92 ?_
                refine g_istore (by decide) dX3_advance_93 ?_
                refine g_iload rfl dX3_advance_95 ?_
                refine g_if_eq (t := 104) dX3_advance_97 (by decide) (by first | omega | (simp [st2]; done) | (simp [st2]; omega)) (fun b97 => ?_) (fun b97 => ?_)
                · refine g_iload_n rfl dX3_advance_104 ?_
                  refine g_istore (by decide) dX3_advance_105 ?_
                  refine g_iload rfl dX3_advance_107 ?_
                  refine g_if_eq (t := 116) dX3_advance_109 (by decide) (by first | omega | (simp [st2]; done) | (simp [st2]; omega)) (fun b109 => ?_) (fun b109 => ?_)
                  · refine g_iload_n rfl dX3_advance_116 ?_
                    refine g_istore (by decide) dX3_advance_117 ?_
                    refine g_aload_n rfl dX3_advance_119 ?_
                    refine g_iload rfl dX3_advance_120 ?_
                    refine g_iload rfl dX3_advance_122 ?_
                    refine g_cv2 (M2 := mX3_isSpentBy) (ci := 3) dX3_advance_124 ml_RX3_57 kX3_isSpentBy (by decide) (by first | rfl | assumption) (by decide) rfl (by unfold Rm; decide) (Nat.le_of_ble_eq_true rfl) (ct_X3_isSpentBy_5 hX hv hwn hxn (fun hs => ?_) (fun hs => ?_))
                    · refine g_if_eq (t := 133) dX3_advance_127 (by decide) (by first | omega | (simp [st2]; done) | (simp [st2]; omega)) (fun b127 => ?_) (fun b127 => ?_)
                      · exact absurd b127 (by decide)
                      · refine g_bipush (by decide) dX3_advance_130 ?_
                        refine g_ireturn rfl dX3_advance_132 ?_
                        have er := stR_d4 c0 cc hs
                        exact kE (h1 (by omega) (by omega)) er
                    · refine g_if_eq (t := 133) dX3_advance_127 (by decide) (by first | omega | (simp [st2]; done) | (simp [st2]; omega)) (fun b127 => ?_) (fun b127 => ?_)
                      · refine g_aload_n rfl dX3_advance_133 ?_
                        refine g_iload rfl dX3_advance_134 ?_
                        refine g_iload rfl dX3_advance_136 ?_
                        refine g_cv2v (M2 := mX3_shorten) (ci := 3) dX3_advance_138 ml_RX3_61 kX3_shorten rfl (by first | rfl | assumption) (by decide) rfl (by unfold Rm; decide) (Nat.le_of_ble_eq_true rfl) (ct_X3_shorten_5 hX hv hwn hxn (by omega) (fun X2 f2 a2 b2 t2 => ?_))
                        refine g_aload_n rfl dX3_advance_141 ?_
                        refine g_iload rfl dX3_advance_142 ?_
                        refine g_iload rfl dX3_advance_144 ?_
                        refine g_if_eq (t := 156) dX3_advance_146 (by decide) (by first | omega | (simp [st2]; done) | (simp [st2]; omega)) (fun b146 => ?_) (fun b146 => ?_)
                        · refine g_aload_n rfl dX3_advance_156 ?_
                          refine gf_X3_18 (c2 := 8) rfl rfl (by first | rfl | assumption) dX3_advance_157 ?_
                          refine g_cv2v (M2 := mX3_bringLastBehind) (ci := 3) dX3_advance_160 ml_RX3_65 kX3_bringLastBehind rfl (by first | rfl | assumption) (by decide) rfl (by unfold Rm; decide) (Nat.le_of_ble_eq_true rfl) (ct_X3_bring_8 (n := vn v) (f := va v) (w := ld v) (by rw [f2 5 0 (by decide) (by decide) (by decide)]; exact x1) (by omega) hpc (fun j hj => by rw [f2 8 j (by decide) (by decide) (by decide)]; exact (hX.2.2.1 j hj).2.2.1) hwn hpl (fun X4 f4 r4 => ?_))
                          have hM4 : MvC X4 5 (stD v) := mvC_stp hX (by rw [f4 5 0 (by decide), f2 5 0 (by decide) (by decide) (by decide)]) (by rw [f4 5 1 (by decide), f2 5 1 (by decide) (by decide) (by decide)]) (fun k hk => by
                              show X4 6 k = _
                              rw [f4 6 k (by decide)]
                              exact a2 k hk) (fun k hk => by
                              show X4 7 k = _
                              rw [f4 7 k (by decide)]
                              exact b2 k hk) r4 (fun k hk => by
                              show X4 9 k = _
                              rw [f4 9 k (by decide), f2 9 k (by decide) (by decide) (by decide)]
                              exact (hX.2.2.1 k hk).2.2.2) (fun i j hi hj => by
                              show X4 10 _ = _
                              rw [f4 10 _ (by decide)]
                              exact t2 i j hi hj)
                          obtain ⟨er, en⟩ := stR_d0 c0 cc hs
                          have g2 : X4 5 2 = X 5 2 := by rw [f4 5 2 (by decide), f2 5 2 (by decide) (by decide) (by decide)]
                          have g3 : X4 5 3 = X 5 3 := by rw [f4 5 3 (by decide), f2 5 3 (by decide) (by decide) (by decide)]
                          refine g_aload_n rfl dX3_advance_163 ?_
                          refine g_dup rfl dX3_advance_164 ?_
                          refine gf_X3_38 rfl (by first | rfl | assumption) dX3_advance_165 ?_
                          refine g_iconst dX3_advance_168 ?_
                          refine g_iadd dX3_advance_169 ?_
                          refine pf_X3_38 rfl (by first | rfl | assumption) dX3_advance_170 ?_
                          refine g_aload_n rfl dX3_advance_173 ?_
                          refine g_dup rfl dX3_advance_174 ?_
                          refine gf_X3_41 rfl (by first | rfl | assumption) dX3_advance_175 ?_
                          refine g_iload rfl dX3_advance_178 ?_
                          refine g_if_eq (t := 187) dX3_advance_180 (by decide) (by first | omega | (simp [st2]; done) | (simp [st2]; omega)) (fun b180 => ?_) (fun b180 => ?_)
                          · refine g_iconst dX3_advance_187 ?_
                            refine g_iadd dX3_advance_188 ?_
                            refine pf_X3_41 rfl (by first | rfl | assumption) dX3_advance_189 ?_
                            refine g_iload rfl dX3_advance_192 ?_
                            refine g_if_eq (t := 201) dX3_advance_194 (by decide) (by first | omega | (simp [st2]; done) | (simp [st2]; omega)) (fun b194 => ?_) (fun b194 => ?_)
                            · refine g_iconst dX3_advance_201 ?_
                              refine g_ireturn rfl dX3_advance_202 ?_
                              refine kE (h2 (by omega) (by omega) _ (by rw [en]; exact ⟨hM4.1, hM4.2.1, hM4.2.2.1, hM4.2.2.2⟩) ?_ ?_ (fun d j hd => ?_)) er
                              · simp [st2]
                                omega
                              · simp [st2]
                                omega
                              · have z0 : d ≠ 5 := by omega
                                simp only [st2, if_neg z0]
                                rw [f4 d j (by omega), f2 d j (by omega) (by omega) (by omega)]
                            · exact absurd rfl b194
                          · exact absurd rfl b180
                        · exact absurd rfl b146
                      · exact absurd rfl b127
                  · exact absurd rfl b109
                · exact absurd rfl b97
              · exfalso; omega
            · exfalso; omega
          · exfalso; omega
        · exfalso; omega
set_option maxRecDepth 100000 in
set_option maxHeartbeats 8000000 in
theorem ct_X3_advance_11 {l : Launch} {g : Geo} {X : Mm} {K : AV → Mm → Prop} {v : Mv} (hX : MvC X 11 v) (hv : vn v ≠ 0 → Vd v) (h0 : vn v = 0 → K (vI (-1)) X) (h1 : vn v ≠ 0 → stR v < 0 → K (vI (stR v)) X) (h2 : vn v ≠ 0 → 0 ≤ stR v → ∀ X2, MvC X2 11 (stN v) → X2 11 2 = X 11 2 + 1 → X2 11 3 = X 11 3 + stR v → (∀ d j, (d < 11 ∨ 16 < d) → X2 d j = X d j) → K (vI (stR v)) X2) : Ct l g mX3_advance [vR 11] X K := by
  refine enter (by decide) (Nat.le_of_ble_eq_true rfl) (fun κ => ?_)
  have x1 : X 11 0 = (vn v : Int) := hX.1
  have x2 : X 11 1 = vr v := hX.2.1
  rcases Nat.eq_zero_or_pos (vn v) with hz | hz
  · have hz2 := hz
    refine g_aload_n rfl dX3_advance_0 ?_
    refine gf_X3_34 rfl (by first | rfl | assumption) dX3_advance_1 ?_
    refine g_if_ne (t := 9) dX3_advance_4 (by decide) (by first | omega | (simp [st2]; done) | (simp [st2]; omega)) (fun b4 => ?_) (fun b4 => ?_)
    · exfalso; omega
    · refine g_iconst dX3_advance_7 ?_
      refine g_ireturn rfl dX3_advance_8 ?_
      exact h0 hz
  · have hv := hv (by omega)
    have hn8 := hv.2.1
    have hn2 := hv.1
    have hr := hv.2.2.1
    have hl := lu_lt hv
    have eu : X 14 (vn v - 1) = (lu v : Int) := (hX.2.2.1 _ (by omega)).2.2.1
    have ed : X 15 (vn v - 1) = (ld v : Int) := (hX.2.2.1 _ (by omega)).2.2.2
    have uA : X 12 (lu v) = vA v (lu v) := (hX.2.2.1 _ hl.1).1
    have uB : X 13 (lu v) = vB v (lu v) := (hX.2.2.1 _ hl.1).2.1
    have dA : X 12 (ld v) = vA v (ld v) := (hX.2.2.1 _ hl.2).1
    have dB : X 13 (ld v) = vB v (ld v) := (hX.2.2.1 _ hl.2).2.1
    have vU := hv.2.2.2.1 _ hl.1
    have vD := hv.2.2.2.1 _ hl.2
    have hsg := sgn_neg (r := vr v) (a := vA v (lu v) - vA v (ld v)) (b := vB v (lu v) - vB v (ld v)) hr (fun e => by rw [vU.2.2.1 e, vD.2.2.1 e]; rfl) (by omega) (by omega)
    rw [val_sub] at hsg
    obtain ⟨s, es⟩ : ∃ s, s = sgn (vr v) (vA v (lu v) - vA v (ld v)) (vB v (lu v) - vB v (ld v)) := ⟨_, rfl⟩
    rw [← es] at hsg
    have lU : val (vr v) (vA v (lu v)) (vB v (lu v)) = vL v (lu v) := rfl
    have lD : val (vr v) (vA v (ld v)) (vB v (ld v)) = vL v (ld v) := rfl
    rw [lU, lD] at hsg
    by_cases c0 : lu v = ld v
    · have e2 := stR_2 c0
      refine g_aload_n rfl dX3_advance_0 ?_
      refine gf_X3_34 rfl (by first | rfl | assumption) dX3_advance_1 ?_
      refine g_if_ne (t := 9) dX3_advance_4 (by decide) (by first | omega | (simp [st2]; done) | (simp [st2]; omega)) (fun b4 => ?_) (fun b4 => ?_)
      · refine g_aload_n rfl dX3_advance_9 ?_
        refine gf_X3_18 (c2 := 14) rfl rfl (by first | rfl | assumption) dX3_advance_10 ?_
        refine g_aload_n rfl dX3_advance_13 ?_
        refine gf_X3_34 rfl (by first | rfl | assumption) dX3_advance_14 ?_
        refine g_iconst dX3_advance_17 ?_
        refine g_isub dX3_advance_18 ?_
        refine g_iald (n := 8) (vn v - 1) (by first | rfl | assumption) (by first | rfl | assumption) (by omega) (by first | omega | (simp [st2]; done) | (simp [st2]; omega)) (by first | omega | (simp [st2]; done) | (simp [st2]; omega)) dX3_advance_19 ?_
        refine g_istore_n (by decide) dX3_advance_20 ?_
        refine g_aload_n rfl dX3_advance_21 ?_
        refine gf_X3_21 (c2 := 15) rfl rfl (by first | rfl | assumption) dX3_advance_22 ?_
        refine g_aload_n rfl dX3_advance_25 ?_
        refine gf_X3_34 rfl (by first | rfl | assumption) dX3_advance_26 ?_
        refine g_iconst dX3_advance_29 ?_
        refine g_isub dX3_advance_30 ?_
        refine g_iald (n := 8) (vn v - 1) (by first | rfl | assumption) (by first | rfl | assumption) (by omega) (by first | omega | (simp [st2]; done) | (simp [st2]; omega)) (by first | omega | (simp [st2]; done) | (simp [st2]; omega)) dX3_advance_31 ?_
        refine g_istore_n (by decide) dX3_advance_32 ?_
        rw [eu, ed]
        refine g_iload_n rfl dX3_advance_33 ?_
        refine g_iload_n rfl dX3_advance_34 ?_
        refine g_icmp_ne (t := 41) dX3_advance_35 (by decide) (by first | omega | (simp [st2]; done) | (simp [st2]; omega)) (by first | omega | (simp [st2]; done) | (simp [st2]; omega)) (fun b35 => ?_) (fun b35 => ?_)
        · exfalso; omega
        · refine g_bipush (by decide) dX3_advance_38 ?_
          refine g_ireturn rfl dX3_advance_40 ?_
          exact kE (h1 (by omega) (by omega)) e2
      · exfalso; omega
    · rcases Int.lt_trichotomy (vL v (ld v)) (vL v (lu v)) with cc | cc | cc
      · have hW : s = 1 := by omega
        have hpc := hv.2.2.2.2.2.1
        have hne : vu v (vn v - 1) ≠ lu v := fun e => c0 e.symm
        have hpl := last_ne hpc hl.1 hne
        have hwn := hl.1
        have hxn := hl.2
        refine g_aload_n rfl dX3_advance_0 ?_
        refine gf_X3_34 rfl (by first | rfl | assumption) dX3_advance_1 ?_
        refine g_if_ne (t := 9) dX3_advance_4 (by decide) (by first | omega | (simp [st2]; done) | (simp [st2]; omega)) (fun b4 => ?_) (fun b4 => ?_)
        · refine g_aload_n rfl dX3_advance_9 ?_
          refine gf_X3_18 (c2 := 14) rfl rfl (by first | rfl | assumption) dX3_advance_10 ?_
          refine g_aload_n rfl dX3_advance_13 ?_
          refine gf_X3_34 rfl (by first | rfl | assumption) dX3_advance_14 ?_
          refine g_iconst dX3_advance_17 ?_
          refine g_isub dX3_advance_18 ?_
          refine g_iald (n := 8) (vn v - 1) (by first | rfl | assumption) (by first | rfl | assumption) (by omega) (by first | omega | (simp [st2]; done) | (simp [st2]; omega)) (by first | omega | (simp [st2]; done) | (simp [st2]; omega)) dX3_advance_19 ?_
          rw [eu]
          refine g_istore_n (by decide) dX3_advance_20 ?_
          refine g_aload_n rfl dX3_advance_21 ?_
          refine gf_X3_21 (c2 := 15) rfl rfl (by first | rfl | assumption) dX3_advance_22 ?_
          refine g_aload_n rfl dX3_advance_25 ?_
          refine gf_X3_34 rfl (by first | rfl | assumption) dX3_advance_26 ?_
          refine g_iconst dX3_advance_29 ?_
          refine g_isub dX3_advance_30 ?_
          refine g_iald (n := 8) (vn v - 1) (by first | rfl | assumption) (by first | rfl | assumption) (by omega) (by first | omega | (simp [st2]; done) | (simp [st2]; omega)) (by first | omega | (simp [st2]; done) | (simp [st2]; omega)) dX3_advance_31 ?_
          rw [ed]
          refine g_istore_n (by decide) dX3_advance_32 ?_
          refine g_iload_n rfl dX3_advance_33 ?_
          refine g_iload_n rfl dX3_advance_34 ?_
          refine g_icmp_ne (t := 41) dX3_advance_35 (by decide) (by first | omega | (simp [st2]; done) | (simp [st2]; omega)) (by first | omega | (simp [st2]; done) | (simp [st2]; omega)) (fun b35 => ?_) (fun b35 => ?_)
          · refine g_aload_n rfl dX3_advance_41 ?_
            refine gf_X3_9 (c2 := 12) rfl rfl (by first | rfl | assumption) dX3_advance_42 ?_
            refine g_iload_n rfl dX3_advance_45 ?_
            refine g_iald (n := 8) (lu v) (by first | rfl | assumption) (by first | rfl | assumption) (by omega) (by first | omega | (simp [st2]; done) | (simp [st2]; omega)) (by first | omega | (simp [st2]; done) | (simp [st2]; omega)) dX3_advance_46 ?_
            refine g_aload_n rfl dX3_advance_47 ?_
            refine gf_X3_9 (c2 := 12) rfl rfl (by first | rfl | assumption) dX3_advance_48 ?_
            refine g_iload_n rfl dX3_advance_51 ?_
            refine g_iald (n := 8) (ld v) (by first | rfl | assumption) (by first | rfl | assumption) (by omega) (by first | omega | (simp [st2]; done) | (simp [st2]; omega)) (by first | omega | (simp [st2]; done) | (simp [st2]; omega)) dX3_advance_52 ?_
            refine g_isub dX3_advance_53 ?_
            rw [uA, dA]
            refine g_i2l (by first | omega | (simp [st2]; done) | (simp [st2]; omega)) dX3_advance_54 ?_
            refine g_aload_n rfl dX3_advance_55 ?_
            refine gf_X3_15 (c2 := 13) rfl rfl (by first | rfl | assumption) dX3_advance_56 ?_
            refine g_iload_n rfl dX3_advance_59 ?_
            refine g_iald (n := 8) (lu v) (by first | rfl | assumption) (by first | rfl | assumption) (by omega) (by first | omega | (simp [st2]; done) | (simp [st2]; omega)) (by first | omega | (simp [st2]; done) | (simp [st2]; omega)) dX3_advance_60 ?_
            refine g_aload_n rfl dX3_advance_61 ?_
            refine gf_X3_15 (c2 := 13) rfl rfl (by first | rfl | assumption) dX3_advance_62 ?_
            refine g_iload_n rfl dX3_advance_65 ?_
            refine g_iald (n := 8) (ld v) (by first | rfl | assumption) (by first | rfl | assumption) (by omega) (by first | omega | (simp [st2]; done) | (simp [st2]; omega)) (by first | omega | (simp [st2]; done) | (simp [st2]; omega)) dX3_advance_66 ?_
            refine g_isub dX3_advance_67 ?_
            rw [uB, dB]
            refine g_i2l (by first | omega | (simp [st2]; done) | (simp [st2]; omega)) dX3_advance_68 ?_
            refine g_aload_n rfl dX3_advance_69 ?_
            refine gf_X3_35 rfl (by first | rfl | assumption) dX3_advance_70 ?_
            rw [x2]
            refine g_cn3 (M2 := mX7_signOf) dX3_advance_73 nest3 kX7_signOf (by decide) (by unfold Rm; decide) (Nat.le_of_ble_eq_true rfl) (ct_X7_signOf hr (by omega) (by omega) ?_)
            rw [← es]
            refine g_istore_n (by decide) dX3_advance_76 ?_
            refine g_iload_n rfl dX3_advance_77 ?_
            refine g_if_ne (t := 84) dX3_advance_78 (by decide) (by first | omega | (simp [st2]; done) | (simp [st2]; omega)) (fun b78 => ?_) (fun b78 => ?_)
            · refine g_iload_n rfl dX3_advance_84 ?_
              refine g_if_le (t := 92) dX3_advance_85 (by decide) (by first | omega | (simp [st2]; done) | (simp [st2]; omega)) (fun b85 => ?_) (fun b85 => ?_)
              · exfalso; omega
              · refine g_iconst dX3_advance_88 ?_
                refine g_goto (t := 93) dX3_advance_89 (by decide) ?_
                refine g_istore (by decide) dX3_advance_93 ?_
                refine g_iload rfl dX3_advance_95 ?_
                refine g_if_eq (t := 104) dX3_advance_97 (by decide) (by first | omega | (simp [st2]; done) | (simp [st2]; omega)) (fun b97 => ?_) (fun b97 => ?_)
                · exact absurd b97 (by decide)
                · refine g_iload_n rfl dX3_advance_100 ?_
                  refine g_goto (t := 105) dX3_advance_101 (by decide) ?_
                  refine g_istore (by decide) dX3_advance_105 ?_
                  refine g_iload rfl dX3_advance_107 ?_
                  refine g_if_eq (t := 116) dX3_advance_109 (by decide) (by first | omega | (simp [st2]; done) | (simp [st2]; omega)) (fun b109 => ?_) (fun b109 => ?_)
                  · exact absurd b109 (by decide)
                  · refine g_iload_n rfl dX3_advance_112 ?_
                    refine g_goto (t := 117) dX3_advance_113 (by decide) ?_
                    refine g_istore (by decide) dX3_advance_117 ?_
                    refine g_aload_n rfl dX3_advance_119 ?_
                    refine g_iload rfl dX3_advance_120 ?_
                    refine g_iload rfl dX3_advance_122 ?_
                    refine g_cv2 (M2 := mX3_isSpentBy) (ci := 3) dX3_advance_124 ml_RX3_57 kX3_isSpentBy (by decide) (by first | rfl | assumption) (by decide) rfl (by unfold Rm; decide) (Nat.le_of_ble_eq_true rfl) (ct_X3_isSpentBy_11 hX hv hwn hxn (fun hs => ?_) (fun hs => ?_))
                    · refine g_if_eq (t := 133) dX3_advance_127 (by decide) (by first | omega | (simp [st2]; done) | (simp [st2]; omega)) (fun b127 => ?_) (fun b127 => ?_)
                      · exact absurd b127 (by decide)
                      · refine g_bipush (by decide) dX3_advance_130 ?_
                        refine g_ireturn rfl dX3_advance_132 ?_
                        have er := stR_u4 c0 cc hs
                        exact kE (h1 (by omega) (by omega)) er
                    · refine g_if_eq (t := 133) dX3_advance_127 (by decide) (by first | omega | (simp [st2]; done) | (simp [st2]; omega)) (fun b127 => ?_) (fun b127 => ?_)
                      · refine g_aload_n rfl dX3_advance_133 ?_
                        refine g_iload rfl dX3_advance_134 ?_
                        refine g_iload rfl dX3_advance_136 ?_
                        refine g_cv2v (M2 := mX3_shorten) (ci := 3) dX3_advance_138 ml_RX3_61 kX3_shorten rfl (by first | rfl | assumption) (by decide) rfl (by unfold Rm; decide) (Nat.le_of_ble_eq_true rfl) (ct_X3_shorten_11 hX hv hwn hxn (by omega) (fun X2 f2 a2 b2 t2 => ?_))
                        refine g_aload_n rfl dX3_advance_141 ?_
                        refine g_iload rfl dX3_advance_142 ?_
                        refine g_iload rfl dX3_advance_144 ?_
                        refine g_if_eq (t := 156) dX3_advance_146 (by decide) (by first | omega | (simp [st2]; done) | (simp [st2]; omega)) (fun b146 => ?_) (fun b146 => ?_)
                        · exact absurd b146 (by decide)
                        · refine g_aload_n rfl dX3_advance_149 ?_
                          refine gf_X3_21 (c2 := 15) rfl rfl (by first | rfl | assumption) dX3_advance_150 ?_
                          refine g_goto (t := 160) dX3_advance_153 (by decide) ?_
                          refine g_cv2v (M2 := mX3_bringLastBehind) (ci := 3) dX3_advance_160 ml_RX3_65 kX3_bringLastBehind rfl (by first | rfl | assumption) (by decide) rfl (by unfold Rm; decide) (Nat.le_of_ble_eq_true rfl) (ct_X3_bring_15 (n := vn v) (f := vu v) (w := lu v) (by rw [f2 11 0 (by decide) (by decide) (by decide)]; exact x1) (by omega) hpc (fun j hj => by rw [f2 15 j (by decide) (by decide) (by decide)]; exact (hX.2.2.1 j hj).2.2.2) hwn hpl (fun X4 f4 r4 => ?_))
                          have hM4 : MvC X4 11 (stU v) := mvC_stp hX (by rw [f4 11 0 (by decide), f2 11 0 (by decide) (by decide) (by decide)]) (by rw [f4 11 1 (by decide), f2 11 1 (by decide) (by decide) (by decide)]) (fun k hk => by
                              show X4 12 k = _
                              rw [f4 12 k (by decide)]
                              exact a2 k hk) (fun k hk => by
                              show X4 13 k = _
                              rw [f4 13 k (by decide)]
                              exact b2 k hk) (fun k hk => by
                              show X4 14 k = _
                              rw [f4 14 k (by decide), f2 14 k (by decide) (by decide) (by decide)]
                              exact (hX.2.2.1 k hk).2.2.1) r4 (fun i j hi hj => by
                              show X4 16 _ = _
                              rw [f4 16 _ (by decide)]
                              exact t2 i j hi hj)
                          obtain ⟨er, en⟩ := stR_u1 c0 cc hs
                          have g2 : X4 11 2 = X 11 2 := by rw [f4 11 2 (by decide), f2 11 2 (by decide) (by decide) (by decide)]
                          have g3 : X4 11 3 = X 11 3 := by rw [f4 11 3 (by decide), f2 11 3 (by decide) (by decide) (by decide)]
                          refine g_aload_n rfl dX3_advance_163 ?_
                          refine g_dup rfl dX3_advance_164 ?_
                          refine gf_X3_38 rfl (by first | rfl | assumption) dX3_advance_165 ?_
                          refine g_iconst dX3_advance_168 ?_
                          refine g_iadd dX3_advance_169 ?_
                          refine pf_X3_38 rfl (by first | rfl | assumption) dX3_advance_170 ?_
                          refine g_aload_n rfl dX3_advance_173 ?_
                          refine g_dup rfl dX3_advance_174 ?_
                          refine gf_X3_41 rfl (by first | rfl | assumption) dX3_advance_175 ?_
                          refine g_iload rfl dX3_advance_178 ?_
                          refine g_if_eq (t := 187) dX3_advance_180 (by decide) (by first | omega | (simp [st2]; done) | (simp [st2]; omega)) (fun b180 => ?_) (fun b180 => ?_)
                          · exact absurd b180 (by decide)
                          · refine g_iconst dX3_advance_183 ?_
                            refine g_goto (t := 188) dX3_advance_184 (by decide) ?_
                            refine g_iadd dX3_advance_188 ?_
                            refine pf_X3_41 rfl (by first | rfl | assumption) dX3_advance_189 ?_
                            refine g_iload rfl dX3_advance_192 ?_
                            refine g_if_eq (t := 201) dX3_advance_194 (by decide) (by first | omega | (simp [st2]; done) | (simp [st2]; omega)) (fun b194 => ?_) (fun b194 => ?_)
                            · exact absurd b194 (by decide)
                            · refine g_iconst dX3_advance_197 ?_
                              refine g_goto (t := 202) dX3_advance_198 (by decide) ?_
                              refine g_ireturn rfl dX3_advance_202 ?_
                              refine kE (h2 (by omega) (by omega) _ (by rw [en]; exact ⟨hM4.1, hM4.2.1, hM4.2.2.1, hM4.2.2.2⟩) ?_ ?_ (fun d j hd => ?_)) er
                              · simp [st2]
                                omega
                              · simp [st2]
                                omega
                              · have z0 : d ≠ 11 := by omega
                                simp only [st2, if_neg z0]
                                rw [f4 d j (by omega), f2 d j (by omega) (by omega) (by omega)]
                      · exact absurd rfl b127
            · exfalso; omega
          · exfalso; omega
        · exfalso; omega
      · have e3 := stR_3 c0 cc.symm
        refine g_aload_n rfl dX3_advance_0 ?_
        refine gf_X3_34 rfl (by first | rfl | assumption) dX3_advance_1 ?_
        refine g_if_ne (t := 9) dX3_advance_4 (by decide) (by first | omega | (simp [st2]; done) | (simp [st2]; omega)) (fun b4 => ?_) (fun b4 => ?_)
        · refine g_aload_n rfl dX3_advance_9 ?_
          refine gf_X3_18 (c2 := 14) rfl rfl (by first | rfl | assumption) dX3_advance_10 ?_
          refine g_aload_n rfl dX3_advance_13 ?_
          refine gf_X3_34 rfl (by first | rfl | assumption) dX3_advance_14 ?_
          refine g_iconst dX3_advance_17 ?_
          refine g_isub dX3_advance_18 ?_
          refine g_iald (n := 8) (vn v - 1) (by first | rfl | assumption) (by first | rfl | assumption) (by omega) (by first | omega | (simp [st2]; done) | (simp [st2]; omega)) (by first | omega | (simp [st2]; done) | (simp [st2]; omega)) dX3_advance_19 ?_
          rw [eu]
          refine g_istore_n (by decide) dX3_advance_20 ?_
          refine g_aload_n rfl dX3_advance_21 ?_
          refine gf_X3_21 (c2 := 15) rfl rfl (by first | rfl | assumption) dX3_advance_22 ?_
          refine g_aload_n rfl dX3_advance_25 ?_
          refine gf_X3_34 rfl (by first | rfl | assumption) dX3_advance_26 ?_
          refine g_iconst dX3_advance_29 ?_
          refine g_isub dX3_advance_30 ?_
          refine g_iald (n := 8) (vn v - 1) (by first | rfl | assumption) (by first | rfl | assumption) (by omega) (by first | omega | (simp [st2]; done) | (simp [st2]; omega)) (by first | omega | (simp [st2]; done) | (simp [st2]; omega)) dX3_advance_31 ?_
          rw [ed]
          refine g_istore_n (by decide) dX3_advance_32 ?_
          refine g_iload_n rfl dX3_advance_33 ?_
          refine g_iload_n rfl dX3_advance_34 ?_
          refine g_icmp_ne (t := 41) dX3_advance_35 (by decide) (by first | omega | (simp [st2]; done) | (simp [st2]; omega)) (by first | omega | (simp [st2]; done) | (simp [st2]; omega)) (fun b35 => ?_) (fun b35 => ?_)
          · refine g_aload_n rfl dX3_advance_41 ?_
            refine gf_X3_9 (c2 := 12) rfl rfl (by first | rfl | assumption) dX3_advance_42 ?_
            refine g_iload_n rfl dX3_advance_45 ?_
            refine g_iald (n := 8) (lu v) (by first | rfl | assumption) (by first | rfl | assumption) (by omega) (by first | omega | (simp [st2]; done) | (simp [st2]; omega)) (by first | omega | (simp [st2]; done) | (simp [st2]; omega)) dX3_advance_46 ?_
            refine g_aload_n rfl dX3_advance_47 ?_
            refine gf_X3_9 (c2 := 12) rfl rfl (by first | rfl | assumption) dX3_advance_48 ?_
            refine g_iload_n rfl dX3_advance_51 ?_
            refine g_iald (n := 8) (ld v) (by first | rfl | assumption) (by first | rfl | assumption) (by omega) (by first | omega | (simp [st2]; done) | (simp [st2]; omega)) (by first | omega | (simp [st2]; done) | (simp [st2]; omega)) dX3_advance_52 ?_
            refine g_isub dX3_advance_53 ?_
            rw [uA, dA]
            refine g_i2l (by first | omega | (simp [st2]; done) | (simp [st2]; omega)) dX3_advance_54 ?_
            refine g_aload_n rfl dX3_advance_55 ?_
            refine gf_X3_15 (c2 := 13) rfl rfl (by first | rfl | assumption) dX3_advance_56 ?_
            refine g_iload_n rfl dX3_advance_59 ?_
            refine g_iald (n := 8) (lu v) (by first | rfl | assumption) (by first | rfl | assumption) (by omega) (by first | omega | (simp [st2]; done) | (simp [st2]; omega)) (by first | omega | (simp [st2]; done) | (simp [st2]; omega)) dX3_advance_60 ?_
            refine g_aload_n rfl dX3_advance_61 ?_
            refine gf_X3_15 (c2 := 13) rfl rfl (by first | rfl | assumption) dX3_advance_62 ?_
            refine g_iload_n rfl dX3_advance_65 ?_
            refine g_iald (n := 8) (ld v) (by first | rfl | assumption) (by first | rfl | assumption) (by omega) (by first | omega | (simp [st2]; done) | (simp [st2]; omega)) (by first | omega | (simp [st2]; done) | (simp [st2]; omega)) dX3_advance_66 ?_
            refine g_isub dX3_advance_67 ?_
            rw [uB, dB]
            refine g_i2l (by first | omega | (simp [st2]; done) | (simp [st2]; omega)) dX3_advance_68 ?_
            refine g_aload_n rfl dX3_advance_69 ?_
            refine gf_X3_35 rfl (by first | rfl | assumption) dX3_advance_70 ?_
            rw [x2]
            refine g_cn3 (M2 := mX7_signOf) dX3_advance_73 nest3 kX7_signOf (by decide) (by unfold Rm; decide) (Nat.le_of_ble_eq_true rfl) (ct_X7_signOf hr (by omega) (by omega) ?_)
            rw [← es]
            refine g_istore_n (by decide) dX3_advance_76 ?_
            refine g_iload_n rfl dX3_advance_77 ?_
            refine g_if_ne (t := 84) dX3_advance_78 (by decide) (by first | omega | (simp [st2]; done) | (simp [st2]; omega)) (fun b78 => ?_) (fun b78 => ?_)
            · exfalso; omega
            · refine g_bipush (by decide) dX3_advance_81 ?_
              refine g_ireturn rfl dX3_advance_83 ?_
              exact kE (h1 (by omega) (by omega)) e3
          · exfalso; omega
        · exfalso; omega
      · have hW : s = -1 := by omega
        have hpc := hv.2.2.2.2.1
        have hne : va v (vn v - 1) ≠ ld v := fun e => c0 e
        have hpl := last_ne hpc hl.2 hne
        have hwn := hl.2
        have hxn := hl.1
        refine g_aload_n rfl dX3_advance_0 ?_
        refine gf_X3_34 rfl (by first | rfl | assumption) dX3_advance_1 ?_
        refine g_if_ne (t := 9) dX3_advance_4 (by decide) (by first | omega | (simp [st2]; done) | (simp [st2]; omega)) (fun b4 => ?_) (fun b4 => ?_)
        · refine g_aload_n rfl dX3_advance_9 ?_
          refine gf_X3_18 (c2 := 14) rfl rfl (by first | rfl | assumption) dX3_advance_10 ?_
          refine g_aload_n rfl dX3_advance_13 ?_
          refine gf_X3_34 rfl (by first | rfl | assumption) dX3_advance_14 ?_
          refine g_iconst dX3_advance_17 ?_
          refine g_isub dX3_advance_18 ?_
          refine g_iald (n := 8) (vn v - 1) (by first | rfl | assumption) (by first | rfl | assumption) (by omega) (by first | omega | (simp [st2]; done) | (simp [st2]; omega)) (by first | omega | (simp [st2]; done) | (simp [st2]; omega)) dX3_advance_19 ?_
          rw [eu]
          refine g_istore_n (by decide) dX3_advance_20 ?_
          refine g_aload_n rfl dX3_advance_21 ?_
          refine gf_X3_21 (c2 := 15) rfl rfl (by first | rfl | assumption) dX3_advance_22 ?_
          refine g_aload_n rfl dX3_advance_25 ?_
          refine gf_X3_34 rfl (by first | rfl | assumption) dX3_advance_26 ?_
          refine g_iconst dX3_advance_29 ?_
          refine g_isub dX3_advance_30 ?_
          refine g_iald (n := 8) (vn v - 1) (by first | rfl | assumption) (by first | rfl | assumption) (by omega) (by first | omega | (simp [st2]; done) | (simp [st2]; omega)) (by first | omega | (simp [st2]; done) | (simp [st2]; omega)) dX3_advance_31 ?_
          rw [ed]
          refine g_istore_n (by decide) dX3_advance_32 ?_
          refine g_iload_n rfl dX3_advance_33 ?_
          refine g_iload_n rfl dX3_advance_34 ?_
          refine g_icmp_ne (t := 41) dX3_advance_35 (by decide) (by first | omega | (simp [st2]; done) | (simp [st2]; omega)) (by first | omega | (simp [st2]; done) | (simp [st2]; omega)) (fun b35 => ?_) (fun b35 => ?_)
          · refine g_aload_n rfl dX3_advance_41 ?_
            refine gf_X3_9 (c2 := 12) rfl rfl (by first | rfl | assumption) dX3_advance_42 ?_
            refine g_iload_n rfl dX3_advance_45 ?_
            refine g_iald (n := 8) (lu v) (by first | rfl | assumption) (by first | rfl | assumption) (by omega) (by first | omega | (simp [st2]; done) | (simp [st2]; omega)) (by first | omega | (simp [st2]; done) | (simp [st2]; omega)) dX3_advance_46 ?_
            refine g_aload_n rfl dX3_advance_47 ?_
            refine gf_X3_9 (c2 := 12) rfl rfl (by first | rfl | assumption) dX3_advance_48 ?_
            refine g_iload_n rfl dX3_advance_51 ?_
            refine g_iald (n := 8) (ld v) (by first | rfl | assumption) (by first | rfl | assumption) (by omega) (by first | omega | (simp [st2]; done) | (simp [st2]; omega)) (by first | omega | (simp [st2]; done) | (simp [st2]; omega)) dX3_advance_52 ?_
            refine g_isub dX3_advance_53 ?_
            rw [uA, dA]
            refine g_i2l (by first | omega | (simp [st2]; done) | (simp [st2]; omega)) dX3_advance_54 ?_
            refine g_aload_n rfl dX3_advance_55 ?_
            refine gf_X3_15 (c2 := 13) rfl rfl (by first | rfl | assumption) dX3_advance_56 ?_
            refine g_iload_n rfl dX3_advance_59 ?_
            refine g_iald (n := 8) (lu v) (by first | rfl | assumption) (by first | rfl | assumption) (by omega) (by first | omega | (simp [st2]; done) | (simp [st2]; omega)) (by first | omega | (simp [st2]; done) | (simp [st2]; omega)) dX3_advance_60 ?_
            refine g_aload_n rfl dX3_advance_61 ?_
            refine gf_X3_15 (c2 := 13) rfl rfl (by first | rfl | assumption) dX3_advance_62 ?_
            refine g_iload_n rfl dX3_advance_65 ?_
            refine g_iald (n := 8) (ld v) (by first | rfl | assumption) (by first | rfl | assumption) (by omega) (by first | omega | (simp [st2]; done) | (simp [st2]; omega)) (by first | omega | (simp [st2]; done) | (simp [st2]; omega)) dX3_advance_66 ?_
            refine g_isub dX3_advance_67 ?_
            rw [uB, dB]
            refine g_i2l (by first | omega | (simp [st2]; done) | (simp [st2]; omega)) dX3_advance_68 ?_
            refine g_aload_n rfl dX3_advance_69 ?_
            refine gf_X3_35 rfl (by first | rfl | assumption) dX3_advance_70 ?_
            rw [x2]
            refine g_cn3 (M2 := mX7_signOf) dX3_advance_73 nest3 kX7_signOf (by decide) (by unfold Rm; decide) (Nat.le_of_ble_eq_true rfl) (ct_X7_signOf hr (by omega) (by omega) ?_)
            rw [← es]
            refine g_istore_n (by decide) dX3_advance_76 ?_
            refine g_iload_n rfl dX3_advance_77 ?_
            refine g_if_ne (t := 84) dX3_advance_78 (by decide) (by first | omega | (simp [st2]; done) | (simp [st2]; omega)) (fun b78 => ?_) (fun b78 => ?_)
            · refine g_iload_n rfl dX3_advance_84 ?_
              refine g_if_le (t := 92) dX3_advance_85 (by decide) (by first | omega | (simp [st2]; done) | (simp [st2]; omega)) (fun b85 => ?_) (fun b85 => ?_)
              · refine g_iconst dX3_advance_92 ?_
                refine g_istore (by decide) dX3_advance_93 ?_
                refine g_iload rfl dX3_advance_95 ?_
                refine g_if_eq (t := 104) dX3_advance_97 (by decide) (by first | omega | (simp [st2]; done) | (simp [st2]; omega)) (fun b97 => ?_) (fun b97 => ?_)
                · refine g_iload_n rfl dX3_advance_104 ?_
                  refine g_istore (by decide) dX3_advance_105 ?_
                  refine g_iload rfl dX3_advance_107 ?_
                  refine g_if_eq (t := 116) dX3_advance_109 (by decide) (by first | omega | (simp [st2]; done) | (simp [st2]; omega)) (fun b109 => ?_) (fun b109 => ?_)
                  · refine g_iload_n rfl dX3_advance_116 ?_
                    refine g_istore (by decide) dX3_advance_117 ?_
                    refine g_aload_n rfl dX3_advance_119 ?_
                    refine g_iload rfl dX3_advance_120 ?_
                    refine g_iload rfl dX3_advance_122 ?_
                    refine g_cv2 (M2 := mX3_isSpentBy) (ci := 3) dX3_advance_124 ml_RX3_57 kX3_isSpentBy (by decide) (by first | rfl | assumption) (by decide) rfl (by unfold Rm; decide) (Nat.le_of_ble_eq_true rfl) (ct_X3_isSpentBy_11 hX hv hwn hxn (fun hs => ?_) (fun hs => ?_))
                    · refine g_if_eq (t := 133) dX3_advance_127 (by decide) (by first | omega | (simp [st2]; done) | (simp [st2]; omega)) (fun b127 => ?_) (fun b127 => ?_)
                      · exact absurd b127 (by decide)
                      · refine g_bipush (by decide) dX3_advance_130 ?_
                        refine g_ireturn rfl dX3_advance_132 ?_
                        have er := stR_d4 c0 cc hs
                        exact kE (h1 (by omega) (by omega)) er
                    · refine g_if_eq (t := 133) dX3_advance_127 (by decide) (by first | omega | (simp [st2]; done) | (simp [st2]; omega)) (fun b127 => ?_) (fun b127 => ?_)
                      · refine g_aload_n rfl dX3_advance_133 ?_
                        refine g_iload rfl dX3_advance_134 ?_
                        refine g_iload rfl dX3_advance_136 ?_
                        refine g_cv2v (M2 := mX3_shorten) (ci := 3) dX3_advance_138 ml_RX3_61 kX3_shorten rfl (by first | rfl | assumption) (by decide) rfl (by unfold Rm; decide) (Nat.le_of_ble_eq_true rfl) (ct_X3_shorten_11 hX hv hwn hxn (by omega) (fun X2 f2 a2 b2 t2 => ?_))
                        refine g_aload_n rfl dX3_advance_141 ?_
                        refine g_iload rfl dX3_advance_142 ?_
                        refine g_iload rfl dX3_advance_144 ?_
                        refine g_if_eq (t := 156) dX3_advance_146 (by decide) (by first | omega | (simp [st2]; done) | (simp [st2]; omega)) (fun b146 => ?_) (fun b146 => ?_)
                        · refine g_aload_n rfl dX3_advance_156 ?_
                          refine gf_X3_18 (c2 := 14) rfl rfl (by first | rfl | assumption) dX3_advance_157 ?_
                          refine g_cv2v (M2 := mX3_bringLastBehind) (ci := 3) dX3_advance_160 ml_RX3_65 kX3_bringLastBehind rfl (by first | rfl | assumption) (by decide) rfl (by unfold Rm; decide) (Nat.le_of_ble_eq_true rfl) (ct_X3_bring_14 (n := vn v) (f := va v) (w := ld v) (by rw [f2 11 0 (by decide) (by decide) (by decide)]; exact x1) (by omega) hpc (fun j hj => by rw [f2 14 j (by decide) (by decide) (by decide)]; exact (hX.2.2.1 j hj).2.2.1) hwn hpl (fun X4 f4 r4 => ?_))
                          have hM4 : MvC X4 11 (stD v) := mvC_stp hX (by rw [f4 11 0 (by decide), f2 11 0 (by decide) (by decide) (by decide)]) (by rw [f4 11 1 (by decide), f2 11 1 (by decide) (by decide) (by decide)]) (fun k hk => by
                              show X4 12 k = _
                              rw [f4 12 k (by decide)]
                              exact a2 k hk) (fun k hk => by
                              show X4 13 k = _
                              rw [f4 13 k (by decide)]
                              exact b2 k hk) r4 (fun k hk => by
                              show X4 15 k = _
                              rw [f4 15 k (by decide), f2 15 k (by decide) (by decide) (by decide)]
                              exact (hX.2.2.1 k hk).2.2.2) (fun i j hi hj => by
                              show X4 16 _ = _
                              rw [f4 16 _ (by decide)]
                              exact t2 i j hi hj)
                          obtain ⟨er, en⟩ := stR_d0 c0 cc hs
                          have g2 : X4 11 2 = X 11 2 := by rw [f4 11 2 (by decide), f2 11 2 (by decide) (by decide) (by decide)]
                          have g3 : X4 11 3 = X 11 3 := by rw [f4 11 3 (by decide), f2 11 3 (by decide) (by decide) (by decide)]
                          refine g_aload_n rfl dX3_advance_163 ?_
                          refine g_dup rfl dX3_advance_164 ?_
                          refine gf_X3_38 rfl (by first | rfl | assumption) dX3_advance_165 ?_
                          refine g_iconst dX3_advance_168 ?_
                          refine g_iadd dX3_advance_169 ?_
                          refine pf_X3_38 rfl (by first | rfl | assumption) dX3_advance_170 ?_
                          refine g_aload_n rfl dX3_advance_173 ?_
                          refine g_dup rfl dX3_advance_174 ?_
                          refine gf_X3_41 rfl (by first | rfl | assumption) dX3_advance_175 ?_
                          refine g_iload rfl dX3_advance_178 ?_
                          refine g_if_eq (t := 187) dX3_advance_180 (by decide) (by first | omega | (simp [st2]; done) | (simp [st2]; omega)) (fun b180 => ?_) (fun b180 => ?_)
                          · refine g_iconst dX3_advance_187 ?_
                            refine g_iadd dX3_advance_188 ?_
                            refine pf_X3_41 rfl (by first | rfl | assumption) dX3_advance_189 ?_
                            refine g_iload rfl dX3_advance_192 ?_
                            refine g_if_eq (t := 201) dX3_advance_194 (by decide) (by first | omega | (simp [st2]; done) | (simp [st2]; omega)) (fun b194 => ?_) (fun b194 => ?_)
                            · refine g_iconst dX3_advance_201 ?_
                              refine g_ireturn rfl dX3_advance_202 ?_
                              refine kE (h2 (by omega) (by omega) _ (by rw [en]; exact ⟨hM4.1, hM4.2.1, hM4.2.2.1, hM4.2.2.2⟩) ?_ ?_ (fun d j hd => ?_)) er
                              · simp [st2]
                                omega
                              · simp [st2]
                                omega
                              · have z0 : d ≠ 11 := by omega
                                simp only [st2, if_neg z0]
                                rw [f4 d j (by omega), f2 d j (by omega) (by omega) (by omega)]
                            · exact absurd rfl b194
                          · exact absurd rfl b180
                        · exact absurd rfl b146
                      · exact absurd rfl b127
                  · exact absurd rfl b109
                · exact absurd rfl b97
              · exfalso; omega
            · exfalso; omega
          · exfalso; omega
        · exfalso; omega
