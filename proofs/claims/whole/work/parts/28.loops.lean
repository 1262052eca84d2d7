set_option maxRecDepth 100000 in
set_option maxHeartbeats 4000000 in
theorem ct_X7_loop {l : Launch} {g : Geo} {X : Mm} {K : AV → Mm → Prop} {v : Mv} (hX : MvC X 5 v) (hv : vn v ≠ 0 → Vd v) (h0 : vn v = 0 → K (vI (-1)) X) (h1 : vn v ≠ 0 → ∀ X2, (∀ d j, (d < 11 ∨ 16 < d) → X2 d j = X d j) → K (vI (lpN v 300 1 v : Int)) X2) : Ct l g mX7_loop [vR 0] X K := by
  refine enter (by decide) (Nat.le_of_ble_eq_true rfl) (fun κ => ?_)
  have x1 : X 5 0 = (vn v : Int) := hX.1
  rcases Nat.eq_zero_or_pos (vn v) with hz | hz
  · have hz2 := hz
    refine g_aload_n rfl dX7_loop_0 ?_
    refine gf_X7_23 (c2 := 5) rfl rfl (by first | rfl | assumption) dX7_loop_1 ?_
    refine gf_X7_74 rfl (by first | rfl | assumption) dX7_loop_4 ?_
    refine g_if_ne (t := 12) dX7_loop_7 (by decide) (by first | omega | (simp [st2]; done) | (simp [st2]; omega)) (fun b7 => ?_) (fun b7 => ?_)
    · exfalso; omega
    · refine g_iconst dX7_loop_10 ?_
      refine g_ireturn rfl dX7_loop_11 ?_
      exact h0 hz
  · have hv := hv (by omega)
    have hn8 := hv.2.1
    obtain ⟨R, hR⟩ : ∃ R, R = lpN v 300 1 v := ⟨_, rfl⟩
    rw [← hR] at h1
    have loop : ∀ k : Nat, k ≤ 300 → ∀ (w : Mv) (X2 : Mm), Vd w → vn w = vn v → vr w = vr v → R = lpN v (300 - k) (k + 1) w → MvC X2 11 w → (∀ d j, (d < 11 ∨ 16 < d) → X2 d j = X d j) → G l g mX7_loop κ K 25 [(0, vR 0), (1, vI ((k + 1 : Nat) : Int))] [] X2 := by
      refine upTo 300 ?_
      intro k hk ih w X2 hw hwn hwr r1 hm fr
      have hrg := stR_rng w
      refine g_iload_n rfl dX7_loop_25 ?_
      refine g_sipush (by decide) dX7_loop_26 ?_
      refine g_icmp_gt (t := 80) dX7_loop_29 (by decide) (by first | omega | (simp [st2]; done) | (simp [st2]; omega)) (by first | omega | (simp [st2]; done) | (simp [st2]; omega)) (fun b29 => ?_) (fun b29 => ?_)
      · refine g_iconst dX7_loop_80 ?_
        refine g_ireturn rfl dX7_loop_81 ?_
        rw [show 300 - k = 0 by omega, lpN] at r1
        exact kE (h1 (by omega) X2 fr) (by rw [r1]; rfl)
      · refine g_aload_n rfl dX7_loop_32 ?_
        refine gf_X7_27 (c2 := 11) rfl rfl (by first | rfl | assumption) dX7_loop_33 ?_
        refine g_cv0 (M2 := mX3_advance) (ci := 3) dX7_loop_36 ml_RX7_167 kX3_advance (by decide) (by first | rfl | assumption) (by decide) rfl (by unfold Rm; decide) (Nat.le_of_ble_eq_true rfl) (ct_X3_advance_11 (v := w) hm (fun _ => hw) (fun q => absurd q (by have := hw.1; omega)) (fun _ hneg => ?_) (fun _ hpos X3 e0 e1 e2 e3 => ?_))
        · refine g_if_ge (t := 44) dX7_loop_39 (by decide) (by first | omega | (simp [st2]; done) | (simp [st2]; omega)) (fun b39 => ?_) (fun b39 => ?_)
          · exact absurd hneg (by omega)
          · refine g_iconst dX7_loop_42 ?_
            refine g_ireturn rfl dX7_loop_43 ?_
            rw [lpN_0 hneg] at r1
            exact kE (h1 (by omega) X2 fr) (by rw [r1]; rfl)
        · refine g_if_ge (t := 44) dX7_loop_39 (by decide) (by first | omega | (simp [st2]; done) | (simp [st2]; omega)) (fun b39 => ?_) (fun b39 => ?_)
          · have hok := stN_ok hw hpos
            have fr3 : ∀ d j, (d < 11 ∨ 16 < d) → X3 d j = X d j := fun d j hd => (e3 d j hd).trans (fr d j hd)
            have hX3 : MvC X3 5 v := hX.fr (fun d k z1 z2 => fr3 d k (by omega))
            have hn3 : vn (stN w) = vn v := hok.2.1.trans hwn
            have hr3 : vr (stN w) = vr v := hok.2.2.1.trans hwr
            obtain ⟨d, hd⟩ : ∃ d, 300 - k = d + 1 := ⟨300 - k - 1, by omega⟩
            rw [hd] at r1
            have hlt : ∀ j, j < vn v → va v j < 8 ∧ vu v j < 8 ∧ va (stN w) j < 8 ∧ vu (stN w) j < 8 := fun j hj => by
              have z1 := hv.2.2.2.2.1.1 j hj
              have z2 := hv.2.2.2.2.2.1.1 j hj
              have z3 := hok.1.2.2.2.2.1.1 j (by omega)
              have z4 := hok.1.2.2.2.2.2.1.1 j (by omega)
              omega
            have no : ¬ isLp (stN w) v → G l g mX7_loop κ K 74 [(0, vR 0), (1, vI ((k + 1 : Nat) : Int))] [] X3 := by
              intro hnl
              rw [lpN_n hpos hnl] at r1
              refine g_iinc rfl (by decide) dX7_loop_74 ?_
              refine g_goto (t := 25) dX7_loop_77 (by decide) ?_
              refine g_subl [(0, vR 0), (1, vI ((k + 1 + 1 : Nat) : Int))] rfl ?_
              exact ih (k + 1) (by omega) (by omega) (stN w) X3 hok.1 hn3 hr3 (by rw [r1, show 300 - (k + 1) = d by omega]) e0 fr3
            refine g_aload_n rfl dX7_loop_44 ?_
            refine gf_X7_27 (c2 := 11) rfl rfl (by first | rfl | assumption) dX7_loop_45 ?_
            refine g_aload_n rfl dX7_loop_48 ?_
            refine gf_X7_23 (c2 := 5) rfl rfl (by first | rfl | assumption) dX7_loop_49 ?_
            refine g_cv1 (M2 := mX3_hasOrdersOf) (ci := 3) dX7_loop_52 ml_RX7_182 kX3_hasOrdersOf (by decide) (by first | rfl | assumption) (by decide) rfl (by unfold Rm; decide) (Nat.le_of_ble_eq_true rfl) (ct_X3_hasOrdersOf hX3 e0 hn3 hn8 hlt (fun ho => ?_) (fun ho => ?_))
            · refine g_if_eq (t := 74) dX7_loop_55 (by decide) (by first | omega | (simp [st2]; done) | (simp [st2]; omega)) (fun b55 => ?_) (fun b55 => ?_)
              · exact absurd b55 (by decide)
              · refine g_aload_n rfl dX7_loop_58 ?_
                refine gf_X7_27 (c2 := 11) rfl rfl (by first | rfl | assumption) dX7_loop_59 ?_
                refine g_aload_n rfl dX7_loop_62 ?_
                refine gf_X7_23 (c2 := 5) rfl rfl (by first | rfl | assumption) dX7_loop_63 ?_
                refine g_cv1 (M2 := mX3_hasSharesOf) (ci := 3) dX7_loop_66 ml_RX7_186 kX3_hasSharesOf (by decide) (by first | rfl | assumption) (by decide) rfl (by unfold Rm; decide) (Nat.le_of_ble_eq_true rfl) (ct_X3_hasSharesOf hX3 e0 hv hok.1 hn3 hr3 (fun hsh => ?_) (fun hsh => ?_))
                · refine g_if_eq (t := 74) dX7_loop_69 (by decide) (by first | omega | (simp [st2]; done) | (simp [st2]; omega)) (fun b69 => ?_) (fun b69 => ?_)
                  · exact absurd b69 (by decide)
                  · refine g_iload_n rfl dX7_loop_72 ?_
                    refine g_ireturn rfl dX7_loop_73 ?_
                    rw [lpN_y hpos ⟨ho, hsh⟩] at r1
                    exact kE (h1 (by omega) X3 fr3) (by rw [r1])
                · refine g_if_eq (t := 74) dX7_loop_69 (by decide) (by first | omega | (simp [st2]; done) | (simp [st2]; omega)) (fun b69 => ?_) (fun b69 => ?_)
                  · first
                      | exact no (fun q => ho q.1)
                      | exact no (fun q => hsh q.2)
                  · exact absurd rfl b69
            · refine g_if_eq (t := 74) dX7_loop_55 (by decide) (by first | omega | (simp [st2]; done) | (simp [st2]; omega)) (fun b55 => ?_) (fun b55 => ?_)
              · first
                  | exact no (fun q => ho q.1)
                  | exact no (fun q => hsh q.2)
              · exact absurd rfl b55
          · exact absurd hpos b39
    refine g_aload_n rfl dX7_loop_0 ?_
    refine gf_X7_23 (c2 := 5) rfl rfl (by first | rfl | assumption) dX7_loop_1 ?_
    refine gf_X7_74 rfl (by first | rfl | assumption) dX7_loop_4 ?_
    refine g_if_ne (t := 12) dX7_loop_7 (by decide) (by first | omega | (simp [st2]; done) | (simp [st2]; omega)) (fun b7 => ?_) (fun b7 => ?_)
    · refine g_aload_n rfl dX7_loop_12 ?_
      refine gf_X7_27 (c2 := 11) rfl rfl (by first | rfl | assumption) dX7_loop_13 ?_
      refine g_aload_n rfl dX7_loop_16 ?_
      refine gf_X7_23 (c2 := 5) rfl rfl (by first | rfl | assumption) dX7_loop_17 ?_
      refine g_cv1v (M2 := mX3_copyFrom) (ci := 3) dX7_loop_20 ml_RX7_178 kX3_copyFrom rfl (by first | rfl | assumption) (by decide) rfl (by unfold Rm; decide) (Nat.le_of_ble_eq_true rfl) (ct_X3_copyFrom hX hn8 (fun X2 hm fr => ?_))
      refine g_iconst dX7_loop_23 ?_
      refine g_istore_n (by decide) dX7_loop_24 ?_
      refine g_subl [(0, vR 0), (1, vI ((0 + 1 : Nat) : Int))] rfl ?_
      exact loop 0 (by omega) v X2 hv rfl rfl hR hm fr
    · exfalso; omega
/-! the reference's LOOP -/
def WasM (X : Mm) (v : Mv) : Prop := ∀ k, k < vn v → X 53 k = vA v k ∧ X 54 k = vB v k ∧ X 55 k = (va v k : Int) ∧ X 56 k = (vu v k : Int)
set_option maxRecDepth 100000 in
set_option maxHeartbeats 4000000 in
theorem ct_X8_isShare {l : Launch} {g : Geo} {X : Mm} {K : AV → Mm → Prop} {v w : Mv} {k : Nat} (hW : MvM X w) (hX : WasM X v) (hv : Vd v) (hw : Vd w) (hn : vn w = vn v) (hr : vr w = vr v) (hk : k < vn v) (h1 : shr w v k → K (vI 1) X) (h0 : ¬ shr w v k → K (vI 0) X) : Ct l g mX8_isShare [vR 44, vI (k : Int)] X K := by
  refine enter (by decide) (Nat.le_of_ble_eq_true rfl) (fun κ => ?_)
  have hn8 := hv.2.1
  have hn2 := hv.1
  have e1 := hW.2.2.1 k (by omega)
  have e2 := hW.2.2.1 0 (by omega)
  have e3 := hX k hk
  have e4 := hX 0 (by omega)
  have e5 : X 44 0 = vr v := by rw [← hr]; exact hW.2.1
  have b1 := pd_bd hw hv hn hk
  have b2 := pd_bd hv hw hn.symm (k := k) (by omega)
  have q3 := hv.2.2.1
  unfold isRoot at q3
  refine g_aload_n rfl dX8_isShare_0 ?_
  refine gf_X8_19 (c2 := 48) rfl rfl (by first | rfl | assumption) dX8_isShare_1 ?_
  refine g_iload_n rfl dX8_isShare_4 ?_
  refine g_lald (n := 8) (_) (by first | rfl | assumption) (by first | rfl | assumption) rfl (by first | omega | (simp [st2]; done) | (simp [st2]; omega)) (by first | omega | (simp [st2]; done) | (simp [st2]; omega)) dX8_isShare_5 ?_
  refine g_aload_n rfl dX8_isShare_6 ?_
  refine gf_X8_35 (c2 := 53) rfl rfl (by first | rfl | assumption) dX8_isShare_7 ?_
  refine g_iconst dX8_isShare_10 ?_
  refine g_lald (n := 8) (0) (by first | rfl | assumption) (by first | rfl | assumption) (by omega) (by first | omega | (simp [st2]; done) | (simp [st2]; omega)) (by first | omega | (simp [st2]; done) | (simp [st2]; omega)) dX8_isShare_11 ?_
  refine g_lmul dX8_isShare_12 ?_
  refine g_aload_n rfl dX8_isShare_13 ?_
  refine gf_X8_87 rfl (by first | rfl | assumption) dX8_isShare_14 ?_
  refine g_i2l (by first | omega | (simp [st2]; done) | (simp [st2]; omega)) dX8_isShare_17 ?_
  refine g_aload_n rfl dX8_isShare_18 ?_
  refine gf_X8_23 (c2 := 49) rfl rfl (by first | rfl | assumption) dX8_isShare_19 ?_
  refine g_iload_n rfl dX8_isShare_22 ?_
  refine g_lald (n := 8) (_) (by first | rfl | assumption) (by first | rfl | assumption) rfl (by first | omega | (simp [st2]; done) | (simp [st2]; omega)) (by first | omega | (simp [st2]; done) | (simp [st2]; omega)) dX8_isShare_23 ?_
  refine g_lmul dX8_isShare_24 ?_
  refine g_aload_n rfl dX8_isShare_25 ?_
  refine gf_X8_38 (c2 := 54) rfl rfl (by first | rfl | assumption) dX8_isShare_26 ?_
  refine g_iconst dX8_isShare_29 ?_
  refine g_lald (n := 8) (0) (by first | rfl | assumption) (by first | rfl | assumption) (by omega) (by first | omega | (simp [st2]; done) | (simp [st2]; omega)) (by first | omega | (simp [st2]; done) | (simp [st2]; omega)) dX8_isShare_30 ?_
  refine g_lmul dX8_isShare_31 ?_
  refine g_ladd dX8_isShare_32 ?_
  rw [e1.1, e1.2.1, e4.1, e4.2.1, e5]
  show G l g mX8_isShare κ K 33 _ [vJ (pdA w v k)] _
  refine g_lstore_n (by decide) dX8_isShare_33 ?_
  refine g_aload_n rfl dX8_isShare_34 ?_
  refine gf_X8_19 (c2 := 48) rfl rfl (by first | rfl | assumption) dX8_isShare_35 ?_
  refine g_iload_n rfl dX8_isShare_38 ?_
  refine g_lald (n := 8) (_) (by first | rfl | assumption) (by first | rfl | assumption) rfl (by first | omega | (simp [st2]; done) | (simp [st2]; omega)) (by first | omega | (simp [st2]; done) | (simp [st2]; omega)) dX8_isShare_39 ?_
  refine g_aload_n rfl dX8_isShare_40 ?_
  refine gf_X8_38 (c2 := 54) rfl rfl (by first | rfl | assumption) dX8_isShare_41 ?_
  refine g_iconst dX8_isShare_44 ?_
  refine g_lald (n := 8) (0) (by first | rfl | assumption) (by first | rfl | assumption) (by omega) (by first | omega | (simp [st2]; done) | (simp [st2]; omega)) (by first | omega | (simp [st2]; done) | (simp [st2]; omega)) dX8_isShare_45 ?_
  refine g_lmul dX8_isShare_46 ?_
  refine g_aload_n rfl dX8_isShare_47 ?_
  refine gf_X8_23 (c2 := 49) rfl rfl (by first | rfl | assumption) dX8_isShare_48 ?_
  refine g_iload_n rfl dX8_isShare_51 ?_
  refine g_lald (n := 8) (_) (by first | rfl | assumption) (by first | rfl | assumption) rfl (by first | omega | (simp [st2]; done) | (simp [st2]; omega)) (by first | omega | (simp [st2]; done) | (simp [st2]; omega)) dX8_isShare_52 ?_
  refine g_aload_n rfl dX8_isShare_53 ?_
  refine gf_X8_35 (c2 := 53) rfl rfl (by first | rfl | assumption) dX8_isShare_54 ?_
  refine g_iconst dX8_isShare_57 ?_
  refine g_lald (n := 8) (0) (by first | rfl | assumption) (by first | rfl | assumption) (by omega) (by first | omega | (simp [st2]; done) | (simp [st2]; omega)) (by first | omega | (simp [st2]; done) | (simp [st2]; omega)) dX8_isShare_58 ?_
  refine g_lmul dX8_isShare_59 ?_
  refine g_ladd dX8_isShare_60 ?_
  rw [e1.1, e1.2.1, e4.1, e4.2.1]
  show G l g mX8_isShare κ K 61 _ [vJ (pdB w v k)] _
  refine g_lstore (by decide) dX8_isShare_61 ?_
  refine g_aload_n rfl dX8_isShare_63 ?_
  refine gf_X8_35 (c2 := 53) rfl rfl (by first | rfl | assumption) dX8_isShare_64 ?_
  refine g_iload_n rfl dX8_isShare_67 ?_
  refine g_lald (n := 8) (_) (by first | rfl | assumption) (by first | rfl | assumption) rfl (by first | omega | (simp [st2]; done) | (simp [st2]; omega)) (by first | omega | (simp [st2]; done) | (simp [st2]; omega)) dX8_isShare_68 ?_
  refine g_aload_n rfl dX8_isShare_69 ?_
  refine gf_X8_19 (c2 := 48) rfl rfl (by first | rfl | assumption) dX8_isShare_70 ?_
  refine g_iconst dX8_isShare_73 ?_
  refine g_lald (n := 8) (0) (by first | rfl | assumption) (by first | rfl | assumption) (by omega) (by first | omega | (simp [st2]; done) | (simp [st2]; omega)) (by first | omega | (simp [st2]; done) | (simp [st2]; omega)) dX8_isShare_74 ?_
  refine g_lmul dX8_isShare_75 ?_
  refine g_aload_n rfl dX8_isShare_76 ?_
  refine gf_X8_87 rfl (by first | rfl | assumption) dX8_isShare_77 ?_
  refine g_i2l (by first | omega | (simp [st2]; done) | (simp [st2]; omega)) dX8_isShare_80 ?_
  refine g_aload_n rfl dX8_isShare_81 ?_
  refine gf_X8_38 (c2 := 54) rfl rfl (by first | rfl | assumption) dX8_isShare_82 ?_
  refine g_iload_n rfl dX8_isShare_85 ?_
  refine g_lald (n := 8) (_) (by first | rfl | assumption) (by first | rfl | assumption) rfl (by first | omega | (simp [st2]; done) | (simp [st2]; omega)) (by first | omega | (simp [st2]; done) | (simp [st2]; omega)) dX8_isShare_86 ?_
  refine g_lmul dX8_isShare_87 ?_
  refine g_aload_n rfl dX8_isShare_88 ?_
  refine gf_X8_23 (c2 := 49) rfl rfl (by first | rfl | assumption) dX8_isShare_89 ?_
  refine g_iconst dX8_isShare_92 ?_
  refine g_lald (n := 8) (0) (by first | rfl | assumption) (by first | rfl | assumption) (by omega) (by first | omega | (simp [st2]; done) | (simp [st2]; omega)) (by first | omega | (simp [st2]; done) | (simp [st2]; omega)) dX8_isShare_93 ?_
  refine g_lmul dX8_isShare_94 ?_
  refine g_ladd dX8_isShare_95 ?_
  rw [e3.1, e3.2.1, e2.1, e2.2.1, e5, ← hr]
  show G l g mX8_isShare κ K 96 _ [vJ (pdA v w k)] _
  refine g_lstore (by decide) dX8_isShare_96 ?_
  refine g_aload_n rfl dX8_isShare_98 ?_
  refine gf_X8_35 (c2 := 53) rfl rfl (by first | rfl | assumption) dX8_isShare_99 ?_
  refine g_iload_n rfl dX8_isShare_102 ?_
  refine g_lald (n := 8) (_) (by first | rfl | assumption) (by first | rfl | assumption) rfl (by first | omega | (simp [st2]; done) | (simp [st2]; omega)) (by first | omega | (simp [st2]; done) | (simp [st2]; omega)) dX8_isShare_103 ?_
  refine g_aload_n rfl dX8_isShare_104 ?_
  refine gf_X8_23 (c2 := 49) rfl rfl (by first | rfl | assumption) dX8_isShare_105 ?_
  refine g_iconst dX8_isShare_108 ?_
  refine g_lald (n := 8) (0) (by first | rfl | assumption) (by first | rfl | assumption) (by omega) (by first | omega | (simp [st2]; done) | (simp [st2]; omega)) (by first | omega | (simp [st2]; done) | (simp [st2]; omega)) dX8_isShare_109 ?_
  refine g_lmul dX8_isShare_110 ?_
  refine g_aload_n rfl dX8_isShare_111 ?_
  refine gf_X8_38 (c2 := 54) rfl rfl (by first | rfl | assumption) dX8_isShare_112 ?_
  refine g_iload_n rfl dX8_isShare_115 ?_
  refine g_lald (n := 8) (_) (by first | rfl | assumption) (by first | rfl | assumption) rfl (by first | omega | (simp [st2]; done) | (simp [st2]; omega)) (by first | omega | (simp [st2]; done) | (simp [st2]; omega)) dX8_isShare_116 ?_
  refine g_aload_n rfl dX8_isShare_117 ?_
  refine gf_X8_19 (c2 := 48) rfl rfl (by first | rfl | assumption) dX8_isShare_118 ?_
  refine g_iconst dX8_isShare_121 ?_
  refine g_lald (n := 8) (0) (by first | rfl | assumption) (by first | rfl | assumption) (by omega) (by first | omega | (simp [st2]; done) | (simp [st2]; omega)) (by first | omega | (simp [st2]; done) | (simp [st2]; omega)) dX8_isShare_122 ?_
  refine g_lmul dX8_isShare_123 ?_
  refine g_ladd dX8_isShare_124 ?_
  rw [e3.1, e3.2.1, e2.1, e2.2.1]
  show G l g mX8_isShare κ K 125 _ [vJ (pdB v w k)] _
  refine g_lstore (by decide) dX8_isShare_125 ?_
  refine g_lload_n rfl dX8_isShare_127 ?_
  refine g_lload rfl dX8_isShare_128 ?_
  refine g_lne (t := 146) dX8_isShare_130 dX8_isShare_131 (by decide) (by first | omega | (simp [st2]; done) | (simp [st2]; omega)) (by first | omega | (simp [st2]; done) | (simp [st2]; omega)) (fun b130 => ?_) (fun b130 => ?_)
  · refine g_iconst dX8_isShare_146 ?_
    refine g_zreturn rfl (by omega) dX8_isShare_147 ?_
    first | exact h1 ⟨by omega, by omega⟩ | exact h0 (fun q => by unfold shr at q; omega)
  · refine g_lload rfl dX8_isShare_134 ?_
    refine g_lload rfl dX8_isShare_136 ?_
    refine g_lne (t := 146) dX8_isShare_138 dX8_isShare_139 (by decide) (by first | omega | (simp [st2]; done) | (simp [st2]; omega)) (by first | omega | (simp [st2]; done) | (simp [st2]; omega)) (fun b138 => ?_) (fun b138 => ?_)
    · refine g_iconst dX8_isShare_146 ?_
      refine g_zreturn rfl (by omega) dX8_isShare_147 ?_
      first | exact h1 ⟨by omega, by omega⟩ | exact h0 (fun q => by unfold shr at q; omega)
    · refine g_iconst dX8_isShare_142 ?_
      refine g_goto (t := 147) dX8_isShare_143 (by decide) ?_
      refine g_zreturn rfl (by omega) dX8_isShare_147 ?_
      first | exact h1 ⟨by omega, by omega⟩ | exact h0 (fun q => by unfold shr at q; omega)
set_option maxRecDepth 100000 in
theorem ct_X8_isLoop {l : Launch} {g : Geo} {X : Mm} {K : AV → Mm → Prop} {v w : Mv} (hW : MvM X w) (hX : WasM X v) (hv : Vd v) (hw : Vd w) (hn : vn w = vn v) (hr : vr w = vr v) (h1 : isLp w v → K (vI 1) X) (h0 : ¬ isLp w v → K (vI 0) X) : Ct l g mX8_isLoop [vR 44] X K := by
  refine enter (by decide) (Nat.le_of_ble_eq_true rfl) (fun κ => ?_)
  have x1 : X 44 5 = (vn v : Int) := by rw [← hn]; exact hW.1
  have hn8 := hv.2.1
  have loop : ∀ i, i ≤ vn v → (∀ j, j < i → (va w j = va v j ∧ vu w j = vu v j) ∧ shr w v j) → G l g mX8_isLoop κ K 2 [(0, vR 44), (1, vI (i : Int))] [] X := by
    refine upTo (vn v) ?_
    intro i hi ih hlt
    refine g_iload_n rfl dX8_isLoop_2 ?_
    refine g_aload_n rfl dX8_isLoop_3 ?_
    refine gf_X8_94 rfl (by first | rfl | assumption) dX8_isLoop_4 ?_
    refine g_icmp_ge (t := 56) dX8_isLoop_7 (by decide) (by first | omega | (simp [st2]; done) | (simp [st2]; omega)) (by first | omega | (simp [st2]; done) | (simp [st2]; omega)) (fun b7 => ?_) (fun b7 => ?_)
    · refine g_iconst dX8_isLoop_56 ?_
      refine g_zreturn rfl (by omega) dX8_isLoop_57 ?_
      exact h1 ⟨fun j hj => (hlt j (by omega)).1, fun j hj => (hlt j (by omega)).2⟩
    · have e1 := hW.2.2.1 i (by omega)
      have e2 := hX i (by omega)
      have z1 := hv.2.2.2.2.1.1 i (by omega)
      have z2 := hv.2.2.2.2.2.1.1 i (by omega)
      have z3 := hw.2.2.2.2.1.1 i (by omega)
      have z4 := hw.2.2.2.2.2.1.1 i (by omega)
      refine g_aload_n rfl dX8_isLoop_10 ?_
      refine gf_X8_26 (c2 := 50) rfl rfl (by first | rfl | assumption) dX8_isLoop_11 ?_
      refine g_iload_n rfl dX8_isLoop_14 ?_
      refine g_iald (n := 8) (_) (by first | rfl | assumption) (by first | rfl | assumption) rfl (by first | omega | (simp [st2]; done) | (simp [st2]; omega)) (by first | omega | (simp [st2]; done) | (simp [st2]; omega)) dX8_isLoop_15 ?_
      refine g_aload_n rfl dX8_isLoop_16 ?_
      refine gf_X8_41 (c2 := 55) rfl rfl (by first | rfl | assumption) dX8_isLoop_17 ?_
      refine g_iload_n rfl dX8_isLoop_20 ?_
      refine g_iald (n := 8) (_) (by first | rfl | assumption) (by first | rfl | assumption) rfl (by first | omega | (simp [st2]; done) | (simp [st2]; omega)) (by first | omega | (simp [st2]; done) | (simp [st2]; omega)) dX8_isLoop_21 ?_
      refine g_icmp_ne (t := 48) dX8_isLoop_22 (by decide) (by first | omega | (simp [st2]; done) | (simp [st2]; omega)) (by first | omega | (simp [st2]; done) | (simp [st2]; omega)) (fun b22 => ?_) (fun b22 => ?_)
      · refine g_iconst dX8_isLoop_48 ?_
        refine g_zreturn rfl (by omega) dX8_isLoop_49 ?_
        first
          | exact h0 (fun q => hs (q.2 i (by omega)))
          | exact h0 (fun q => by have := q.1 i (by omega); omega)
      · refine g_aload_n rfl dX8_isLoop_25 ?_
        refine gf_X8_29 (c2 := 51) rfl rfl (by first | rfl | assumption) dX8_isLoop_26 ?_
        refine g_iload_n rfl dX8_isLoop_29 ?_
        refine g_iald (n := 8) (_) (by first | rfl | assumption) (by first | rfl | assumption) rfl (by first | omega | (simp [st2]; done) | (simp [st2]; omega)) (by first | omega | (simp [st2]; done) | (simp [st2]; omega)) dX8_isLoop_30 ?_
        refine g_aload_n rfl dX8_isLoop_31 ?_
        refine gf_X8_44 (c2 := 56) rfl rfl (by first | rfl | assumption) dX8_isLoop_32 ?_
        refine g_iload_n rfl dX8_isLoop_35 ?_
        refine g_iald (n := 8) (_) (by first | rfl | assumption) (by first | rfl | assumption) rfl (by first | omega | (simp [st2]; done) | (simp [st2]; omega)) (by first | omega | (simp [st2]; done) | (simp [st2]; omega)) dX8_isLoop_36 ?_
        refine g_icmp_ne (t := 48) dX8_isLoop_37 (by decide) (by first | omega | (simp [st2]; done) | (simp [st2]; omega)) (by first | omega | (simp [st2]; done) | (simp [st2]; omega)) (fun b37 => ?_) (fun b37 => ?_)
        · refine g_iconst dX8_isLoop_48 ?_
          refine g_zreturn rfl (by omega) dX8_isLoop_49 ?_
          first
            | exact h0 (fun q => hs (q.2 i (by omega)))
            | exact h0 (fun q => by have := q.1 i (by omega); omega)
        · refine g_aload_n rfl dX8_isLoop_40 ?_
          refine g_iload_n rfl dX8_isLoop_41 ?_
          refine g_cv1 (M2 := mX8_isShare) (ci := 8) dX8_isLoop_42 ml_RX8_180 kX8_isShare (by decide) (by first | rfl | assumption) (by decide) rfl (by unfold Rm; decide) (Nat.le_of_ble_eq_true rfl) (ct_X8_isShare hW hX hv hw hn hr (by omega) (fun hs => ?_) (fun hs => ?_))
          · refine g_if_ne (t := 50) dX8_isLoop_45 (by decide) (by first | omega | (simp [st2]; done) | (simp [st2]; omega)) (fun b45 => ?_) (fun b45 => ?_)
            · refine g_iinc rfl (by decide) dX8_isLoop_50 ?_
              refine g_goto (t := 2) dX8_isLoop_53 (by decide) ?_
              refine g_subl [(0, vR 44), (1, vI ((i + 1 : Nat) : Int))] rfl ?_
              refine ih (i + 1) (by omega) (by omega) (fun j hj => ?_)
              rcases Nat.lt_or_ge j i with z | z
              · exact hlt j z
              · rw [show j = i by omega]
                exact ⟨by omega, hs⟩
            · exact absurd b45 (by decide)
          · refine g_if_ne (t := 50) dX8_isLoop_45 (by decide) (by first | omega | (simp [st2]; done) | (simp [st2]; omega)) (fun b45 => ?_) (fun b45 => ?_)
            · exact absurd rfl b45
            · refine g_iconst dX8_isLoop_48 ?_
              refine g_zreturn rfl (by omega) dX8_isLoop_49 ?_
              first
                | exact h0 (fun q => hs (q.2 i (by omega)))
                | exact h0 (fun q => by have := q.1 i (by omega); omega)
  refine g_iconst dX8_isLoop_0 ?_
  refine g_istore_n (by decide) dX8_isLoop_1 ?_
  refine g_subl [(0, vR 44), (1, vI ((0 : Nat) : Int))] rfl ?_
  exact loop 0 (by omega) (fun j hj => absurd hj (by omega))
