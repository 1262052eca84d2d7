theorem NSt.fr {X X2 : Mm} {n : Nat} {S : Ol} (h : NSt X n S) (hf : ∀ d j, d ≠ 67 → d ≠ 68 → X2 d j = X d j) : NSt X2 n S := by
  obtain ⟨h1, h2⟩ := h
  refine ⟨?_, fun i hi => ?_⟩
  · rw [hf 44 35 (by decide) (by decide)]; exact h1
  · rw [hf 66 i (by decide) (by decide)]; exact h2 i hi
def FrK (X X2 : Mm) : Prop := ∀ d j, (d < 66 ∨ 68 < d) → ¬ (d = 44 ∧ j = 35) → X2 d j = X d j
set_option maxRecDepth 100000 in
set_option maxHeartbeats 4000000 in
theorem ct_X8_classes {l : Launch} {g : Geo} {X : Mm} {K : AV → Mm → Prop} {v : Mv} (hX : MvM X v) (hv0 : vn v ≠ 0 → Vd v) (h0 : vn v = 0 → K (vI (-1)) X) (h1 : 6 < vn v → K (vI (-2)) X) (h2 : vn v ≠ 0 → vn v ≤ 6 → ∀ X2, FrK X X2 → K (vI (kinN v : Int)) X2) : Ct l g mX8_classes [vR 44] X K := by
  refine enter (by decide) (Nat.le_of_ble_eq_true rfl) (fun κ => ?_)
  have x1 : X 44 5 = (vn v : Int) := hX.1
  have hn8 : vn v ≤ 8 := by
    rcases Nat.eq_zero_or_pos (vn v) with z | z
    · omega
    · exact (hv0 (by omega)).2.1
  rcases (show vn v = 0 ∨ 6 < vn v ∨ (vn v ≠ 0 ∧ vn v ≤ 6) by omega) with hc | hc | ⟨hc0, hc6⟩
  · have hzz := hc
    refine g_aload_n rfl dX8_classes_0 ?_
    refine gf_X8_94 rfl (by first | rfl | assumption) dX8_classes_1 ?_
    refine g_if_ne (t := 9) dX8_classes_4 (by decide) (by first | omega | (simp [st2]; done) | (simp [st2]; omega)) (fun b4 => ?_) (fun b4 => ?_)
    · exfalso; omega
    · refine g_iconst dX8_classes_7 ?_
      refine g_ireturn rfl dX8_classes_8 ?_
      exact h0 hc
  · have hzz := hc
    refine g_aload_n rfl dX8_classes_0 ?_
    refine gf_X8_94 rfl (by first | rfl | assumption) dX8_classes_1 ?_
    refine g_if_ne (t := 9) dX8_classes_4 (by decide) (by first | omega | (simp [st2]; done) | (simp [st2]; omega)) (fun b4 => ?_) (fun b4 => ?_)
    · refine g_aload_n rfl dX8_classes_9 ?_
      refine gf_X8_94 rfl (by first | rfl | assumption) dX8_classes_10 ?_
      refine g_bipush (by decide) dX8_classes_13 ?_
      refine g_icmp_le (t := 21) dX8_classes_15 (by decide) (by first | omega | (simp [st2]; done) | (simp [st2]; omega)) (by first | omega | (simp [st2]; done) | (simp [st2]; omega)) (fun b15 => ?_) (fun b15 => ?_)
      · exfalso; omega
      · refine g_bipush (by decide) dX8_classes_18 ?_
        refine g_ireturn rfl dX8_classes_20 ?_
        exact h1 hc
    · exfalso; omega
  have hv := hv0 hc0
  have hn2 := hv.1
  have loop : ∀ i : Nat, i ≤ 720 → ∀ X2 S, FrK X X2 → NSt X2 (vn v) S → GdO (vn v) S → (bfO (vn v) (721 - i) S i).2 = kinN v → G l g mX8_classes κ K 76 [(0, vR 44), (1, vI (i : Int))] [] X2 := by
    refine upTo 720 ?_
    intro i hi ih X2 S hfr hS hG hres
    have hle := hG.le ⟨hn2, hc6⟩
    have z1 : X2 44 35 = (S.2 : Int) := hS.1
    rw [show 721 - i = (720 - i) + 1 by omega, bfO] at hres
    have fin : i < S.2 → ∀ S3 X3, FrK X X3 → NSt X3 (vn v) S3 → GdO (vn v) S3 → (bfO (vn v) (720 - i) S3 (i + 1)).2 = kinN v → G l g mX8_classes κ K 86 [(0, vR 44), (1, vI (i : Int)), (2, vI 2)] [] X3 := by
      intro hiS S3 X3 hfr3 hS3 hG3 hres3
      refine g_iload_n rfl dX8_classes_86 ?_
      refine g_iconst dX8_classes_87 ?_
      refine g_icmp_ge (t := 178) dX8_classes_88 (by decide) (by first | omega | (simp [st2]; done) | (simp [st2]; omega)) (by first | omega | (simp [st2]; done) | (simp [st2]; omega)) (fun b88 => ?_) (fun b88 => ?_)
      · refine g_iinc rfl (by decide) dX8_classes_178 ?_
        refine g_goto (t := 76) dX8_classes_181 (by decide) ?_
        refine g_subl [(0, vR 44), (1, vI ((i + 1 : Nat) : Int))] rfl ?_
        exact ih (i + 1) (by omega) (by omega) X3 S3 hfr3 hS3 hG3 (by rw [show 721 - (i + 1) = 720 - i by omega]; exact hres3)
      · exfalso; omega
    have two : i < S.2 → ∀ S3 X3, FrK X X3 → NSt X3 (vn v) S3 → GdO (vn v) S3 → i < S3.2 → S3.1 i = S.1 i → (bfO (vn v) (720 - i) (if S.1 i (vn v - 1) = vn v - 1 then S3 else tk (vn v) S3 (vW (vn v) (S.1 i))) (i + 1)).2 = kinN v → G l g mX8_classes κ K 86 [(0, vR 44), (1, vI (i : Int)), (2, vI 1)] [] X3 := by
      intro hiS S3 X3 hfr3 hS3 hG3 hi3 he3 hres3
      have hP := hG.1 i hiS
      have hl1 := hP.1 (vn v - 1) (by omega)
      have z5 : X3 44 5 = (vn v : Int) := (hfr3 44 5 (by omega) (by omega)).trans x1
      have hle3 := hG3.le ⟨hn2, hc6⟩
      have e66 : X3 66 i = (pkl 8 (S.1 i) (vn v) : Int) := by rw [hS3.2 i hi3, he3]
      refine g_iload_n rfl dX8_classes_86 ?_
      refine g_iconst dX8_classes_87 ?_
      refine g_icmp_ge (t := 178) dX8_classes_88 (by decide) (by first | omega | (simp [st2]; done) | (simp [st2]; omega)) (by first | omega | (simp [st2]; done) | (simp [st2]; omega)) (fun b88 => ?_) (fun b88 => ?_)
      · exfalso; omega
      · refine g_aload_n rfl dX8_classes_91 ?_
        refine g_aload_n rfl dX8_classes_92 ?_
        refine gf_X8_75 (c2 := 66) rfl rfl (by first | rfl | assumption) dX8_classes_93 ?_
        refine g_iload_n rfl dX8_classes_96 ?_
        refine g_iald (n := 800) (_) (by first | rfl | assumption) (by first | rfl | assumption) rfl (by first | omega | (simp [st2]; done) | (simp [st2]; omega)) (by first | omega | (simp [st2]; done) | (simp [st2]; omega)) dX8_classes_97 ?_
        rw [e66]
        refine g_cv1v (M2 := mX8_takes) (ci := 8) dX8_classes_98 ml_RX8_209 kX8_takes rfl (by first | rfl | assumption) (by decide) rfl (by unfold Rm; decide) (Nat.le_of_ble_eq_true rfl) (ct_X8_takes z5 ⟨hn2, hc6⟩ hP.1 (fun X4 f4 r67 r68 => ?_))
        have z54 : X4 44 5 = (vn v : Int) := (f4 44 5 (by decide) (by decide)).trans z5
        have e67 : X4 67 (vn v - 1) = ((vn v - 1 : Nat) : Int) := r67 _ (by omega)
        have e68 : X4 68 (vn v - 1) = (S.1 i (vn v - 1) : Int) := r68 _ (by omega)
        have hS4 : NSt X4 (vn v) S3 := hS3.fr f4
        refine g_aload_n rfl dX8_classes_101 ?_
        refine gf_X8_78 (c2 := 67) rfl rfl (by first | rfl | assumption) dX8_classes_102 ?_
        refine g_aload_n rfl dX8_classes_105 ?_
        refine gf_X8_94 rfl (by first | rfl | assumption) dX8_classes_106 ?_
        refine g_iconst dX8_classes_109 ?_
        refine g_isub dX8_classes_110 ?_
        refine g_iald (n := 8) (vn v - 1) (by first | rfl | assumption) (by first | rfl | assumption) (by omega) (by first | omega | (simp [st2]; done) | (simp [st2]; omega)) (by first | omega | (simp [st2]; done) | (simp [st2]; omega)) dX8_classes_111 ?_
        rw [e67]
        refine g_istore_n (by decide) dX8_classes_112 ?_
        refine g_aload_n rfl dX8_classes_113 ?_
        refine gf_X8_81 (c2 := 68) rfl rfl (by first | rfl | assumption) dX8_classes_114 ?_
        refine g_aload_n rfl dX8_classes_117 ?_
        refine gf_X8_94 rfl (by first | rfl | assumption) dX8_classes_118 ?_
        refine g_iconst dX8_classes_121 ?_
        refine g_isub dX8_classes_122 ?_
        refine g_iald (n := 8) (vn v - 1) (by first | rfl | assumption) (by first | rfl | assumption) (by omega) (by first | omega | (simp [st2]; done) | (simp [st2]; omega)) (by first | omega | (simp [st2]; done) | (simp [st2]; omega)) dX8_classes_123 ?_
        rw [e68]
        refine g_istore (by decide) dX8_classes_124 ?_
        refine g_iload_n rfl dX8_classes_126 ?_
        refine g_iload rfl dX8_classes_127 ?_
        refine g_icmp_ne (t := 135) dX8_classes_129 (by decide) (by first | omega | (simp [st2]; done) | (simp [st2]; omega)) (by first | omega | (simp [st2]; done) | (simp [st2]; omega)) (fun b129 => ?_) (fun b129 => ?_)
        · have hne : S.1 i (vn v - 1) ≠ vn v - 1 := by omega
          rw [if_neg hne] at hres3
          have hpv := vW_perm hn2 hP hne
          refine g_iload_n rfl dX8_classes_135 ?_
          refine g_if_ne (t := 153) dX8_classes_136 (by decide) (by first | omega | (simp [st2]; done) | (simp [st2]; omega)) (fun b136 => ?_) (fun b136 => ?_)
          · refine g_aload_n rfl dX8_classes_153 ?_
            refine g_aload_n rfl dX8_classes_154 ?_
            refine gf_X8_78 (c2 := 67) rfl rfl (by first | rfl | assumption) dX8_classes_155 ?_
            refine g_iload_n rfl dX8_classes_158 ?_
            refine g_iload rfl dX8_classes_159 ?_
            refine g_cv3v (M2 := mX8_brings) (ci := 8) dX8_classes_161 ml_RX8_171 kX8_brings rfl (by first | rfl | assumption) (by decide) rfl (by unfold Rm; decide) (Nat.le_of_ble_eq_true rfl) (ct_X8_brings (n := vn v) (o := 67) (k := vn v - 1) (w := S.1 i (vn v - 1)) (f := fun k => k) z54 ⟨hn2, hn8⟩ (Perm.id _) rfl rfl (by decide) r67 hl1 (by rw [id_pos hl1]; omega) (fun X5 f5 r5 => ?_))
            rw [id_pos hl1] at r5
            have z55 : X5 44 5 = (vn v : Int) := (f5 44 5 (by decide)).trans z54
            have hS5 : NSt X5 (vn v) S3 := hS4.fr (fun d j a _ => f5 d j a)
            have r685 : Rw X5 68 (vn v) (S.1 i) := fun j hj => (f5 68 j (by decide)).trans (r68 j hj)
            refine g_aload_n rfl dX8_classes_164 ?_
            refine g_aload_n rfl dX8_classes_165 ?_
            refine g_cv0 (M2 := mX8_numbered) (ci := 8) dX8_classes_166 ml_RX8_203 kX8_numbered (by decide) (by first | rfl | assumption) (by decide) rfl (by unfold Rm; decide) (Nat.le_of_ble_eq_true rfl) (ct_X8_numbered z55 ⟨hn2, hc6⟩ (up_perm (by omega)) hP.1 r5 r685 ?_)
            rw [show pkl 8 (fun j => posI (brg (fun k => k) (S.1 i (vn v - 1)) (vn v - 1)) (S.1 i j) (vn v)) (vn v) = pkl 8 (vW (vn v) (S.1 i)) (vn v) from pkl_cong _ (fun j hj => up_pos (by omega) (hP.1 j hj))]
            refine g_cv1v (M2 := mX8_notes) (ci := 8) dX8_classes_169 ml_RX8_206 kX8_notes rfl (by first | rfl | assumption) (by decide) rfl (by unfold Rm; decide) (Nat.le_of_ble_eq_true rfl) (ct_X8_notes hS5 ⟨hn2, hc6⟩ hG3 hpv (fun X6 f6 hS6 => ?_))
            refine g_iinc rfl (by decide) dX8_classes_172 ?_
            refine g_goto (t := 86) dX8_classes_175 (by decide) ?_
            refine g_subl [(0, vR 44), (1, vI (i : Int)), (2, vI 2)] rfl ?_
            first
              | (refine fin hiS _ X6 (fun d j hd hq => ?_) hS6 (hG3.tkk hpv) hres3
                 rw [f6 d j (by omega) hq, f5 d j (by omega), f4 d j (by omega) (by omega)]
                 exact hfr3 d j hd hq)
              | (refine fin hiS S3 X4 (fun d j hd hq => ?_) hS4 hG3 hres3
                 rw [f4 d j (by omega) (by omega)]
                 exact hfr3 d j hd hq)
          · exfalso; omega
        · rw [if_pos (by omega)] at hres3
          refine g_goto (t := 172) dX8_classes_132 (by decide) ?_
          refine g_iinc rfl (by decide) dX8_classes_172 ?_
          refine g_goto (t := 86) dX8_classes_175 (by decide) ?_
          refine g_subl [(0, vR 44), (1, vI (i : Int)), (2, vI 2)] rfl ?_
          first
            | (refine fin hiS _ X6 (fun d j hd hq => ?_) hS6 (hG3.tkk hpv) hres3
               rw [f6 d j (by omega) hq, f5 d j (by omega), f4 d j (by omega) (by omega)]
               exact hfr3 d j hd hq)
            | (refine fin hiS S3 X4 (fun d j hd hq => ?_) hS4 hG3 hres3
               rw [f4 d j (by omega) (by omega)]
               exact hfr3 d j hd hq)
    have one : i < S.2 → (bfO (vn v) (720 - i) (exO (vn v) S i) (i + 1)).2 = kinN v → G l g mX8_classes κ K 86 [(0, vR 44), (1, vI (i : Int)), (2, vI 0)] [] X2 := by
      intro hiS hres3
      have hP := hG.1 i hiS
      have hl1 := hP.1 (vn v - 1) (by omega)
      have z5 : X2 44 5 = (vn v : Int) := (hfr 44 5 (by omega) (by omega)).trans x1
      have e66 : X2 66 i = (pkl 8 (S.1 i) (vn v) : Int) := hS.2 i hiS
      unfold exO at hres3
      refine g_iload_n rfl dX8_classes_86 ?_
      refine g_iconst dX8_classes_87 ?_
      refine g_icmp_ge (t := 178) dX8_classes_88 (by decide) (by first | omega | (simp [st2]; done) | (simp [st2]; omega)) (by first | omega | (simp [st2]; done) | (simp [st2]; omega)) (fun b88 => ?_) (fun b88 => ?_)
      · exfalso; omega
      · refine g_aload_n rfl dX8_classes_91 ?_
        refine g_aload_n rfl dX8_classes_92 ?_
        refine gf_X8_75 (c2 := 66) rfl rfl (by first | rfl | assumption) dX8_classes_93 ?_
        refine g_iload_n rfl dX8_classes_96 ?_
        refine g_iald (n := 800) (_) (by first | rfl | assumption) (by first | rfl | assumption) rfl (by first | omega | (simp [st2]; done) | (simp [st2]; omega)) (by first | omega | (simp [st2]; done) | (simp [st2]; omega)) dX8_classes_97 ?_
        rw [e66]
        refine g_cv1v (M2 := mX8_takes) (ci := 8) dX8_classes_98 ml_RX8_209 kX8_takes rfl (by first | rfl | assumption) (by decide) rfl (by unfold Rm; decide) (Nat.le_of_ble_eq_true rfl) (ct_X8_takes z5 ⟨hn2, hc6⟩ hP.1 (fun X4 f4 r67 r68 => ?_))
        have z54 : X4 44 5 = (vn v : Int) := (f4 44 5 (by decide) (by decide)).trans z5
        have e67 : X4 67 (vn v - 1) = ((vn v - 1 : Nat) : Int) := r67 _ (by omega)
        have e68 : X4 68 (vn v - 1) = (S.1 i (vn v - 1) : Int) := r68 _ (by omega)
        have hS4 : NSt X4 (vn v) S := hS.fr f4
        refine g_aload_n rfl dX8_classes_101 ?_
        refine gf_X8_78 (c2 := 67) rfl rfl (by first | rfl | assumption) dX8_classes_102 ?_
        refine g_aload_n rfl dX8_classes_105 ?_
        refine gf_X8_94 rfl (by first | rfl | assumption) dX8_classes_106 ?_
        refine g_iconst dX8_classes_109 ?_
        refine g_isub dX8_classes_110 ?_
        refine g_iald (n := 8) (vn v - 1) (by first | rfl | assumption) (by first | rfl | assumption) (by omega) (by first | omega | (simp [st2]; done) | (simp [st2]; omega)) (by first | omega | (simp [st2]; done) | (simp [st2]; omega)) dX8_classes_111 ?_
        rw [e67]
        refine g_istore_n (by decide) dX8_classes_112 ?_
        refine g_aload_n rfl dX8_classes_113 ?_
        refine gf_X8_81 (c2 := 68) rfl rfl (by first | rfl | assumption) dX8_classes_114 ?_
        refine g_aload_n rfl dX8_classes_117 ?_
        refine gf_X8_94 rfl (by first | rfl | assumption) dX8_classes_118 ?_
        refine g_iconst dX8_classes_121 ?_
        refine g_isub dX8_classes_122 ?_
        refine g_iald (n := 8) (vn v - 1) (by first | rfl | assumption) (by first | rfl | assumption) (by omega) (by first | omega | (simp [st2]; done) | (simp [st2]; omega)) (by first | omega | (simp [st2]; done) | (simp [st2]; omega)) dX8_classes_123 ?_
        rw [e68]
        refine g_istore (by decide) dX8_classes_124 ?_
        refine g_iload_n rfl dX8_classes_126 ?_
        refine g_iload rfl dX8_classes_127 ?_
        refine g_icmp_ne (t := 135) dX8_classes_129 (by decide) (by first | omega | (simp [st2]; done) | (simp [st2]; omega)) (by first | omega | (simp [st2]; done) | (simp [st2]; omega)) (fun b129 => ?_) (fun b129 => ?_)
        · have hne : S.1 i (vn v - 1) ≠ vn v - 1 := by omega
          rw [if_neg hne] at hres3
          have hpu := uW_perm hn2 hP hne
          refine g_iload_n rfl dX8_classes_135 ?_
          refine g_if_ne (t := 153) dX8_classes_136 (by decide) (by first | omega | (simp [st2]; done) | (simp [st2]; omega)) (fun b136 => ?_) (fun b136 => ?_)
          · exfalso; omega
          · refine g_aload_n rfl dX8_classes_139 ?_
            refine g_aload_n rfl dX8_classes_140 ?_
            refine gf_X8_81 (c2 := 68) rfl rfl (by first | rfl | assumption) dX8_classes_141 ?_
            refine g_iload rfl dX8_classes_144 ?_
            refine g_iload_n rfl dX8_classes_146 ?_
            refine g_cv3v (M2 := mX8_brings) (ci := 8) dX8_classes_147 ml_RX8_171 kX8_brings rfl (by first | rfl | assumption) (by decide) rfl (by unfold Rm; decide) (Nat.le_of_ble_eq_true rfl) (ct_X8_brings (n := vn v) (o := 68) (k := S.1 i (vn v - 1)) (w := vn v - 1) (f := S.1 i) z54 ⟨hn2, hn8⟩ hP rfl rfl (by decide) r68 (by omega) (last_ne hP (by omega) hne) (fun X5 f5 r5 => ?_))
            have z55 : X5 44 5 = (vn v : Int) := (f5 44 5 (by decide)).trans z54
            have hS5 : NSt X5 (vn v) S := hS4.fr (fun d j _ a => f5 d j a)
            have r675 : Rw X5 67 (vn v) (fun k => k) := fun j hj => (f5 67 j (by decide)).trans (r67 j hj)
            refine g_goto (t := 164) dX8_classes_150 (by decide) ?_
            refine g_aload_n rfl dX8_classes_164 ?_
            refine g_aload_n rfl dX8_classes_165 ?_
            refine g_cv0 (M2 := mX8_numbered) (ci := 8) dX8_classes_166 ml_RX8_203 kX8_numbered (by decide) (by first | rfl | assumption) (by decide) rfl (by unfold Rm; decide) (Nat.le_of_ble_eq_true rfl) (ct_X8_numbered z55 ⟨hn2, hc6⟩ (Perm.id _) hpu.1 r675 r5 ?_)
            rw [show pkl 8 (fun j => posI (fun k => k) (uW (vn v) (S.1 i) j) (vn v)) (vn v) = pkl 8 (uW (vn v) (S.1 i)) (vn v) from pkl_cong _ (fun j hj => id_pos (hpu.1 j hj))]
            refine g_cv1v (M2 := mX8_notes) (ci := 8) dX8_classes_169 ml_RX8_206 kX8_notes rfl (by first | rfl | assumption) (by decide) rfl (by unfold Rm; decide) (Nat.le_of_ble_eq_true rfl) (ct_X8_notes hS5 ⟨hn2, hc6⟩ hG hpu (fun X6 f6 hS6 => ?_))
            refine g_iinc rfl (by decide) dX8_classes_172 ?_
            refine g_goto (t := 86) dX8_classes_175 (by decide) ?_
            refine g_subl [(0, vR 44), (1, vI (i : Int)), (2, vI 1)] rfl ?_
            first
              | (have hpre := tk_pre (n := vn v) (S := S) (f := uW (vn v) (S.1 i))
                 refine two hiS _ X6 (fun d j hd hq => ?_) hS6 (hG.tkk hpu) (by omega) (hpre.2 i hiS) (by rw [if_neg hne]; exact hres3)
                 rw [f6 d j (by omega) hq, f5 d j (by omega), f4 d j (by omega) (by omega)]
                 exact hfr d j hd hq)
              | (refine two hiS S X4 (fun d j hd hq => ?_) hS4 hG hiS rfl (by rw [if_pos heq]; exact hres3)
                 rw [f4 d j (by omega) (by omega)]
                 exact hfr d j hd hq)
        · have heq : S.1 i (vn v - 1) = vn v - 1 := by omega
          rw [if_pos heq] at hres3
          refine g_goto (t := 172) dX8_classes_132 (by decide) ?_
          refine g_iinc rfl (by decide) dX8_classes_172 ?_
          refine g_goto (t := 86) dX8_classes_175 (by decide) ?_
          refine g_subl [(0, vR 44), (1, vI (i : Int)), (2, vI 1)] rfl ?_
          first
            | (have hpre := tk_pre (n := vn v) (S := S) (f := uW (vn v) (S.1 i))
               refine two hiS _ X6 (fun d j hd hq => ?_) hS6 (hG.tkk hpu) (by omega) (hpre.2 i hiS) (by rw [if_neg hne]; exact hres3)
               rw [f6 d j (by omega) hq, f5 d j (by omega), f4 d j (by omega) (by omega)]
               exact hfr d j hd hq)
            | (refine two hiS S X4 (fun d j hd hq => ?_) hS4 hG hiS rfl (by rw [if_pos heq]; exact hres3)
               rw [f4 d j (by omega) (by omega)]
               exact hfr d j hd hq)
    refine g_iload_n rfl dX8_classes_76 ?_
    refine g_aload_n rfl dX8_classes_77 ?_
    refine gf_X8_200 rfl (by first | rfl | assumption) dX8_classes_78 ?_
    refine g_icmp_ge (t := 184) dX8_classes_81 (by decide) (by first | omega | (simp [st2]; done) | (simp [st2]; omega)) (by first | omega | (simp [st2]; done) | (simp [st2]; omega)) (fun b81 => ?_) (fun b81 => ?_)
    · rw [if_neg (by omega)] at hres
      refine g_aload_n rfl dX8_classes_184 ?_
      refine gf_X8_200 rfl (by first | rfl | assumption) dX8_classes_185 ?_
      refine g_ireturn rfl dX8_classes_188 ?_
      exact kE (h2 hc0 hc6 X2 hfr) (by omega)
    · have hiS : i < S.2 := by omega
      rw [if_pos hiS] at hres
      refine g_iconst dX8_classes_84 ?_
      refine g_istore_n (by decide) dX8_classes_85 ?_
      refine g_subl [(0, vR 44), (1, vI (i : Int)), (2, vI 0)] rfl ?_
      exact one hiS hres
  have loop0 : ∀ i : Nat, i ≤ vn v → ∀ X2, FrK X X2 → Rw X2 67 i (va v) → Rw X2 68 i (vu v) → G l g mX8_classes κ K 23 [(0, vR 44), (1, vI (i : Int))] [] X2 := by
    refine upTo (vn v) ?_
    intro i hi ih X2 hfr r67 r68
    have z5 : X2 44 5 = (vn v : Int) := (hfr 44 5 (by omega) (by omega)).trans x1
    refine g_iload_n rfl dX8_classes_23 ?_
    refine g_aload_n rfl dX8_classes_24 ?_
    refine gf_X8_94 rfl (by first | rfl | assumption) dX8_classes_25 ?_
    refine g_icmp_ge (t := 61) dX8_classes_28 (by decide) (by first | omega | (simp [st2]; done) | (simp [st2]; omega)) (by first | omega | (simp [st2]; done) | (simp [st2]; omega)) (fun b28 => ?_) (fun b28 => ?_)
    · obtain rfl : i = vn v := by omega
      refine g_aload_n rfl dX8_classes_61 ?_
      refine g_iconst dX8_classes_62 ?_
      refine pf_X8_200 rfl (by first | rfl | assumption) dX8_classes_63 ?_
      refine g_aload_n rfl dX8_classes_66 ?_
      refine g_aload_n rfl dX8_classes_67 ?_
      refine g_cv0 (M2 := mX8_numbered) (ci := 8) dX8_classes_68 ml_RX8_203 kX8_numbered (by decide) (by first | rfl | assumption) (by decide) rfl (by unfold Rm; decide) (Nat.le_of_ble_eq_true rfl) (ct_X8_numbered (X := st2 X2 44 35 0) z5 ⟨hn2, hc6⟩ hv.2.2.2.2.1 hv.2.2.2.2.2.1.1 r67 r68 ?_)
      have hS0 : NSt (st2 X2 44 35 0) (vn v) (fun _ _ => 0, 0) := ⟨rfl, fun q hq => absurd hq (Nat.not_lt_zero _)⟩
      have hG0 : GdO (vn v) (fun _ _ => 0, 0) := ⟨fun q hq => absurd hq (Nat.not_lt_zero _), fun q k _ hk => absurd hk (Nat.not_lt_zero _)⟩
      refine g_cv1v (M2 := mX8_notes) (ci := 8) dX8_classes_71 ml_RX8_206 kX8_notes rfl (by first | rfl | assumption) (by decide) rfl (by unfold Rm; decide) (Nat.le_of_ble_eq_true rfl) (ct_X8_notes (f := nmA v) hS0 ⟨hn2, hc6⟩ hG0 (nmA_perm hv) (fun X3 f3 hS3 => ?_))
      refine g_iconst dX8_classes_74 ?_
      refine g_istore_n (by decide) dX8_classes_75 ?_
      refine g_subl [(0, vR 44), (1, vI ((0 : Nat) : Int))] rfl ?_
      refine loop 0 (by omega) X3 _ (fun d j hd hq => ?_) hS3 (hG0.tkk (nmA_perm hv)) rfl
      rw [f3 d j (by omega) hq]
      by_cases z : d = 44
      · have z3 : j ≠ 35 := fun w => hq ⟨z, w⟩
        subst z
        simp [st2, z3]
        exact hfr 44 j hd hq
      · simp only [st2, if_neg z]
        exact hfr d j hd hq
    · have hx3 := hX.2.2.1 i (by omega)
      have e50 : X2 50 i = (va v i : Int) := (hfr 50 i (by omega) (by omega)).trans hx3.2.2.1
      have e51 : ∀ w, st2 X2 67 i w 51 i = (vu v i : Int) := fun w => (hfr 51 i (by omega) (by omega)).trans hx3.2.2.2
      refine g_aload_n rfl dX8_classes_31 ?_
      refine gf_X8_78 (c2 := 67) rfl rfl (by first | rfl | assumption) dX8_classes_32 ?_
      refine g_iload_n rfl dX8_classes_35 ?_
      refine g_aload_n rfl dX8_classes_36 ?_
      refine gf_X8_26 (c2 := 50) rfl rfl (by first | rfl | assumption) dX8_classes_37 ?_
      refine g_iload_n rfl dX8_classes_40 ?_
      refine g_iald (n := 8) (_) (by first | rfl | assumption) (by first | rfl | assumption) rfl (by first | omega | (simp [st2]; done) | (simp [st2]; omega)) (by first | omega | (simp [st2]; done) | (simp [st2]; omega)) dX8_classes_41 ?_
      refine g_iast (n := 8) (_) (by first | rfl | assumption) (by first | rfl | assumption) rfl (by first | omega | (simp [st2]; done) | (simp [st2]; omega)) (by first | omega | (simp [st2]; done) | (simp [st2]; omega)) dX8_classes_42 ?_
      refine g_aload_n rfl dX8_classes_43 ?_
      refine gf_X8_81 (c2 := 68) rfl rfl (by first | rfl | assumption) dX8_classes_44 ?_
      refine g_iload_n rfl dX8_classes_47 ?_
      refine g_aload_n rfl dX8_classes_48 ?_
      refine gf_X8_29 (c2 := 51) rfl rfl (by first | rfl | assumption) dX8_classes_49 ?_
      refine g_iload_n rfl dX8_classes_52 ?_
      refine g_iald (n := 8) (_) (by first | rfl | assumption) (by first | rfl | assumption) rfl (by first | omega | (simp [st2]; done) | (simp [st2]; omega)) (by first | omega | (simp [st2]; done) | (simp [st2]; omega)) dX8_classes_53 ?_
      refine g_iast (n := 8) (_) (by first | rfl | assumption) (by first | rfl | assumption) rfl (by first | omega | (simp [st2]; done) | (simp [st2]; omega)) (by first | omega | (simp [st2]; done) | (simp [st2]; omega)) dX8_classes_54 ?_
      refine g_iinc rfl (by decide) dX8_classes_55 ?_
      refine g_goto (t := 23) dX8_classes_58 (by decide) ?_
      refine g_subl [(0, vR 44), (1, vI ((i + 1 : Nat) : Int))] rfl ?_
      refine ih (i + 1) (by omega) (by omega) _ (fun d j hd hq => ?_) (fun c hc => ?_) (fun c hc => ?_)
      · have q1 : d ≠ 67 := by omega
        have q2 : d ≠ 68 := by omega
        simp only [st2, if_neg q1, if_neg q2]
        exact hfr d j hd hq
      · by_cases z : c = i
        · subst z
          simp [st2, e50]
        · simp [st2, z]
          exact r67 c (by omega)
      · by_cases z : c = i
        · subst z
          have e51b : X2 51 c = (vu v c : Int) := e51 0
          simp [st2, e51b]
        · simp [st2, z]
          exact r68 c (by omega)
  refine g_aload_n rfl dX8_classes_0 ?_
  refine gf_X8_94 rfl (by first | rfl | assumption) dX8_classes_1 ?_
  refine g_if_ne (t := 9) dX8_classes_4 (by decide) (by first | omega | (simp [st2]; done) | (simp [st2]; omega)) (fun b4 => ?_) (fun b4 => ?_)
  · refine g_aload_n rfl dX8_classes_9 ?_
    refine gf_X8_94 rfl (by first | rfl | assumption) dX8_classes_10 ?_
    refine g_bipush (by decide) dX8_classes_13 ?_
    refine g_icmp_le (t := 21) dX8_classes_15 (by decide) (by first | omega | (simp [st2]; done) | (simp [st2]; omega)) (by first | omega | (simp [st2]; done) | (simp [st2]; omega)) (fun b15 => ?_) (fun b15 => ?_)
    · refine g_iconst dX8_classes_21 ?_
      refine g_istore_n (by decide) dX8_classes_22 ?_
      refine g_subl [(0, vR 44), (1, vI ((0 : Nat) : Int))] rfl ?_
      exact loop0 0 (by omega) X (fun _ _ _ _ => rfl) (fun c hc => by omega) (fun c hc => by omega)
    · exfalso; omega
  · exfalso; omega
