/-- what is told of the rounds whose least piece is below k -/
def RdS (X : Mm) (v : Mv) (c1 c2 c3 k : Nat) : Prop := ∀ q, q < k → unP (pN v) (pT v) (pR v) q = true → X c1 (nRd v q) = (mnP (pN v) (pT v) (pR v) q : Int) ∧ X c2 (nRd v q) = (perP (pN v) (pT v) q : Int) ∧ X c3 (nRd v q) = (q : Int)
theorem nRd_s (v : Mv) (k : Nat) : nRd v (k + 1) = nRd v k + (if unP (pN v) (pT v) (pR v) k = true then 1 else 0) := fb_ct_succ _ _
theorem nRd_mono (v : Mv) {i j : Nat} (h : i ≤ j) : nRd v i ≤ nRd v j := fb_ct_mono _ h
theorem RdS.fr {X X2 : Mm} {v : Mv} {c1 c2 c3 k : Nat} (h : RdS X v c1 c2 c3 k) (e : ∀ j, X2 c1 j = X c1 j ∧ X2 c2 j = X c2 j ∧ X2 c3 j = X c3 j) : RdS X2 v c1 c2 c3 k := fun q hq hu => by
  rw [(e _).1, (e _).2.1, (e _).2.2]
  exact h q hq hu
theorem RdS.skip {X : Mm} {v : Mv} {c1 c2 c3 k : Nat} (h : RdS X v c1 c2 c3 k) (hu : ¬ unP (pN v) (pT v) (pR v) k = true) : RdS X v c1 c2 c3 (k + 1) := fun q hq hq2 => by
  rcases Nat.lt_or_ge q k with z | z
  · exact h q z hq2
  · rw [show q = k by omega] at hq2
    exact absurd hq2 hu
theorem RdS.add {X X2 : Mm} {v : Mv} {c1 c2 c3 k : Nat} (h : RdS X v c1 c2 c3 k) (e : ∀ j, j ≠ nRd v k → X2 c1 j = X c1 j ∧ X2 c2 j = X c2 j ∧ X2 c3 j = X c3 j) (e1 : X2 c1 (nRd v k) = (mnP (pN v) (pT v) (pR v) k : Int)) (e2 : X2 c2 (nRd v k) = (perP (pN v) (pT v) k : Int)) (e3 : X2 c3 (nRd v k) = (k : Int)) : RdS X2 v c1 c2 c3 (k + 1) := fun q hq hu => by
  rcases Nat.lt_or_ge q k with z | z
  · have h1 := nRd_s v q
    rw [if_pos hu] at h1
    have h2 := nRd_mono v (i := q + 1) (j := k) (by omega)
    obtain ⟨a, b, c⟩ := e (nRd v q) (by omega)
    rw [a, b, c]
    exact h q z hu
  · rw [show q = k by omega]
    exact ⟨e1, e2, e3⟩
set_option maxRecDepth 100000 in
set_option maxHeartbeats 4000000 in
theorem ct_X1_tell {l : Launch} {g : Geo} {X : Mm} {K : AV → Mm → Prop} {v : Mv} (hW : WayC X 17 v (va v) (vu v)) (hv : Vd v) (hr : vr v = 0) (hN : pN v ≤ 2000) (hk : ∀ X2, (∀ d j, (d < 31 ∨ 36 < d) → X2 d j = X d j) → X2 31 0 = (nRd v (pN v) : Int) → RdS X2 v 32 33 34 (pN v) → K (vI 0) X2) : Ct l g mX1_tell [vR 31, vR 17, vI (pN v : Int)] X K := by
  refine enter (by decide) (Nat.le_of_ble_eq_true rfl) (fun κ => ?_)
  have hn8 := hv.2.1
  have hP := pcs_ok hv hr
  have hle := nRd_le hv hr
  have loop : ∀ k, k ≤ pN v → ∀ X2, (∀ d j, (d < 31 ∨ 36 < d) → X2 d j = X d j) → X2 31 0 = (nRd v k : Int) → ToC X2 v → RmC X2 v (SnP (pN v) (pT v) (pR v) k) → RdS X2 v 32 33 34 k → G l g mX1_tell κ K 12 [(0, vR 31), (1, vR 17), (2, vI (pN v : Int)), (3, vI (k : Int))] [] X2 := by
    refine upTo _ ?_
    intro k hkN ih X2 hfr z0 hT hR hRd
    have hm := nRd_mono v hkN
    refine g_iload_n rfl dX1_tell_12 ?_
    refine g_iload_n rfl dX1_tell_13 ?_
    refine g_icmp_ge (t := 61) dX1_tell_14 (by decide) (by first | omega | (simp [st2]; done) | (simp [st2]; omega)) (by first | omega | (simp [st2]; done) | (simp [st2]; omega)) (fun b14 => ?_) (fun b14 => ?_)
    · obtain rfl : k = pN v := by omega
      refine g_return rfl dX1_tell_61 ?_
      first
        | exact hk X2 hfr z0 hRd
        | (have he : nRd v k = nRd v (pN v) := by omega
           refine hk X2 hfr (by rw [← he]; exact z0) (fun q hq hu => ?_)
           rcases Nat.lt_or_ge q k with z | z
           · exact hRd q z hu
           · exfalso
             have h1 := nRd_s v q
             rw [if_pos hu] at h1
             have h2 := nRd_mono v (i := q + 1) (j := pN v) (by omega)
             have h3 := nRd_mono v z
             omega)
    · have hkl : k < pN v := by omega
      have hr1 := hP.2.2.1 k hkl
      refine g_aload_n rfl dX1_tell_17 ?_
      refine gf_X1_31 rfl (by first | rfl | assumption) dX1_tell_18 ?_
      refine g_bipush (by decide) dX1_tell_21 ?_
      refine g_icmp_ge (t := 61) dX1_tell_23 (by decide) (by first | omega | (simp [st2]; done) | (simp [st2]; omega)) (by first | omega | (simp [st2]; done) | (simp [st2]; omega)) (fun b23 => ?_) (fun b23 => ?_)
      · refine g_return rfl dX1_tell_61 ?_
        first
          | exact hk X2 hfr z0 hRd
          | (have he : nRd v k = nRd v (pN v) := by omega
             refine hk X2 hfr (by rw [← he]; exact z0) (fun q hq hu => ?_)
             rcases Nat.lt_or_ge q k with z | z
             · exact hRd q z hu
             · exfalso
               have h1 := nRd_s v q
               rw [if_pos hu] at h1
               have h2 := nRd_mono v (i := q + 1) (j := pN v) (by omega)
               have h3 := nRd_mono v z
               omega)
      · refine g_aload_n rfl dX1_tell_26 ?_
        refine gf_X1_24 (c2 := 36) rfl rfl (by first | rfl | assumption) dX1_tell_27 ?_
        refine g_iload_n rfl dX1_tell_30 ?_
        refine g_iald (n := 2000) (_) (by first | rfl | assumption) (by first | rfl | assumption) rfl (by first | omega | (simp [st2]; done) | (simp [st2]; omega)) (by first | omega | (simp [st2]; done) | (simp [st2]; omega)) dX1_tell_31 ?_
        refine g_if_le (t := 55) dX1_tell_32 (by decide) (by
rcases Classical.em (SnP (pN v) (pT v) (pR v) k k) with w | w
· rw [(hR k hkl).1 w]; omega
· rw [(hR k hkl).2 w]; omega) (fun b32 => ?_) (fun b32 => ?_)
        · have hsn : SnP (pN v) (pT v) (pR v) k k := by
            rcases Classical.em (SnP (pN v) (pT v) (pR v) k k) with w | w
            · exact w
            · have := (hR k hkl).2 w
              omega
          refine g_iinc rfl (by decide) dX1_tell_55 ?_
          refine g_goto (t := 12) dX1_tell_58 (by decide) ?_
          first
            | (have hu2 : ¬ unP (pN v) (pT v) (pR v) k = true := fun w => unP_iff.mp w hsn
               have hns := nRd_s v k
               rw [if_neg hu2, Nat.add_zero] at hns
               refine g_subl [(0, vR 31), (1, vR 17), (2, vI (pN v : Int)), (3, vI ((k + 1 : Nat) : Int))] rfl ?_
               refine ih (k + 1) (by omega) (by omega) X2 hfr (by rw [hns]; exact z0) hT (fun p hp => ?_) (hRd.skip hu2)
               rw [sn_skip hP hkl hsn p]
               exact hR p hp)
            | (refine g_subl [(0, vR 31), (1, vR 17), (2, vI (pN v : Int)), (3, vI ((k + 1 : Nat) : Int))] rfl ?_
               refine ih (k + 1) (by omega) (by omega) _ (fun d j hd => ?_) ?_ (fun p hp => ?_) hR4 ?_
               · have y1 : d ≠ 31 := by omega
                 have y2 : d ≠ 32 := by omega
                 have y3 : d ≠ 33 := by omega
                 have y4 : d ≠ 34 := by omega
                 simp only [st2, if_neg y1]
                 rw [f4 d j (by omega)]
                 simp only [st2, if_neg y2, if_neg y3, if_neg y4]
                 exact hfr d j hd
               · show X4 31 0 + 1 = _
                 omega
               · exact (f4 35 p (by decide)).trans (hT p hp)
               · refine hRd.add (fun j hj => ?_) ?_ ?_ ?_
                 · refine ⟨(f4 32 j (by decide)).trans ?_, (f4 33 j (by decide)).trans ?_, (f4 34 j (by decide)).trans ?_⟩
                   · simp [st2, hj]
                   · simp [st2, hj]
                   · simp [st2, hj]
                 · refine (f4 32 _ (by decide)).trans ?_
                   simp [st2]
                 · refine (f4 33 _ (by decide)).trans ?_
                   simp [st2]
                 · refine (f4 34 _ (by decide)).trans ?_
                   simp [st2])
        · have hun : ¬ SnP (pN v) (pT v) (pR v) k k := fun w => by
            have := (hR k hkl).1 w
            omega
          have hu2 := unP_iff.mpr hun
          have hns := nRd_s v k
          rw [if_pos hu2] at hns
          have hm2 := nRd_mono v (i := k + 1) (j := pN v) (by omega)
          refine g_aload_n rfl dX1_tell_35 ?_
          refine g_iload_n rfl dX1_tell_36 ?_
          refine g_iload_n rfl dX1_tell_37 ?_
          refine g_cv2v (M2 := mX1_measure) (ci := 1) dX1_tell_38 ml_RX1_35 kX1_measure rfl (by first | rfl | assumption) (by decide) rfl (by unfold Rm; decide) (Nat.le_of_ble_eq_true rfl) (ct_X1_measure (c := nRd v k) hv hr hN hT hR hkl hun z0 (by omega) ?_)
          refine g_aload_n rfl dX1_tell_41 ?_
          refine g_cv0v (M2 := mX1_takeOut) (ci := 1) dX1_tell_42 ml_RX1_39 kX1_takeOut rfl (by first | rfl | assumption) (by decide) rfl (by unfold Rm; decide) (Nat.le_of_ble_eq_true rfl) (ct_X1_takeOut (k := k) (c := nRd v k) hv hr hN hT hR hkl z0 (by omega) (by simp [st2]) (by simp [st2]) (by simp [st2]) (fun X4 f4 hR4 => ?_))
          have z4 : X4 31 0 = (nRd v k : Int) := (f4 31 0 (by decide)).trans z0
          refine g_aload_n rfl dX1_tell_45 ?_
          refine g_dup rfl dX1_tell_46 ?_
          refine gf_X1_31 rfl (by first | rfl | assumption) dX1_tell_47 ?_
          refine g_iconst dX1_tell_50 ?_
          refine g_iadd dX1_tell_51 ?_
          refine pf_X1_31 rfl (by first | rfl | assumption) dX1_tell_52 ?_
          refine g_iinc rfl (by decide) dX1_tell_55 ?_
          refine g_goto (t := 12) dX1_tell_58 (by decide) ?_
          first
            | (have hu2 : ¬ unP (pN v) (pT v) (pR v) k = true := fun w => unP_iff.mp w hsn
               have hns := nRd_s v k
               rw [if_neg hu2, Nat.add_zero] at hns
               refine g_subl [(0, vR 31), (1, vR 17), (2, vI (pN v : Int)), (3, vI ((k + 1 : Nat) : Int))] rfl ?_
               refine ih (k + 1) (by omega) (by omega) X2 hfr (by rw [hns]; exact z0) hT (fun p hp => ?_) (hRd.skip hu2)
               rw [sn_skip hP hkl hsn p]
               exact hR p hp)
            | (refine g_subl [(0, vR 31), (1, vR 17), (2, vI (pN v : Int)), (3, vI ((k + 1 : Nat) : Int))] rfl ?_
               refine ih (k + 1) (by omega) (by omega) _ (fun d j hd => ?_) ?_ (fun p hp => ?_) hR4 ?_
               · have y1 : d ≠ 31 := by omega
                 have y2 : d ≠ 32 := by omega
                 have y3 : d ≠ 33 := by omega
                 have y4 : d ≠ 34 := by omega
                 simp only [st2, if_neg y1]
                 rw [f4 d j (by omega)]
                 simp only [st2, if_neg y2, if_neg y3, if_neg y4]
                 exact hfr d j hd
               · show X4 31 0 + 1 = _
                 omega
               · exact (f4 35 p (by decide)).trans (hT p hp)
               · refine hRd.add (fun j hj => ?_) ?_ ?_ ?_
                 · refine ⟨(f4 32 j (by decide)).trans ?_, (f4 33 j (by decide)).trans ?_, (f4 34 j (by decide)).trans ?_⟩
                   · simp [st2, hj]
                   · simp [st2, hj]
                   · simp [st2, hj]
                 · refine (f4 32 _ (by decide)).trans ?_
                   simp [st2]
                 · refine (f4 33 _ (by decide)).trans ?_
                   simp [st2]
                 · refine (f4 34 _ (by decide)).trans ?_
                   simp [st2])
  refine g_aload_n rfl dX1_tell_0 ?_
  refine g_aload_n rfl dX1_tell_1 ?_
  refine g_cv1v (M2 := mX1_drawPieces) (ci := 1) dX1_tell_2 ml_RX1_27 kX1_drawPieces rfl (by first | rfl | assumption) (by decide) rfl (by unfold Rm; decide) (Nat.le_of_ble_eq_true rfl) (ct_X1_drawPieces hW hv hr hN (fun X2 f2 hT hR => ?_))
  refine g_aload_n rfl dX1_tell_5 ?_
  refine g_iconst dX1_tell_6 ?_
  refine pf_X1_31 rfl (by first | rfl | assumption) dX1_tell_7 ?_
  refine g_iconst dX1_tell_10 ?_
  refine g_istore_n (by decide) dX1_tell_11 ?_
  refine g_subl [(0, vR 31), (1, vR 17), (2, vI (pN v : Int)), (3, vI ((0 : Nat) : Int))] rfl ?_
  refine loop 0 (by omega) _ (fun d j hd => ?_) rfl hT (fun p hp => ?_) (fun q hq => by omega)
  · have y1 : d ≠ 31 := by omega
    simp only [st2, if_neg y1]
    exact f2 d j (by omega) (by omega)
  · have h5 := hR p hp
    exact ⟨fun ⟨q, hq, _⟩ => by omega, fun _ => h5.2 id⟩
set_option maxRecDepth 100000 in
theorem ct_X7_rounds {l : Launch} {g : Geo} {X : Mm} {K : AV → Mm → Prop} {v : Mv} (hX : MvC X 5 v) (hW : vn v ≠ 0 → Wys X v) (hv : vn v ≠ 0 → Vd v) (hroot : vn v ≠ 0 → X 0 0 = vr v) (h0 : vn v = 0 → K (vI (-1)) X) (h1 : vn v ≠ 0 → (vr v ≠ 0 ∨ 2000 < ps (vA v) (va v) (vn v)) → K (vI (-2)) X) (h2 : vn v ≠ 0 → vr v = 0 → ps (vA v) (va v) (vn v) ≤ 2000 → ∀ X2, (∀ d j, (d < 31 ∨ 36 < d) → X2 d j = X d j) → X2 31 0 = (nRd v (pN v) : Int) → RdS X2 v 32 33 34 (pN v) → K (vI (nRd v (pN v) : Int)) X2) : Ct l g mX7_rounds [vR 0] X K := by
  refine enter (by decide) (Nat.le_of_ble_eq_true rfl) (fun κ => ?_)
  have x1 : X 5 0 = (vn v : Int) := hX.1
  rcases Nat.eq_zero_or_pos (vn v) with hn | hn
  · have hzz := hn
    refine g_aload_n rfl dX7_rounds_0 ?_
    refine gf_X7_23 (c2 := 5) rfl rfl (by first | rfl | assumption) dX7_rounds_1 ?_
    refine gf_X7_74 rfl (by first | rfl | assumption) dX7_rounds_4 ?_
    refine g_if_ne (t := 12) dX7_rounds_7 (by decide) (by first | omega | (simp [st2]; done) | (simp [st2]; omega)) (fun b7 => ?_) (fun b7 => ?_)
    · exfalso; omega
    · refine g_iconst dX7_rounds_10 ?_
      refine g_ireturn rfl dX7_rounds_11 ?_
      exact h0 hn
  have hn0 : vn v ≠ 0 := by omega
  have hv := hv hn0
  have hW := hW hn0
  have hroot := hroot hn0
  have hn8 := hv.2.1
  have hrt := hv.2.2.1
  unfold isRoot at hrt
  have w1 : X 19 (vn v) = ps (vA v) (va v) (vn v) := (hW.1.2.2.2 (vn v) (Nat.le_refl _)).1
  have hbd := hv.psA hv.2.2.2.2.1 (Nat.le_refl _)
  refine g_aload_n rfl dX7_rounds_0 ?_
  refine gf_X7_23 (c2 := 5) rfl rfl (by first | rfl | assumption) dX7_rounds_1 ?_
  refine gf_X7_74 rfl (by first | rfl | assumption) dX7_rounds_4 ?_
  refine g_if_ne (t := 12) dX7_rounds_7 (by decide) (by first | omega | (simp [st2]; done) | (simp [st2]; omega)) (fun b7 => ?_) (fun b7 => ?_)
  · refine g_aload_n rfl dX7_rounds_12 ?_
    refine gf_X7_33 (c2 := 17) rfl rfl (by first | rfl | assumption) dX7_rounds_13 ?_
    refine gf_X7_122 (c2 := 19) rfl rfl (by first | rfl | assumption) dX7_rounds_16 ?_
    refine g_aload_n rfl dX7_rounds_19 ?_
    refine gf_X7_23 (c2 := 5) rfl rfl (by first | rfl | assumption) dX7_rounds_20 ?_
    refine gf_X7_74 rfl (by first | rfl | assumption) dX7_rounds_23 ?_
    refine g_lald (n := 9) (vn v) (by first | rfl | assumption) (by first | rfl | assumption) (by omega) (by first | omega | (simp [st2]; done) | (simp [st2]; omega)) (by first | omega | (simp [st2]; done) | (simp [st2]; omega)) dX7_rounds_26 ?_
    rw [w1]
    refine g_lstore_n (by decide) dX7_rounds_27 ?_
    refine g_aload_n rfl dX7_rounds_28 ?_
    refine gf_X7_7 rfl (by first | rfl | assumption) dX7_rounds_29 ?_
    refine g_if_ne (t := 43) dX7_rounds_32 (by decide) (by first | omega | (simp [st2]; done) | (simp [st2]; omega)) (fun b32 => ?_) (fun b32 => ?_)
    · refine g_bipush (by decide) dX7_rounds_43 ?_
      refine g_ireturn rfl dX7_rounds_45 ?_
      exact h1 hn0 (by omega)
    · refine g_lload_n rfl dX7_rounds_35 ?_
      refine g_ldc2 (n := (2000)) kc_RX7_189 dX7_rounds_36 ?_
      refine g_lle (t := 46) dX7_rounds_39 dX7_rounds_40 (by decide) (by first | omega | (simp [st2]; done) | (simp [st2]; omega)) (by first | omega | (simp [st2]; done) | (simp [st2]; omega)) (fun b39 => ?_) (fun b39 => ?_)
      · refine g_aload_n rfl dX7_rounds_46 ?_
        refine gf_X7_53 (c2 := 31) rfl rfl (by first | rfl | assumption) dX7_rounds_47 ?_
        refine g_aload_n rfl dX7_rounds_50 ?_
        refine gf_X7_33 (c2 := 17) rfl rfl (by first | rfl | assumption) dX7_rounds_51 ?_
        refine g_lload_n rfl dX7_rounds_54 ?_
        refine g_l2i dX7_rounds_55 ?_
        rw [← pN_c hv (by omega)]
        refine g_cv2v (M2 := mX1_tell) (ci := 1) dX7_rounds_56 ml_RX7_191 kX1_tell rfl (by first | rfl | assumption) (by decide) rfl (by unfold Rm; decide) (Nat.le_of_ble_eq_true rfl) (ct_X1_tell hW.1 hv (by omega) (by have := pN_c hv (by omega); omega) (fun X2 f2 e31 hRd => ?_))
        refine g_aload_n rfl dX7_rounds_59 ?_
        refine gf_X7_53 (c2 := 31) rfl rfl (by first | rfl | assumption) dX7_rounds_60 ?_
        refine gf_X7_195 rfl (by first | rfl | assumption) dX7_rounds_63 ?_
        refine g_ireturn rfl dX7_rounds_66 ?_
        exact kE (h2 hn0 (by omega) (by omega) X2 f2 e31 hRd) e31.symm
      · refine g_bipush (by decide) dX7_rounds_43 ?_
        refine g_ireturn rfl dX7_rounds_45 ?_
        exact h1 hn0 (by omega)
  · exfalso; omega
