theorem g_idivT {l : Launch} {g : Geo} {M : Me} {κ : Kx} {K : AV → Mm → Prop} {pc : Nat} {lv : Lv} {X : Mm} {r : List AV} {a b : Int} (ha : -2147483648 < a ∧ a < 2147483648) (hb : 0 < b ∧ b < 2147483648) (hd : decode M.2.1 pc = .ok (.idiv, 1)) (k : G l g M κ K (pc + 1) lv (vI (a.tdiv b) :: r) X) : G l g M κ K pc lv (vI b :: vI a :: r) X := by
  obtain ⟨p, e, s, m, args, below, meth, c, A, Q, kc, ks⟩ := κ
  intro O H locs ls hP hS hl
  refine lv_idiv O.1 O.2.1 hd ?_ ?_
  · intro q
    rw [i32_0, i32_eq (by omega) (by omega)] at q
    omega
  · have h1 : (a.tdiv b).natAbs ≤ a.natAbs := by
      rw [Int.natAbs_tdiv]
      exact Nat.div_le_self _ _
    have e1 : Int32.ofInt a / Int32.ofInt b = Int32.ofInt (a.tdiv b) := by
      apply Int32.toInt_inj.mp
      rw [Int32.toInt_div_of_ne_left _ _ (fun q => by
        have := congrArg Int32.toInt q
        rw [i32_le (by omega)] at this
        have h3 : Int32.minValue.toInt = -2147483648 := by decide
        omega), i32_le (by omega), i32_le (by omega), i32_le (by omega)]
    rw [e1]
    exact k O H locs ls hP hS hl
set_option maxRecDepth 100000 in
set_option maxHeartbeats 4000000 in
theorem ct_X0_glue {l : Launch} {g : Geo} {X : Mm} {K : AV → Mm → Prop} {v : Mv} (hX : MvC X 5 v) (hv : Vd v) (hk : ∀ X2, (∀ d j, d ≠ 42 → d ≠ 43 → X2 d j = X d j) → X2 42 0 = (vn v : Int) → Rw X2 43 (2 * vn v) (lbC v (vn v)) → K (vI 0) X2) : Ct l g mX0_glue [vR 42, vR 5] X K := by
  refine enter (by decide) (Nat.le_of_ble_eq_true rfl) (fun κ => ?_)
  have hn8 := hv.2.1
  have hn2 := hv.1
  have x1 : X 5 0 = (vn v : Int) := hX.1
  have loop2 : ∀ i, i ≤ vn v → ∀ X2, (∀ d j, d ≠ 42 → d ≠ 43 → X2 d j = X d j) → X2 42 0 = (vn v : Int) → Rw X2 43 (2 * vn v) (lbC v i) → G l g mX0_glue κ K 35 [(0, vR 42), (1, vR 5), (2, vI (i : Int))] [] X2 := by
    refine upTo (vn v) ?_
    intro i hi ih X2 hfr h0 hrow
    have inner : i < vn v → ∀ j, j ≤ vn v → ∀ X3, (∀ d q, d ≠ 42 → d ≠ 43 → X3 d q = X d q) → X3 42 0 = (vn v : Int) → Rw X3 43 (2 * vn v) (if j ≤ sgm v i then lbC v i else lbC v (i + 1)) → G l g mX0_glue κ K 45 [(0, vR 42), (1, vR 5), (2, vI (i : Int)), (3, vI (j : Int))] [] X3 := by
      intro hin
      have hs := posI_spec hv.2.2.2.2.2.1 (hv.2.2.2.2.1.1 i hin)
      have ha8 := hv.2.2.2.2.1.1 i hin
      refine upTo (vn v) ?_
      intro j hj ih2 X3 hfr3 h03 hrow3
      refine g_iload_n rfl dX0_glue_45 ?_
      refine g_aload_n rfl dX0_glue_46 ?_
      refine gf_X0_21 rfl (by first | rfl | assumption) dX0_glue_47 ?_
      refine g_icmp_ge (t := 98) dX0_glue_50 (by decide) (by first | omega | (simp [st2]; done) | (simp [st2]; omega)) (by first | omega | (simp [st2]; done) | (simp [st2]; omega)) (fun b50 => ?_) (fun b50 => ?_)
      · refine g_iinc rfl (by decide) dX0_glue_98 ?_
        refine g_goto (t := 35) dX0_glue_101 (by decide) ?_
        refine g_subl [(0, vR 42), (1, vR 5), (2, vI ((i + 1 : Nat) : Int))] rfl ?_
        refine ih (i + 1) (by omega) (by omega) X3 hfr3 h03 ?_
        have hsl : sgm v i < vn v := hs.1
        rw [if_neg (by omega)] at hrow3
        exact hrow3
      · have e1 : X3 8 i = (va v i : Int) := (hfr3 8 i (by decide) (by decide)).trans (hX.2.2.1 i (by omega)).2.2.1
        have e2 : X3 9 j = (vu v j : Int) := (hfr3 9 j (by decide) (by decide)).trans (hX.2.2.1 j (by omega)).2.2.2
        have hu8 := hv.2.2.2.2.2.1.1 j (by omega)
        refine g_aload_n rfl dX0_glue_53 ?_
        refine gf_X0_22 (c2 := 8) rfl rfl (by first | rfl | assumption) dX0_glue_54 ?_
        refine g_iload_n rfl dX0_glue_57 ?_
        refine g_iald (n := 8) (_) (by first | rfl | assumption) (by first | rfl | assumption) rfl (by first | omega | (simp [st2]; done) | (simp [st2]; omega)) (by first | omega | (simp [st2]; done) | (simp [st2]; omega)) dX0_glue_58 ?_
        refine g_aload_n rfl dX0_glue_59 ?_
        refine gf_X0_25 (c2 := 9) rfl rfl (by first | rfl | assumption) dX0_glue_60 ?_
        refine g_iload_n rfl dX0_glue_63 ?_
        refine g_iald (n := 8) (_) (by first | rfl | assumption) (by first | rfl | assumption) rfl (by first | omega | (simp [st2]; done) | (simp [st2]; omega)) (by first | omega | (simp [st2]; done) | (simp [st2]; omega)) dX0_glue_64 ?_
        refine g_icmp_ne (t := 92) dX0_glue_65 (by decide) (by first | omega | (simp [st2]; done) | (simp [st2]; omega)) (by first | omega | (simp [st2]; done) | (simp [st2]; omega)) (fun b65 => ?_) (fun b65 => ?_)
        · have hne : j ≠ sgm v i := fun z => b65 (by rw [e1, e2, z]; show (va v i : Int) = (vu v (posI (vu v) (va v i) (vn v)) : Int); rw [hs.2])
          have hrow4 : Rw X3 43 (2 * vn v) (if j + 1 ≤ sgm v i then lbC v i else lbC v (i + 1)) := by
            by_cases z : j ≤ sgm v i
            · rw [if_pos z] at hrow3
              rw [if_pos (by omega)]
              exact hrow3
            · rw [if_neg z] at hrow3
              rw [if_neg (by omega)]
              exact hrow3
          refine g_iinc rfl (by decide) dX0_glue_92 ?_
          refine g_goto (t := 45) dX0_glue_95 (by decide) ?_
          first
            | (refine g_subl [(0, vR 42), (1, vR 5), (2, vI (i : Int)), (3, vI ((j + 1 : Nat) : Int))] rfl ?_
               exact ih2 (j + 1) (by omega) (by omega) X3 hfr3 h03 hrow4)
            | (refine g_subl [(0, vR 42), (1, vR 5), (2, vI (i : Int)), (3, vI ((j + 1 : Nat) : Int))] rfl ?_
               refine ih2 (j + 1) (by omega) (by omega) X5 (fun d q z1 z2 => by rw [f5 d q z2, f4 d q z2]; exact hfr3 d q z1 z2) ((f5 42 0 (by decide)).trans h04) ?_
               rw [if_neg (by omega)]
               rw [heq] at r5
               exact r5)
        · have heq : j = sgm v i := hv.2.2.2.2.2.1.2 j _ (by omega) hs.1 (by
            have : va v i = vu v j := by omega
            rw [← this]
            exact hs.2.symm)
          rw [if_pos (by omega)] at hrow3
          refine g_aload_n rfl dX0_glue_68 ?_
          refine g_iload_n rfl dX0_glue_69 ?_
          refine g_aload_n rfl dX0_glue_70 ?_
          refine g_iload_n rfl dX0_glue_71 ?_
          refine g_cv1 (M2 := mX0_cornerBelow) (ci := 0) dX0_glue_72 ml_RX0_28 kX0_cornerBelow (by decide) (by first | rfl | assumption) (by decide) rfl (by unfold Rm; decide) (Nat.le_of_ble_eq_true rfl) (ct_X0_cornerBelow h03 hn8 (by omega) ?_)
          refine g_cv2v (M2 := mX0_join) (ci := 0) dX0_glue_75 ml_RX0_32 kX0_join rfl (by first | rfl | assumption) (by decide) rfl (by unfold Rm; decide) (Nat.le_of_ble_eq_true rfl) (ct_X0_join h03 hn8 hrow3 (lbC_lt hv i (by omega)) (by omega) (cb_lt (by omega) hn2) (fun X4 f4 r4 => ?_))
          have h04 : X4 42 0 = (vn v : Int) := (f4 42 0 (by decide)).trans h03
          refine g_aload_n rfl dX0_glue_78 ?_
          refine g_iload_n rfl dX0_glue_79 ?_
          refine g_iconst dX0_glue_80 ?_
          refine g_iadd dX0_glue_81 ?_
          refine g_aload_n rfl dX0_glue_82 ?_
          refine g_iload_n rfl dX0_glue_83 ?_
          refine g_iconst dX0_glue_84 ?_
          refine g_iadd dX0_glue_85 ?_
          rw [show (j : Int) + 1 = ((j + 1 : Nat) : Int) from rfl]
          refine g_cv1 (M2 := mX0_cornerBelow) (ci := 0) dX0_glue_86 ml_RX0_28 kX0_cornerBelow (by decide) (by first | rfl | assumption) (by decide) rfl (by unfold Rm; decide) (Nat.le_of_ble_eq_true rfl) (ct_X0_cornerBelow h04 hn8 (by omega) ?_)
          rw [show (i : Int) + 1 = ((i + 1 : Nat) : Int) from rfl]
          refine g_cv2v (M2 := mX0_join) (ci := 0) dX0_glue_89 ml_RX0_32 kX0_join rfl (by first | rfl | assumption) (by decide) rfl (by unfold Rm; decide) (Nat.le_of_ble_eq_true rfl) (ct_X0_join h04 hn8 r4 (jn_lt (lbC_lt hv i (by omega)) (by omega)) (by omega) (cb_lt (by omega) hn2) (fun X5 f5 r5 => ?_))
          refine g_iinc rfl (by decide) dX0_glue_92 ?_
          refine g_goto (t := 45) dX0_glue_95 (by decide) ?_
          first
            | (refine g_subl [(0, vR 42), (1, vR 5), (2, vI (i : Int)), (3, vI ((j + 1 : Nat) : Int))] rfl ?_
               exact ih2 (j + 1) (by omega) (by omega) X3 hfr3 h03 hrow4)
            | (refine g_subl [(0, vR 42), (1, vR 5), (2, vI (i : Int)), (3, vI ((j + 1 : Nat) : Int))] rfl ?_
               refine ih2 (j + 1) (by omega) (by omega) X5 (fun d q z1 z2 => by rw [f5 d q z2, f4 d q z2]; exact hfr3 d q z1 z2) ((f5 42 0 (by decide)).trans h04) ?_
               rw [if_neg (by omega)]
               rw [heq] at r5
               exact r5)
    refine g_iload_n rfl dX0_glue_35 ?_
    refine g_aload_n rfl dX0_glue_36 ?_
    refine gf_X0_21 rfl (by first | rfl | assumption) dX0_glue_37 ?_
    refine g_icmp_ge (t := 104) dX0_glue_40 (by decide) (by first | omega | (simp [st2]; done) | (simp [st2]; omega)) (by first | omega | (simp [st2]; done) | (simp [st2]; omega)) (fun b40 => ?_) (fun b40 => ?_)
    · refine g_return rfl dX0_glue_104 ?_
      obtain rfl : i = vn v := by omega
      exact hk X2 hfr h0 hrow
    · refine g_iconst dX0_glue_43 ?_
      refine g_istore_n (by decide) dX0_glue_44 ?_
      refine g_subl [(0, vR 42), (1, vR 5), (2, vI (i : Int)), (3, vI ((0 : Nat) : Int))] rfl ?_
      exact inner (by omega) 0 (by omega) X2 hfr h0 (by rw [if_pos (by omega)]; exact hrow)
  have loop1 : ∀ i, i ≤ 2 * vn v → ∀ X2, (∀ d j, d ≠ 42 → d ≠ 43 → X2 d j = X d j) → X2 42 0 = (vn v : Int) → (∀ c, c < i → X2 43 c = (c : Int)) → G l g mX0_glue κ K 10 [(0, vR 42), (1, vR 5), (2, vI (i : Int))] [] X2 := by
    refine upTo (2 * vn v) ?_
    intro i hi ih X2 hfr h0 hrow
    refine g_iload_n rfl dX0_glue_10 ?_
    refine g_iconst dX0_glue_11 ?_
    refine g_aload_n rfl dX0_glue_12 ?_
    refine gf_X0_21 rfl (by first | rfl | assumption) dX0_glue_13 ?_
    refine g_imul dX0_glue_16 ?_
    refine g_icmp_ge (t := 33) dX0_glue_17 (by decide) (by first | omega | (simp [st2]; done) | (simp [st2]; omega)) (by first | omega | (simp [st2]; done) | (simp [st2]; omega)) (fun b17 => ?_) (fun b17 => ?_)
    · refine g_iconst dX0_glue_33 ?_
      refine g_istore_n (by decide) dX0_glue_34 ?_
      refine g_subl [(0, vR 42), (1, vR 5), (2, vI ((0 : Nat) : Int))] rfl ?_
      exact loop2 0 (by omega) X2 hfr h0 (fun c hc => hrow c (by omega))
    · refine g_aload_n rfl dX0_glue_20 ?_
      refine gf_X0_9 (c2 := 43) rfl rfl (by first | rfl | assumption) dX0_glue_21 ?_
      refine g_iload_n rfl dX0_glue_24 ?_
      refine g_iload_n rfl dX0_glue_25 ?_
      refine g_iast (n := 16) (_) (by first | rfl | assumption) (by first | rfl | assumption) rfl (by first | omega | (simp [st2]; done) | (simp [st2]; omega)) (by first | omega | (simp [st2]; done) | (simp [st2]; omega)) dX0_glue_26 ?_
      refine g_iinc rfl (by decide) dX0_glue_27 ?_
      refine g_goto (t := 10) dX0_glue_30 (by decide) ?_
      refine g_subl [(0, vR 42), (1, vR 5), (2, vI ((i + 1 : Nat) : Int))] rfl ?_
      refine ih (i + 1) (by omega) (by omega) _ (fun d j z1 z2 => by simp only [st2, if_neg z2]; exact hfr d j z1 z2) h0 (fun c hc => ?_)
      by_cases z : c = i
      · subst z
        simp [st2]
      · simp only [st2, if_true, if_neg z]
        exact hrow c (by omega)
  refine g_aload_n rfl dX0_glue_0 ?_
  refine g_aload_n rfl dX0_glue_1 ?_
  refine gf_X0_15 rfl (by first | rfl | assumption) dX0_glue_2 ?_
  refine pf_X0_21 rfl (by first | rfl | assumption) dX0_glue_5 ?_
  refine g_iconst dX0_glue_8 ?_
  refine g_istore_n (by decide) dX0_glue_9 ?_
  refine g_subl [(0, vR 42), (1, vR 5), (2, vI ((0 : Nat) : Int))] rfl ?_
  exact loop1 0 (by omega) _ (fun d j z1 z2 => by simp only [st2, if_neg z1]) x1 (fun c hc => by omega)
theorem ct_X0_points {l : Launch} {g : Geo} {X : Mm} {K : AV → Mm → Prop} {n : Nat} {f : Nat → Nat} (hn : X 42 0 = (n : Int)) (hn8 : n ≤ 8) (hf : Rw X 43 (2 * n) f) (hl : ∀ c, c < 2 * n → f c < 2 * n) (hk : K (vI (nPt f (2 * n) : Int)) X) : Ct l g mX0_points [vR 42] X K := by
  refine enter (by decide) (Nat.le_of_ble_eq_true rfl) (fun κ => ?_)
  have loop : ∀ i, i ≤ 2 * n → G l g mX0_points κ K 4 [(0, vR 42), (1, vI (nPt f i : Int)), (2, vI (i : Int))] [] X := by
    refine upTo (2 * n) ?_
    intro i hi ih
    have hs : nPt f (i + 1) = nPt f i + (if (f i == i) = true then 1 else 0) := fb_ct_succ _ _
    refine g_iload_n rfl dX0_points_4 ?_
    refine g_iconst dX0_points_5 ?_
    refine g_aload_n rfl dX0_points_6 ?_
    refine gf_X0_21 rfl (by first | rfl | assumption) dX0_points_7 ?_
    refine g_imul dX0_points_10 ?_
    refine g_icmp_ge (t := 33) dX0_points_11 (by decide) (by first | omega | (simp [st2]; done) | (simp [st2]; omega)) (by first | omega | (simp [st2]; done) | (simp [st2]; omega)) (fun b11 => ?_) (fun b11 => ?_)
    · refine g_iload_n rfl dX0_points_33 ?_
      refine g_ireturn rfl dX0_points_34 ?_
      obtain rfl : i = 2 * n := by omega
      exact hk
    · have e1 := hf i (by omega)
      have lc := hl i (by omega)
      refine g_aload_n rfl dX0_points_14 ?_
      refine gf_X0_9 (c2 := 43) rfl rfl (by first | rfl | assumption) dX0_points_15 ?_
      refine g_iload_n rfl dX0_points_18 ?_
      refine g_iald (n := 16) (_) (by first | rfl | assumption) (by first | rfl | assumption) rfl (by first | omega | (simp [st2]; done) | (simp [st2]; omega)) (by first | omega | (simp [st2]; done) | (simp [st2]; omega)) dX0_points_19 ?_
      refine g_iload_n rfl dX0_points_20 ?_
      refine g_icmp_ne (t := 27) dX0_points_21 (by decide) (by first | omega | (simp [st2]; done) | (simp [st2]; omega)) (by first | omega | (simp [st2]; done) | (simp [st2]; omega)) (fun b21 => ?_) (fun b21 => ?_)
      · refine g_iinc rfl (by decide) dX0_points_27 ?_
        refine g_goto (t := 4) dX0_points_30 (by decide) ?_
        first
          | (rw [if_neg (by simp only [beq_iff_eq]; omega)] at hs
             refine g_subl [(0, vR 42), (1, vI (nPt f (i + 1) : Int)), (2, vI ((i + 1 : Nat) : Int))] (by rw [hs]; rfl) ?_
             exact ih (i + 1) (by omega) (by omega))
          | (rw [if_pos (by simp only [beq_iff_eq]; omega)] at hs
             refine g_subl [(0, vR 42), (1, vI (nPt f (i + 1) : Int)), (2, vI ((i + 1 : Nat) : Int))] (by rw [hs]; rfl) ?_
             exact ih (i + 1) (by omega) (by omega))
      · refine g_iinc rfl (by decide) dX0_points_24 ?_
        refine g_iinc rfl (by decide) dX0_points_27 ?_
        refine g_goto (t := 4) dX0_points_30 (by decide) ?_
        first
          | (rw [if_neg (by simp only [beq_iff_eq]; omega)] at hs
             refine g_subl [(0, vR 42), (1, vI (nPt f (i + 1) : Int)), (2, vI ((i + 1 : Nat) : Int))] (by rw [hs]; rfl) ?_
             exact ih (i + 1) (by omega) (by omega))
          | (rw [if_pos (by simp only [beq_iff_eq]; omega)] at hs
             refine g_subl [(0, vR 42), (1, vI (nPt f (i + 1) : Int)), (2, vI ((i + 1 : Nat) : Int))] (by rw [hs]; rfl) ?_
             exact ih (i + 1) (by omega) (by omega))
  refine g_iconst dX0_points_0 ?_
  refine g_istore_n (by decide) dX0_points_1 ?_
  refine g_iconst dX0_points_2 ?_
  refine g_istore_n (by decide) dX0_points_3 ?_
  refine g_subl [(0, vR 42), (1, vI (nPt f 0 : Int)), (2, vI ((0 : Nat) : Int))] rfl ?_
  exact loop 0 (by omega)
