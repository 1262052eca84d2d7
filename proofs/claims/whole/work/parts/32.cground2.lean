theorem ct_X0_turnsAt {l : Launch} {g : Geo} {X : Mm} {K : AV → Mm → Prop} {n c : Nat} {f : Nat → Nat} (hn : X 42 0 = (n : Int)) (hn8 : 2 ≤ n ∧ n ≤ 8) (hf : Rw X 43 (2 * n) f) (hl : ∀ c, c < 2 * n → f c < 2 * n) (hc : c < 2 * n) (hk : K (vI (nTu f n c : Int)) X) : Ct l g mX0_turnsAt [vR 42, vI (c : Int)] X K := by
  refine enter (by decide) (Nat.le_of_ble_eq_true rfl) (fun κ => ?_)
  have e2 := hf c hc
  have l2 := hl c hc
  have loop : ∀ i, i ≤ n - 1 → G l g mX0_turnsAt κ K 4 [(0, vR 42), (1, vI (c : Int)), (2, vI (fb_ct (fun b => f (b + 1) == f c) i : Int)), (3, vI ((i + 1 : Nat) : Int))] [] X := by
    refine upTo (n - 1) ?_
    intro i hi ih
    have hs : fb_ct (fun b => f (b + 1) == f c) (i + 1) = fb_ct (fun b => f (b + 1) == f c) i + (if (f (i + 1) == f c) = true then 1 else 0) := fb_ct_succ _ _
    refine g_iload_n rfl dX0_turnsAt_4 ?_
    refine g_aload_n rfl dX0_turnsAt_5 ?_
    refine gf_X0_21 rfl (by first | rfl | assumption) dX0_turnsAt_6 ?_
    refine g_icmp_ge (t := 36) dX0_turnsAt_9 (by decide) (by first | omega | (simp [st2]; done) | (simp [st2]; omega)) (by first | omega | (simp [st2]; done) | (simp [st2]; omega)) (fun b9 => ?_) (fun b9 => ?_)
    · refine g_iload_n rfl dX0_turnsAt_36 ?_
      refine g_ireturn rfl dX0_turnsAt_37 ?_
      obtain rfl : i = n - 1 := by omega
      exact hk
    · have e1 := hf (i + 1) (by omega)
      have lc := hl (i + 1) (by omega)
      refine g_aload_n rfl dX0_turnsAt_12 ?_
      refine gf_X0_9 (c2 := 43) rfl rfl (by first | rfl | assumption) dX0_turnsAt_13 ?_
      refine g_iload_n rfl dX0_turnsAt_16 ?_
      refine g_iald (n := 16) (i + 1) (by first | rfl | assumption) (by first | rfl | assumption) (by omega) (by first | omega | (simp [st2]; done) | (simp [st2]; omega)) (by first | omega | (simp [st2]; done) | (simp [st2]; omega)) dX0_turnsAt_17 ?_
      refine g_aload_n rfl dX0_turnsAt_18 ?_
      refine gf_X0_9 (c2 := 43) rfl rfl (by first | rfl | assumption) dX0_turnsAt_19 ?_
      refine g_iload_n rfl dX0_turnsAt_22 ?_
      refine g_iald (n := 16) (_) (by first | rfl | assumption) (by first | rfl | assumption) rfl (by first | omega | (simp [st2]; done) | (simp [st2]; omega)) (by first | omega | (simp [st2]; done) | (simp [st2]; omega)) dX0_turnsAt_23 ?_
      refine g_icmp_ne (t := 30) dX0_turnsAt_24 (by decide) (by first | omega | (simp [st2]; done) | (simp [st2]; omega)) (by first | omega | (simp [st2]; done) | (simp [st2]; omega)) (fun b24 => ?_) (fun b24 => ?_)
      · refine g_iinc rfl (by decide) dX0_turnsAt_30 ?_
        refine g_goto (t := 4) dX0_turnsAt_33 (by decide) ?_
        first
          | (rw [if_neg (by simp only [beq_iff_eq]; omega)] at hs
             refine g_subl [(0, vR 42), (1, vI (c : Int)), (2, vI (fb_ct (fun b => f (b + 1) == f c) (i + 1) : Int)), (3, vI ((i + 1 + 1 : Nat) : Int))] (by rw [hs]; rfl) ?_
             exact ih (i + 1) (by omega) (by omega))
          | (rw [if_pos (by simp only [beq_iff_eq]; omega)] at hs
             refine g_subl [(0, vR 42), (1, vI (c : Int)), (2, vI (fb_ct (fun b => f (b + 1) == f c) (i + 1) : Int)), (3, vI ((i + 1 + 1 : Nat) : Int))] (by rw [hs]; rfl) ?_
             exact ih (i + 1) (by omega) (by omega))
      · refine g_iinc rfl (by decide) dX0_turnsAt_27 ?_
        refine g_iinc rfl (by decide) dX0_turnsAt_30 ?_
        refine g_goto (t := 4) dX0_turnsAt_33 (by decide) ?_
        first
          | (rw [if_neg (by simp only [beq_iff_eq]; omega)] at hs
             refine g_subl [(0, vR 42), (1, vI (c : Int)), (2, vI (fb_ct (fun b => f (b + 1) == f c) (i + 1) : Int)), (3, vI ((i + 1 + 1 : Nat) : Int))] (by rw [hs]; rfl) ?_
             exact ih (i + 1) (by omega) (by omega))
          | (rw [if_pos (by simp only [beq_iff_eq]; omega)] at hs
             refine g_subl [(0, vR 42), (1, vI (c : Int)), (2, vI (fb_ct (fun b => f (b + 1) == f c) (i + 1) : Int)), (3, vI ((i + 1 + 1 : Nat) : Int))] (by rw [hs]; rfl) ?_
             exact ih (i + 1) (by omega) (by omega))
  refine g_iconst dX0_turnsAt_0 ?_
  refine g_istore_n (by decide) dX0_turnsAt_1 ?_
  refine g_iconst dX0_turnsAt_2 ?_
  refine g_istore_n (by decide) dX0_turnsAt_3 ?_
  refine g_subl [(0, vR 42), (1, vI (c : Int)), (2, vI (fb_ct (fun b => f (b + 1) == f c) 0 : Int)), (3, vI ((0 + 1 : Nat) : Int))] rfl ?_
  exact loop 0 (by omega)
theorem ct_X0_mostTurns {l : Launch} {g : Geo} {X : Mm} {K : AV → Mm → Prop} {n : Nat} {f : Nat → Nat} (hn : X 42 0 = (n : Int)) (hn8 : 2 ≤ n ∧ n ≤ 8) (hf : Rw X 43 (2 * n) f) (hl : ∀ c, c < 2 * n → f c < 2 * n) (hk : K (vI (mTu f n (2 * n) : Int)) X) : Ct l g mX0_mostTurns [vR 42] X K := by
  refine enter (by decide) (Nat.le_of_ble_eq_true rfl) (fun κ => ?_)
  have loop : ∀ i, i ≤ 2 * n → G l g mX0_mostTurns κ K 4 [(0, vR 42), (1, vI (mTu f n i : Int)), (2, vI (i : Int))] [] X := by
    refine upTo (2 * n) ?_
    intro i hi ih
    have b1 := mTu_le f n i
    have b2 := nTu_le f n i
    have hs : ((mTu f n (i + 1) : Nat) : Int) = if (mTu f n i : Int) < (nTu f n i : Int) then (nTu f n i : Int) else (mTu f n i : Int) := by
      rw [mTu]
      by_cases z : mTu f n i < nTu f n i
      · rw [if_pos z, if_pos (by omega)]
      · rw [if_neg z, if_neg (by omega)]
    refine g_iload_n rfl dX0_mostTurns_4 ?_
    refine g_iconst dX0_mostTurns_5 ?_
    refine g_aload_n rfl dX0_mostTurns_6 ?_
    refine gf_X0_21 rfl (by first | rfl | assumption) dX0_mostTurns_7 ?_
    refine g_imul dX0_mostTurns_10 ?_
    refine g_icmp_ge (t := 30) dX0_mostTurns_11 (by decide) (by first | omega | (simp [st2]; done) | (simp [st2]; omega)) (by first | omega | (simp [st2]; done) | (simp [st2]; omega)) (fun b11 => ?_) (fun b11 => ?_)
    · refine g_iload_n rfl dX0_mostTurns_30 ?_
      refine g_ireturn rfl dX0_mostTurns_31 ?_
      obtain rfl : i = 2 * n := by omega
      exact hk
    · refine g_iload_n rfl dX0_mostTurns_14 ?_
      refine g_aload_n rfl dX0_mostTurns_15 ?_
      refine g_iload_n rfl dX0_mostTurns_16 ?_
      refine g_cv1 (M2 := mX0_turnsAt) (ci := 0) dX0_mostTurns_17 ml_RX0_36 kX0_turnsAt (by decide) (by first | rfl | assumption) (by decide) rfl (by unfold Rm; decide) (Nat.le_of_ble_eq_true rfl) (ct_X0_turnsAt hn hn8 hf hl (by omega) ?_)
      refine g_max ml_RX0_39 (by decide) (Nat.le_of_ble_eq_true rfl) (by first | omega | (simp [st2]; done) | (simp [st2]; omega)) (by first | omega | (simp [st2]; done) | (simp [st2]; omega)) dX0_mostTurns_20 ?_
      rw [← hs]
      refine g_istore_n (by decide) dX0_mostTurns_23 ?_
      refine g_iinc rfl (by decide) dX0_mostTurns_24 ?_
      refine g_goto (t := 4) dX0_mostTurns_27 (by decide) ?_
      refine g_subl [(0, vR 42), (1, vI (mTu f n (i + 1) : Int)), (2, vI ((i + 1 : Nat) : Int))] rfl ?_
      exact ih (i + 1) (by omega) (by omega)
  refine g_iconst dX0_mostTurns_0 ?_
  refine g_istore_n (by decide) dX0_mostTurns_1 ?_
  refine g_iconst dX0_mostTurns_2 ?_
  refine g_istore_n (by decide) dX0_mostTurns_3 ?_
  refine g_subl [(0, vR 42), (1, vI (mTu f n 0 : Int)), (2, vI ((0 : Nat) : Int))] rfl ?_
  exact loop 0 (by omega)
theorem ct_X0_pointsWithOneTurn {l : Launch} {g : Geo} {X : Mm} {K : AV → Mm → Prop} {n : Nat} {f : Nat → Nat} (hn : X 42 0 = (n : Int)) (hn8 : 2 ≤ n ∧ n ≤ 8) (hf : Rw X 43 (2 * n) f) (hl : ∀ c, c < 2 * n → f c < 2 * n) (hk : K (vI (nOn f n (2 * n) : Int)) X) : Ct l g mX0_pointsWithOneTurn [vR 42] X K := by
  refine enter (by decide) (Nat.le_of_ble_eq_true rfl) (fun κ => ?_)
  have loop : ∀ i, i ≤ 2 * n → G l g mX0_pointsWithOneTurn κ K 4 [(0, vR 42), (1, vI (nOn f n i : Int)), (2, vI (i : Int))] [] X := by
    refine upTo (2 * n) ?_
    intro i hi ih
    have b2 := nTu_le f n i
    have hs : nOn f n (i + 1) = nOn f n i + (if (f i == i && nTu f n i == 1) = true then 1 else 0) := fb_ct_succ _ _
    refine g_iload_n rfl dX0_pointsWithOneTurn_4 ?_
    refine g_iconst dX0_pointsWithOneTurn_5 ?_
    refine g_aload_n rfl dX0_pointsWithOneTurn_6 ?_
    refine gf_X0_21 rfl (by first | rfl | assumption) dX0_pointsWithOneTurn_7 ?_
    refine g_imul dX0_pointsWithOneTurn_10 ?_
    refine g_icmp_ge (t := 42) dX0_pointsWithOneTurn_11 (by decide) (by first | omega | (simp [st2]; done) | (simp [st2]; omega)) (by first | omega | (simp [st2]; done) | (simp [st2]; omega)) (fun b11 => ?_) (fun b11 => ?_)
    · refine g_iload_n rfl dX0_pointsWithOneTurn_42 ?_
      refine g_ireturn rfl dX0_pointsWithOneTurn_43 ?_
      obtain rfl : i = 2 * n := by omega
      exact hk
    · have e1 := hf i (by omega)
      have lc := hl i (by omega)
      refine g_aload_n rfl dX0_pointsWithOneTurn_14 ?_
      refine gf_X0_9 (c2 := 43) rfl rfl (by first | rfl | assumption) dX0_pointsWithOneTurn_15 ?_
      refine g_iload_n rfl dX0_pointsWithOneTurn_18 ?_
      refine g_iald (n := 16) (_) (by first | rfl | assumption) (by first | rfl | assumption) rfl (by first | omega | (simp [st2]; done) | (simp [st2]; omega)) (by first | omega | (simp [st2]; done) | (simp [st2]; omega)) dX0_pointsWithOneTurn_19 ?_
      refine g_iload_n rfl dX0_pointsWithOneTurn_20 ?_
      refine g_icmp_ne (t := 36) dX0_pointsWithOneTurn_21 (by decide) (by first | omega | (simp [st2]; done) | (simp [st2]; omega)) (by first | omega | (simp [st2]; done) | (simp [st2]; omega)) (fun b21 => ?_) (fun b21 => ?_)
      · refine g_iinc rfl (by decide) dX0_pointsWithOneTurn_36 ?_
        refine g_goto (t := 4) dX0_pointsWithOneTurn_39 (by decide) ?_
        first
          | (rw [if_neg (by simp only [Bool.and_eq_true, beq_iff_eq]; omega)] at hs
             refine g_subl [(0, vR 42), (1, vI (nOn f n (i + 1) : Int)), (2, vI ((i + 1 : Nat) : Int))] (by rw [hs]; rfl) ?_
             exact ih (i + 1) (by omega) (by omega))
          | (rw [if_pos (by simp only [Bool.and_eq_true, beq_iff_eq]; omega)] at hs
             refine g_subl [(0, vR 42), (1, vI (nOn f n (i + 1) : Int)), (2, vI ((i + 1 : Nat) : Int))] (by rw [hs]; rfl) ?_
             exact ih (i + 1) (by omega) (by omega))
      · refine g_aload_n rfl dX0_pointsWithOneTurn_24 ?_
        refine g_iload_n rfl dX0_pointsWithOneTurn_25 ?_
        refine g_cv1 (M2 := mX0_turnsAt) (ci := 0) dX0_pointsWithOneTurn_26 ml_RX0_36 kX0_turnsAt (by decide) (by first | rfl | assumption) (by decide) rfl (by unfold Rm; decide) (Nat.le_of_ble_eq_true rfl) (ct_X0_turnsAt hn hn8 hf hl (by omega) ?_)
        refine g_iconst dX0_pointsWithOneTurn_29 ?_
        refine g_icmp_ne (t := 36) dX0_pointsWithOneTurn_30 (by decide) (by first | omega | (simp [st2]; done) | (simp [st2]; omega)) (by first | omega | (simp [st2]; done) | (simp [st2]; omega)) (fun b30 => ?_) (fun b30 => ?_)
        · refine g_iinc rfl (by decide) dX0_pointsWithOneTurn_36 ?_
          refine g_goto (t := 4) dX0_pointsWithOneTurn_39 (by decide) ?_
          first
            | (rw [if_neg (by simp only [Bool.and_eq_true, beq_iff_eq]; omega)] at hs
               refine g_subl [(0, vR 42), (1, vI (nOn f n (i + 1) : Int)), (2, vI ((i + 1 : Nat) : Int))] (by rw [hs]; rfl) ?_
               exact ih (i + 1) (by omega) (by omega))
            | (rw [if_pos (by simp only [Bool.and_eq_true, beq_iff_eq]; omega)] at hs
               refine g_subl [(0, vR 42), (1, vI (nOn f n (i + 1) : Int)), (2, vI ((i + 1 : Nat) : Int))] (by rw [hs]; rfl) ?_
               exact ih (i + 1) (by omega) (by omega))
        · refine g_iinc rfl (by decide) dX0_pointsWithOneTurn_33 ?_
          refine g_iinc rfl (by decide) dX0_pointsWithOneTurn_36 ?_
          refine g_goto (t := 4) dX0_pointsWithOneTurn_39 (by decide) ?_
          first
            | (rw [if_neg (by simp only [Bool.and_eq_true, beq_iff_eq]; omega)] at hs
               refine g_subl [(0, vR 42), (1, vI (nOn f n (i + 1) : Int)), (2, vI ((i + 1 : Nat) : Int))] (by rw [hs]; rfl) ?_
               exact ih (i + 1) (by omega) (by omega))
            | (rw [if_pos (by simp only [Bool.and_eq_true, beq_iff_eq]; omega)] at hs
               refine g_subl [(0, vR 42), (1, vI (nOn f n (i + 1) : Int)), (2, vI ((i + 1 : Nat) : Int))] (by rw [hs]; rfl) ?_
               exact ih (i + 1) (by omega) (by omega))
  refine g_iconst dX0_pointsWithOneTurn_0 ?_
  refine g_istore_n (by decide) dX0_pointsWithOneTurn_1 ?_
  refine g_iconst dX0_pointsWithOneTurn_2 ?_
  refine g_istore_n (by decide) dX0_pointsWithOneTurn_3 ?_
  refine g_subl [(0, vR 42), (1, vI (nOn f n 0 : Int)), (2, vI ((0 : Nat) : Int))] rfl ?_
  exact loop 0 (by omega)
def gdR (n : Nat) (w : Int) (p m o : Nat) : Int := if w = 0 then (p : Int) else if w = 1 then (1 + (n : Int) - (p : Int)).tdiv 2 else if w = 2 then (m : Int) else (o : Int)
set_option maxRecDepth 100000 in
theorem ct_X7_ground {l : Launch} {g : Geo} {X : Mm} {K : AV → Mm → Prop} {v : Mv} {w : Int} (hw : -2147483648 ≤ w ∧ w < 2147483648) (hX : MvC X 5 v) (hv : vn v ≠ 0 → Vd v) (h0 : (vn v = 0 ∨ w < 0 ∨ 3 < w) → K (vI (-1)) X) (h1 : vn v ≠ 0 → (0 ≤ w ∧ w ≤ 3) → ∀ X2, (∀ d j, d ≠ 42 → d ≠ 43 → X2 d j = X d j) → K (vI (gdR (vn v) w (nPt (lbC v (vn v)) (2 * vn v)) (mTu (lbC v (vn v)) (vn v) (2 * vn v)) (nOn (lbC v (vn v)) (vn v) (2 * vn v)))) X2) : Ct l g mX7_ground [vR 0, vI w] X K := by
  refine enter (by decide) (Nat.le_of_ble_eq_true rfl) (fun κ => ?_)
  have x1 : X 5 0 = (vn v : Int) := hX.1
  rcases Nat.eq_zero_or_pos (vn v) with hz | hz
  · have hz2 := hz
    refine g_aload_n rfl dX7_ground_0 ?_
    refine gf_X7_23 (c2 := 5) rfl rfl (by first | rfl | assumption) dX7_ground_1 ?_
    refine gf_X7_74 rfl (by first | rfl | assumption) dX7_ground_4 ?_
    refine g_if_eq (t := 19) dX7_ground_7 (by decide) (by first | omega | (simp [st2]; done) | (simp [st2]; omega)) (fun b7 => ?_) (fun b7 => ?_)
    · refine g_iconst dX7_ground_19 ?_
      refine g_ireturn rfl dX7_ground_20 ?_
      exact h0 (Or.inl hz)
    · exfalso; omega
  · have hv := hv (by omega)
    have hn8 := hv.2.1
    have hn2 := hv.1
    have hl := lbC_lt hv (vn v) (Nat.le_refl _)
    have hpl : nPt (lbC v (vn v)) (2 * vn v) ≤ 2 * vn v := fb_ct_le _ _
    unfold gdR at h1
    refine g_aload_n rfl dX7_ground_0 ?_
    refine gf_X7_23 (c2 := 5) rfl rfl (by first | rfl | assumption) dX7_ground_1 ?_
    refine gf_X7_74 rfl (by first | rfl | assumption) dX7_ground_4 ?_
    refine g_if_eq (t := 19) dX7_ground_7 (by decide) (by first | omega | (simp [st2]; done) | (simp [st2]; omega)) (fun b7 => ?_) (fun b7 => ?_)
    · exfalso; omega
    · refine g_iload_n rfl dX7_ground_10 ?_
      refine g_if_lt (t := 19) dX7_ground_11 (by decide) (by first | omega | (simp [st2]; done) | (simp [st2]; omega)) (fun b11 => ?_) (fun b11 => ?_)
      · refine g_iconst dX7_ground_19 ?_
        refine g_ireturn rfl dX7_ground_20 ?_
        exact h0 (by omega)
      · refine g_iload_n rfl dX7_ground_14 ?_
        refine g_iconst dX7_ground_15 ?_
        refine g_icmp_le (t := 21) dX7_ground_16 (by decide) (by first | omega | (simp [st2]; done) | (simp [st2]; omega)) (by first | omega | (simp [st2]; done) | (simp [st2]; omega)) (fun b16 => ?_) (fun b16 => ?_)
        · refine g_aload_n rfl dX7_ground_21 ?_
          refine gf_X7_67 (c2 := 42) rfl rfl (by first | rfl | assumption) dX7_ground_22 ?_
          refine g_aload_n rfl dX7_ground_25 ?_
          refine gf_X7_23 (c2 := 5) rfl rfl (by first | rfl | assumption) dX7_ground_26 ?_
          refine g_cv1v (M2 := mX0_glue) (ci := 0) dX7_ground_29 ml_RX7_213 kX0_glue rfl (by first | rfl | assumption) (by decide) rfl (by unfold Rm; decide) (Nat.le_of_ble_eq_true rfl) (ct_X0_glue hX hv (fun X2 fr h42 hrow => ?_))
          have x2 : X2 5 0 = (vn v : Int) := (fr 5 0 (by decide) (by decide)).trans x1
          refine g_iload_n rfl dX7_ground_32 ?_
          rcases (show w = 0 ∨ w = 1 ∨ w = 2 ∨ (w < 0 ∨ 2 < w) by omega) with sw | sw | sw | sw
          · rw [sw]
            refine g_tabIn (t := 60) (off := 27) dX7_ground_33 (by decide) (by decide) (by decide) (by decide) (by decide) ?_
            refine g_aload_n rfl dX7_ground_60 ?_
            refine gf_X7_67 (c2 := 42) rfl rfl (by first | rfl | assumption) dX7_ground_61 ?_
            refine g_cv0 (M2 := mX0_points) (ci := 0) dX7_ground_64 ml_RX7_216 kX0_points (by decide) (by first | rfl | assumption) (by decide) rfl (by unfold Rm; decide) (Nat.le_of_ble_eq_true rfl) (ct_X0_points h42 hn8 hrow hl ?_)
            refine g_ireturn rfl dX7_ground_67 ?_
            have h2 := h1 (by omega) (by omega) X2 fr
            first
              | (rw [if_pos (by omega)] at h2; exact h2)
              | (rw [if_neg (by omega), if_pos (by omega)] at h2; exact h2)
              | (rw [if_neg (by omega), if_neg (by omega), if_pos (by omega)] at h2; exact h2)
              | (rw [if_neg (by omega), if_neg (by omega), if_neg (by omega)] at h2; exact h2)
          · rw [sw]
            refine g_tabIn (t := 68) (off := 35) dX7_ground_33 (by decide) (by decide) (by decide) (by decide) (by decide) ?_
            refine g_iconst dX7_ground_68 ?_
            refine g_aload_n rfl dX7_ground_69 ?_
            refine gf_X7_23 (c2 := 5) rfl rfl (by first | rfl | assumption) dX7_ground_70 ?_
            refine gf_X7_74 rfl (by first | rfl | assumption) dX7_ground_73 ?_
            rw [x2]
            refine g_iadd dX7_ground_76 ?_
            refine g_aload_n rfl dX7_ground_77 ?_
            refine gf_X7_67 (c2 := 42) rfl rfl (by first | rfl | assumption) dX7_ground_78 ?_
            refine g_cv0 (M2 := mX0_points) (ci := 0) dX7_ground_81 ml_RX7_216 kX0_points (by decide) (by first | rfl | assumption) (by decide) rfl (by unfold Rm; decide) (Nat.le_of_ble_eq_true rfl) (ct_X0_points h42 hn8 hrow hl ?_)
            refine g_isub dX7_ground_84 ?_
            refine g_iconst dX7_ground_85 ?_
            refine g_idivT (by first | omega | (simp [st2]; done) | (simp [st2]; omega)) (by first | omega | (simp [st2]; done) | (simp [st2]; omega)) dX7_ground_86 ?_
            refine g_ireturn rfl dX7_ground_87 ?_
            have h2 := h1 (by omega) (by omega) X2 fr
            first
              | (rw [if_pos (by omega)] at h2; exact h2)
              | (rw [if_neg (by omega), if_pos (by omega)] at h2; exact h2)
              | (rw [if_neg (by omega), if_neg (by omega), if_pos (by omega)] at h2; exact h2)
              | (rw [if_neg (by omega), if_neg (by omega), if_neg (by omega)] at h2; exact h2)
          · rw [sw]
            refine g_tabIn (t := 88) (off := 55) dX7_ground_33 (by decide) (by decide) (by decide) (by decide) (by decide) ?_
            refine g_aload_n rfl dX7_ground_88 ?_
            refine gf_X7_67 (c2 := 42) rfl rfl (by first | rfl | assumption) dX7_ground_89 ?_
            refine g_cv0 (M2 := mX0_mostTurns) (ci := 0) dX7_ground_92 ml_RX7_219 kX0_mostTurns (by decide) (by first | rfl | assumption) (by decide) rfl (by unfold Rm; decide) (Nat.le_of_ble_eq_true rfl) (ct_X0_mostTurns h42 ⟨hn2, hn8⟩ hrow hl ?_)
            refine g_ireturn rfl dX7_ground_95 ?_
            have h2 := h1 (by omega) (by omega) X2 fr
            first
              | (rw [if_pos (by omega)] at h2; exact h2)
              | (rw [if_neg (by omega), if_pos (by omega)] at h2; exact h2)
              | (rw [if_neg (by omega), if_neg (by omega), if_pos (by omega)] at h2; exact h2)
              | (rw [if_neg (by omega), if_neg (by omega), if_neg (by omega)] at h2; exact h2)
          · refine g_tabOut (t := 96) dX7_ground_33 (by first | omega | (simp [st2]; done) | (simp [st2]; omega)) sw (by decide) ?_
            refine g_aload_n rfl dX7_ground_96 ?_
            refine gf_X7_67 (c2 := 42) rfl rfl (by first | rfl | assumption) dX7_ground_97 ?_
            refine g_cv0 (M2 := mX0_pointsWithOneTurn) (ci := 0) dX7_ground_100 ml_RX7_222 kX0_pointsWithOneTurn (by decide) (by first | rfl | assumption) (by decide) rfl (by unfold Rm; decide) (Nat.le_of_ble_eq_true rfl) (ct_X0_pointsWithOneTurn h42 ⟨hn2, hn8⟩ hrow hl ?_)
            refine g_ireturn rfl dX7_ground_103 ?_
            have h2 := h1 (by omega) (by omega) X2 fr
            first
              | (rw [if_pos (by omega)] at h2; exact h2)
              | (rw [if_neg (by omega), if_pos (by omega)] at h2; exact h2)
              | (rw [if_neg (by omega), if_neg (by omega), if_pos (by omega)] at h2; exact h2)
              | (rw [if_neg (by omega), if_neg (by omega), if_neg (by omega)] at h2; exact h2)
        · refine g_iconst dX7_ground_19 ?_
          refine g_ireturn rfl dX7_ground_20 ?_
          exact h0 (by omega)
