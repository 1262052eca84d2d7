/-! the class's reads -/
set_option maxRecDepth 100000 in
set_option maxHeartbeats 4000000 in
theorem ct_X3_partedAt {l : Launch} {g : Geo} {X : Mm} {K : AV → Mm → Prop} {n : Nat} {f h : Nat → Nat} (hn : X 5 0 = (n : Int)) (hn8 : 1 ≤ n ∧ n ≤ 8) (hf : ∀ j, j < n → X 8 j = (f j : Int) ∧ f j < 8) (hh : ∀ j, j < n → X 9 j = (h j : Int) ∧ h j < 8) (hk : K (vI (ptd n f h)) X) : Ct l g mX3_partedAt [vR 5] X K := by
  refine enter (by decide) (Nat.le_of_ble_eq_true rfl) (fun κ => ?_)
  have loop : ∀ i : Nat, i ≤ n - 1 → srch (fun j => mk f j == mk h j) 1 n = srch (fun j => mk f j == mk h j) (i + 1) n → G l g mX3_partedAt κ K 6 [(0, vR 5), (1, vI (mk f i : Int)), (2, vI (mk h i : Int)), (3, vI ((i + 1 : Nat) : Int))] [] X := by
    refine upTo (n - 1) ?_
    intro i hi ih hs
    refine g_iload_n rfl dX3_partedAt_6 ?_
    refine g_aload_n rfl dX3_partedAt_7 ?_
    refine gf_X3_34 rfl (by first | rfl | assumption) dX3_partedAt_8 ?_
    refine g_icmp_ge (t := 53) dX3_partedAt_11 (by decide) (by first | omega | (simp [st2]; done) | (simp [st2]; omega)) (by first | omega | (simp [st2]; done) | (simp [st2]; omega)) (fun b11 => ?_) (fun b11 => ?_)
    · refine g_iconst dX3_partedAt_53 ?_
      refine g_ireturn rfl dX3_partedAt_54 ?_
      rw [srch_end (i := i + 1) (by omega)] at hs
      refine kE hk ?_
      unfold ptd
      rw [hs, if_neg (by omega)]
    · have f1 := hf i (by omega)
      have f2 := hh i (by omega)
      have m1 := mk_lt (f := f) (n := n) (fun j hj => (hf j hj).2) (i + 1) (by omega)
      have m2 := mk_lt (f := h) (n := n) (fun j hj => (hh j hj).2) (i + 1) (by omega)
      refine g_iload_n rfl dX3_partedAt_14 ?_
      refine g_iconst dX3_partedAt_15 ?_
      refine g_aload_n rfl dX3_partedAt_16 ?_
      refine gf_X3_18 (c2 := 8) rfl rfl (by first | rfl | assumption) dX3_partedAt_17 ?_
      refine g_iload_n rfl dX3_partedAt_20 ?_
      refine g_iconst dX3_partedAt_21 ?_
      refine g_isub dX3_partedAt_22 ?_
      refine g_iald (n := 8) (i) (by first | rfl | assumption) (by first | rfl | assumption) (by omega) (by first | omega | (simp [st2]; done) | (simp [st2]; omega)) (by first | omega | (simp [st2]; done) | (simp [st2]; omega)) dX3_partedAt_23 ?_
      refine g_ishl (f i) (by first | omega | (simp [st2]; done) | (simp [st2]; omega)) (by first | omega | (simp [st2]; done) | (simp [st2]; omega)) dX3_partedAt_24 ?_
      refine g_ior (mk f i) (2 ^ f i) rfl (by simp) dX3_partedAt_25 ?_
      refine g_istore_n (by decide) dX3_partedAt_26 ?_
      refine g_iload_n rfl dX3_partedAt_27 ?_
      refine g_iconst dX3_partedAt_28 ?_
      refine g_aload_n rfl dX3_partedAt_29 ?_
      refine gf_X3_21 (c2 := 9) rfl rfl (by first | rfl | assumption) dX3_partedAt_30 ?_
      refine g_iload_n rfl dX3_partedAt_33 ?_
      refine g_iconst dX3_partedAt_34 ?_
      refine g_isub dX3_partedAt_35 ?_
      refine g_iald (n := 8) (i) (by first | rfl | assumption) (by first | rfl | assumption) (by omega) (by first | omega | (simp [st2]; done) | (simp [st2]; omega)) (by first | omega | (simp [st2]; done) | (simp [st2]; omega)) dX3_partedAt_36 ?_
      refine g_ishl (h i) (by first | omega | (simp [st2]; done) | (simp [st2]; omega)) (by first | omega | (simp [st2]; done) | (simp [st2]; omega)) dX3_partedAt_37 ?_
      refine g_ior (mk h i) (2 ^ h i) rfl (by simp) dX3_partedAt_38 ?_
      refine g_istore_n (by decide) dX3_partedAt_39 ?_
      refine g_iload_n rfl dX3_partedAt_40 ?_
      refine g_iload_n rfl dX3_partedAt_41 ?_
      refine g_icmp_ne (t := 47) dX3_partedAt_42 (by decide) (by rw [mk] at m1; omega) (by rw [mk] at m2; omega) (fun b42 => ?_) (fun b42 => ?_)
      · refine g_iinc rfl (by decide) dX3_partedAt_47 ?_
        refine g_goto (t := 6) dX3_partedAt_50 (by decide) ?_
        have hp : ¬ (fun j => mk f j == mk h j) (i + 1) = true := by
          simp only [mk, beq_iff_eq]
          omega
        rw [srch_miss (p := fun j => mk f j == mk h j) (by omega) hp] at hs
        refine g_subl [(0, vR 5), (1, vI ((mk f (i + 1) : Nat) : Int)), (2, vI ((mk h (i + 1) : Nat) : Int)), (3, vI ((i + 1 + 1 : Nat) : Int))] rfl ?_
        exact ih (i + 1) (by omega) (by omega) hs
      · refine g_iload_n rfl dX3_partedAt_45 ?_
        refine g_ireturn rfl dX3_partedAt_46 ?_
        have hp : (fun j => mk f j == mk h j) (i + 1) = true := by
          simp only [mk, beq_iff_eq]
          omega
        rw [srch_hit (p := fun j => mk f j == mk h j) (by omega) hp] at hs
        refine kE hk ?_
        unfold ptd
        rw [hs, if_pos (by omega)]
  refine g_iconst dX3_partedAt_0 ?_
  refine g_istore_n (by decide) dX3_partedAt_1 ?_
  refine g_iconst dX3_partedAt_2 ?_
  refine g_istore_n (by decide) dX3_partedAt_3 ?_
  refine g_iconst dX3_partedAt_4 ?_
  refine g_istore_n (by decide) dX3_partedAt_5 ?_
  refine g_subl [(0, vR 5), (1, vI (mk f 0 : Int)), (2, vI (mk h 0 : Int)), (3, vI ((0 + 1 : Nat) : Int))] rfl ?_
  exact loop 0 (by omega) rfl
theorem ct_X7_of {l : Launch} {g : Geo} {X : Mm} {K : AV → Mm → Prop} {n : Nat} {f h : Nat → Nat} {w : Int} (hw : -2147483648 ≤ w ∧ w < 2147483648) (hn : X 5 0 = (n : Int)) (hn8 : n ≤ 8) (hf : ∀ j, j < n → X 8 j = (f j : Int) ∧ f j < 8) (hh : ∀ j, j < n → X 9 j = (h j : Int) ∧ h j < 8) (hk : K (vI (ofR n w (X 5 2) (ptd n f h) (X 5 3))) X) : Ct l g mX7_of [vR 0, vI w] X K := by
  refine enter (by decide) (Nat.le_of_ble_eq_true rfl) (fun κ => ?_)
  unfold ofR at hk
  refine g_aload_n rfl dX7_of_0 ?_
  refine gf_X7_23 (c2 := 5) rfl rfl (by first | rfl | assumption) dX7_of_1 ?_
  refine gf_X7_74 rfl (by first | rfl | assumption) dX7_of_4 ?_
  refine g_if_ne (t := 12) dX7_of_7 (by decide) (by first | omega | (simp [st2]; done) | (simp [st2]; omega)) (fun b7 => ?_) (fun b7 => ?_)
  · refine g_iload_n rfl dX7_of_12 ?_
    rcases (show w = 0 ∨ w = 1 ∨ w = 2 ∨ w = 3 ∨ (w < 0 ∨ 3 < w) by omega) with sw | sw | sw | sw | sw
    · rw [sw]
      refine g_tabIn (t := 44) (off := 31) dX7_of_13 (by decide) (by decide) (by decide) (by decide) (by decide) ?_
      refine g_aload_n rfl dX7_of_44 ?_
      refine gf_X7_23 (c2 := 5) rfl rfl (by first | rfl | assumption) dX7_of_45 ?_
      refine gf_X7_74 rfl (by first | rfl | assumption) dX7_of_48 ?_
      refine g_ireturn rfl dX7_of_51 ?_
      refine kE hk ?_
      repeat' split
      all_goals omega
    · rw [sw]
      refine g_tabIn (t := 52) (off := 39) dX7_of_13 (by decide) (by decide) (by decide) (by decide) (by decide) ?_
      refine g_aload_n rfl dX7_of_52 ?_
      refine gf_X7_23 (c2 := 5) rfl rfl (by first | rfl | assumption) dX7_of_53 ?_
      refine gf_X7_112 rfl (by first | rfl | assumption) dX7_of_56 ?_
      refine g_ireturn rfl dX7_of_59 ?_
      refine kE hk ?_
      repeat' split
      all_goals omega
    · rw [sw]
      refine g_tabIn (t := 60) (off := 47) dX7_of_13 (by decide) (by decide) (by decide) (by decide) (by decide) ?_
      refine g_aload_n rfl dX7_of_60 ?_
      refine gf_X7_23 (c2 := 5) rfl rfl (by first | rfl | assumption) dX7_of_61 ?_
      refine g_cv0 (M2 := mX3_partedAt) (ci := 3) dX7_of_64 ml_RX7_115 kX3_partedAt (by decide) (by first | rfl | assumption) (by decide) rfl (by unfold Rm; decide) (Nat.le_of_ble_eq_true rfl) (ct_X3_partedAt hn (by omega) hf hh ?_)
      refine g_ireturn rfl dX7_of_67 ?_
      refine kE hk ?_
      repeat' split
      all_goals omega
    · rw [sw]
      refine g_tabIn (t := 68) (off := 55) dX7_of_13 (by decide) (by decide) (by decide) (by decide) (by decide) ?_
      refine g_aload_n rfl dX7_of_68 ?_
      refine gf_X7_23 (c2 := 5) rfl rfl (by first | rfl | assumption) dX7_of_69 ?_
      refine gf_X7_119 rfl (by first | rfl | assumption) dX7_of_72 ?_
      refine g_ireturn rfl dX7_of_75 ?_
      refine kE hk ?_
      repeat' split
      all_goals omega
    · refine g_tabOut (t := 76) dX7_of_13 (by first | omega | (simp [st2]; done) | (simp [st2]; omega)) sw (by decide) ?_
      refine g_iconst dX7_of_76 ?_
      refine g_ireturn rfl dX7_of_77 ?_
      refine kE hk ?_
      repeat' split
      all_goals omega
  · refine g_iconst dX7_of_10 ?_
    refine g_ireturn rfl dX7_of_11 ?_
    refine kE hk ?_
    repeat' split
    all_goals omega
theorem ct_X7_spans {l : Launch} {g : Geo} {X : Mm} {K : AV → Mm → Prop} {n : Nat} {k w : Int} (hq : -2147483648 ≤ k ∧ k < 2147483648) (hw : -2147483648 ≤ w ∧ w < 2147483648) (hn : X 5 0 = (n : Int)) (hn8 : n ≤ 8) (hA : ∀ k, k < n → (-16384 ≤ X 6 k ∧ X 6 k ≤ 16384) ∧ (-16384 ≤ X 7 k ∧ X 7 k ≤ 16384)) (hE : n ≠ 0 → X 19 n = ps (X 6) id n ∧ X 20 n = ps (X 7) id n) (hk : K (vJ (spR n k w (X 6) (X 7))) X) : Ct l g mX7_spans [vR 0, vI k, vI w] X K := by
  refine enter (by decide) (Nat.le_of_ble_eq_true rfl) (fun κ => ?_)
  unfold spR at hk
  refine g_iload_n rfl dX7_spans_0 ?_
  refine g_if_lt (t := 34) dX7_spans_1 (by decide) (by first | omega | (simp [st2]; done) | (simp [st2]; omega)) (fun b1 => ?_) (fun b1 => ?_)
  · refine g_lconst rfl dX7_spans_34 ?_
    refine g_lreturn rfl dX7_spans_35 ?_
    rw [if_pos (by omega)] at hk
    exact hk
  · refine g_iload_n rfl dX7_spans_4 ?_
    refine g_aload_n rfl dX7_spans_5 ?_
    refine gf_X7_23 (c2 := 5) rfl rfl (by first | rfl | assumption) dX7_spans_6 ?_
    refine gf_X7_74 rfl (by first | rfl | assumption) dX7_spans_9 ?_
    refine g_icmp_gt (t := 34) dX7_spans_12 (by decide) (by first | omega | (simp [st2]; done) | (simp [st2]; omega)) (by first | omega | (simp [st2]; done) | (simp [st2]; omega)) (fun b12 => ?_) (fun b12 => ?_)
    · refine g_lconst rfl dX7_spans_34 ?_
      refine g_lreturn rfl dX7_spans_35 ?_
      rw [if_pos (by omega)] at hk
      exact hk
    · refine g_aload_n rfl dX7_spans_15 ?_
      refine gf_X7_23 (c2 := 5) rfl rfl (by first | rfl | assumption) dX7_spans_16 ?_
      refine gf_X7_74 rfl (by first | rfl | assumption) dX7_spans_19 ?_
      refine g_if_eq (t := 34) dX7_spans_22 (by decide) (by first | omega | (simp [st2]; done) | (simp [st2]; omega)) (fun b22 => ?_) (fun b22 => ?_)
      · refine g_lconst rfl dX7_spans_34 ?_
        refine g_lreturn rfl dX7_spans_35 ?_
        rw [if_pos (by omega)] at hk
        exact hk
      · refine g_iload_n rfl dX7_spans_25 ?_
        refine g_if_lt (t := 34) dX7_spans_26 (by decide) (by first | omega | (simp [st2]; done) | (simp [st2]; omega)) (fun b26 => ?_) (fun b26 => ?_)
        · refine g_lconst rfl dX7_spans_34 ?_
          refine g_lreturn rfl dX7_spans_35 ?_
          rw [if_pos (by omega)] at hk
          exact hk
        · refine g_iload_n rfl dX7_spans_29 ?_
          refine g_iconst dX7_spans_30 ?_
          refine g_icmp_le (t := 36) dX7_spans_31 (by decide) (by first | omega | (simp [st2]; done) | (simp [st2]; omega)) (by first | omega | (simp [st2]; done) | (simp [st2]; omega)) (fun b31 => ?_) (fun b31 => ?_)
          · refine g_iload_n rfl dX7_spans_36 ?_
            refine g_aload_n rfl dX7_spans_37 ?_
            refine gf_X7_23 (c2 := 5) rfl rfl (by first | rfl | assumption) dX7_spans_38 ?_
            refine gf_X7_74 rfl (by first | rfl | assumption) dX7_spans_41 ?_
            refine g_icmp_ne (t := 73) dX7_spans_44 (by decide) (by first | omega | (simp [st2]; done) | (simp [st2]; omega)) (by first | omega | (simp [st2]; done) | (simp [st2]; omega)) (fun b44 => ?_) (fun b44 => ?_)
            · refine g_iload_n rfl dX7_spans_73 ?_
              refine g_if_ne (t := 90) dX7_spans_74 (by decide) (by first | omega | (simp [st2]; done) | (simp [st2]; omega)) (fun b74 => ?_) (fun b74 => ?_)
              · refine g_aload_n rfl dX7_spans_90 ?_
                refine gf_X7_23 (c2 := 5) rfl rfl (by first | rfl | assumption) dX7_spans_91 ?_
                refine gf_X7_130 (c2 := 7) rfl rfl (by first | rfl | assumption) dX7_spans_94 ?_
                refine g_iload_n rfl dX7_spans_97 ?_
                refine g_iald (n := 8) (k.toNat) (by first | rfl | assumption) (by first | rfl | assumption) (by omega) (by first | omega | (simp [st2]; done) | (simp [st2]; omega)) (by first | omega | (simp [st2]; done) | (simp [st2]; omega)) dX7_spans_98 ?_
                have hA2 := hA k.toNat (by omega)
                refine g_i2l (by first | omega | (simp [st2]; done) | (simp [st2]; omega)) dX7_spans_99 ?_
                refine g_lreturn rfl dX7_spans_100 ?_
                rw [if_neg (by omega)] at hk
                first | (rw [if_neg (by omega), if_pos (by omega)] at hk; exact hk) | (rw [if_neg (by omega), if_neg (by omega)] at hk; exact hk)
              · refine g_aload_n rfl dX7_spans_77 ?_
                refine gf_X7_23 (c2 := 5) rfl rfl (by first | rfl | assumption) dX7_spans_78 ?_
                refine gf_X7_129 (c2 := 6) rfl rfl (by first | rfl | assumption) dX7_spans_81 ?_
                refine g_iload_n rfl dX7_spans_84 ?_
                refine g_iald (n := 8) (k.toNat) (by first | rfl | assumption) (by first | rfl | assumption) (by omega) (by first | omega | (simp [st2]; done) | (simp [st2]; omega)) (by first | omega | (simp [st2]; done) | (simp [st2]; omega)) dX7_spans_85 ?_
                have hA2 := hA k.toNat (by omega)
                refine g_i2l (by first | omega | (simp [st2]; done) | (simp [st2]; omega)) dX7_spans_86 ?_
                refine g_goto (t := 100) dX7_spans_87 (by decide) ?_
                refine g_lreturn rfl dX7_spans_100 ?_
                rw [if_neg (by omega)] at hk
                first | (rw [if_neg (by omega), if_pos (by omega)] at hk; exact hk) | (rw [if_neg (by omega), if_neg (by omega)] at hk; exact hk)
            · refine g_iload_n rfl dX7_spans_47 ?_
              refine g_if_ne (t := 63) dX7_spans_48 (by decide) (by first | omega | (simp [st2]; done) | (simp [st2]; omega)) (fun b48 => ?_) (fun b48 => ?_)
              · refine g_aload_n rfl dX7_spans_63 ?_
                refine gf_X7_33 (c2 := 17) rfl rfl (by first | rfl | assumption) dX7_spans_64 ?_
                refine gf_X7_126 (c2 := 20) rfl rfl (by first | rfl | assumption) dX7_spans_67 ?_
                refine g_iload_n rfl dX7_spans_70 ?_
                refine g_lald (n := 9) (n) (by first | rfl | assumption) (by first | rfl | assumption) (by omega) (by first | omega | (simp [st2]; done) | (simp [st2]; omega)) (by first | omega | (simp [st2]; done) | (simp [st2]; omega)) dX7_spans_71 ?_
                refine g_lreturn rfl dX7_spans_72 ?_
                rw [if_neg (by omega), if_pos (by omega)] at hk
                have hE2 := hE (by omega)
                first
                  | (have e0 : w = 0 := by omega
                     subst e0
                     rw [hE2.1]
                     exact hk)
                  | (have e0 : w = 1 := by omega
                     subst e0
                     rw [hE2.2]
                     exact hk)
              · refine g_aload_n rfl dX7_spans_51 ?_
                refine gf_X7_33 (c2 := 17) rfl rfl (by first | rfl | assumption) dX7_spans_52 ?_
                refine gf_X7_122 (c2 := 19) rfl rfl (by first | rfl | assumption) dX7_spans_55 ?_
                refine g_iload_n rfl dX7_spans_58 ?_
                refine g_lald (n := 9) (n) (by first | rfl | assumption) (by first | rfl | assumption) (by omega) (by first | omega | (simp [st2]; done) | (simp [st2]; omega)) (by first | omega | (simp [st2]; done) | (simp [st2]; omega)) dX7_spans_59 ?_
                refine g_goto (t := 72) dX7_spans_60 (by decide) ?_
                refine g_lreturn rfl dX7_spans_72 ?_
                rw [if_neg (by omega), if_pos (by omega)] at hk
                have hE2 := hE (by omega)
                first
                  | (have e0 : w = 0 := by omega
                     subst e0
                     rw [hE2.1]
                     exact hk)
                  | (have e0 : w = 1 := by omega
                     subst e0
                     rw [hE2.2]
                     exact hk)
          · refine g_lconst rfl dX7_spans_34 ?_
            refine g_lreturn rfl dX7_spans_35 ?_
            rw [if_pos (by omega)] at hk
            exact hk
theorem ct_X7_order {l : Launch} {g : Geo} {X : Mm} {K : AV → Mm → Prop} {n : Nat} {w j : Int} (hj : -2147483648 ≤ j ∧ j < 2147483648) (hw : -2147483648 ≤ w ∧ w < 2147483648) (hn : X 5 0 = (n : Int)) (hn8 : n ≤ 8) (hk : K (vI (orR n w j (X 8) (X 9))) X) : Ct l g mX7_order [vR 0, vI w, vI j] X K := by
  refine enter (by decide) (Nat.le_of_ble_eq_true rfl) (fun κ => ?_)
  unfold orR at hk
  refine g_iload_n rfl dX7_order_0 ?_
  refine g_if_lt (t := 24) dX7_order_1 (by decide) (by first | omega | (simp [st2]; done) | (simp [st2]; omega)) (fun b1 => ?_) (fun b1 => ?_)
  · refine g_iconst dX7_order_24 ?_
    refine g_ireturn rfl dX7_order_25 ?_
    rw [if_pos (by omega)] at hk
    exact hk
  · refine g_iload_n rfl dX7_order_4 ?_
    refine g_iconst dX7_order_5 ?_
    refine g_icmp_gt (t := 24) dX7_order_6 (by decide) (by first | omega | (simp [st2]; done) | (simp [st2]; omega)) (by first | omega | (simp [st2]; done) | (simp [st2]; omega)) (fun b6 => ?_) (fun b6 => ?_)
    · refine g_iconst dX7_order_24 ?_
      refine g_ireturn rfl dX7_order_25 ?_
      rw [if_pos (by omega)] at hk
      exact hk
    · refine g_iload_n rfl dX7_order_9 ?_
      refine g_if_lt (t := 24) dX7_order_10 (by decide) (by first | omega | (simp [st2]; done) | (simp [st2]; omega)) (fun b10 => ?_) (fun b10 => ?_)
      · refine g_iconst dX7_order_24 ?_
        refine g_ireturn rfl dX7_order_25 ?_
        rw [if_pos (by omega)] at hk
        exact hk
      · refine g_iload_n rfl dX7_order_13 ?_
        refine g_aload_n rfl dX7_order_14 ?_
        refine gf_X7_23 (c2 := 5) rfl rfl (by first | rfl | assumption) dX7_order_15 ?_
        refine gf_X7_74 rfl (by first | rfl | assumption) dX7_order_18 ?_
        refine g_icmp_lt (t := 26) dX7_order_21 (by decide) (by first | omega | (simp [st2]; done) | (simp [st2]; omega)) (by first | omega | (simp [st2]; done) | (simp [st2]; omega)) (fun b21 => ?_) (fun b21 => ?_)
        · refine g_iload_n rfl dX7_order_26 ?_
          refine g_if_ne (t := 42) dX7_order_27 (by decide) (by first | omega | (simp [st2]; done) | (simp [st2]; omega)) (fun b27 => ?_) (fun b27 => ?_)
          · refine g_aload_n rfl dX7_order_42 ?_
            refine gf_X7_23 (c2 := 5) rfl rfl (by first | rfl | assumption) dX7_order_43 ?_
            refine gf_X7_134 (c2 := 9) rfl rfl (by first | rfl | assumption) dX7_order_46 ?_
            refine g_iload_n rfl dX7_order_49 ?_
            refine g_iald (n := 8) (j.toNat) (by first | rfl | assumption) (by first | rfl | assumption) (by omega) (by first | omega | (simp [st2]; done) | (simp [st2]; omega)) (by first | omega | (simp [st2]; done) | (simp [st2]; omega)) dX7_order_50 ?_
            refine g_ireturn rfl dX7_order_51 ?_
            rw [if_neg (by omega)] at hk
            first | (rw [if_pos (by omega)] at hk; exact hk) | (rw [if_neg (by omega)] at hk; exact hk)
          · refine g_aload_n rfl dX7_order_30 ?_
            refine gf_X7_23 (c2 := 5) rfl rfl (by first | rfl | assumption) dX7_order_31 ?_
            refine gf_X7_131 (c2 := 8) rfl rfl (by first | rfl | assumption) dX7_order_34 ?_
            refine g_iload_n rfl dX7_order_37 ?_
            refine g_iald (n := 8) (j.toNat) (by first | rfl | assumption) (by first | rfl | assumption) (by omega) (by first | omega | (simp [st2]; done) | (simp [st2]; omega)) (by first | omega | (simp [st2]; done) | (simp [st2]; omega)) dX7_order_38 ?_
            refine g_goto (t := 51) dX7_order_39 (by decide) ?_
            refine g_ireturn rfl dX7_order_51 ?_
            rw [if_neg (by omega)] at hk
            first | (rw [if_pos (by omega)] at hk; exact hk) | (rw [if_neg (by omega)] at hk; exact hk)
        · refine g_iconst dX7_order_24 ?_
          refine g_ireturn rfl dX7_order_25 ?_
          rw [if_pos (by omega)] at hk
          exact hk
theorem ct_X7_where {l : Launch} {g : Geo} {X : Mm} {K : AV → Mm → Prop} {w : Int} (hp : X 29 0 = 0 ∨ X 29 0 = 1) (hw : -2147483648 ≤ w ∧ w < 2147483648) (hk : K (vJ (whR (X 29 0) w (X 29 1) (X 29 2))) X) : Ct l g mX7_where [vR 0, vI w] X K := by
  refine enter (by decide) (Nat.le_of_ble_eq_true rfl) (fun κ => ?_)
  unfold whR at hk
  refine g_aload_n rfl dX7_where_0 ?_
  refine gf_X7_43 (c2 := 29) rfl rfl (by first | rfl | assumption) dX7_where_1 ?_
  refine gf_X7_77 rfl (by first | rfl | assumption) dX7_where_4 ?_
  refine g_if_eq (t := 19) dX7_where_7 (by decide) (by first | omega | (simp [st2]; done) | (simp [st2]; omega)) (fun b7 => ?_) (fun b7 => ?_)
  · refine g_ldc2 (n := (-9000000000000000000)) (by rw [show Int64.ofInt (-9000000000000000000) = ((-9000000000000000000) : Int64) by decide]; exact kc_RX7_161) dX7_where_19 ?_
    refine g_lreturn rfl dX7_where_22 ?_
    first | (rw [if_pos (by omega)] at hk; exact hk) | (rw [if_neg (by omega), if_pos (by omega)] at hk; exact hk) | (rw [if_neg (by omega), if_neg (by omega)] at hk; exact hk)
  · refine g_iload_n rfl dX7_where_10 ?_
    refine g_if_lt (t := 19) dX7_where_11 (by decide) (by first | omega | (simp [st2]; done) | (simp [st2]; omega)) (fun b11 => ?_) (fun b11 => ?_)
    · refine g_ldc2 (n := (-9000000000000000000)) (by rw [show Int64.ofInt (-9000000000000000000) = ((-9000000000000000000) : Int64) by decide]; exact kc_RX7_161) dX7_where_19 ?_
      refine g_lreturn rfl dX7_where_22 ?_
      first | (rw [if_pos (by omega)] at hk; exact hk) | (rw [if_neg (by omega), if_pos (by omega)] at hk; exact hk) | (rw [if_neg (by omega), if_neg (by omega)] at hk; exact hk)
    · refine g_iload_n rfl dX7_where_14 ?_
      refine g_iconst dX7_where_15 ?_
      refine g_icmp_le (t := 23) dX7_where_16 (by decide) (by first | omega | (simp [st2]; done) | (simp [st2]; omega)) (by first | omega | (simp [st2]; done) | (simp [st2]; omega)) (fun b16 => ?_) (fun b16 => ?_)
      · refine g_iload_n rfl dX7_where_23 ?_
        refine g_if_ne (t := 37) dX7_where_24 (by decide) (by first | omega | (simp [st2]; done) | (simp [st2]; omega)) (fun b24 => ?_) (fun b24 => ?_)
        · refine g_aload_n rfl dX7_where_37 ?_
          refine gf_X7_43 (c2 := 29) rfl rfl (by first | rfl | assumption) dX7_where_38 ?_
          refine gf_X7_154 rfl (by first | rfl | assumption) dX7_where_41 ?_
          refine g_lreturn rfl dX7_where_44 ?_
          first | (rw [if_pos (by omega)] at hk; exact hk) | (rw [if_neg (by omega), if_pos (by omega)] at hk; exact hk) | (rw [if_neg (by omega), if_neg (by omega)] at hk; exact hk)
        · refine g_aload_n rfl dX7_where_27 ?_
          refine gf_X7_43 (c2 := 29) rfl rfl (by first | rfl | assumption) dX7_where_28 ?_
          refine gf_X7_150 rfl (by first | rfl | assumption) dX7_where_31 ?_
          refine g_goto (t := 44) dX7_where_34 (by decide) ?_
          refine g_lreturn rfl dX7_where_44 ?_
          first | (rw [if_pos (by omega)] at hk; exact hk) | (rw [if_neg (by omega), if_pos (by omega)] at hk; exact hk) | (rw [if_neg (by omega), if_neg (by omega)] at hk; exact hk)
      · refine g_ldc2 (n := (-9000000000000000000)) (by rw [show Int64.ofInt (-9000000000000000000) = ((-9000000000000000000) : Int64) by decide]; exact kc_RX7_161) dX7_where_19 ?_
        refine g_lreturn rfl dX7_where_22 ?_
        first | (rw [if_pos (by omega)] at hk; exact hk) | (rw [if_neg (by omega), if_pos (by omega)] at hk; exact hk) | (rw [if_neg (by omega), if_neg (by omega)] at hk; exact hk)
theorem ct_X7_table {l : Launch} {g : Geo} {X : Mm} {K : AV → Mm → Prop} {n : Nat} {i j : Int} (hi : -2147483648 ≤ i ∧ i < 2147483648) (hj : -2147483648 ≤ j ∧ j < 2147483648) (hn : X 5 0 = (n : Int)) (hn8 : n ≤ 8) (hk : K (vJ (tbR n i j (X 10))) X) : Ct l g mX7_table [vR 0, vI i, vI j] X K := by
  refine enter (by decide) (Nat.le_of_ble_eq_true rfl) (fun κ => ?_)
  unfold tbR at hk
  refine g_iload_n rfl dX7_table_0 ?_
  refine g_if_lt (t := 30) dX7_table_1 (by decide) (by first | omega | (simp [st2]; done) | (simp [st2]; omega)) (fun b1 => ?_) (fun b1 => ?_)
  · refine g_ldc2 (n := (-1)) (by rw [show Int64.ofInt (-1) = ((-1) : Int64) by decide]; exact kc_RX7_173) dX7_table_30 ?_
    refine g_lreturn rfl dX7_table_33 ?_
    first | (rw [if_pos (by omega)] at hk; exact hk) | (rw [if_neg (by omega)] at hk; exact hk)
  · refine g_iload_n rfl dX7_table_4 ?_
    refine g_aload_n rfl dX7_table_5 ?_
    refine gf_X7_23 (c2 := 5) rfl rfl (by first | rfl | assumption) dX7_table_6 ?_
    refine gf_X7_74 rfl (by first | rfl | assumption) dX7_table_9 ?_
    refine g_icmp_ge (t := 30) dX7_table_12 (by decide) (by first | omega | (simp [st2]; done) | (simp [st2]; omega)) (by first | omega | (simp [st2]; done) | (simp [st2]; omega)) (fun b12 => ?_) (fun b12 => ?_)
    · refine g_ldc2 (n := (-1)) (by rw [show Int64.ofInt (-1) = ((-1) : Int64) by decide]; exact kc_RX7_173) dX7_table_30 ?_
      refine g_lreturn rfl dX7_table_33 ?_
      first | (rw [if_pos (by omega)] at hk; exact hk) | (rw [if_neg (by omega)] at hk; exact hk)
    · refine g_iload_n rfl dX7_table_15 ?_
      refine g_if_lt (t := 30) dX7_table_16 (by decide) (by first | omega | (simp [st2]; done) | (simp [st2]; omega)) (fun b16 => ?_) (fun b16 => ?_)
      · refine g_ldc2 (n := (-1)) (by rw [show Int64.ofInt (-1) = ((-1) : Int64) by decide]; exact kc_RX7_173) dX7_table_30 ?_
        refine g_lreturn rfl dX7_table_33 ?_
        first | (rw [if_pos (by omega)] at hk; exact hk) | (rw [if_neg (by omega)] at hk; exact hk)
      · refine g_iload_n rfl dX7_table_19 ?_
        refine g_aload_n rfl dX7_table_20 ?_
        refine gf_X7_23 (c2 := 5) rfl rfl (by first | rfl | assumption) dX7_table_21 ?_
        refine gf_X7_74 rfl (by first | rfl | assumption) dX7_table_24 ?_
        refine g_icmp_lt (t := 34) dX7_table_27 (by decide) (by first | omega | (simp [st2]; done) | (simp [st2]; omega)) (by first | omega | (simp [st2]; done) | (simp [st2]; omega)) (fun b27 => ?_) (fun b27 => ?_)
        · refine g_aload_n rfl dX7_table_34 ?_
          refine gf_X7_23 (c2 := 5) rfl rfl (by first | rfl | assumption) dX7_table_35 ?_
          refine gf_X7_175 (c2 := 10) rfl rfl (by first | rfl | assumption) dX7_table_38 ?_
          refine g_iload_n rfl dX7_table_41 ?_
          refine g_bipush (by decide) dX7_table_42 ?_
          refine g_imul dX7_table_44 ?_
          refine g_iload_n rfl dX7_table_45 ?_
          refine g_iadd dX7_table_46 ?_
          refine g_lald (n := 64) (8 * i.toNat + j.toNat) (by first | rfl | assumption) (by first | rfl | assumption) (by omega) (by first | omega | (simp [st2]; done) | (simp [st2]; omega)) (by first | omega | (simp [st2]; done) | (simp [st2]; omega)) dX7_table_47 ?_
          refine g_lreturn rfl dX7_table_48 ?_
          first | (rw [if_pos (by omega)] at hk; exact hk) | (rw [if_neg (by omega)] at hk; exact hk)
        · refine g_ldc2 (n := (-1)) (by rw [show Int64.ofInt (-1) = ((-1) : Int64) by decide]; exact kc_RX7_173) dX7_table_30 ?_
          refine g_lreturn rfl dX7_table_33 ?_
          first | (rw [if_pos (by omega)] at hk; exact hk) | (rw [if_neg (by omega)] at hk; exact hk)
theorem ct_X7_round {l : Launch} {g : Geo} {X : Mm} {K : AV → Mm → Prop} {n : Nat} {k w : Int} (hq : -2147483648 ≤ k ∧ k < 2147483648) (hw : -2147483648 ≤ w ∧ w < 2147483648) (hn : X 31 0 = (n : Int)) (hn8 : n ≤ 8) (hk : K (vI (rdR n k w (X 32) (X 33) (X 34))) X) : Ct l g mX7_round [vR 0, vI k, vI w] X K := by
  refine enter (by decide) (Nat.le_of_ble_eq_true rfl) (fun κ => ?_)
  unfold rdR at hk
  refine g_iload_n rfl dX7_round_0 ?_
  refine g_if_lt (t := 15) dX7_round_1 (by decide) (by first | omega | (simp [st2]; done) | (simp [st2]; omega)) (fun b1 => ?_) (fun b1 => ?_)
  · refine g_iconst dX7_round_15 ?_
    refine g_ireturn rfl dX7_round_16 ?_
    rw [if_pos (by omega)] at hk
    exact hk
  · refine g_iload_n rfl dX7_round_4 ?_
    refine g_aload_n rfl dX7_round_5 ?_
    refine gf_X7_53 (c2 := 31) rfl rfl (by first | rfl | assumption) dX7_round_6 ?_
    refine gf_X7_195 rfl (by first | rfl | assumption) dX7_round_9 ?_
    refine g_icmp_lt (t := 17) dX7_round_12 (by decide) (by first | omega | (simp [st2]; done) | (simp [st2]; omega)) (by first | omega | (simp [st2]; done) | (simp [st2]; omega)) (fun b12 => ?_) (fun b12 => ?_)
    · refine g_iload_n rfl dX7_round_17 ?_
      rcases (show w = 0 ∨ w = 1 ∨ w = 2 ∨ (w < 0 ∨ 2 < w) by omega) with sw | sw | sw | sw
      · rw [sw]
        refine g_tabIn (t := 44) (off := 26) dX7_round_18 (by decide) (by decide) (by decide) (by decide) (by decide) ?_
        refine g_aload_n rfl dX7_round_44 ?_
        refine gf_X7_53 (c2 := 31) rfl rfl (by first | rfl | assumption) dX7_round_45 ?_
        refine gf_X7_196 (c2 := 32) rfl rfl (by first | rfl | assumption) dX7_round_48 ?_
        refine g_iload_n rfl dX7_round_51 ?_
        refine g_iald (n := 8) (k.toNat) (by first | rfl | assumption) (by first | rfl | assumption) (by omega) (by first | omega | (simp [st2]; done) | (simp [st2]; omega)) (by first | omega | (simp [st2]; done) | (simp [st2]; omega)) dX7_round_52 ?_
        refine g_ireturn rfl dX7_round_53 ?_
        rw [if_neg (by omega)] at hk
        first | (rw [if_pos (by omega)] at hk; exact hk) | (rw [if_neg (by omega), if_pos (by omega)] at hk; exact hk) | (rw [if_neg (by omega), if_neg (by omega), if_pos (by omega)] at hk; exact hk) | (rw [if_neg (by omega), if_neg (by omega), if_neg (by omega)] at hk; exact hk)
      · rw [sw]
        refine g_tabIn (t := 54) (off := 36) dX7_round_18 (by decide) (by decide) (by decide) (by decide) (by decide) ?_
        refine g_aload_n rfl dX7_round_54 ?_
        refine gf_X7_53 (c2 := 31) rfl rfl (by first | rfl | assumption) dX7_round_55 ?_
        refine gf_X7_199 (c2 := 33) rfl rfl (by first | rfl | assumption) dX7_round_58 ?_
        refine g_iload_n rfl dX7_round_61 ?_
        refine g_iald (n := 8) (k.toNat) (by first | rfl | assumption) (by first | rfl | assumption) (by omega) (by first | omega | (simp [st2]; done) | (simp [st2]; omega)) (by first | omega | (simp [st2]; done) | (simp [st2]; omega)) dX7_round_62 ?_
        refine g_ireturn rfl dX7_round_63 ?_
        rw [if_neg (by omega)] at hk
        first | (rw [if_pos (by omega)] at hk; exact hk) | (rw [if_neg (by omega), if_pos (by omega)] at hk; exact hk) | (rw [if_neg (by omega), if_neg (by omega), if_pos (by omega)] at hk; exact hk) | (rw [if_neg (by omega), if_neg (by omega), if_neg (by omega)] at hk; exact hk)
      · rw [sw]
        refine g_tabIn (t := 64) (off := 46) dX7_round_18 (by decide) (by decide) (by decide) (by decide) (by decide) ?_
        refine g_aload_n rfl dX7_round_64 ?_
        refine gf_X7_53 (c2 := 31) rfl rfl (by first | rfl | assumption) dX7_round_65 ?_
        refine gf_X7_202 (c2 := 34) rfl rfl (by first | rfl | assumption) dX7_round_68 ?_
        refine g_iload_n rfl dX7_round_71 ?_
        refine g_iald (n := 8) (k.toNat) (by first | rfl | assumption) (by first | rfl | assumption) (by omega) (by first | omega | (simp [st2]; done) | (simp [st2]; omega)) (by first | omega | (simp [st2]; done) | (simp [st2]; omega)) dX7_round_72 ?_
        refine g_ireturn rfl dX7_round_73 ?_
        rw [if_neg (by omega)] at hk
        first | (rw [if_pos (by omega)] at hk; exact hk) | (rw [if_neg (by omega), if_pos (by omega)] at hk; exact hk) | (rw [if_neg (by omega), if_neg (by omega), if_pos (by omega)] at hk; exact hk) | (rw [if_neg (by omega), if_neg (by omega), if_neg (by omega)] at hk; exact hk)
      · refine g_tabOut (t := 74) dX7_round_18 (by first | omega | (simp [st2]; done) | (simp [st2]; omega)) sw (by decide) ?_
        refine g_iconst dX7_round_74 ?_
        refine g_ireturn rfl dX7_round_75 ?_
        rw [if_neg (by omega)] at hk
        first | (rw [if_pos (by omega)] at hk; exact hk) | (rw [if_neg (by omega), if_pos (by omega)] at hk; exact hk) | (rw [if_neg (by omega), if_neg (by omega), if_pos (by omega)] at hk; exact hk) | (rw [if_neg (by omega), if_neg (by omega), if_neg (by omega)] at hk; exact hk)
    · refine g_iconst dX7_round_15 ?_
      refine g_ireturn rfl dX7_round_16 ?_
      rw [if_pos (by omega)] at hk
      exact hk
theorem ct_X4_hasAllLengths {l : Launch} {g : Geo} {X : Mm} {K : AV → Mm → Prop} {m : Nat} (hm : X 1 0 = (m : Int)) (hm8 : m ≤ 8) (hA : ∀ k, k < 8 → (-16384 ≤ X 2 k ∧ X 2 k ≤ 16384) ∧ (-16384 ≤ X 3 k ∧ X 3 k ≤ 16384)) (h0 : (∃ k, k < m ∧ X 2 k = 0 ∧ X 3 k = 0) → K (vI 0) X) (h1 : (∀ k, k < m → ¬ (X 2 k = 0 ∧ X 3 k = 0)) → K (vI 1) X) : Ct l g mX4_hasAllLengths [vR 1] X K := by
  refine enter (by decide) (Nat.le_of_ble_eq_true rfl) (fun κ => ?_)
  have loop1 : ∀ k, k ≤ m → (∀ i, i < k → ¬ (X 2 i = 0 ∧ X 3 i = 0)) → G l g mX4_hasAllLengths κ K 2 [(0, vR 1), (1, vI (k : Int))] [] X := by
    refine upTo m ?_
    intro k hkm ih hlt
    have a1 := fun q => hA k q
    refine g_iload_n rfl dX4_hasAllLengths_2 ?_
    refine g_aload_n rfl dX4_hasAllLengths_3 ?_
    refine gf_X4_21 rfl (by first | rfl | assumption) dX4_hasAllLengths_4 ?_
    refine g_icmp_ge (t := 36) dX4_hasAllLengths_7 (by decide) (by first | omega | (simp [st2]; done) | (simp [st2]; omega)) (by first | omega | (simp [st2]; done) | (simp [st2]; omega)) (fun b7 => ?_) (fun b7 => ?_)
    · refine g_iconst dX4_hasAllLengths_36 ?_
      refine g_zreturn rfl (by omega) dX4_hasAllLengths_37 ?_
      exact h1 (fun i hi => hlt i (by omega))
    · have a3 := a1 (by omega)
      refine g_aload_n rfl dX4_hasAllLengths_10 ?_
      refine gf_X4_9 (c2 := 2) rfl rfl (by first | rfl | assumption) dX4_hasAllLengths_11 ?_
      refine g_iload_n rfl dX4_hasAllLengths_14 ?_
      refine g_iald (n := 8) (_) (by first | rfl | assumption) (by first | rfl | assumption) rfl (by first | omega | (simp [st2]; done) | (simp [st2]; omega)) (by first | omega | (simp [st2]; done) | (simp [st2]; omega)) dX4_hasAllLengths_15 ?_
      refine g_if_ne (t := 30) dX4_hasAllLengths_16 (by decide) (by first | omega | (simp [st2]; done) | (simp [st2]; omega)) (fun b16 => ?_) (fun b16 => ?_)
      · refine g_iinc rfl (by decide) dX4_hasAllLengths_30 ?_
        refine g_goto (t := 2) dX4_hasAllLengths_33 (by decide) ?_
        refine g_subl [(0, vR 1), (1, vI ((k + 1 : Nat) : Int))] rfl ?_
        refine ih (k + 1) (by omega) (by omega) ?_
        intro i hi
        rcases Nat.lt_or_ge i k with z | z
        · exact hlt i z
        · rw [show i = k by omega]; omega
      · refine g_aload_n rfl dX4_hasAllLengths_19 ?_
        refine gf_X4_15 (c2 := 3) rfl rfl (by first | rfl | assumption) dX4_hasAllLengths_20 ?_
        refine g_iload_n rfl dX4_hasAllLengths_23 ?_
        refine g_iald (n := 8) (_) (by first | rfl | assumption) (by first | rfl | assumption) rfl (by first | omega | (simp [st2]; done) | (simp [st2]; omega)) (by first | omega | (simp [st2]; done) | (simp [st2]; omega)) dX4_hasAllLengths_24 ?_
        refine g_if_ne (t := 30) dX4_hasAllLengths_25 (by decide) (by first | omega | (simp [st2]; done) | (simp [st2]; omega)) (fun b25 => ?_) (fun b25 => ?_)
        · refine g_iinc rfl (by decide) dX4_hasAllLengths_30 ?_
          refine g_goto (t := 2) dX4_hasAllLengths_33 (by decide) ?_
          refine g_subl [(0, vR 1), (1, vI ((k + 1 : Nat) : Int))] rfl ?_
          refine ih (k + 1) (by omega) (by omega) ?_
          intro i hi
          rcases Nat.lt_or_ge i k with z | z
          · exact hlt i z
          · rw [show i = k by omega]; omega
        · refine g_iconst dX4_hasAllLengths_28 ?_
          refine g_zreturn rfl (by omega) dX4_hasAllLengths_29 ?_
          exact h0 ⟨k, by omega, by omega, by omega⟩
  refine g_iconst dX4_hasAllLengths_0 ?_
  refine g_istore_n (by decide) dX4_hasAllLengths_1 ?_
  refine g_subl [(0, vR 1), (1, vI ((0 : Nat) : Int))] rfl ?_
  exact loop1 0 (by omega) (fun i hi => absurd hi (by omega))
def LayC (X : Mm) (m : Nat) (r : Int) (X2 : Mm) : Prop := (∀ c j, c ≠ 5 → c ≠ 6 → c ≠ 7 → c ≠ 8 → c ≠ 9 → c ≠ 10 → X2 c j = X c j) ∧ (X2 5 0 = (m : Int) ∧ X2 5 1 = r ∧ X2 5 2 = 0 ∧ X2 5 3 = 0) ∧ (∀ k, k < m → X2 6 k = X 2 k ∧ X2 7 k = X 3 k ∧ X2 8 k = (k : Int) ∧ X2 9 k = X 4 k) ∧ ∀ i j, i < m → j < m → X2 10 (8 * i + j) = if i = j then 1 else 0
def LayCi (X : Mm) (m k : Nat) (r : Int) (X2 : Mm) : Prop := (∀ c j, c ≠ 5 → c ≠ 6 → c ≠ 7 → c ≠ 8 → c ≠ 9 → c ≠ 10 → X2 c j = X c j) ∧ (X2 5 0 = (m : Int) ∧ X2 5 1 = r ∧ X2 5 2 = 0 ∧ X2 5 3 = 0) ∧ (∀ i, i < k → X2 6 i = X 2 i ∧ X2 7 i = X 3 i ∧ X2 8 i = (i : Int) ∧ X2 9 i = X 4 i) ∧ ∀ i j, i < k → j < m → X2 10 (8 * i + j) = if i = j then 1 else 0
def LayCj (X : Mm) (m k q : Nat) (r : Int) (X2 : Mm) : Prop := (∀ c j, c ≠ 5 → c ≠ 6 → c ≠ 7 → c ≠ 8 → c ≠ 9 → c ≠ 10 → X2 c j = X c j) ∧ (X2 5 0 = (m : Int) ∧ X2 5 1 = r ∧ X2 5 2 = 0 ∧ X2 5 3 = 0) ∧ (∀ i, i < k + 1 → X2 6 i = X 2 i ∧ X2 7 i = X 3 i ∧ X2 8 i = (i : Int) ∧ X2 9 i = X 4 i) ∧ (∀ i j, i < k → j < m → X2 10 (8 * i + j) = if i = j then 1 else 0) ∧ ∀ j, j < q → X2 10 (8 * k + j) = if k = j then 1 else 0
theorem layCj_0 {X X2 : Mm} {m k : Nat} {r : Int} (h : LayCi X m k r X2) : LayCj X m k 0 r (st2 (st2 (st2 (st2 X2 6 k (X2 2 k)) 7 k (X2 3 k)) 8 k (k : Int)) 9 k (X2 4 k)) := by
  obtain ⟨e1, e2, e4, e5⟩ := h
  refine ⟨?_, e2, ?_, ?_, ?_⟩
  · intro c j a1 a2 a3 a4 a5 a6
    simp only [st2, if_neg a2, if_neg a3, if_neg a4, if_neg a5]
    exact e1 c j a1 a2 a3 a4 a5 a6
  · intro i hi
    rcases Nat.lt_or_ge i k with z | z
    · have q : i ≠ k := by omega
      simp [st2, q]
      exact e4 i z
    · obtain rfl : i = k := by omega
      simp [st2]
      exact ⟨e1 2 i (by decide) (by decide) (by decide) (by decide) (by decide) (by decide), e1 3 i (by decide) (by decide) (by decide) (by decide) (by decide) (by decide), e1 4 i (by decide) (by decide) (by decide) (by decide) (by decide) (by decide)⟩
  · intro i j hi hj
    simp only [st2]
    exact e5 i j hi hj
  · intro j hj
    omega
theorem layCj_s {X X2 : Mm} {m k q : Nat} {r v : Int} (h : LayCj X m k q r X2) (hk : k < 8) (hm : m ≤ 8) (hq : q < m) (hv : v = if k = q then 1 else 0) : LayCj X m k (q + 1) r (st2 X2 10 (8 * k + q) v) := by
  obtain ⟨e1, e2, e4, e5, e6⟩ := h
  refine ⟨?_, e2, e4, ?_, ?_⟩
  · intro c j a1 a2 a3 a4 a5 a6
    simp only [st2, if_neg a6]
    exact e1 c j a1 a2 a3 a4 a5 a6
  · intro i j hi hj
    have z : 8 * i + j ≠ 8 * k + q := by omega
    simp only [st2, if_true, if_neg z]
    exact e5 i j hi hj
  · intro j hj
    rcases Nat.lt_or_ge j q with z | z
    · have z2 : 8 * k + j ≠ 8 * k + q := by omega
      simp only [st2, if_true, if_neg z2]
      exact e6 j z
    · obtain rfl : j = q := by omega
      simp only [st2, if_true]
      exact hv
set_option maxRecDepth 100000 in
set_option maxHeartbeats 4000000 in
theorem ct_X3_layFrom {l : Launch} {g : Geo} {X : Mm} {K : AV → Mm → Prop} {m : Nat} {r : Int} (hm : X 1 0 = (m : Int)) (hm8 : m ≤ 8) (hk : ∀ X2, LayC X m r X2 → K (vI 0) X2) : Ct l g mX3_layFrom [vR 5, vR 1, vI r] X K := by
  refine enter (by decide) (Nat.le_of_ble_eq_true rfl) (fun κ => ?_)
  have loop3 : ∀ k, k < m → (∀ X3, LayCi X m (k + 1) r X3 → G l g mX3_layFrom κ K 117 [(0, vR 5), (1, vR 1), (2, vI r), (3, vI (k : Int))] [] X3) → ∀ q, q ≤ m → ∀ X2, LayCj X m k q r X2 → G l g mX3_layFrom κ K 79 [(0, vR 5), (1, vR 1), (2, vI r), (3, vI (k : Int)), (4, vI (q : Int))] [] X2 := by
    intro k hkm go
    refine upTo m ?_
    intro q hq ih X2 hX2
    have h5 : X2 5 0 = (m : Int) := hX2.2.1.1
    refine g_iload rfl dX3_layFrom_79 ?_
    refine g_aload_n rfl dX3_layFrom_81 ?_
    refine gf_X3_34 rfl (by first | rfl | assumption) dX3_layFrom_82 ?_
    refine g_icmp_ge (t := 117) dX3_layFrom_85 (by decide) (by first | omega | (simp [st2]; done) | (simp [st2]; omega)) (by first | omega | (simp [st2]; done) | (simp [st2]; omega)) (fun b85 => ?_) (fun b85 => ?_)
    · refine g_subl [(0, vR 5), (1, vR 1), (2, vI r), (3, vI (k : Int))] rfl ?_
      refine go _ ?_
      obtain ⟨e1, e2, e4, e5, e6⟩ := hX2
      refine ⟨e1, e2, e4, ?_⟩
      intro i j hi hj
      rcases Nat.lt_or_ge i k with z | z
      · exact e5 i j z hj
      · rw [show i = k by omega]
        exact e6 j (by omega)
    · refine g_aload_n rfl dX3_layFrom_88 ?_
      refine gf_X3_24 (c2 := 10) rfl rfl (by first | rfl | assumption) dX3_layFrom_89 ?_
      refine g_iload_n rfl dX3_layFrom_92 ?_
      refine g_bipush (by decide) dX3_layFrom_93 ?_
      refine g_imul dX3_layFrom_95 ?_
      refine g_iload rfl dX3_layFrom_96 ?_
      refine g_iadd dX3_layFrom_98 ?_
      refine g_iload_n rfl dX3_layFrom_99 ?_
      refine g_iload rfl dX3_layFrom_100 ?_
      refine g_icmp_ne (t := 109) dX3_layFrom_102 (by decide) (by first | omega | (simp [st2]; done) | (simp [st2]; omega)) (by first | omega | (simp [st2]; done) | (simp [st2]; omega)) (fun b102 => ?_) (fun b102 => ?_)
      · refine g_lconst rfl dX3_layFrom_109 ?_
        refine g_last (n := 64) (8 * k + q) (by first | rfl | assumption) (by first | rfl | assumption) (by omega) (by first | omega | (simp [st2]; done) | (simp [st2]; omega)) (by first | omega | (simp [st2]; done) | (simp [st2]; omega)) dX3_layFrom_110 ?_
        refine g_iinc rfl (by decide) dX3_layFrom_111 ?_
        refine g_goto (t := 79) dX3_layFrom_114 (by decide) ?_
        refine g_subl [(0, vR 5), (1, vR 1), (2, vI r), (3, vI (k : Int)), (4, vI ((q + 1 : Nat) : Int))] rfl ?_
        exact ih (q + 1) (by omega) (by omega) _ (layCj_s hX2 (by omega) hm8 (by omega) (by split <;> omega))
      · refine g_lconst rfl dX3_layFrom_105 ?_
        refine g_goto (t := 110) dX3_layFrom_106 (by decide) ?_
        refine g_last (n := 64) (8 * k + q) (by first | rfl | assumption) (by first | rfl | assumption) (by omega) (by first | omega | (simp [st2]; done) | (simp [st2]; omega)) (by first | omega | (simp [st2]; done) | (simp [st2]; omega)) dX3_layFrom_110 ?_
        refine g_iinc rfl (by decide) dX3_layFrom_111 ?_
        refine g_goto (t := 79) dX3_layFrom_114 (by decide) ?_
        refine g_subl [(0, vR 5), (1, vR 1), (2, vI r), (3, vI (k : Int)), (4, vI ((q + 1 : Nat) : Int))] rfl ?_
        exact ih (q + 1) (by omega) (by omega) _ (layCj_s hX2 (by omega) hm8 (by omega) (by split <;> omega))
  have loop2 : ∀ k, k ≤ m → ∀ X2, LayCi X m k r X2 → G l g mX3_layFrom κ K 25 [(0, vR 5), (1, vR 1), (2, vI r), (3, vI (k : Int))] [] X2 := by
    refine upTo m ?_
    intro k hkm ih X2 hX2
    have h5 : X2 5 0 = (m : Int) := hX2.2.1.1
    refine g_iload_n rfl dX3_layFrom_25 ?_
    refine g_aload_n rfl dX3_layFrom_26 ?_
    refine gf_X3_34 rfl (by first | rfl | assumption) dX3_layFrom_27 ?_
    refine g_icmp_ge (t := 123) dX3_layFrom_30 (by decide) (by first | omega | (simp [st2]; done) | (simp [st2]; omega)) (by first | omega | (simp [st2]; done) | (simp [st2]; omega)) (fun b30 => ?_) (fun b30 => ?_)
    · refine g_return rfl dX3_layFrom_123 ?_
      obtain rfl : m = k := by omega
      exact hk _ hX2
    · refine g_aload_n rfl dX3_layFrom_33 ?_
      refine gf_X3_9 (c2 := 6) rfl rfl (by first | rfl | assumption) dX3_layFrom_34 ?_
      refine g_iload_n rfl dX3_layFrom_37 ?_
      refine g_aload_n rfl dX3_layFrom_38 ?_
      refine gf_X3_44 (c2 := 2) rfl rfl (by first | rfl | assumption) dX3_layFrom_39 ?_
      refine g_iload_n rfl dX3_layFrom_42 ?_
      refine g_iald (n := 8) (_) (by first | rfl | assumption) (by first | rfl | assumption) rfl (by first | omega | (simp [st2]; done) | (simp [st2]; omega)) (by first | omega | (simp [st2]; done) | (simp [st2]; omega)) dX3_layFrom_43 ?_
      refine g_iast (n := 8) (_) (by first | rfl | assumption) (by first | rfl | assumption) rfl (by first | omega | (simp [st2]; done) | (simp [st2]; omega)) (by first | omega | (simp [st2]; done) | (simp [st2]; omega)) dX3_layFrom_44 ?_
      refine g_aload_n rfl dX3_layFrom_45 ?_
      refine gf_X3_15 (c2 := 7) rfl rfl (by first | rfl | assumption) dX3_layFrom_46 ?_
      refine g_iload_n rfl dX3_layFrom_49 ?_
      refine g_aload_n rfl dX3_layFrom_50 ?_
      refine gf_X3_45 (c2 := 3) rfl rfl (by first | rfl | assumption) dX3_layFrom_51 ?_
      refine g_iload_n rfl dX3_layFrom_54 ?_
      refine g_iald (n := 8) (_) (by first | rfl | assumption) (by first | rfl | assumption) rfl (by first | omega | (simp [st2]; done) | (simp [st2]; omega)) (by first | omega | (simp [st2]; done) | (simp [st2]; omega)) dX3_layFrom_55 ?_
      refine g_iast (n := 8) (_) (by first | rfl | assumption) (by first | rfl | assumption) rfl (by first | omega | (simp [st2]; done) | (simp [st2]; omega)) (by first | omega | (simp [st2]; done) | (simp [st2]; omega)) dX3_layFrom_56 ?_
      refine g_aload_n rfl dX3_layFrom_57 ?_
      refine gf_X3_18 (c2 := 8) rfl rfl (by first | rfl | assumption) dX3_layFrom_58 ?_
      refine g_iload_n rfl dX3_layFrom_61 ?_
      refine g_iload_n rfl dX3_layFrom_62 ?_
      refine g_iast (n := 8) (_) (by first | rfl | assumption) (by first | rfl | assumption) rfl (by first | omega | (simp [st2]; done) | (simp [st2]; omega)) (by first | omega | (simp [st2]; done) | (simp [st2]; omega)) dX3_layFrom_63 ?_
      refine g_aload_n rfl dX3_layFrom_64 ?_
      refine gf_X3_21 (c2 := 9) rfl rfl (by first | rfl | assumption) dX3_layFrom_65 ?_
      refine g_iload_n rfl dX3_layFrom_68 ?_
      refine g_aload_n rfl dX3_layFrom_69 ?_
      refine gf_X3_46 (c2 := 4) rfl rfl (by first | rfl | assumption) dX3_layFrom_70 ?_
      refine g_iload_n rfl dX3_layFrom_73 ?_
      refine g_iald (n := 8) (_) (by first | rfl | assumption) (by first | rfl | assumption) rfl (by first | omega | (simp [st2]; done) | (simp [st2]; omega)) (by first | omega | (simp [st2]; done) | (simp [st2]; omega)) dX3_layFrom_74 ?_
      refine g_iast (n := 8) (_) (by first | rfl | assumption) (by first | rfl | assumption) rfl (by first | omega | (simp [st2]; done) | (simp [st2]; omega)) (by first | omega | (simp [st2]; done) | (simp [st2]; omega)) dX3_layFrom_75 ?_
      refine g_iconst dX3_layFrom_76 ?_
      refine g_istore (by decide) dX3_layFrom_77 ?_
      refine g_subl [(0, vR 5), (1, vR 1), (2, vI r), (3, vI (k : Int)), (4, vI ((0 : Nat) : Int))] rfl ?_
      refine loop3 k (by omega) (fun X3 hX3 => ?_) 0 (by omega) _ (layCj_0 hX2)
      refine g_iinc rfl (by decide) dX3_layFrom_117 ?_
      refine g_goto (t := 25) dX3_layFrom_120 (by decide) ?_
      refine g_subl [(0, vR 5), (1, vR 1), (2, vI r), (3, vI ((k + 1 : Nat) : Int))] rfl ?_
      exact ih (k + 1) (by omega) (by omega) _ hX3
  refine g_aload_n rfl dX3_layFrom_0 ?_
  refine g_aload_n rfl dX3_layFrom_1 ?_
  refine gf_X3_28 rfl (by first | rfl | assumption) dX3_layFrom_2 ?_
  refine pf_X3_34 rfl (by first | rfl | assumption) dX3_layFrom_5 ?_
  refine g_aload_n rfl dX3_layFrom_8 ?_
  refine g_iload_n rfl dX3_layFrom_9 ?_
  refine pf_X3_35 rfl (by first | rfl | assumption) dX3_layFrom_10 ?_
  refine g_aload_n rfl dX3_layFrom_13 ?_
  refine g_iconst dX3_layFrom_14 ?_
  refine pf_X3_38 rfl (by first | rfl | assumption) dX3_layFrom_15 ?_
  refine g_aload_n rfl dX3_layFrom_18 ?_
  refine g_iconst dX3_layFrom_19 ?_
  refine pf_X3_41 rfl (by first | rfl | assumption) dX3_layFrom_20 ?_
  refine g_iconst dX3_layFrom_23 ?_
  refine g_istore_n (by decide) dX3_layFrom_24 ?_
  refine g_subl [(0, vR 5), (1, vR 1), (2, vI r), (3, vI ((0 : Nat) : Int))] rfl ?_
  refine loop2 0 (by omega) _ ⟨?_, ⟨hm, rfl, rfl, rfl⟩, fun i hi => absurd hi (by omega), fun i j hi => absurd hi (by omega)⟩
  intro c j a1 a2 a3 a4 a5 a6
  simp only [st2, if_neg a1]
