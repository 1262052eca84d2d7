def lenOk (r k a b : Int) : Prop := (0 ≤ k ∧ k < 8) ∧ (-16384 ≤ a ∧ a ≤ 16384) ∧ (-16384 ≤ b ∧ b ≤ 16384) ∧ (r ≠ 0 ∨ b = 0) ∧ 0 < val r a b
theorem ct_X8_length {l : Launch} {g : Geo} {X : Mm} {K : AV → Mm → Prop} {k a b : Int} (hr : isRoot (X 44 0)) (hk : -2147483648 ≤ k ∧ k < 2147483648) (ha : -2147483648 ≤ a ∧ a < 2147483648) (hb : -2147483648 ≤ b ∧ b < 2147483648) (h0 : ¬ lenOk (X 44 0) k a b → K (vI 0) X) (h1 : lenOk (X 44 0) k a b → K (vI 1) (st2 (st2 X 45 k.toNat a) 46 k.toNat b)) : Ct l g mX8_length [vR 44, vI k, vI a, vI b] X K := by
  refine enter (by decide) (Nat.le_of_ble_eq_true rfl) (fun κ => ?_)
  have hr2 := hr
  unfold isRoot at hr2
  unfold lenOk at h0 h1
  refine g_iload_n rfl dX8_length_0 ?_
  refine g_if_lt (t := 55) dX8_length_1 (by decide) (by first | omega | (simp [st2]; done) | (simp [st2]; omega)) (fun b1 => ?_) (fun b1 => ?_)
  · refine g_iconst dX8_length_55 ?_
    refine g_zreturn rfl (by omega) dX8_length_56 ?_
    exact h0 (by omega)
  · refine g_iload_n rfl dX8_length_4 ?_
    refine g_bipush (by decide) dX8_length_5 ?_
    refine g_icmp_ge (t := 55) dX8_length_7 (by decide) (by first | omega | (simp [st2]; done) | (simp [st2]; omega)) (by first | omega | (simp [st2]; done) | (simp [st2]; omega)) (fun b7 => ?_) (fun b7 => ?_)
    · refine g_iconst dX8_length_55 ?_
      refine g_zreturn rfl (by omega) dX8_length_56 ?_
      exact h0 (by omega)
    · refine g_iload_n rfl dX8_length_10 ?_
      refine g_i2l (by first | omega | (simp [st2]; done) | (simp [st2]; omega)) dX8_length_11 ?_
      refine g_ldc2 (n := (16384)) kc_RX8_110 dX8_length_12 ?_
      refine g_cs2 (M2 := mX8_isIn) dX8_length_15 ml_RX8_112 kX8_isIn rfl (by decide) (by unfold Rm; decide) (Nat.le_of_ble_eq_true rfl) (ct_X8_isIn (by omega) (by omega) ?_)
      refine g_if_eq (t := 55) dX8_length_18 (by decide) (by first | omega | (simp [st2]; done) | (simp [st2]; omega)) (fun b18 => ?_) (fun b18 => ?_)
      · refine g_iconst dX8_length_55 ?_
        refine g_zreturn rfl (by omega) dX8_length_56 ?_
        exact h0 (by omega)
      · refine g_iload_n rfl dX8_length_21 ?_
        refine g_i2l (by first | omega | (simp [st2]; done) | (simp [st2]; omega)) dX8_length_22 ?_
        refine g_ldc2 (n := (16384)) kc_RX8_110 dX8_length_23 ?_
        refine g_cs2 (M2 := mX8_isIn) dX8_length_26 ml_RX8_112 kX8_isIn rfl (by decide) (by unfold Rm; decide) (Nat.le_of_ble_eq_true rfl) (ct_X8_isIn (by omega) (by omega) ?_)
        refine g_if_eq (t := 55) dX8_length_29 (by decide) (by first | omega | (simp [st2]; done) | (simp [st2]; omega)) (fun b29 => ?_) (fun b29 => ?_)
        · refine g_iconst dX8_length_55 ?_
          refine g_zreturn rfl (by omega) dX8_length_56 ?_
          exact h0 (by omega)
        · refine g_aload_n rfl dX8_length_32 ?_
          refine gf_X8_87 rfl (by first | rfl | assumption) dX8_length_33 ?_
          refine g_if_ne (t := 43) dX8_length_36 (by decide) (by first | omega | (simp [st2]; done) | (simp [st2]; omega)) (fun b36 => ?_) (fun b36 => ?_)
          · refine g_aload_n rfl dX8_length_43 ?_
            refine g_iload_n rfl dX8_length_44 ?_
            refine g_i2l (by first | omega | (simp [st2]; done) | (simp [st2]; omega)) dX8_length_45 ?_
            refine g_iload_n rfl dX8_length_46 ?_
            refine g_i2l (by first | omega | (simp [st2]; done) | (simp [st2]; omega)) dX8_length_47 ?_
            refine g_cv2 (M2 := mX8_signOf) (ci := 8) dX8_length_48 ml_RX8_116 kX8_signOf (by decide) (by first | rfl | assumption) (by decide) rfl (by unfold Rm; decide) (Nat.le_of_ble_eq_true rfl) (ct_X8_signOf hr (by omega) (by omega) ?_)
            have sv := sgn_neg (r := X 44 0) (a := a) (b := b) hr (by omega) (by omega) (by omega)
            refine g_iconst dX8_length_51 ?_
            refine g_icmp_ge (t := 57) dX8_length_52 (by decide) (by first | omega | (simp [st2]; done) | (simp [st2]; omega)) (by first | omega | (simp [st2]; done) | (simp [st2]; omega)) (fun b52 => ?_) (fun b52 => ?_)
            · refine g_aload_n rfl dX8_length_57 ?_
              refine gf_X8_7 (c2 := 45) rfl rfl (by first | rfl | assumption) dX8_length_58 ?_
              refine g_iload_n rfl dX8_length_61 ?_
              refine g_iload_n rfl dX8_length_62 ?_
              refine g_iast (n := 8) (k.toNat) (by first | rfl | assumption) (by first | rfl | assumption) (by omega) (by first | omega | (simp [st2]; done) | (simp [st2]; omega)) (by first | omega | (simp [st2]; done) | (simp [st2]; omega)) dX8_length_63 ?_
              refine g_aload_n rfl dX8_length_64 ?_
              refine gf_X8_13 (c2 := 46) rfl rfl (by first | rfl | assumption) dX8_length_65 ?_
              refine g_iload_n rfl dX8_length_68 ?_
              refine g_iload_n rfl dX8_length_69 ?_
              refine g_iast (n := 8) (k.toNat) (by first | rfl | assumption) (by first | rfl | assumption) (by omega) (by first | omega | (simp [st2]; done) | (simp [st2]; omega)) (by first | omega | (simp [st2]; done) | (simp [st2]; omega)) dX8_length_70 ?_
              refine g_iconst dX8_length_71 ?_
              refine g_zreturn rfl (by omega) dX8_length_72 ?_
              exact h1 (by omega)
            · refine g_iconst dX8_length_55 ?_
              refine g_zreturn rfl (by omega) dX8_length_56 ?_
              exact h0 (by omega)
          · refine g_iload_n rfl dX8_length_39 ?_
            refine g_if_ne (t := 55) dX8_length_40 (by decide) (by first | omega | (simp [st2]; done) | (simp [st2]; omega)) (fun b40 => ?_) (fun b40 => ?_)
            · refine g_iconst dX8_length_55 ?_
              refine g_zreturn rfl (by omega) dX8_length_56 ?_
              exact h0 (by omega)
            · refine g_aload_n rfl dX8_length_43 ?_
              refine g_iload_n rfl dX8_length_44 ?_
              refine g_i2l (by first | omega | (simp [st2]; done) | (simp [st2]; omega)) dX8_length_45 ?_
              refine g_iload_n rfl dX8_length_46 ?_
              refine g_i2l (by first | omega | (simp [st2]; done) | (simp [st2]; omega)) dX8_length_47 ?_
              refine g_cv2 (M2 := mX8_signOf) (ci := 8) dX8_length_48 ml_RX8_116 kX8_signOf (by decide) (by first | rfl | assumption) (by decide) rfl (by unfold Rm; decide) (Nat.le_of_ble_eq_true rfl) (ct_X8_signOf hr (by omega) (by omega) ?_)
              have sv := sgn_neg (r := X 44 0) (a := a) (b := b) hr (by omega) (by omega) (by omega)
              refine g_iconst dX8_length_51 ?_
              refine g_icmp_ge (t := 57) dX8_length_52 (by decide) (by first | omega | (simp [st2]; done) | (simp [st2]; omega)) (by first | omega | (simp [st2]; done) | (simp [st2]; omega)) (fun b52 => ?_) (fun b52 => ?_)
              · refine g_aload_n rfl dX8_length_57 ?_
                refine gf_X8_7 (c2 := 45) rfl rfl (by first | rfl | assumption) dX8_length_58 ?_
                refine g_iload_n rfl dX8_length_61 ?_
                refine g_iload_n rfl dX8_length_62 ?_
                refine g_iast (n := 8) (k.toNat) (by first | rfl | assumption) (by first | rfl | assumption) (by omega) (by first | omega | (simp [st2]; done) | (simp [st2]; omega)) (by first | omega | (simp [st2]; done) | (simp [st2]; omega)) dX8_length_63 ?_
                refine g_aload_n rfl dX8_length_64 ?_
                refine gf_X8_13 (c2 := 46) rfl rfl (by first | rfl | assumption) dX8_length_65 ?_
                refine g_iload_n rfl dX8_length_68 ?_
                refine g_iload_n rfl dX8_length_69 ?_
                refine g_iast (n := 8) (k.toNat) (by first | rfl | assumption) (by first | rfl | assumption) (by omega) (by first | omega | (simp [st2]; done) | (simp [st2]; omega)) (by first | omega | (simp [st2]; done) | (simp [st2]; omega)) dX8_length_70 ?_
                refine g_iconst dX8_length_71 ?_
                refine g_zreturn rfl (by omega) dX8_length_72 ?_
                exact h1 (by omega)
              · refine g_iconst dX8_length_55 ?_
                refine g_zreturn rfl (by omega) dX8_length_56 ?_
                exact h0 (by omega)
theorem ct_X7_length {l : Launch} {g : Geo} {X : Mm} {K : AV → Mm → Prop} {k a b : Int} (hr : isRoot (X 0 0)) (hk : -2147483648 ≤ k ∧ k < 2147483648) (ha : -2147483648 ≤ a ∧ a < 2147483648) (hb : -2147483648 ≤ b ∧ b < 2147483648) (h0 : ¬ lenOk (X 0 0) k a b → K (vI 0) X) (h1 : lenOk (X 0 0) k a b → K (vI 1) (st2 (st2 X 2 k.toNat a) 3 k.toNat b)) : Ct l g mX7_length [vR 0, vI k, vI a, vI b] X K := by
  refine enter (by decide) (Nat.le_of_ble_eq_true rfl) (fun κ => ?_)
  have hr2 := hr
  unfold isRoot at hr2
  unfold lenOk at h0 h1
  refine g_iload_n rfl dX7_length_0 ?_
  refine g_if_lt (t := 36) dX7_length_1 (by decide) (by first | omega | (simp [st2]; done) | (simp [st2]; omega)) (fun b1 => ?_) (fun b1 => ?_)
  · refine g_iconst dX7_length_36 ?_
    refine g_zreturn rfl (by omega) dX7_length_37 ?_
    exact h0 (by omega)
  · refine g_iload_n rfl dX7_length_4 ?_
    refine g_bipush (by decide) dX7_length_5 ?_
    refine g_icmp_ge (t := 36) dX7_length_7 (by decide) (by first | omega | (simp [st2]; done) | (simp [st2]; omega)) (by first | omega | (simp [st2]; done) | (simp [st2]; omega)) (fun b7 => ?_) (fun b7 => ?_)
    · refine g_iconst dX7_length_36 ?_
      refine g_zreturn rfl (by omega) dX7_length_37 ?_
      exact h0 (by omega)
    · refine g_aload_n rfl dX7_length_10 ?_
      refine g_iload_n rfl dX7_length_11 ?_
      refine g_iload_n rfl dX7_length_12 ?_
      refine g_sipush (by decide) dX7_length_13 ?_
      refine g_cv3 (M2 := mX7_canBe) (ci := 7) dX7_length_16 ml_RX7_81 kX7_canBe (by decide) (by first | rfl | assumption) (by decide) rfl (by unfold Rm; decide) (Nat.le_of_ble_eq_true rfl) (ct_X7_canBe hr (by omega) (by omega) (by omega) ?_)
      refine g_if_eq (t := 36) dX7_length_19 (by decide) (by first | omega | (simp [st2]; done) | (simp [st2]; omega)) (fun b19 => ?_) (fun b19 => ?_)
      · refine g_iconst dX7_length_36 ?_
        refine g_zreturn rfl (by omega) dX7_length_37 ?_
        exact h0 (by omega)
      · refine g_iload_n rfl dX7_length_22 ?_
        refine g_i2l (by first | omega | (simp [st2]; done) | (simp [st2]; omega)) dX7_length_23 ?_
        refine g_iload_n rfl dX7_length_24 ?_
        refine g_i2l (by first | omega | (simp [st2]; done) | (simp [st2]; omega)) dX7_length_25 ?_
        refine g_aload_n rfl dX7_length_26 ?_
        refine gf_X7_7 rfl (by first | rfl | assumption) dX7_length_27 ?_
        refine g_cs3 (M2 := mX7_signOf) dX7_length_30 ml_RX7_85 kX7_signOf rfl (by decide) (by unfold Rm; decide) (Nat.le_of_ble_eq_true rfl) (ct_X7_signOf hr (by omega) (by omega) ?_)
        have sv := sgn_neg (r := X 0 0) (a := a) (b := b) hr (by omega) (by omega) (by omega)
        refine g_if_gt (t := 38) dX7_length_33 (by decide) (by first | omega | (simp [st2]; done) | (simp [st2]; omega)) (fun b33 => ?_) (fun b33 => ?_)
        · refine g_aload_n rfl dX7_length_38 ?_
          refine gf_X7_16 (c2 := 1) rfl rfl (by first | rfl | assumption) dX7_length_39 ?_
          refine gf_X7_89 (c2 := 2) rfl rfl (by first | rfl | assumption) dX7_length_42 ?_
          refine g_iload_n rfl dX7_length_45 ?_
          refine g_iload_n rfl dX7_length_46 ?_
          refine g_iast (n := 8) (k.toNat) (by first | rfl | assumption) (by first | rfl | assumption) (by omega) (by first | omega | (simp [st2]; done) | (simp [st2]; omega)) (by first | omega | (simp [st2]; done) | (simp [st2]; omega)) dX7_length_47 ?_
          refine g_aload_n rfl dX7_length_48 ?_
          refine gf_X7_16 (c2 := 1) rfl rfl (by first | rfl | assumption) dX7_length_49 ?_
          refine gf_X7_93 (c2 := 3) rfl rfl (by first | rfl | assumption) dX7_length_52 ?_
          refine g_iload_n rfl dX7_length_55 ?_
          refine g_iload_n rfl dX7_length_56 ?_
          refine g_iast (n := 8) (k.toNat) (by first | rfl | assumption) (by first | rfl | assumption) (by omega) (by first | omega | (simp [st2]; done) | (simp [st2]; omega)) (by first | omega | (simp [st2]; done) | (simp [st2]; omega)) dX7_length_57 ?_
          refine g_iconst dX7_length_58 ?_
          refine g_zreturn rfl (by omega) dX7_length_59 ?_
          exact h1 (by omega)
        · refine g_iconst dX7_length_36 ?_
          refine g_zreturn rfl (by omega) dX7_length_37 ?_
          exact h0 (by omega)
theorem ct_X4_clear {l : Launch} {g : Geo} {X : Mm} {K : AV → Mm → Prop} (hk : ∀ X2 : Mm, (∀ c j, X2 c j = if (c = 2 ∨ c = 3) ∧ j < 8 then 0 else if c = 1 ∧ j = 0 then 0 else X c j) → K (vI 0) X2) : Ct l g mX4_clear [vR 1] X K := by
  refine enter (by decide) (Nat.le_of_ble_eq_true rfl) (fun κ => ?_)
  have loop : ∀ k : Nat, k ≤ 8 → ∀ X2 : Mm, (∀ c j, X2 c j = if (c = 2 ∨ c = 3) ∧ j < k then 0 else if c = 1 ∧ j = 0 then 0 else X c j) → G l g mX4_clear κ K 7 [(0, vR 1), (1, vI (k : Int))] [] X2 := by
    refine upTo 8 ?_
    intro k hk8 ih X2 hX2
    refine g_iload_n rfl dX4_clear_7 ?_
    refine g_bipush (by decide) dX4_clear_8 ?_
    refine g_icmp_ge (t := 33) dX4_clear_10 (by decide) (by first | omega | (simp [st2]; done) | (simp [st2]; omega)) (by first | omega | (simp [st2]; done) | (simp [st2]; omega)) (fun b10 => ?_) (fun b10 => ?_)
    · refine g_return rfl dX4_clear_33 ?_
      refine hk _ ?_
      intro c j
      rw [hX2]
      grind
    · refine g_aload_n rfl dX4_clear_13 ?_
      refine gf_X4_9 (c2 := 2) rfl rfl (by first | rfl | assumption) dX4_clear_14 ?_
      refine g_iload_n rfl dX4_clear_17 ?_
      refine g_iconst dX4_clear_18 ?_
      refine g_iast (n := 8) (_) (by first | rfl | assumption) (by first | rfl | assumption) rfl (by first | omega | (simp [st2]; done) | (simp [st2]; omega)) (by first | omega | (simp [st2]; done) | (simp [st2]; omega)) dX4_clear_19 ?_
      refine g_aload_n rfl dX4_clear_20 ?_
      refine gf_X4_15 (c2 := 3) rfl rfl (by first | rfl | assumption) dX4_clear_21 ?_
      refine g_iload_n rfl dX4_clear_24 ?_
      refine g_iconst dX4_clear_25 ?_
      refine g_iast (n := 8) (_) (by first | rfl | assumption) (by first | rfl | assumption) rfl (by first | omega | (simp [st2]; done) | (simp [st2]; omega)) (by first | omega | (simp [st2]; done) | (simp [st2]; omega)) dX4_clear_26 ?_
      refine g_iinc rfl (by decide) dX4_clear_27 ?_
      refine g_goto (t := 7) dX4_clear_30 (by decide) ?_
      refine g_subl [(0, vR 1), (1, vI ((k + 1 : Nat) : Int))] rfl ?_
      exact ih (k + 1) (by omega) (by omega) _ (by intro c j; unfold st2; grind)
  refine g_aload_n rfl dX4_clear_0 ?_
  refine g_iconst dX4_clear_1 ?_
  refine pf_X4_21 rfl (by first | rfl | assumption) dX4_clear_2 ?_
  refine g_iconst dX4_clear_5 ?_
  refine g_istore_n (by decide) dX4_clear_6 ?_
  refine g_subl [(0, vR 1), (1, vI ((0 : Nat) : Int))] rfl ?_
  exact loop 0 (by omega) _ (by intro c j; unfold st2; grind)
theorem ct_X7_root {l : Launch} {g : Geo} {X : Mm} {K : AV → Mm → Prop} {r : Int} (hr : -2147483648 ≤ r ∧ r < 2147483648) (h0 : ¬ isRoot r → K (vI 0) X) (h1 : isRoot r → ∀ X2 : Mm, (∀ c j, X2 c j = if (c = 2 ∨ c = 3) ∧ j < 8 then 0 else if c = 0 ∧ j = 0 then r else if (c = 1 ∨ c = 5 ∨ c = 29) ∧ j = 0 then 0 else X c j) → K (vI 1) X2) : Ct l g mX7_root [vR 0, vI r] X K := by
  refine enter (by decide) (Nat.le_of_ble_eq_true rfl) (fun κ => ?_)
  unfold isRoot at h0 h1
  refine g_iload_n rfl dX7_root_0 ?_
  refine g_if_eq (t := 27) dX7_root_1 (by decide) (by first | omega | (simp [st2]; done) | (simp [st2]; omega)) (fun b1 => ?_) (fun b1 => ?_)
  · refine g_aload_n rfl dX7_root_27 ?_
    refine g_iload_n rfl dX7_root_28 ?_
    refine pf_X7_7 rfl (by first | rfl | assumption) dX7_root_29 ?_
    refine g_aload_n rfl dX7_root_32 ?_
    refine gf_X7_16 (c2 := 1) rfl rfl (by first | rfl | assumption) dX7_root_33 ?_
    refine g_cv0v (M2 := mX4_clear) (ci := 4) dX7_root_36 ml_RX7_71 kX4_clear rfl (by first | rfl | assumption) (by decide) rfl (by unfold Rm; decide) (Nat.le_of_ble_eq_true rfl) (ct_X4_clear (fun X2 hX2 => ?_))
    refine g_aload_n rfl dX7_root_39 ?_
    refine gf_X7_23 (c2 := 5) rfl rfl (by first | rfl | assumption) dX7_root_40 ?_
    refine g_iconst dX7_root_43 ?_
    refine pf_X7_74 rfl (by first | rfl | assumption) dX7_root_44 ?_
    refine g_aload_n rfl dX7_root_47 ?_
    refine gf_X7_43 (c2 := 29) rfl rfl (by first | rfl | assumption) dX7_root_48 ?_
    refine g_iconst dX7_root_51 ?_
    refine pf_X7_77 (by omega) rfl (by first | rfl | assumption) dX7_root_52 ?_
    refine g_iconst dX7_root_55 ?_
    refine g_zreturn rfl (by omega) dX7_root_56 ?_
    refine h1 (by omega) _ ?_
    intro c j
    unfold st2 at *
    grind
  · refine g_iload_n rfl dX7_root_4 ?_
    refine g_iconst dX7_root_5 ?_
    refine g_icmp_eq (t := 27) dX7_root_6 (by decide) (by first | omega | (simp [st2]; done) | (simp [st2]; omega)) (by first | omega | (simp [st2]; done) | (simp [st2]; omega)) (fun b6 => ?_) (fun b6 => ?_)
    · refine g_aload_n rfl dX7_root_27 ?_
      refine g_iload_n rfl dX7_root_28 ?_
      refine pf_X7_7 rfl (by first | rfl | assumption) dX7_root_29 ?_
      refine g_aload_n rfl dX7_root_32 ?_
      refine gf_X7_16 (c2 := 1) rfl rfl (by first | rfl | assumption) dX7_root_33 ?_
      refine g_cv0v (M2 := mX4_clear) (ci := 4) dX7_root_36 ml_RX7_71 kX4_clear rfl (by first | rfl | assumption) (by decide) rfl (by unfold Rm; decide) (Nat.le_of_ble_eq_true rfl) (ct_X4_clear (fun X2 hX2 => ?_))
      refine g_aload_n rfl dX7_root_39 ?_
      refine gf_X7_23 (c2 := 5) rfl rfl (by first | rfl | assumption) dX7_root_40 ?_
      refine g_iconst dX7_root_43 ?_
      refine pf_X7_74 rfl (by first | rfl | assumption) dX7_root_44 ?_
      refine g_aload_n rfl dX7_root_47 ?_
      refine gf_X7_43 (c2 := 29) rfl rfl (by first | rfl | assumption) dX7_root_48 ?_
      refine g_iconst dX7_root_51 ?_
      refine pf_X7_77 (by omega) rfl (by first | rfl | assumption) dX7_root_52 ?_
      refine g_iconst dX7_root_55 ?_
      refine g_zreturn rfl (by omega) dX7_root_56 ?_
      refine h1 (by omega) _ ?_
      intro c j
      unfold st2 at *
      grind
    · refine g_iload_n rfl dX7_root_9 ?_
      refine g_iconst dX7_root_10 ?_
      refine g_icmp_eq (t := 27) dX7_root_11 (by decide) (by first | omega | (simp [st2]; done) | (simp [st2]; omega)) (by first | omega | (simp [st2]; done) | (simp [st2]; omega)) (fun b11 => ?_) (fun b11 => ?_)
      · refine g_aload_n rfl dX7_root_27 ?_
        refine g_iload_n rfl dX7_root_28 ?_
        refine pf_X7_7 rfl (by first | rfl | assumption) dX7_root_29 ?_
        refine g_aload_n rfl dX7_root_32 ?_
        refine gf_X7_16 (c2 := 1) rfl rfl (by first | rfl | assumption) dX7_root_33 ?_
        refine g_cv0v (M2 := mX4_clear) (ci := 4) dX7_root_36 ml_RX7_71 kX4_clear rfl (by first | rfl | assumption) (by decide) rfl (by unfold Rm; decide) (Nat.le_of_ble_eq_true rfl) (ct_X4_clear (fun X2 hX2 => ?_))
        refine g_aload_n rfl dX7_root_39 ?_
        refine gf_X7_23 (c2 := 5) rfl rfl (by first | rfl | assumption) dX7_root_40 ?_
        refine g_iconst dX7_root_43 ?_
        refine pf_X7_74 rfl (by first | rfl | assumption) dX7_root_44 ?_
        refine g_aload_n rfl dX7_root_47 ?_
        refine gf_X7_43 (c2 := 29) rfl rfl (by first | rfl | assumption) dX7_root_48 ?_
        refine g_iconst dX7_root_51 ?_
        refine pf_X7_77 (by omega) rfl (by first | rfl | assumption) dX7_root_52 ?_
        refine g_iconst dX7_root_55 ?_
        refine g_zreturn rfl (by omega) dX7_root_56 ?_
        refine h1 (by omega) _ ?_
        intro c j
        unfold st2 at *
        grind
      · refine g_iload_n rfl dX7_root_14 ?_
        refine g_iconst dX7_root_15 ?_
        refine g_icmp_eq (t := 27) dX7_root_16 (by decide) (by first | omega | (simp [st2]; done) | (simp [st2]; omega)) (by first | omega | (simp [st2]; done) | (simp [st2]; omega)) (fun b16 => ?_) (fun b16 => ?_)
        · refine g_aload_n rfl dX7_root_27 ?_
          refine g_iload_n rfl dX7_root_28 ?_
          refine pf_X7_7 rfl (by first | rfl | assumption) dX7_root_29 ?_
          refine g_aload_n rfl dX7_root_32 ?_
          refine gf_X7_16 (c2 := 1) rfl rfl (by first | rfl | assumption) dX7_root_33 ?_
          refine g_cv0v (M2 := mX4_clear) (ci := 4) dX7_root_36 ml_RX7_71 kX4_clear rfl (by first | rfl | assumption) (by decide) rfl (by unfold Rm; decide) (Nat.le_of_ble_eq_true rfl) (ct_X4_clear (fun X2 hX2 => ?_))
          refine g_aload_n rfl dX7_root_39 ?_
          refine gf_X7_23 (c2 := 5) rfl rfl (by first | rfl | assumption) dX7_root_40 ?_
          refine g_iconst dX7_root_43 ?_
          refine pf_X7_74 rfl (by first | rfl | assumption) dX7_root_44 ?_
          refine g_aload_n rfl dX7_root_47 ?_
          refine gf_X7_43 (c2 := 29) rfl rfl (by first | rfl | assumption) dX7_root_48 ?_
          refine g_iconst dX7_root_51 ?_
          refine pf_X7_77 (by omega) rfl (by first | rfl | assumption) dX7_root_52 ?_
          refine g_iconst dX7_root_55 ?_
          refine g_zreturn rfl (by omega) dX7_root_56 ?_
          refine h1 (by omega) _ ?_
          intro c j
          unfold st2 at *
          grind
        · refine g_iload_n rfl dX7_root_19 ?_
          refine g_bipush (by decide) dX7_root_20 ?_
          refine g_icmp_eq (t := 27) dX7_root_22 (by decide) (by first | omega | (simp [st2]; done) | (simp [st2]; omega)) (by first | omega | (simp [st2]; done) | (simp [st2]; omega)) (fun b22 => ?_) (fun b22 => ?_)
          · refine g_aload_n rfl dX7_root_27 ?_
            refine g_iload_n rfl dX7_root_28 ?_
            refine pf_X7_7 rfl (by first | rfl | assumption) dX7_root_29 ?_
            refine g_aload_n rfl dX7_root_32 ?_
            refine gf_X7_16 (c2 := 1) rfl rfl (by first | rfl | assumption) dX7_root_33 ?_
            refine g_cv0v (M2 := mX4_clear) (ci := 4) dX7_root_36 ml_RX7_71 kX4_clear rfl (by first | rfl | assumption) (by decide) rfl (by unfold Rm; decide) (Nat.le_of_ble_eq_true rfl) (ct_X4_clear (fun X2 hX2 => ?_))
            refine g_aload_n rfl dX7_root_39 ?_
            refine gf_X7_23 (c2 := 5) rfl rfl (by first | rfl | assumption) dX7_root_40 ?_
            refine g_iconst dX7_root_43 ?_
            refine pf_X7_74 rfl (by first | rfl | assumption) dX7_root_44 ?_
            refine g_aload_n rfl dX7_root_47 ?_
            refine gf_X7_43 (c2 := 29) rfl rfl (by first | rfl | assumption) dX7_root_48 ?_
            refine g_iconst dX7_root_51 ?_
            refine pf_X7_77 (by omega) rfl (by first | rfl | assumption) dX7_root_52 ?_
            refine g_iconst dX7_root_55 ?_
            refine g_zreturn rfl (by omega) dX7_root_56 ?_
            refine h1 (by omega) _ ?_
            intro c j
            unfold st2 at *
            grind
          · refine g_iconst dX7_root_25 ?_
            refine g_zreturn rfl (by omega) dX7_root_26 ?_
            exact h0 (by omega)
/-! the order below, told by four bits each -/
def nib (o : Int) (j : Nat) : Nat := ((o / 2 ^ (4 * j)) % 16).toNat
theorem nib_lt (o : Int) (j : Nat) : nib o j < 16 := by
  unfold nib
  omega
theorem nib_cl {o : Int} {j : Nat} (hj : j < 8) : (o % 4294967296) / 2 ^ (4 * j) % 2 ^ 4 = (nib o j : Int) := by
  unfold nib
  rcases (show j = 0 ∨ j = 1 ∨ j = 2 ∨ j = 3 ∨ j = 4 ∨ j = 5 ∨ j = 6 ∨ j = 7 by omega) with e | e | e | e | e | e | e | e <;> subst e <;> simp only [Nat.reduceMul, Int.reducePow] <;> omega
theorem nib_ml {o : Int} {j : Nat} : o / 2 ^ (4 * j) % 2 ^ 4 = (nib o j : Int) := by
  unfold nib
  rw [Int.toNat_of_nonneg (by omega)]
  rfl
def sn (o : Int) : Nat → Nat
  | 0 => 0
  | j + 1 => sn o j ||| 2 ^ nib o j
theorem sn_bit (o : Int) (i : Nat) : ∀ m, (sn o m).testBit i = true ↔ ∃ j, j < m ∧ nib o j = i
  | 0 => by simp [sn]
  | m + 1 => by
    rw [sn, Nat.testBit_or, Nat.testBit_two_pow, Bool.or_eq_true, sn_bit o i m, decide_eq_true_eq]
    constructor
    · rintro (⟨j, h1, h2⟩ | h)
      · exact ⟨j, by omega, h2⟩
      · exact ⟨m, by omega, h⟩
    · rintro ⟨j, h1, h2⟩
      rcases Nat.lt_or_ge j m with q | q
      · exact Or.inl ⟨j, q, h2⟩
      · exact Or.inr (by rw [← h2, show j = m by omega])
theorem sn_lt (o : Int) : ∀ m, sn o m < 2 ^ 16
  | 0 => by simp [sn]
  | m + 1 => by
    rw [sn]
    exact Nat.or_lt_two_pow (sn_lt o m) (Nat.pow_lt_pow_right (by decide) (nib_lt o m))
/-- each of 0 .. n - 1 once -/
def Perm (f : Nat → Nat) (n : Nat) : Prop := (∀ j, j < n → f j < n) ∧ ∀ i j, i < n → j < n → f i = f j → i = j
theorem Perm.onto {f : Nat → Nat} {n k : Nat} (h : Perm f n) (hk : k < n) : ∃ j, j < n ∧ f j = k :=
  fb_onto h.1 (fun i j hij hj e => by have := h.2 i j (by omega) hj e; omega) hk
def ordOk (m o : Int) : Prop := (2 ≤ m ∧ m ≤ 8) ∧ (sn o m.toNat : Int) = 2 ^ m.toNat - 1
theorem sn_all {o : Int} {m : Nat} (h : (sn o m : Int) = 2 ^ m - 1) : ∀ i, (∃ j, j < m ∧ nib o j = i) ↔ i < m := by
  intro i
  have h1 : sn o m = 2 ^ m - 1 := by
    have h2 : ((2 ^ m - 1 : Nat) : Int) = 2 ^ m - 1 := by
      rw [Int.natCast_sub Nat.one_le_two_pow]; simp
    omega
  rw [← sn_bit, h1, Nat.testBit_two_pow_sub_one, decide_eq_true_eq]
theorem sn_perm {o : Int} {m : Nat} (h : (sn o m : Int) = 2 ^ m - 1) : Perm (nib o) m := by
  have h1 := sn_all h
  have h2 : ∀ i, ∃ j, i < m → (j < m ∧ nib o j = i) := by
    intro i
    rcases Nat.lt_or_ge i m with q | q
    · obtain ⟨j, hj⟩ := (h1 i).mpr q
      exact ⟨j, fun _ => hj⟩
    · exact ⟨0, fun z => absurd z (by omega)⟩
  let s : Nat → Nat := fun i => (h2 i).choose
  have hs : ∀ i, i < m → s i < m ∧ nib o (s i) = i := fun i hi => (h2 i).choose_spec hi
  have hon : ∀ {y : Nat}, y < m → ∃ i, i < m ∧ s i = y := fun hy => fb_onto (fun i hi => (hs i hi).1) (fun i j hij hj e => by
    have e1 := (hs i (by omega)).2
    have e2 := (hs j hj).2
    rw [e] at e1
    omega) hy
  refine ⟨fun j hj => (h1 _).mp ⟨j, hj, rfl⟩, fun i j hi hj e => ?_⟩
  obtain ⟨a, ha, ea⟩ := hon hi
  obtain ⟨b, hb, eb⟩ := hon hj
  have e1 := (hs a ha).2
  have e2 := (hs b hb).2
  rw [ea] at e1
  rw [eb] at e2
  have : a = b := by omega
  rw [← ea, ← eb, this]
theorem sn_no {o : Int} {m j : Nat} (hj : j < m) (h : m ≤ nib o j) : ¬ (sn o m : Int) = 2 ^ m - 1 := by
  intro q
  have := (sn_all q (nib o j)).mp ⟨j, hj, rfl⟩
  omega
