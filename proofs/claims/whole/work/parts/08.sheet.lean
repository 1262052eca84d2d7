set_option maxRecDepth 100000 in
set_option maxHeartbeats 4000000 in
theorem ct_X8_forgets {l : Launch} {g : Geo} {X : Mm} {K : AV → Mm → Prop} (hk : ∀ X2 : Mm, (∀ c j, X2 c j = if (c = 45 ∨ c = 46) ∧ j < 8 then 0 else if c = 44 ∧ (j = 3 ∨ j = 5 ∨ j = 11 ∨ j = 12 ∨ j = 13) then 0 else X c j) → K (vI 0) X2) : Ct l g mX8_forgets [vR 44] X K := by
  refine enter (by decide) (Nat.le_of_ble_eq_true rfl) (fun κ => ?_)
  have loop : ∀ k : Nat, k ≤ 8 → ∀ X2 : Mm, (∀ c j, X2 c j = if (c = 45 ∨ c = 46) ∧ j < k then 0 else X c j) → G l g mX8_forgets κ K 2 [(0, vR 44), (1, vI (k : Int))] [] X2 := by
    refine upTo 8 ?_
    intro k hk8 ih X2 hX2
    refine g_iload_n rfl dX8_forgets_2 ?_
    refine g_bipush (by decide) dX8_forgets_3 ?_
    refine g_icmp_ge (t := 28) dX8_forgets_5 (by decide) (by first | omega | (simp [st2]; done) | (simp [st2]; omega)) (by first | omega | (simp [st2]; done) | (simp [st2]; omega)) (fun b5 => ?_) (fun b5 => ?_)
    · refine g_aload_n rfl dX8_forgets_28 ?_
      refine g_iconst dX8_forgets_29 ?_
      refine pf_X8_91 rfl (by first | rfl | assumption) dX8_forgets_30 ?_
      refine g_aload_n rfl dX8_forgets_33 ?_
      refine g_iconst dX8_forgets_34 ?_
      refine pf_X8_94 rfl (by first | rfl | assumption) dX8_forgets_35 ?_
      refine g_aload_n rfl dX8_forgets_38 ?_
      refine g_iconst dX8_forgets_39 ?_
      refine pf_X8_97 (by omega) rfl (by first | rfl | assumption) dX8_forgets_40 ?_
      refine g_aload_n rfl dX8_forgets_43 ?_
      refine g_iconst dX8_forgets_44 ?_
      refine pf_X8_101 rfl (by first | rfl | assumption) dX8_forgets_45 ?_
      refine g_aload_n rfl dX8_forgets_48 ?_
      refine g_iconst dX8_forgets_49 ?_
      refine pf_X8_104 rfl (by first | rfl | assumption) dX8_forgets_50 ?_
      refine g_return rfl dX8_forgets_53 ?_
      refine hk _ ?_
      intro c j
      unfold st2
      grind
    · refine g_aload_n rfl dX8_forgets_8 ?_
      refine gf_X8_7 (c2 := 45) rfl rfl (by first | rfl | assumption) dX8_forgets_9 ?_
      refine g_iload_n rfl dX8_forgets_12 ?_
      refine g_iconst dX8_forgets_13 ?_
      refine g_iast (n := 8) (_) (by first | rfl | assumption) (by first | rfl | assumption) rfl (by first | omega | (simp [st2]; done) | (simp [st2]; omega)) (by first | omega | (simp [st2]; done) | (simp [st2]; omega)) dX8_forgets_14 ?_
      refine g_aload_n rfl dX8_forgets_15 ?_
      refine gf_X8_13 (c2 := 46) rfl rfl (by first | rfl | assumption) dX8_forgets_16 ?_
      refine g_iload_n rfl dX8_forgets_19 ?_
      refine g_iconst dX8_forgets_20 ?_
      refine g_iast (n := 8) (_) (by first | rfl | assumption) (by first | rfl | assumption) rfl (by first | omega | (simp [st2]; done) | (simp [st2]; omega)) (by first | omega | (simp [st2]; done) | (simp [st2]; omega)) dX8_forgets_21 ?_
      refine g_iinc rfl (by decide) dX8_forgets_22 ?_
      refine g_goto (t := 2) dX8_forgets_25 (by decide) ?_
      refine g_subl [(0, vR 44), (1, vI ((k + 1 : Nat) : Int))] rfl ?_
      exact ih (k + 1) (by omega) (by omega) _ (by intro c j; unfold st2; grind)
  refine g_iconst dX8_forgets_0 ?_
  refine g_istore_n (by decide) dX8_forgets_1 ?_
  refine g_subl [(0, vR 44), (1, vI ((0 : Nat) : Int))] rfl ?_
  exact loop 0 (by omega) X (by intro c j; simp)
theorem ct_X8_root {l : Launch} {g : Geo} {X : Mm} {K : AV → Mm → Prop} {r : Int} (hr : -2147483648 ≤ r ∧ r < 2147483648) (h0 : ¬ isRoot r → K (vI 0) X) (h1 : isRoot r → ∀ X2 : Mm, (∀ c j, X2 c j = if (c = 45 ∨ c = 46) ∧ j < 8 then 0 else if c = 44 ∧ j = 0 then r else if c = 44 ∧ (j = 3 ∨ j = 5 ∨ j = 11 ∨ j = 12 ∨ j = 13) then 0 else X c j) → K (vI 1) X2) : Ct l g mX8_root [vR 44, vI r] X K := by
  refine enter (by decide) (Nat.le_of_ble_eq_true rfl) (fun κ => ?_)
  unfold isRoot at h0 h1
  refine g_iload_n rfl dX8_root_0 ?_
  refine g_if_eq (t := 27) dX8_root_1 (by decide) (by first | omega | (simp [st2]; done) | (simp [st2]; omega)) (fun b1 => ?_) (fun b1 => ?_)
  · refine g_aload_n rfl dX8_root_27 ?_
    refine g_cv0v (M2 := mX8_forgets) (ci := 8) dX8_root_28 ml_RX8_107 kX8_forgets rfl (by first | rfl | assumption) (by decide) rfl (by unfold Rm; decide) (Nat.le_of_ble_eq_true rfl) (ct_X8_forgets (fun X2 hX2 => ?_))
    refine g_aload_n rfl dX8_root_31 ?_
    refine g_iload_n rfl dX8_root_32 ?_
    refine pf_X8_87 rfl (by first | rfl | assumption) dX8_root_33 ?_
    refine g_iconst dX8_root_36 ?_
    refine g_zreturn rfl (by omega) dX8_root_37 ?_
    refine h1 (by omega) _ ?_
    intro c j
    unfold st2
    grind
  · refine g_iload_n rfl dX8_root_4 ?_
    refine g_iconst dX8_root_5 ?_
    refine g_icmp_eq (t := 27) dX8_root_6 (by decide) (by first | omega | (simp [st2]; done) | (simp [st2]; omega)) (by first | omega | (simp [st2]; done) | (simp [st2]; omega)) (fun b6 => ?_) (fun b6 => ?_)
    · refine g_aload_n rfl dX8_root_27 ?_
      refine g_cv0v (M2 := mX8_forgets) (ci := 8) dX8_root_28 ml_RX8_107 kX8_forgets rfl (by first | rfl | assumption) (by decide) rfl (by unfold Rm; decide) (Nat.le_of_ble_eq_true rfl) (ct_X8_forgets (fun X2 hX2 => ?_))
      refine g_aload_n rfl dX8_root_31 ?_
      refine g_iload_n rfl dX8_root_32 ?_
      refine pf_X8_87 rfl (by first | rfl | assumption) dX8_root_33 ?_
      refine g_iconst dX8_root_36 ?_
      refine g_zreturn rfl (by omega) dX8_root_37 ?_
      refine h1 (by omega) _ ?_
      intro c j
      unfold st2
      grind
    · refine g_iload_n rfl dX8_root_9 ?_
      refine g_iconst dX8_root_10 ?_
      refine g_icmp_eq (t := 27) dX8_root_11 (by decide) (by first | omega | (simp [st2]; done) | (simp [st2]; omega)) (by first | omega | (simp [st2]; done) | (simp [st2]; omega)) (fun b11 => ?_) (fun b11 => ?_)
      · refine g_aload_n rfl dX8_root_27 ?_
        refine g_cv0v (M2 := mX8_forgets) (ci := 8) dX8_root_28 ml_RX8_107 kX8_forgets rfl (by first | rfl | assumption) (by decide) rfl (by unfold Rm; decide) (Nat.le_of_ble_eq_true rfl) (ct_X8_forgets (fun X2 hX2 => ?_))
        refine g_aload_n rfl dX8_root_31 ?_
        refine g_iload_n rfl dX8_root_32 ?_
        refine pf_X8_87 rfl (by first | rfl | assumption) dX8_root_33 ?_
        refine g_iconst dX8_root_36 ?_
        refine g_zreturn rfl (by omega) dX8_root_37 ?_
        refine h1 (by omega) _ ?_
        intro c j
        unfold st2
        grind
      · refine g_iload_n rfl dX8_root_14 ?_
        refine g_iconst dX8_root_15 ?_
        refine g_icmp_eq (t := 27) dX8_root_16 (by decide) (by first | omega | (simp [st2]; done) | (simp [st2]; omega)) (by first | omega | (simp [st2]; done) | (simp [st2]; omega)) (fun b16 => ?_) (fun b16 => ?_)
        · refine g_aload_n rfl dX8_root_27 ?_
          refine g_cv0v (M2 := mX8_forgets) (ci := 8) dX8_root_28 ml_RX8_107 kX8_forgets rfl (by first | rfl | assumption) (by decide) rfl (by unfold Rm; decide) (Nat.le_of_ble_eq_true rfl) (ct_X8_forgets (fun X2 hX2 => ?_))
          refine g_aload_n rfl dX8_root_31 ?_
          refine g_iload_n rfl dX8_root_32 ?_
          refine pf_X8_87 rfl (by first | rfl | assumption) dX8_root_33 ?_
          refine g_iconst dX8_root_36 ?_
          refine g_zreturn rfl (by omega) dX8_root_37 ?_
          refine h1 (by omega) _ ?_
          intro c j
          unfold st2
          grind
        · refine g_iload_n rfl dX8_root_19 ?_
          refine g_bipush (by decide) dX8_root_20 ?_
          refine g_icmp_eq (t := 27) dX8_root_22 (by decide) (by first | omega | (simp [st2]; done) | (simp [st2]; omega)) (by first | omega | (simp [st2]; done) | (simp [st2]; omega)) (fun b22 => ?_) (fun b22 => ?_)
          · refine g_aload_n rfl dX8_root_27 ?_
            refine g_cv0v (M2 := mX8_forgets) (ci := 8) dX8_root_28 ml_RX8_107 kX8_forgets rfl (by first | rfl | assumption) (by decide) rfl (by unfold Rm; decide) (Nat.le_of_ble_eq_true rfl) (ct_X8_forgets (fun X2 hX2 => ?_))
            refine g_aload_n rfl dX8_root_31 ?_
            refine g_iload_n rfl dX8_root_32 ?_
            refine pf_X8_87 rfl (by first | rfl | assumption) dX8_root_33 ?_
            refine g_iconst dX8_root_36 ?_
            refine g_zreturn rfl (by omega) dX8_root_37 ?_
            refine h1 (by omega) _ ?_
            intro c j
            unfold st2
            grind
          · refine g_iconst dX8_root_25 ?_
            refine g_zreturn rfl (by omega) dX8_root_26 ?_
            exact h0 (by omega)
