theorem pw28 {n : Nat} (h : 2 ≤ n ∧ n ≤ 8) : (4 : Int) ≤ 2 ^ n ∧ (2 : Int) ^ n ≤ 256 := by
  rcases (show n = 2 ∨ n = 3 ∨ n = 4 ∨ n = 5 ∨ n = 6 ∨ n = 7 ∨ n = 8 by omega) with e | e | e | e | e | e | e <;> subst e <;> decide
theorem sn_rng (o : Int) (m : Nat) : -2147483648 ≤ (sn o m : Int) ∧ (sn o m : Int) < 2147483648 := by
  have := sn_lt o m
  omega
set_option maxRecDepth 100000 in
set_option maxHeartbeats 4000000 in
theorem ct_X8_below {l : Launch} {g : Geo} {X : Mm} {K : AV → Mm → Prop} {m o : Int} (hm : -2147483648 ≤ m ∧ m < 2147483648) (ho : -2147483648 ≤ o ∧ o < 2147483648) (h0 : ¬ ordOk m o → K (vI 0) X) (h1 : ordOk m o → ∀ X2 : Mm, (∀ c j, X2 c j = if c = 47 ∧ j < m.toNat then (nib o j : Int) else if c = 44 ∧ j = 3 then m else X c j) → K (vI 1) X2) : Ct l g mX8_below [vR 44, vI m, vI o] X K := by
  refine enter (by decide) (Nat.le_of_ble_eq_true rfl) (fun κ => ?_)
  unfold ordOk at h0 h1
  rcases (show (2 ≤ m ∧ m ≤ 8) ∨ ¬ (2 ≤ m ∧ m ≤ 8) by omega) with hr | hr
  · obtain ⟨n, hn⟩ : ∃ n : Nat, m = (n : Int) := ⟨m.toNat, by omega⟩
    subst hn
    rw [Int.toNat_natCast] at h0 h1
    have hp := pw28 (n := n) (by omega)
    have loop2 : ((sn o n : Int) = 2 ^ n - 1) → ∀ k : Nat, k ≤ n → ∀ X2 : Mm, (∀ c j, X2 c j = if c = 47 ∧ j < k then (nib o j : Int) else if c = 44 ∧ j = 3 then (n : Int) else X c j) → G l g mX8_below κ K 75 [(0, vR 44), (1, vI (n : Int)), (2, vI o), (4, vI (k : Int))] [] X2 := by
      intro hs
      refine upTo n ?_
      intro k hk8 ih X2 hX2
      refine g_iload rfl dX8_below_75 ?_
      refine g_iload_n rfl dX8_below_77 ?_
      refine g_icmp_ge (t := 103) dX8_below_78 (by decide) (by first | omega | (simp [st2]; done) | (simp [st2]; omega)) (by first | omega | (simp [st2]; done) | (simp [st2]; omega)) (fun b78 => ?_) (fun b78 => ?_)
      · refine g_iconst dX8_below_103 ?_
        refine g_zreturn rfl (by omega) dX8_below_104 ?_
        refine h1 ⟨hr, hs⟩ _ ?_
        intro c j
        rw [hX2]
        grind
      · refine g_aload_n rfl dX8_below_81 ?_
        refine gf_X8_16 (c2 := 47) rfl rfl (by first | rfl | assumption) dX8_below_82 ?_
        refine g_iload rfl dX8_below_85 ?_
        refine g_iload_n rfl dX8_below_87 ?_
        refine g_iconst dX8_below_88 ?_
        refine g_iload rfl dX8_below_89 ?_
        refine g_imul dX8_below_91 ?_
        refine g_ishr (4 * k) (by first | omega | (simp [st2]; done) | (simp [st2]; omega)) (by first | omega | (simp [st2]; done) | (simp [st2]; omega)) (by first | omega | (simp [st2]; done) | (simp [st2]; omega)) dX8_below_92 ?_
        refine g_bipush (by decide) dX8_below_93 ?_
        refine g_iand (4) (by decide) (by decide) dX8_below_95 ?_
        rw [nib_ml]
        refine g_iast (n := 8) (_) (by first | rfl | assumption) (by first | rfl | assumption) rfl (by first | omega | (simp [st2]; done) | (simp [st2]; omega)) (by first | omega | (simp [st2]; done) | (simp [st2]; omega)) dX8_below_96 ?_
        refine g_iinc rfl (by decide) dX8_below_97 ?_
        refine g_goto (t := 75) dX8_below_100 (by decide) ?_
        refine g_subl [(0, vR 44), (1, vI (n : Int)), (2, vI o), (4, vI ((k + 1 : Nat) : Int))] rfl ?_
        exact ih (k + 1) (by omega) (by omega) _ (by intro c j; unfold st2; grind)
    have loop : ∀ k : Nat, k ≤ n → (∀ i, i < k → nib o i < n) → G l g mX8_below κ K 18 [(0, vR 44), (1, vI (n : Int)), (2, vI o), (3, vI (sn o k : Int)), (4, vI (k : Int))] [] X := by
      refine upTo n ?_
      intro k hk8 ih hlt
      have hk16 := nib_lt o k
      have hsr := sn_rng o k
      refine g_iload rfl dX8_below_18 ?_
      refine g_iload_n rfl dX8_below_20 ?_
      refine g_icmp_ge (t := 56) dX8_below_21 (by decide) (by first | omega | (simp [st2]; done) | (simp [st2]; omega)) (by first | omega | (simp [st2]; done) | (simp [st2]; omega)) (fun b21 => ?_) (fun b21 => ?_)
      · obtain rfl : n = k := by omega
        refine g_iload_n rfl dX8_below_56 ?_
        refine g_iconst dX8_below_57 ?_
        refine g_iload_n rfl dX8_below_58 ?_
        refine g_ishl (n) (by first | omega | (simp [st2]; done) | (simp [st2]; omega)) (by first | omega | (simp [st2]; done) | (simp [st2]; omega)) dX8_below_59 ?_
        refine g_iconst dX8_below_60 ?_
        refine g_isub dX8_below_61 ?_
        refine g_icmp_eq (t := 67) dX8_below_62 (by decide) (by first | omega | (simp [st2]; done) | (simp [st2]; omega)) (by rw [Int.one_mul]; omega) (fun b62 => ?_) (fun b62 => ?_)
        · rw [Int.one_mul] at b62
          refine g_aload_n rfl dX8_below_67 ?_
          refine g_iload_n rfl dX8_below_68 ?_
          refine pf_X8_91 rfl (by first | rfl | assumption) dX8_below_69 ?_
          refine g_iconst dX8_below_72 ?_
          refine g_istore (by decide) dX8_below_73 ?_
          refine g_subl [(0, vR 44), (1, vI (n : Int)), (2, vI o), (4, vI ((0 : Nat) : Int))] rfl ?_
          exact loop2 b62 0 (by omega) _ (by intro c j; unfold st2; grind)
        · rw [Int.one_mul] at b62
          refine g_iconst dX8_below_65 ?_
          refine g_zreturn rfl (by omega) dX8_below_66 ?_
          exact h0 (fun q => b62 q.2)
      · refine g_iload_n rfl dX8_below_24 ?_
        refine g_iconst dX8_below_25 ?_
        refine g_iload rfl dX8_below_26 ?_
        refine g_imul dX8_below_28 ?_
        refine g_ishr (4 * k) (by first | omega | (simp [st2]; done) | (simp [st2]; omega)) (by first | omega | (simp [st2]; done) | (simp [st2]; omega)) (by first | omega | (simp [st2]; done) | (simp [st2]; omega)) dX8_below_29 ?_
        refine g_bipush (by decide) dX8_below_30 ?_
        refine g_iand (4) (by decide) (by decide) dX8_below_32 ?_
        rw [nib_ml]
        refine g_istore (by decide) dX8_below_33 ?_
        refine g_iload rfl dX8_below_35 ?_
        refine g_iload_n rfl dX8_below_37 ?_
        refine g_icmp_lt (t := 43) dX8_below_38 (by decide) (by first | omega | (simp [st2]; done) | (simp [st2]; omega)) (by first | omega | (simp [st2]; done) | (simp [st2]; omega)) (fun b38 => ?_) (fun b38 => ?_)
        · refine g_iload_n rfl dX8_below_43 ?_
          refine g_iconst dX8_below_44 ?_
          refine g_iload rfl dX8_below_45 ?_
          refine g_ishl (nib o k) (by first | omega | (simp [st2]; done) | (simp [st2]; omega)) (by first | omega | (simp [st2]; done) | (simp [st2]; omega)) dX8_below_47 ?_
          refine g_ior (sn o k) (2 ^ nib o k) rfl (by simp) dX8_below_48 ?_
          refine g_istore_n (by decide) dX8_below_49 ?_
          refine g_iinc rfl (by decide) dX8_below_50 ?_
          refine g_goto (t := 18) dX8_below_53 (by decide) ?_
          refine g_subl [(0, vR 44), (1, vI (n : Int)), (2, vI o), (3, vI ((sn o (k + 1) : Nat) : Int)), (4, vI ((k + 1 : Nat) : Int))] rfl ?_
          exact ih (k + 1) (by omega) (by omega) (by
            intro i hi
            rcases Nat.lt_or_ge i k with q | q
            · exact hlt i q
            · rw [show i = k by omega]; omega)
        · refine g_iconst dX8_below_41 ?_
          refine g_zreturn rfl (by omega) dX8_below_42 ?_
          exact h0 (fun q => sn_no (j := k) (by omega) (by omega) q.2)
    refine g_iload_n rfl dX8_below_0 ?_
    refine g_iconst dX8_below_1 ?_
    refine g_icmp_lt (t := 11) dX8_below_2 (by decide) (by first | omega | (simp [st2]; done) | (simp [st2]; omega)) (by first | omega | (simp [st2]; done) | (simp [st2]; omega)) (fun b2 => ?_) (fun b2 => ?_)
    · exfalso; omega
    · refine g_iload_n rfl dX8_below_5 ?_
      refine g_bipush (by decide) dX8_below_6 ?_
      refine g_icmp_le (t := 13) dX8_below_8 (by decide) (by first | omega | (simp [st2]; done) | (simp [st2]; omega)) (by first | omega | (simp [st2]; done) | (simp [st2]; omega)) (fun b8 => ?_) (fun b8 => ?_)
      · refine g_iconst dX8_below_13 ?_
        refine g_istore_n (by decide) dX8_below_14 ?_
        refine g_iconst dX8_below_15 ?_
        refine g_istore (by decide) dX8_below_16 ?_
        refine g_subl [(0, vR 44), (1, vI (n : Int)), (2, vI o), (3, vI (sn o 0 : Int)), (4, vI ((0 : Nat) : Int))] rfl ?_
        exact loop 0 (by omega) (fun i hi => absurd hi (by omega))
      · exfalso; omega
  · have hr2 := hr
    refine g_iload_n rfl dX8_below_0 ?_
    refine g_iconst dX8_below_1 ?_
    refine g_icmp_lt (t := 11) dX8_below_2 (by decide) (by first | omega | (simp [st2]; done) | (simp [st2]; omega)) (by first | omega | (simp [st2]; done) | (simp [st2]; omega)) (fun b2 => ?_) (fun b2 => ?_)
    · refine g_iconst dX8_below_11 ?_
      refine g_zreturn rfl (by omega) dX8_below_12 ?_
      exact h0 (fun q => hr q.1)
    · refine g_iload_n rfl dX8_below_5 ?_
      refine g_bipush (by decide) dX8_below_6 ?_
      refine g_icmp_le (t := 13) dX8_below_8 (by decide) (by first | omega | (simp [st2]; done) | (simp [st2]; omega)) (by first | omega | (simp [st2]; done) | (simp [st2]; omega)) (fun b8 => ?_) (fun b8 => ?_)
      · exfalso; omega
      · refine g_iconst dX8_below_11 ?_
        refine g_zreturn rfl (by omega) dX8_below_12 ?_
        exact h0 (fun q => hr q.1)
theorem ct_X4_nibble {l : Launch} {g : Geo} {X : Mm} {K : AV → Mm → Prop} {o : Int} {j : Nat} (hj : j < 8) (hk : K (vI (nib o j : Int)) X) : Ct l g mX4_nibble [vI o, vI (j : Int)] X K := by
  refine enter (by decide) (Nat.le_of_ble_eq_true rfl) (fun κ => ?_)
  refine g_iload_n rfl dX4_nibble_0 ?_
  refine g_iconst dX4_nibble_1 ?_
  refine g_iload_n rfl dX4_nibble_2 ?_
  refine g_imul dX4_nibble_3 ?_
  refine g_iushr (4 * j) (by first | omega | (simp [st2]; done) | (simp [st2]; omega)) (by first | omega | (simp [st2]; done) | (simp [st2]; omega)) dX4_nibble_4 ?_
  refine g_bipush (by decide) dX4_nibble_5 ?_
  refine g_iand (4) (by decide) (by decide) dX4_nibble_7 ?_
  refine g_ireturn rfl dX4_nibble_8 ?_
  rw [nib_cl hj]
  exact hk
set_option maxRecDepth 100000 in
set_option maxHeartbeats 4000000 in
theorem ct_X4_takeOrder {l : Launch} {g : Geo} {X : Mm} {K : AV → Mm → Prop} {m o : Int} (hm : -2147483648 ≤ m ∧ m < 2147483648) (ho : -2147483648 ≤ o ∧ o < 2147483648) (h0 : ¬ ordOk m o → K (vI 0) X) (h1 : ordOk m o → ∀ X2 : Mm, (∀ c j, X2 c j = if c = 4 ∧ j < m.toNat then (nib o j : Int) else if c = 1 ∧ j = 0 then m else X c j) → K (vI 1) X2) : Ct l g mX4_takeOrder [vR 1, vI m, vI o] X K := by
  refine enter (by decide) (Nat.le_of_ble_eq_true rfl) (fun κ => ?_)
  unfold ordOk at h0 h1
  rcases (show (2 ≤ m ∧ m ≤ 8) ∨ ¬ (2 ≤ m ∧ m ≤ 8) by omega) with hr | hr
  · obtain ⟨n, hn⟩ : ∃ n : Nat, m = (n : Int) := ⟨m.toNat, by omega⟩
    subst hn
    rw [Int.toNat_natCast] at h0 h1
    have hp := pw28 (n := n) (by omega)
    have loop2 : ((sn o n : Int) = 2 ^ n - 1) → ∀ k : Nat, k ≤ n → ∀ X2 : Mm, (∀ c j, X2 c j = if c = 4 ∧ j < k then (nib o j : Int) else X c j) → G l g mX4_takeOrder κ K 55 [(0, vR 1), (1, vI (n : Int)), (2, vI o), (4, vI (k : Int))] [] X2 := by
      intro hs
      refine upTo n ?_
      intro k hk8 ih X2 hX2
      refine g_iload rfl dX4_takeOrder_55 ?_
      refine g_iload_n rfl dX4_takeOrder_57 ?_
      refine g_icmp_ge (t := 80) dX4_takeOrder_58 (by decide) (by first | omega | (simp [st2]; done) | (simp [st2]; omega)) (by first | omega | (simp [st2]; done) | (simp [st2]; omega)) (fun b58 => ?_) (fun b58 => ?_)
      · refine g_aload_n rfl dX4_takeOrder_80 ?_
        refine g_iload_n rfl dX4_takeOrder_81 ?_
        refine pf_X4_21 rfl (by first | rfl | assumption) dX4_takeOrder_82 ?_
        refine g_iconst dX4_takeOrder_85 ?_
        refine g_zreturn rfl (by omega) dX4_takeOrder_86 ?_
        refine h1 ⟨hr, hs⟩ _ ?_
        intro c j
        unfold st2
        grind
      · refine g_aload_n rfl dX4_takeOrder_61 ?_
        refine gf_X4_18 (c2 := 4) rfl rfl (by first | rfl | assumption) dX4_takeOrder_62 ?_
        refine g_iload rfl dX4_takeOrder_65 ?_
        refine g_iload_n rfl dX4_takeOrder_67 ?_
        refine g_iload rfl dX4_takeOrder_68 ?_
        refine g_cs2 (M2 := mX4_nibble) dX4_takeOrder_70 ml_RX4_25 kX4_nibble rfl (by decide) (by unfold Rm; decide) (Nat.le_of_ble_eq_true rfl) (ct_X4_nibble (by omega) ?_)
        refine g_iast (n := 8) (_) (by first | rfl | assumption) (by first | rfl | assumption) rfl (by first | omega | (simp [st2]; done) | (simp [st2]; omega)) (by first | omega | (simp [st2]; done) | (simp [st2]; omega)) dX4_takeOrder_73 ?_
        refine g_iinc rfl (by decide) dX4_takeOrder_74 ?_
        refine g_goto (t := 55) dX4_takeOrder_77 (by decide) ?_
        refine g_subl [(0, vR 1), (1, vI (n : Int)), (2, vI o), (4, vI ((k + 1 : Nat) : Int))] rfl ?_
        exact ih (k + 1) (by omega) (by omega) _ (by intro c j; unfold st2; grind)
    have loop : ∀ k : Nat, k ≤ n → G l g mX4_takeOrder κ K 18 [(0, vR 1), (1, vI (n : Int)), (2, vI o), (3, vI (sn o k : Int)), (4, vI (k : Int))] [] X := by
      refine upTo n ?_
      intro k hk8 ih
      have hk16 := nib_lt o k
      have hsr := sn_rng o k
      refine g_iload rfl dX4_takeOrder_18 ?_
      refine g_iload_n rfl dX4_takeOrder_20 ?_
      refine g_icmp_ge (t := 41) dX4_takeOrder_21 (by decide) (by first | omega | (simp [st2]; done) | (simp [st2]; omega)) (by first | omega | (simp [st2]; done) | (simp [st2]; omega)) (fun b21 => ?_) (fun b21 => ?_)
      · obtain rfl : n = k := by omega
        refine g_iload_n rfl dX4_takeOrder_41 ?_
        refine g_iconst dX4_takeOrder_42 ?_
        refine g_iload_n rfl dX4_takeOrder_43 ?_
        refine g_ishl (n) (by first | omega | (simp [st2]; done) | (simp [st2]; omega)) (by first | omega | (simp [st2]; done) | (simp [st2]; omega)) dX4_takeOrder_44 ?_
        refine g_iconst dX4_takeOrder_45 ?_
        refine g_isub dX4_takeOrder_46 ?_
        refine g_icmp_eq (t := 52) dX4_takeOrder_47 (by decide) (by first | omega | (simp [st2]; done) | (simp [st2]; omega)) (by rw [Int.one_mul]; omega) (fun b47 => ?_) (fun b47 => ?_)
        · rw [Int.one_mul] at b47
          refine g_iconst dX4_takeOrder_52 ?_
          refine g_istore (by decide) dX4_takeOrder_53 ?_
          refine g_subl [(0, vR 1), (1, vI (n : Int)), (2, vI o), (4, vI ((0 : Nat) : Int))] rfl ?_
          exact loop2 b47 0 (by omega) _ (by intro c j; simp)
        · rw [Int.one_mul] at b47
          refine g_iconst dX4_takeOrder_50 ?_
          refine g_zreturn rfl (by omega) dX4_takeOrder_51 ?_
          exact h0 (fun q => b47 q.2)
      · refine g_iload_n rfl dX4_takeOrder_24 ?_
        refine g_iconst dX4_takeOrder_25 ?_
        refine g_iload_n rfl dX4_takeOrder_26 ?_
        refine g_iload rfl dX4_takeOrder_27 ?_
        refine g_cs2 (M2 := mX4_nibble) dX4_takeOrder_29 ml_RX4_25 kX4_nibble rfl (by decide) (by unfold Rm; decide) (Nat.le_of_ble_eq_true rfl) (ct_X4_nibble (by omega) ?_)
        refine g_ishl (nib o k) (by first | omega | (simp [st2]; done) | (simp [st2]; omega)) (by first | omega | (simp [st2]; done) | (simp [st2]; omega)) dX4_takeOrder_32 ?_
        refine g_ior (sn o k) (2 ^ nib o k) rfl (by simp) dX4_takeOrder_33 ?_
        refine g_istore_n (by decide) dX4_takeOrder_34 ?_
        refine g_iinc rfl (by decide) dX4_takeOrder_35 ?_
        refine g_goto (t := 18) dX4_takeOrder_38 (by decide) ?_
        refine g_subl [(0, vR 1), (1, vI (n : Int)), (2, vI o), (3, vI ((sn o (k + 1) : Nat) : Int)), (4, vI ((k + 1 : Nat) : Int))] rfl ?_
        exact ih (k + 1) (by omega) (by omega)
    refine g_iload_n rfl dX4_takeOrder_0 ?_
    refine g_iconst dX4_takeOrder_1 ?_
    refine g_icmp_lt (t := 11) dX4_takeOrder_2 (by decide) (by first | omega | (simp [st2]; done) | (simp [st2]; omega)) (by first | omega | (simp [st2]; done) | (simp [st2]; omega)) (fun b2 => ?_) (fun b2 => ?_)
    · exfalso; omega
    · refine g_iload_n rfl dX4_takeOrder_5 ?_
      refine g_bipush (by decide) dX4_takeOrder_6 ?_
      refine g_icmp_le (t := 13) dX4_takeOrder_8 (by decide) (by first | omega | (simp [st2]; done) | (simp [st2]; omega)) (by first | omega | (simp [st2]; done) | (simp [st2]; omega)) (fun b8 => ?_) (fun b8 => ?_)
      · refine g_iconst dX4_takeOrder_13 ?_
        refine g_istore_n (by decide) dX4_takeOrder_14 ?_
        refine g_iconst dX4_takeOrder_15 ?_
        refine g_istore (by decide) dX4_takeOrder_16 ?_
        refine g_subl [(0, vR 1), (1, vI (n : Int)), (2, vI o), (3, vI (sn o 0 : Int)), (4, vI ((0 : Nat) : Int))] rfl ?_
        exact loop 0 (by omega)
      · exfalso; omega
  · have hr2 := hr
    refine g_iload_n rfl dX4_takeOrder_0 ?_
    refine g_iconst dX4_takeOrder_1 ?_
    refine g_icmp_lt (t := 11) dX4_takeOrder_2 (by decide) (by first | omega | (simp [st2]; done) | (simp [st2]; omega)) (by first | omega | (simp [st2]; done) | (simp [st2]; omega)) (fun b2 => ?_) (fun b2 => ?_)
    · refine g_iconst dX4_takeOrder_11 ?_
      refine g_zreturn rfl (by omega) dX4_takeOrder_12 ?_
      exact h0 (fun q => hr q.1)
    · refine g_iload_n rfl dX4_takeOrder_5 ?_
      refine g_bipush (by decide) dX4_takeOrder_6 ?_
      refine g_icmp_le (t := 13) dX4_takeOrder_8 (by decide) (by first | omega | (simp [st2]; done) | (simp [st2]; omega)) (by first | omega | (simp [st2]; done) | (simp [st2]; omega)) (fun b8 => ?_) (fun b8 => ?_)
      · exfalso; omega
      · refine g_iconst dX4_takeOrder_11 ?_
        refine g_zreturn rfl (by omega) dX4_takeOrder_12 ?_
        exact h0 (fun q => hr q.1)
theorem ct_X7_below {l : Launch} {g : Geo} {X : Mm} {K : AV → Mm → Prop} {m o : Int} (hm : -2147483648 ≤ m ∧ m < 2147483648) (ho : -2147483648 ≤ o ∧ o < 2147483648) (h0 : ¬ ordOk m o → K (vI 0) X) (h1 : ordOk m o → ∀ X2 : Mm, (∀ c j, X2 c j = if c = 4 ∧ j < m.toNat then (nib o j : Int) else if c = 1 ∧ j = 0 then m else X c j) → K (vI 1) X2) : Ct l g mX7_below [vR 0, vI m, vI o] X K := by
  refine enter (by decide) (Nat.le_of_ble_eq_true rfl) (fun κ => ?_)
  refine g_aload_n rfl dX7_below_0 ?_
  refine gf_X7_16 (c2 := 1) rfl rfl (by first | rfl | assumption) dX7_below_1 ?_
  refine g_iload_n rfl dX7_below_4 ?_
  refine g_iload_n rfl dX7_below_5 ?_
  refine g_cv2 (M2 := mX4_takeOrder) (ci := 4) dX7_below_6 ml_RX7_96 kX4_takeOrder (by decide) (by first | rfl | assumption) (by decide) rfl (by unfold Rm; decide) (Nat.le_of_ble_eq_true rfl) (ct_X4_takeOrder hm ho (fun h => ?_) (fun h X2 hX2 => ?_))
  · refine g_zreturn rfl (by omega) dX7_below_9 ?_
    first | exact h0 h | exact h1 h _ hX2
  · refine g_zreturn rfl (by omega) dX7_below_9 ?_
    first | exact h0 h | exact h1 h _ hX2
