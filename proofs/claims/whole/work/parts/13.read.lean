/-! the reference's reads -/
def mk (f : Nat → Nat) : Nat → Nat
  | 0 => 0
  | j + 1 => mk f j ||| 2 ^ f j
theorem mk_lt {f : Nat → Nat} {n : Nat} (h : ∀ j, j < n → f j < 8) : ∀ j, j ≤ n → mk f j < 256
  | 0, _ => by simp [mk]
  | j + 1, hj => by
    rw [mk]
    exact Nat.or_lt_two_pow (n := 8) (mk_lt h j (by omega)) (Nat.pow_lt_pow_right (by decide) (h j (by omega)))
def ptd (n : Nat) (f h : Nat → Nat) : Int := if srch (fun j => mk f j == mk h j) 1 n < n then (srch (fun j => mk f j == mk h j) 1 n : Int) else 0
set_option maxRecDepth 100000 in
set_option maxHeartbeats 4000000 in
theorem ct_X8_parted {l : Launch} {g : Geo} {X : Mm} {K : AV → Mm → Prop} {n : Nat} {f h : Nat → Nat} (hn : X 44 5 = (n : Int)) (hn8 : 1 ≤ n ∧ n ≤ 8) (hf : ∀ j, j < n → X 50 j = (f j : Int) ∧ f j < 8) (hh : ∀ j, j < n → X 51 j = (h j : Int) ∧ h j < 8) (hk : K (vI (ptd n f h)) X) : Ct l g mX8_parted [vR 44] X K := by
  refine enter (by decide) (Nat.le_of_ble_eq_true rfl) (fun κ => ?_)
  have loop : ∀ i : Nat, i ≤ n - 1 → srch (fun j => mk f j == mk h j) 1 n = srch (fun j => mk f j == mk h j) (i + 1) n → G l g mX8_parted κ K 6 [(0, vR 44), (1, vI (mk f i : Int)), (2, vI (mk h i : Int)), (3, vI ((i + 1 : Nat) : Int))] [] X := by
    refine upTo (n - 1) ?_
    intro i hi ih hs
    refine g_iload_n rfl dX8_parted_6 ?_
    refine g_aload_n rfl dX8_parted_7 ?_
    refine gf_X8_94 rfl (by first | rfl | assumption) dX8_parted_8 ?_
    refine g_icmp_ge (t := 53) dX8_parted_11 (by decide) (by first | omega | (simp [st2]; done) | (simp [st2]; omega)) (by first | omega | (simp [st2]; done) | (simp [st2]; omega)) (fun b11 => ?_) (fun b11 => ?_)
    · refine g_iconst dX8_parted_53 ?_
      refine g_ireturn rfl dX8_parted_54 ?_
      rw [srch_end (i := i + 1) (by omega)] at hs
      refine kE hk ?_
      unfold ptd
      rw [hs, if_neg (by omega)]
    · have f1 := hf i (by omega)
      have f2 := hh i (by omega)
      have m1 := mk_lt (f := f) (n := n) (fun j hj => (hf j hj).2) (i + 1) (by omega)
      have m2 := mk_lt (f := h) (n := n) (fun j hj => (hh j hj).2) (i + 1) (by omega)
      refine g_iload_n rfl dX8_parted_14 ?_
      refine g_iconst dX8_parted_15 ?_
      refine g_aload_n rfl dX8_parted_16 ?_
      refine gf_X8_26 (c2 := 50) rfl rfl (by first | rfl | assumption) dX8_parted_17 ?_
      refine g_iload_n rfl dX8_parted_20 ?_
      refine g_iconst dX8_parted_21 ?_
      refine g_isub dX8_parted_22 ?_
      refine g_iald (n := 8) (i) (by first | rfl | assumption) (by first | rfl | assumption) (by omega) (by first | omega | (simp [st2]; done) | (simp [st2]; omega)) (by first | omega | (simp [st2]; done) | (simp [st2]; omega)) dX8_parted_23 ?_
      refine g_ishl (f i) (by first | omega | (simp [st2]; done) | (simp [st2]; omega)) (by first | omega | (simp [st2]; done) | (simp [st2]; omega)) dX8_parted_24 ?_
      refine g_ior (mk f i) (2 ^ f i) rfl (by simp) dX8_parted_25 ?_
      refine g_istore_n (by decide) dX8_parted_26 ?_
      refine g_iload_n rfl dX8_parted_27 ?_
      refine g_iconst dX8_parted_28 ?_
      refine g_aload_n rfl dX8_parted_29 ?_
      refine gf_X8_29 (c2 := 51) rfl rfl (by first | rfl | assumption) dX8_parted_30 ?_
      refine g_iload_n rfl dX8_parted_33 ?_
      refine g_iconst dX8_parted_34 ?_
      refine g_isub dX8_parted_35 ?_
      refine g_iald (n := 8) (i) (by first | rfl | assumption) (by first | rfl | assumption) (by omega) (by first | omega | (simp [st2]; done) | (simp [st2]; omega)) (by first | omega | (simp [st2]; done) | (simp [st2]; omega)) dX8_parted_36 ?_
      refine g_ishl (h i) (by first | omega | (simp [st2]; done) | (simp [st2]; omega)) (by first | omega | (simp [st2]; done) | (simp [st2]; omega)) dX8_parted_37 ?_
      refine g_ior (mk h i) (2 ^ h i) rfl (by simp) dX8_parted_38 ?_
      refine g_istore_n (by decide) dX8_parted_39 ?_
      refine g_iload_n rfl dX8_parted_40 ?_
      refine g_iload_n rfl dX8_parted_41 ?_
      refine g_icmp_ne (t := 47) dX8_parted_42 (by decide) (by rw [mk] at m1; omega) (by rw [mk] at m2; omega) (fun b42 => ?_) (fun b42 => ?_)
      · refine g_iinc rfl (by decide) dX8_parted_47 ?_
        refine g_goto (t := 6) dX8_parted_50 (by decide) ?_
        have hp : ¬ (fun j => mk f j == mk h j) (i + 1) = true := by
          simp only [mk, beq_iff_eq]
          omega
        rw [srch_miss (p := fun j => mk f j == mk h j) (by omega) hp] at hs
        refine g_subl [(0, vR 44), (1, vI ((mk f (i + 1) : Nat) : Int)), (2, vI ((mk h (i + 1) : Nat) : Int)), (3, vI ((i + 1 + 1 : Nat) : Int))] rfl ?_
        exact ih (i + 1) (by omega) (by omega) hs
      · refine g_iload_n rfl dX8_parted_45 ?_
        refine g_ireturn rfl dX8_parted_46 ?_
        have hp : (fun j => mk f j == mk h j) (i + 1) = true := by
          simp only [mk, beq_iff_eq]
          omega
        rw [srch_hit (p := fun j => mk f j == mk h j) (by omega) hp] at hs
        refine kE hk ?_
        unfold ptd
        rw [hs, if_pos (by omega)]
  refine g_iconst dX8_parted_0 ?_
  refine g_istore_n (by decide) dX8_parted_1 ?_
  refine g_iconst dX8_parted_2 ?_
  refine g_istore_n (by decide) dX8_parted_3 ?_
  refine g_iconst dX8_parted_4 ?_
  refine g_istore_n (by decide) dX8_parted_5 ?_
  refine g_subl [(0, vR 44), (1, vI (mk f 0 : Int)), (2, vI (mk h 0 : Int)), (3, vI ((0 + 1 : Nat) : Int))] rfl ?_
  exact loop 0 (by omega) rfl
def ofR (n : Nat) (w sd p su : Int) : Int := if n = 0 then -1 else if w = 0 then n else if w = 1 then sd else if w = 2 then p else if w = 3 then su else -1
theorem ct_X8_of {l : Launch} {g : Geo} {X : Mm} {K : AV → Mm → Prop} {n : Nat} {f h : Nat → Nat} {w : Int} (hw : -2147483648 ≤ w ∧ w < 2147483648) (hn : X 44 5 = (n : Int)) (hn8 : n ≤ 8) (hf : ∀ j, j < n → X 50 j = (f j : Int) ∧ f j < 8) (hh : ∀ j, j < n → X 51 j = (h j : Int) ∧ h j < 8) (hk : K (vI (ofR n w (X 44 11) (ptd n f h) (X 44 12))) X) : Ct l g mX8_of [vR 44, vI w] X K := by
  refine enter (by decide) (Nat.le_of_ble_eq_true rfl) (fun κ => ?_)
  unfold ofR at hk
  refine g_aload_n rfl dX8_of_0 ?_
  refine gf_X8_94 rfl (by first | rfl | assumption) dX8_of_1 ?_
  refine g_if_ne (t := 9) dX8_of_4 (by decide) (by first | omega | (simp [st2]; done) | (simp [st2]; omega)) (fun b4 => ?_) (fun b4 => ?_)
  · refine g_iload_n rfl dX8_of_9 ?_
    rcases (show w = 0 ∨ w = 1 ∨ w = 2 ∨ w = 3 ∨ (w < 0 ∨ 3 < w) by omega) with sw | sw | sw | sw | sw
    · rw [sw]
      refine g_tabIn (t := 40) (off := 30) dX8_of_10 (by decide) (by decide) (by decide) (by decide) (by decide) ?_
      refine g_aload_n rfl dX8_of_40 ?_
      refine gf_X8_94 rfl (by first | rfl | assumption) dX8_of_41 ?_
      refine g_ireturn rfl dX8_of_44 ?_
      refine kE hk ?_
      repeat' split
      all_goals omega
    · rw [sw]
      refine g_tabIn (t := 45) (off := 35) dX8_of_10 (by decide) (by decide) (by decide) (by decide) (by decide) ?_
      refine g_aload_n rfl dX8_of_45 ?_
      refine gf_X8_101 rfl (by first | rfl | assumption) dX8_of_46 ?_
      refine g_ireturn rfl dX8_of_49 ?_
      refine kE hk ?_
      repeat' split
      all_goals omega
    · rw [sw]
      refine g_tabIn (t := 50) (off := 40) dX8_of_10 (by decide) (by decide) (by decide) (by decide) (by decide) ?_
      refine g_aload_n rfl dX8_of_50 ?_
      refine g_cv0 (M2 := mX8_parted) (ci := 8) dX8_of_51 ml_RX8_120 kX8_parted (by decide) (by first | rfl | assumption) (by decide) rfl (by unfold Rm; decide) (Nat.le_of_ble_eq_true rfl) (ct_X8_parted hn (by omega) hf hh ?_)
      refine g_ireturn rfl dX8_of_54 ?_
      refine kE hk ?_
      repeat' split
      all_goals omega
    · rw [sw]
      refine g_tabIn (t := 55) (off := 45) dX8_of_10 (by decide) (by decide) (by decide) (by decide) (by decide) ?_
      refine g_aload_n rfl dX8_of_55 ?_
      refine gf_X8_104 rfl (by first | rfl | assumption) dX8_of_56 ?_
      refine g_ireturn rfl dX8_of_59 ?_
      refine kE hk ?_
      repeat' split
      all_goals omega
    · refine g_tabOut (t := 60) dX8_of_10 (by first | omega | (simp [st2]; done) | (simp [st2]; omega)) sw (by decide) ?_
      refine g_iconst dX8_of_60 ?_
      refine g_ireturn rfl dX8_of_61 ?_
      refine kE hk ?_
      repeat' split
      all_goals omega
  · refine g_iconst dX8_of_7 ?_
    refine g_ireturn rfl dX8_of_8 ?_
    refine kE hk ?_
    repeat' split
    all_goals omega
theorem ct_X8_total {l : Launch} {g : Geo} {X : Mm} {K : AV → Mm → Prop} {n : Nat} {w : Int} (hw : w = 0 ∨ w = 1) (hn : X 44 5 = (n : Int)) (hn8 : n ≤ 8) (hk : K (vJ (ps (fun k => if w = 0 then X 48 k else X 49 k) id n)) X) : Ct l g mX8_total [vR 44, vI w] X K := by
  refine enter (by decide) (Nat.le_of_ble_eq_true rfl) (fun κ => ?_)
  have loop : ∀ i : Nat, i ≤ n → G l g mX8_total κ K 5 [(0, vR 44), (1, vI w), (2, vJ (ps (fun k => if w = 0 then X 48 k else X 49 k) id i)), (4, vI (i : Int))] [] X := by
    refine upTo n ?_
    intro i hi ih
    have hs : ps (fun k => if w = 0 then X 48 k else X 49 k) id (i + 1) = ps (fun k => if w = 0 then X 48 k else X 49 k) id i + if w = 0 then X 48 i else X 49 i := rfl
    refine g_iload rfl dX8_total_5 ?_
    refine g_aload_n rfl dX8_total_7 ?_
    refine gf_X8_94 rfl (by first | rfl | assumption) dX8_total_8 ?_
    refine g_icmp_ge (t := 44) dX8_total_11 (by decide) (by first | omega | (simp [st2]; done) | (simp [st2]; omega)) (by first | omega | (simp [st2]; done) | (simp [st2]; omega)) (fun b11 => ?_) (fun b11 => ?_)
    · refine g_lload_n rfl dX8_total_44 ?_
      refine g_lreturn rfl dX8_total_45 ?_
      obtain rfl : n = i := by omega
      exact hk
    · refine g_lload_n rfl dX8_total_14 ?_
      refine g_iload_n rfl dX8_total_15 ?_
      refine g_if_ne (t := 29) dX8_total_16 (by decide) (by first | omega | (simp [st2]; done) | (simp [st2]; omega)) (fun b16 => ?_) (fun b16 => ?_)
      · rw [if_neg b16] at hs
        refine g_aload_n rfl dX8_total_29 ?_
        refine gf_X8_23 (c2 := 49) rfl rfl (by first | rfl | assumption) dX8_total_30 ?_
        refine g_iload rfl dX8_total_33 ?_
        refine g_lald (n := 8) (_) (by first | rfl | assumption) (by first | rfl | assumption) rfl (by first | omega | (simp [st2]; done) | (simp [st2]; omega)) (by first | omega | (simp [st2]; done) | (simp [st2]; omega)) dX8_total_35 ?_
        refine g_ladd dX8_total_36 ?_
        rw [← hs]
        refine g_lstore_n (by decide) dX8_total_37 ?_
        refine g_iinc rfl (by decide) dX8_total_38 ?_
        refine g_goto (t := 5) dX8_total_41 (by decide) ?_
        refine g_subl [(0, vR 44), (1, vI w), (2, vJ (ps (fun k => if w = 0 then X 48 k else X 49 k) id (i + 1))), (4, vI ((i + 1 : Nat) : Int))] rfl ?_
        exact ih (i + 1) (by omega) (by omega)
      · rw [if_pos b16] at hs
        refine g_aload_n rfl dX8_total_19 ?_
        refine gf_X8_19 (c2 := 48) rfl rfl (by first | rfl | assumption) dX8_total_20 ?_
        refine g_iload rfl dX8_total_23 ?_
        refine g_lald (n := 8) (_) (by first | rfl | assumption) (by first | rfl | assumption) rfl (by first | omega | (simp [st2]; done) | (simp [st2]; omega)) (by first | omega | (simp [st2]; done) | (simp [st2]; omega)) dX8_total_25 ?_
        refine g_goto (t := 36) dX8_total_26 (by decide) ?_
        refine g_ladd dX8_total_36 ?_
        rw [← hs]
        refine g_lstore_n (by decide) dX8_total_37 ?_
        refine g_iinc rfl (by decide) dX8_total_38 ?_
        refine g_goto (t := 5) dX8_total_41 (by decide) ?_
        refine g_subl [(0, vR 44), (1, vI w), (2, vJ (ps (fun k => if w = 0 then X 48 k else X 49 k) id (i + 1))), (4, vI ((i + 1 : Nat) : Int))] rfl ?_
        exact ih (i + 1) (by omega) (by omega)
  refine g_lconst rfl dX8_total_0 ?_
  refine g_lstore_n (by decide) dX8_total_1 ?_
  refine g_iconst dX8_total_2 ?_
  refine g_istore (by decide) dX8_total_3 ?_
  refine g_subl [(0, vR 44), (1, vI w), (2, vJ (ps (fun k => if w = 0 then X 48 k else X 49 k) id 0)), (4, vI ((0 : Nat) : Int))] rfl ?_
  exact loop 0 (by omega)
def spR (n : Nat) (k w : Int) (A B : Nat → Int) : Int := if n = 0 ∨ k < 0 ∨ (n : Int) < k ∨ ¬ (w = 0 ∨ w = 1) then 0 else if k = n then ps (fun k => if w = 0 then A k else B k) id n else if w = 0 then A k.toNat else B k.toNat
theorem ct_X8_spans {l : Launch} {g : Geo} {X : Mm} {K : AV → Mm → Prop} {n : Nat} {k w : Int} (hq : -2147483648 ≤ k ∧ k < 2147483648) (hw : -2147483648 ≤ w ∧ w < 2147483648) (hn : X 44 5 = (n : Int)) (hn8 : n ≤ 8) (hk : K (vJ (spR n k w (X 48) (X 49))) X) : Ct l g mX8_spans [vR 44, vI k, vI w] X K := by
  refine enter (by decide) (Nat.le_of_ble_eq_true rfl) (fun κ => ?_)
  unfold spR at hk
  refine g_aload_n rfl dX8_spans_0 ?_
  refine gf_X8_94 rfl (by first | rfl | assumption) dX8_spans_1 ?_
  refine g_if_eq (t := 28) dX8_spans_4 (by decide) (by first | omega | (simp [st2]; done) | (simp [st2]; omega)) (fun b4 => ?_) (fun b4 => ?_)
  · refine g_lconst rfl dX8_spans_28 ?_
    refine g_lreturn rfl dX8_spans_29 ?_
    rw [if_pos (by omega)] at hk
    exact hk
  · refine g_iload_n rfl dX8_spans_7 ?_
    refine g_if_lt (t := 28) dX8_spans_8 (by decide) (by first | omega | (simp [st2]; done) | (simp [st2]; omega)) (fun b8 => ?_) (fun b8 => ?_)
    · refine g_lconst rfl dX8_spans_28 ?_
      refine g_lreturn rfl dX8_spans_29 ?_
      rw [if_pos (by omega)] at hk
      exact hk
    · refine g_iload_n rfl dX8_spans_11 ?_
      refine g_aload_n rfl dX8_spans_12 ?_
      refine gf_X8_94 rfl (by first | rfl | assumption) dX8_spans_13 ?_
      refine g_icmp_gt (t := 28) dX8_spans_16 (by decide) (by first | omega | (simp [st2]; done) | (simp [st2]; omega)) (by first | omega | (simp [st2]; done) | (simp [st2]; omega)) (fun b16 => ?_) (fun b16 => ?_)
      · refine g_lconst rfl dX8_spans_28 ?_
        refine g_lreturn rfl dX8_spans_29 ?_
        rw [if_pos (by omega)] at hk
        exact hk
      · refine g_iload_n rfl dX8_spans_19 ?_
        refine g_if_eq (t := 30) dX8_spans_20 (by decide) (by first | omega | (simp [st2]; done) | (simp [st2]; omega)) (fun b20 => ?_) (fun b20 => ?_)
        · refine g_iload_n rfl dX8_spans_30 ?_
          refine g_aload_n rfl dX8_spans_31 ?_
          refine gf_X8_94 rfl (by first | rfl | assumption) dX8_spans_32 ?_
          refine g_icmp_ne (t := 46) dX8_spans_35 (by decide) (by first | omega | (simp [st2]; done) | (simp [st2]; omega)) (by first | omega | (simp [st2]; done) | (simp [st2]; omega)) (fun b35 => ?_) (fun b35 => ?_)
          · refine g_iload_n rfl dX8_spans_46 ?_
            refine g_if_ne (t := 59) dX8_spans_47 (by decide) (by first | omega | (simp [st2]; done) | (simp [st2]; omega)) (fun b47 => ?_) (fun b47 => ?_)
            · refine g_aload_n rfl dX8_spans_59 ?_
              refine gf_X8_23 (c2 := 49) rfl rfl (by first | rfl | assumption) dX8_spans_60 ?_
              refine g_iload_n rfl dX8_spans_63 ?_
              refine g_lald (n := 8) (k.toNat) (by first | rfl | assumption) (by first | rfl | assumption) (by omega) (by first | omega | (simp [st2]; done) | (simp [st2]; omega)) (by first | omega | (simp [st2]; done) | (simp [st2]; omega)) dX8_spans_64 ?_
              refine g_lreturn rfl dX8_spans_65 ?_
              rw [if_neg (by omega)] at hk
              first | (rw [if_pos (by omega)] at hk; exact hk) | (rw [if_neg (by omega), if_pos (by omega)] at hk; exact hk) | (rw [if_neg (by omega), if_neg (by omega)] at hk; exact hk)
            · refine g_aload_n rfl dX8_spans_50 ?_
              refine gf_X8_19 (c2 := 48) rfl rfl (by first | rfl | assumption) dX8_spans_51 ?_
              refine g_iload_n rfl dX8_spans_54 ?_
              refine g_lald (n := 8) (k.toNat) (by first | rfl | assumption) (by first | rfl | assumption) (by omega) (by first | omega | (simp [st2]; done) | (simp [st2]; omega)) (by first | omega | (simp [st2]; done) | (simp [st2]; omega)) dX8_spans_55 ?_
              refine g_goto (t := 65) dX8_spans_56 (by decide) ?_
              refine g_lreturn rfl dX8_spans_65 ?_
              rw [if_neg (by omega)] at hk
              first | (rw [if_pos (by omega)] at hk; exact hk) | (rw [if_neg (by omega), if_pos (by omega)] at hk; exact hk) | (rw [if_neg (by omega), if_neg (by omega)] at hk; exact hk)
          · refine g_aload_n rfl dX8_spans_38 ?_
            refine g_iload_n rfl dX8_spans_39 ?_
            refine g_cv1 (M2 := mX8_total) (ci := 8) dX8_spans_40 ml_RX8_124 kX8_total (by decide) (by first | rfl | assumption) (by decide) rfl (by unfold Rm; decide) (Nat.le_of_ble_eq_true rfl) (ct_X8_total (by omega) hn hn8 ?_)
            refine g_goto (t := 65) dX8_spans_43 (by decide) ?_
            refine g_lreturn rfl dX8_spans_65 ?_
            rw [if_neg (by omega)] at hk
            first | (rw [if_pos (by omega)] at hk; exact hk) | (rw [if_neg (by omega), if_pos (by omega)] at hk; exact hk) | (rw [if_neg (by omega), if_neg (by omega)] at hk; exact hk)
        · refine g_iload_n rfl dX8_spans_23 ?_
          refine g_iconst dX8_spans_24 ?_
          refine g_icmp_eq (t := 30) dX8_spans_25 (by decide) (by first | omega | (simp [st2]; done) | (simp [st2]; omega)) (by first | omega | (simp [st2]; done) | (simp [st2]; omega)) (fun b25 => ?_) (fun b25 => ?_)
          · refine g_iload_n rfl dX8_spans_30 ?_
            refine g_aload_n rfl dX8_spans_31 ?_
            refine gf_X8_94 rfl (by first | rfl | assumption) dX8_spans_32 ?_
            refine g_icmp_ne (t := 46) dX8_spans_35 (by decide) (by first | omega | (simp [st2]; done) | (simp [st2]; omega)) (by first | omega | (simp [st2]; done) | (simp [st2]; omega)) (fun b35 => ?_) (fun b35 => ?_)
            · refine g_iload_n rfl dX8_spans_46 ?_
              refine g_if_ne (t := 59) dX8_spans_47 (by decide) (by first | omega | (simp [st2]; done) | (simp [st2]; omega)) (fun b47 => ?_) (fun b47 => ?_)
              · refine g_aload_n rfl dX8_spans_59 ?_
                refine gf_X8_23 (c2 := 49) rfl rfl (by first | rfl | assumption) dX8_spans_60 ?_
                refine g_iload_n rfl dX8_spans_63 ?_
                refine g_lald (n := 8) (k.toNat) (by first | rfl | assumption) (by first | rfl | assumption) (by omega) (by first | omega | (simp [st2]; done) | (simp [st2]; omega)) (by first | omega | (simp [st2]; done) | (simp [st2]; omega)) dX8_spans_64 ?_
                refine g_lreturn rfl dX8_spans_65 ?_
                rw [if_neg (by omega)] at hk
                first | (rw [if_pos (by omega)] at hk; exact hk) | (rw [if_neg (by omega), if_pos (by omega)] at hk; exact hk) | (rw [if_neg (by omega), if_neg (by omega)] at hk; exact hk)
              · refine g_aload_n rfl dX8_spans_50 ?_
                refine gf_X8_19 (c2 := 48) rfl rfl (by first | rfl | assumption) dX8_spans_51 ?_
                refine g_iload_n rfl dX8_spans_54 ?_
                refine g_lald (n := 8) (k.toNat) (by first | rfl | assumption) (by first | rfl | assumption) (by omega) (by first | omega | (simp [st2]; done) | (simp [st2]; omega)) (by first | omega | (simp [st2]; done) | (simp [st2]; omega)) dX8_spans_55 ?_
                refine g_goto (t := 65) dX8_spans_56 (by decide) ?_
                refine g_lreturn rfl dX8_spans_65 ?_
                rw [if_neg (by omega)] at hk
                first | (rw [if_pos (by omega)] at hk; exact hk) | (rw [if_neg (by omega), if_pos (by omega)] at hk; exact hk) | (rw [if_neg (by omega), if_neg (by omega)] at hk; exact hk)
            · refine g_aload_n rfl dX8_spans_38 ?_
              refine g_iload_n rfl dX8_spans_39 ?_
              refine g_cv1 (M2 := mX8_total) (ci := 8) dX8_spans_40 ml_RX8_124 kX8_total (by decide) (by first | rfl | assumption) (by decide) rfl (by unfold Rm; decide) (Nat.le_of_ble_eq_true rfl) (ct_X8_total (by omega) hn hn8 ?_)
              refine g_goto (t := 65) dX8_spans_43 (by decide) ?_
              refine g_lreturn rfl dX8_spans_65 ?_
              rw [if_neg (by omega)] at hk
              first | (rw [if_pos (by omega)] at hk; exact hk) | (rw [if_neg (by omega), if_pos (by omega)] at hk; exact hk) | (rw [if_neg (by omega), if_neg (by omega)] at hk; exact hk)
          · refine g_lconst rfl dX8_spans_28 ?_
            refine g_lreturn rfl dX8_spans_29 ?_
            rw [if_pos (by omega)] at hk
            exact hk
def orR (n : Nat) (w j : Int) (f h : Nat → Int) : Int := if j < 0 ∨ (n : Int) ≤ j ∨ ¬ (w = 0 ∨ w = 1) then -1 else if w = 0 then f j.toNat else h j.toNat
theorem ct_X8_order {l : Launch} {g : Geo} {X : Mm} {K : AV → Mm → Prop} {n : Nat} {w j : Int} (hj : -2147483648 ≤ j ∧ j < 2147483648) (hw : -2147483648 ≤ w ∧ w < 2147483648) (hn : X 44 5 = (n : Int)) (hn8 : n ≤ 8) (hk : K (vI (orR n w j (X 50) (X 51))) X) : Ct l g mX8_order [vR 44, vI w, vI j] X K := by
  refine enter (by decide) (Nat.le_of_ble_eq_true rfl) (fun κ => ?_)
  unfold orR at hk
  refine g_iload_n rfl dX8_order_0 ?_
  refine g_if_lt (t := 21) dX8_order_1 (by decide) (by first | omega | (simp [st2]; done) | (simp [st2]; omega)) (fun b1 => ?_) (fun b1 => ?_)
  · refine g_iconst dX8_order_21 ?_
    refine g_ireturn rfl dX8_order_22 ?_
    rw [if_pos (by omega)] at hk
    exact hk
  · refine g_iload_n rfl dX8_order_4 ?_
    refine g_aload_n rfl dX8_order_5 ?_
    refine gf_X8_94 rfl (by first | rfl | assumption) dX8_order_6 ?_
    refine g_icmp_ge (t := 21) dX8_order_9 (by decide) (by first | omega | (simp [st2]; done) | (simp [st2]; omega)) (by first | omega | (simp [st2]; done) | (simp [st2]; omega)) (fun b9 => ?_) (fun b9 => ?_)
    · refine g_iconst dX8_order_21 ?_
      refine g_ireturn rfl dX8_order_22 ?_
      rw [if_pos (by omega)] at hk
      exact hk
    · refine g_iload_n rfl dX8_order_12 ?_
      refine g_if_eq (t := 23) dX8_order_13 (by decide) (by first | omega | (simp [st2]; done) | (simp [st2]; omega)) (fun b13 => ?_) (fun b13 => ?_)
      · refine g_iload_n rfl dX8_order_23 ?_
        refine g_if_ne (t := 36) dX8_order_24 (by decide) (by first | omega | (simp [st2]; done) | (simp [st2]; omega)) (fun b24 => ?_) (fun b24 => ?_)
        · refine g_aload_n rfl dX8_order_36 ?_
          refine gf_X8_29 (c2 := 51) rfl rfl (by first | rfl | assumption) dX8_order_37 ?_
          refine g_iload_n rfl dX8_order_40 ?_
          refine g_iald (n := 8) (j.toNat) (by first | rfl | assumption) (by first | rfl | assumption) (by omega) (by first | omega | (simp [st2]; done) | (simp [st2]; omega)) (by first | omega | (simp [st2]; done) | (simp [st2]; omega)) dX8_order_41 ?_
          refine g_ireturn rfl dX8_order_42 ?_
          rw [if_neg (by omega)] at hk
          first | (rw [if_pos (by omega)] at hk; exact hk) | (rw [if_neg (by omega)] at hk; exact hk)
        · refine g_aload_n rfl dX8_order_27 ?_
          refine gf_X8_26 (c2 := 50) rfl rfl (by first | rfl | assumption) dX8_order_28 ?_
          refine g_iload_n rfl dX8_order_31 ?_
          refine g_iald (n := 8) (j.toNat) (by first | rfl | assumption) (by first | rfl | assumption) (by omega) (by first | omega | (simp [st2]; done) | (simp [st2]; omega)) (by first | omega | (simp [st2]; done) | (simp [st2]; omega)) dX8_order_32 ?_
          refine g_goto (t := 42) dX8_order_33 (by decide) ?_
          refine g_ireturn rfl dX8_order_42 ?_
          rw [if_neg (by omega)] at hk
          first | (rw [if_pos (by omega)] at hk; exact hk) | (rw [if_neg (by omega)] at hk; exact hk)
      · refine g_iload_n rfl dX8_order_16 ?_
        refine g_iconst dX8_order_17 ?_
        refine g_icmp_eq (t := 23) dX8_order_18 (by decide) (by first | omega | (simp [st2]; done) | (simp [st2]; omega)) (by first | omega | (simp [st2]; done) | (simp [st2]; omega)) (fun b18 => ?_) (fun b18 => ?_)
        · refine g_iload_n rfl dX8_order_23 ?_
          refine g_if_ne (t := 36) dX8_order_24 (by decide) (by first | omega | (simp [st2]; done) | (simp [st2]; omega)) (fun b24 => ?_) (fun b24 => ?_)
          · refine g_aload_n rfl dX8_order_36 ?_
            refine gf_X8_29 (c2 := 51) rfl rfl (by first | rfl | assumption) dX8_order_37 ?_
            refine g_iload_n rfl dX8_order_40 ?_
            refine g_iald (n := 8) (j.toNat) (by first | rfl | assumption) (by first | rfl | assumption) (by omega) (by first | omega | (simp [st2]; done) | (simp [st2]; omega)) (by first | omega | (simp [st2]; done) | (simp [st2]; omega)) dX8_order_41 ?_
            refine g_ireturn rfl dX8_order_42 ?_
            rw [if_neg (by omega)] at hk
            first | (rw [if_pos (by omega)] at hk; exact hk) | (rw [if_neg (by omega)] at hk; exact hk)
          · refine g_aload_n rfl dX8_order_27 ?_
            refine gf_X8_26 (c2 := 50) rfl rfl (by first | rfl | assumption) dX8_order_28 ?_
            refine g_iload_n rfl dX8_order_31 ?_
            refine g_iald (n := 8) (j.toNat) (by first | rfl | assumption) (by first | rfl | assumption) (by omega) (by first | omega | (simp [st2]; done) | (simp [st2]; omega)) (by first | omega | (simp [st2]; done) | (simp [st2]; omega)) dX8_order_32 ?_
            refine g_goto (t := 42) dX8_order_33 (by decide) ?_
            refine g_ireturn rfl dX8_order_42 ?_
            rw [if_neg (by omega)] at hk
            first | (rw [if_pos (by omega)] at hk; exact hk) | (rw [if_neg (by omega)] at hk; exact hk)
        · refine g_iconst dX8_order_21 ?_
          refine g_ireturn rfl dX8_order_22 ?_
          rw [if_pos (by omega)] at hk
          exact hk
def whR (there w a b : Int) : Int := if there = 0 ∨ ¬ (w = 0 ∨ w = 1) then -9000000000000000000 else if w = 0 then a else b
theorem ct_X8_where {l : Launch} {g : Geo} {X : Mm} {K : AV → Mm → Prop} {w : Int} (hp : X 44 13 = 0 ∨ X 44 13 = 1) (hw : -2147483648 ≤ w ∧ w < 2147483648) (hk : K (vJ (whR (X 44 13) w (X 44 14) (X 44 15))) X) : Ct l g mX8_where [vR 44, vI w] X K := by
  refine enter (by decide) (Nat.le_of_ble_eq_true rfl) (fun κ => ?_)
  unfold whR at hk
  refine g_aload_n rfl dX8_where_0 ?_
  refine gf_X8_97 rfl (by first | rfl | assumption) dX8_where_1 ?_
  refine g_if_eq (t := 16) dX8_where_4 (by decide) (by first | omega | (simp [st2]; done) | (simp [st2]; omega)) (fun b4 => ?_) (fun b4 => ?_)
  · refine g_ldc2 (n := (-9000000000000000000)) (by rw [show Int64.ofInt (-9000000000000000000) = ((-9000000000000000000) : Int64) by decide]; exact kc_RX8_167) dX8_where_16 ?_
    refine g_goto (t := 37) dX8_where_19 (by decide) ?_
    refine g_lreturn rfl dX8_where_37 ?_
    first | (rw [if_pos (by omega)] at hk; exact hk) | (rw [if_neg (by omega), if_pos (by omega)] at hk; exact hk) | (rw [if_neg (by omega), if_neg (by omega)] at hk; exact hk)
  · refine g_iload_n rfl dX8_where_7 ?_
    refine g_if_eq (t := 22) dX8_where_8 (by decide) (by first | omega | (simp [st2]; done) | (simp [st2]; omega)) (fun b8 => ?_) (fun b8 => ?_)
    · refine g_iload_n rfl dX8_where_22 ?_
      refine g_if_ne (t := 33) dX8_where_23 (by decide) (by first | omega | (simp [st2]; done) | (simp [st2]; omega)) (fun b23 => ?_) (fun b23 => ?_)
      · refine g_aload_n rfl dX8_where_33 ?_
        refine gf_X8_160 rfl (by first | rfl | assumption) dX8_where_34 ?_
        refine g_lreturn rfl dX8_where_37 ?_
        first | (rw [if_pos (by omega)] at hk; exact hk) | (rw [if_neg (by omega), if_pos (by omega)] at hk; exact hk) | (rw [if_neg (by omega), if_neg (by omega)] at hk; exact hk)
      · refine g_aload_n rfl dX8_where_26 ?_
        refine gf_X8_157 rfl (by first | rfl | assumption) dX8_where_27 ?_
        refine g_goto (t := 37) dX8_where_30 (by decide) ?_
        refine g_lreturn rfl dX8_where_37 ?_
        first | (rw [if_pos (by omega)] at hk; exact hk) | (rw [if_neg (by omega), if_pos (by omega)] at hk; exact hk) | (rw [if_neg (by omega), if_neg (by omega)] at hk; exact hk)
    · refine g_iload_n rfl dX8_where_11 ?_
      refine g_iconst dX8_where_12 ?_
      refine g_icmp_eq (t := 22) dX8_where_13 (by decide) (by first | omega | (simp [st2]; done) | (simp [st2]; omega)) (by first | omega | (simp [st2]; done) | (simp [st2]; omega)) (fun b13 => ?_) (fun b13 => ?_)
      · refine g_iload_n rfl dX8_where_22 ?_
        refine g_if_ne (t := 33) dX8_where_23 (by decide) (by first | omega | (simp [st2]; done) | (simp [st2]; omega)) (fun b23 => ?_) (fun b23 => ?_)
        · refine g_aload_n rfl dX8_where_33 ?_
          refine gf_X8_160 rfl (by first | rfl | assumption) dX8_where_34 ?_
          refine g_lreturn rfl dX8_where_37 ?_
          first | (rw [if_pos (by omega)] at hk; exact hk) | (rw [if_neg (by omega), if_pos (by omega)] at hk; exact hk) | (rw [if_neg (by omega), if_neg (by omega)] at hk; exact hk)
        · refine g_aload_n rfl dX8_where_26 ?_
          refine gf_X8_157 rfl (by first | rfl | assumption) dX8_where_27 ?_
          refine g_goto (t := 37) dX8_where_30 (by decide) ?_
          refine g_lreturn rfl dX8_where_37 ?_
          first | (rw [if_pos (by omega)] at hk; exact hk) | (rw [if_neg (by omega), if_pos (by omega)] at hk; exact hk) | (rw [if_neg (by omega), if_neg (by omega)] at hk; exact hk)
      · refine g_ldc2 (n := (-9000000000000000000)) (by rw [show Int64.ofInt (-9000000000000000000) = ((-9000000000000000000) : Int64) by decide]; exact kc_RX8_167) dX8_where_16 ?_
        refine g_goto (t := 37) dX8_where_19 (by decide) ?_
        refine g_lreturn rfl dX8_where_37 ?_
        first | (rw [if_pos (by omega)] at hk; exact hk) | (rw [if_neg (by omega), if_pos (by omega)] at hk; exact hk) | (rw [if_neg (by omega), if_neg (by omega)] at hk; exact hk)
def tbR (n : Nat) (i j : Int) (T : Nat → Int) : Int := if 0 ≤ i ∧ i < n ∧ 0 ≤ j ∧ j < n then T (8 * i.toNat + j.toNat) else -1
theorem ct_X8_table {l : Launch} {g : Geo} {X : Mm} {K : AV → Mm → Prop} {n : Nat} {i j : Int} (hi : -2147483648 ≤ i ∧ i < 2147483648) (hj : -2147483648 ≤ j ∧ j < 2147483648) (hn : X 44 5 = (n : Int)) (hn8 : n ≤ 8) (hk : K (vJ (tbR n i j (X 52))) X) : Ct l g mX8_table [vR 44, vI i, vI j] X K := by
  refine enter (by decide) (Nat.le_of_ble_eq_true rfl) (fun κ => ?_)
  unfold tbR at hk
  refine g_iload_n rfl dX8_table_0 ?_
  refine g_if_lt (t := 38) dX8_table_1 (by decide) (by first | omega | (simp [st2]; done) | (simp [st2]; omega)) (fun b1 => ?_) (fun b1 => ?_)
  · refine g_ldc2 (n := (-1)) (by rw [show Int64.ofInt (-1) = ((-1) : Int64) by decide]; exact kc_RX8_178) dX8_table_38 ?_
    refine g_lreturn rfl dX8_table_41 ?_
    first | (rw [if_pos (by omega)] at hk; exact hk) | (rw [if_neg (by omega)] at hk; exact hk)
  · refine g_iload_n rfl dX8_table_4 ?_
    refine g_aload_n rfl dX8_table_5 ?_
    refine gf_X8_94 rfl (by first | rfl | assumption) dX8_table_6 ?_
    refine g_icmp_ge (t := 38) dX8_table_9 (by decide) (by first | omega | (simp [st2]; done) | (simp [st2]; omega)) (by first | omega | (simp [st2]; done) | (simp [st2]; omega)) (fun b9 => ?_) (fun b9 => ?_)
    · refine g_ldc2 (n := (-1)) (by rw [show Int64.ofInt (-1) = ((-1) : Int64) by decide]; exact kc_RX8_178) dX8_table_38 ?_
      refine g_lreturn rfl dX8_table_41 ?_
      first | (rw [if_pos (by omega)] at hk; exact hk) | (rw [if_neg (by omega)] at hk; exact hk)
    · refine g_iload_n rfl dX8_table_12 ?_
      refine g_if_lt (t := 38) dX8_table_13 (by decide) (by first | omega | (simp [st2]; done) | (simp [st2]; omega)) (fun b13 => ?_) (fun b13 => ?_)
      · refine g_ldc2 (n := (-1)) (by rw [show Int64.ofInt (-1) = ((-1) : Int64) by decide]; exact kc_RX8_178) dX8_table_38 ?_
        refine g_lreturn rfl dX8_table_41 ?_
        first | (rw [if_pos (by omega)] at hk; exact hk) | (rw [if_neg (by omega)] at hk; exact hk)
      · refine g_iload_n rfl dX8_table_16 ?_
        refine g_aload_n rfl dX8_table_17 ?_
        refine gf_X8_94 rfl (by first | rfl | assumption) dX8_table_18 ?_
        refine g_icmp_ge (t := 38) dX8_table_21 (by decide) (by first | omega | (simp [st2]; done) | (simp [st2]; omega)) (by first | omega | (simp [st2]; done) | (simp [st2]; omega)) (fun b21 => ?_) (fun b21 => ?_)
        · refine g_ldc2 (n := (-1)) (by rw [show Int64.ofInt (-1) = ((-1) : Int64) by decide]; exact kc_RX8_178) dX8_table_38 ?_
          refine g_lreturn rfl dX8_table_41 ?_
          first | (rw [if_pos (by omega)] at hk; exact hk) | (rw [if_neg (by omega)] at hk; exact hk)
        · refine g_aload_n rfl dX8_table_24 ?_
          refine gf_X8_32 (c2 := 52) rfl rfl (by first | rfl | assumption) dX8_table_25 ?_
          refine g_bipush (by decide) dX8_table_28 ?_
          refine g_iload_n rfl dX8_table_30 ?_
          refine g_imul dX8_table_31 ?_
          refine g_iload_n rfl dX8_table_32 ?_
          refine g_iadd dX8_table_33 ?_
          refine g_lald (n := 64) (8 * i.toNat + j.toNat) (by first | rfl | assumption) (by first | rfl | assumption) (by omega) (by first | omega | (simp [st2]; done) | (simp [st2]; omega)) (by first | omega | (simp [st2]; done) | (simp [st2]; omega)) dX8_table_34 ?_
          refine g_goto (t := 41) dX8_table_35 (by decide) ?_
          refine g_lreturn rfl dX8_table_41 ?_
          first | (rw [if_pos (by omega)] at hk; exact hk) | (rw [if_neg (by omega)] at hk; exact hk)
def rdR (n : Nat) (k w : Int) (a b c : Nat → Int) : Int := if k < 0 ∨ (n : Int) ≤ k then -1 else if w = 0 then a k.toNat else if w = 1 then b k.toNat else if w = 2 then c k.toNat else -1
theorem ct_X8_round {l : Launch} {g : Geo} {X : Mm} {K : AV → Mm → Prop} {n : Nat} {k w : Int} (hq : -2147483648 ≤ k ∧ k < 2147483648) (hw : -2147483648 ≤ w ∧ w < 2147483648) (hn : X 44 25 = (n : Int)) (hn8 : n ≤ 2000) (hk : K (vI (rdR n k w (X 58) (X 59) (X 60))) X) : Ct l g mX8_round [vR 44, vI k, vI w] X K := by
  refine enter (by decide) (Nat.le_of_ble_eq_true rfl) (fun κ => ?_)
  unfold rdR at hk
  refine g_iload_n rfl dX8_round_0 ?_
  refine g_if_lt (t := 12) dX8_round_1 (by decide) (by first | omega | (simp [st2]; done) | (simp [st2]; omega)) (fun b1 => ?_) (fun b1 => ?_)
  · refine g_iconst dX8_round_12 ?_
    refine g_ireturn rfl dX8_round_13 ?_
    rw [if_pos (by omega)] at hk
    exact hk
  · refine g_iload_n rfl dX8_round_4 ?_
    refine g_aload_n rfl dX8_round_5 ?_
    refine gf_X8_193 rfl (by first | rfl | assumption) dX8_round_6 ?_
    refine g_icmp_lt (t := 14) dX8_round_9 (by decide) (by first | omega | (simp [st2]; done) | (simp [st2]; omega)) (by first | omega | (simp [st2]; done) | (simp [st2]; omega)) (fun b9 => ?_) (fun b9 => ?_)
    · refine g_iload_n rfl dX8_round_14 ?_
      refine g_if_ne (t := 27) dX8_round_15 (by decide) (by first | omega | (simp [st2]; done) | (simp [st2]; omega)) (fun b15 => ?_) (fun b15 => ?_)
      · refine g_iload_n rfl dX8_round_27 ?_
        refine g_iconst dX8_round_28 ?_
        refine g_icmp_ne (t := 41) dX8_round_29 (by decide) (by first | omega | (simp [st2]; done) | (simp [st2]; omega)) (by first | omega | (simp [st2]; done) | (simp [st2]; omega)) (fun b29 => ?_) (fun b29 => ?_)
        · refine g_iload_n rfl dX8_round_41 ?_
          refine g_iconst dX8_round_42 ?_
          refine g_icmp_ne (t := 55) dX8_round_43 (by decide) (by first | omega | (simp [st2]; done) | (simp [st2]; omega)) (by first | omega | (simp [st2]; done) | (simp [st2]; omega)) (fun b43 => ?_) (fun b43 => ?_)
          · refine g_iconst dX8_round_55 ?_
            refine g_ireturn rfl dX8_round_56 ?_
            rw [if_neg (by omega)] at hk
            first | (rw [if_pos (by omega)] at hk; exact hk) | (rw [if_neg (by omega), if_pos (by omega)] at hk; exact hk) | (rw [if_neg (by omega), if_neg (by omega), if_pos (by omega)] at hk; exact hk) | (rw [if_neg (by omega), if_neg (by omega), if_neg (by omega)] at hk; exact hk)
          · refine g_aload_n rfl dX8_round_46 ?_
            refine gf_X8_56 (c2 := 60) rfl rfl (by first | rfl | assumption) dX8_round_47 ?_
            refine g_iload_n rfl dX8_round_50 ?_
            refine g_iald (n := 2000) (k.toNat) (by first | rfl | assumption) (by first | rfl | assumption) (by omega) (by first | omega | (simp [st2]; done) | (simp [st2]; omega)) (by first | omega | (simp [st2]; done) | (simp [st2]; omega)) dX8_round_51 ?_
            refine g_goto (t := 56) dX8_round_52 (by decide) ?_
            refine g_ireturn rfl dX8_round_56 ?_
            rw [if_neg (by omega)] at hk
            first | (rw [if_pos (by omega)] at hk; exact hk) | (rw [if_neg (by omega), if_pos (by omega)] at hk; exact hk) | (rw [if_neg (by omega), if_neg (by omega), if_pos (by omega)] at hk; exact hk) | (rw [if_neg (by omega), if_neg (by omega), if_neg (by omega)] at hk; exact hk)
        · refine g_aload_n rfl dX8_round_32 ?_
          refine gf_X8_53 (c2 := 59) rfl rfl (by first | rfl | assumption) dX8_round_33 ?_
          refine g_iload_n rfl dX8_round_36 ?_
          refine g_iald (n := 2000) (k.toNat) (by first | rfl | assumption) (by first | rfl | assumption) (by omega) (by first | omega | (simp [st2]; done) | (simp [st2]; omega)) (by first | omega | (simp [st2]; done) | (simp [st2]; omega)) dX8_round_37 ?_
          refine g_goto (t := 56) dX8_round_38 (by decide) ?_
          refine g_ireturn rfl dX8_round_56 ?_
          rw [if_neg (by omega)] at hk
          first | (rw [if_pos (by omega)] at hk; exact hk) | (rw [if_neg (by omega), if_pos (by omega)] at hk; exact hk) | (rw [if_neg (by omega), if_neg (by omega), if_pos (by omega)] at hk; exact hk) | (rw [if_neg (by omega), if_neg (by omega), if_neg (by omega)] at hk; exact hk)
      · refine g_aload_n rfl dX8_round_18 ?_
        refine gf_X8_50 (c2 := 58) rfl rfl (by first | rfl | assumption) dX8_round_19 ?_
        refine g_iload_n rfl dX8_round_22 ?_
        refine g_iald (n := 2000) (k.toNat) (by first | rfl | assumption) (by first | rfl | assumption) (by omega) (by first | omega | (simp [st2]; done) | (simp [st2]; omega)) (by first | omega | (simp [st2]; done) | (simp [st2]; omega)) dX8_round_23 ?_
        refine g_goto (t := 56) dX8_round_24 (by decide) ?_
        refine g_ireturn rfl dX8_round_56 ?_
        rw [if_neg (by omega)] at hk
        first | (rw [if_pos (by omega)] at hk; exact hk) | (rw [if_neg (by omega), if_pos (by omega)] at hk; exact hk) | (rw [if_neg (by omega), if_neg (by omega), if_pos (by omega)] at hk; exact hk) | (rw [if_neg (by omega), if_neg (by omega), if_neg (by omega)] at hk; exact hk)
    · refine g_iconst dX8_round_12 ?_
      refine g_ireturn rfl dX8_round_13 ?_
      rw [if_pos (by omega)] at hk
      exact hk
